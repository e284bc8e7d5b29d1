section
-- ===== PART A: goes FIRST, ahead of the names: the tables' words, and 'selects' of the private methods out of them =====
/-- a private method of a class that the tables say can be made, by its rows of tables_1 -/
def lw_okq (q : MethodName × Nat) : Prop := (q.1.cls ≠ "java/lang/invoke/MethodHandle" ∧ q.1.cls ≠ "java/lang/invoke/VarHandle") ∧ Cond.instantiable q.1.cls q.2 ∈ tables_1 ∧ Cond.privateMethod q.1 ∈ tables_1 ∧ Cond.instanceMethod q.1 ∈ tables_1
theorem lw_p0 : lw_okq (⟨"MirrorHouse", "sheetAt", "(I)LMirrorHouse$Sheet;"⟩, 13) := ⟨⟨by decide +kernel, by decide +kernel⟩, List.mem_of_getElem? (i := 13) (by decide +kernel), List.mem_of_getElem? (i := 157) (by decide +kernel), List.mem_of_getElem? (i := 158) (by decide +kernel)⟩
theorem lw_p1 : lw_okq (⟨"MirrorHouse", "faulted", "(I)I"⟩, 13) := ⟨⟨by decide +kernel, by decide +kernel⟩, List.mem_of_getElem? (i := 13) (by decide +kernel), List.mem_of_getElem? (i := 183) (by decide +kernel), List.mem_of_getElem? (i := 184) (by decide +kernel)⟩
theorem lw_p2 : lw_okq (⟨"MirrorHouse$House", "placeSides", "(II)V"⟩, 18) := ⟨⟨by decide +kernel, by decide +kernel⟩, List.mem_of_getElem? (i := 204) (by decide +kernel), List.mem_of_getElem? (i := 211) (by decide +kernel), List.mem_of_getElem? (i := 212) (by decide +kernel)⟩
theorem lw_p3 : lw_okq (⟨"MirrorHouse$House", "place", "(IIII)V"⟩, 18) := ⟨⟨by decide +kernel, by decide +kernel⟩, List.mem_of_getElem? (i := 204) (by decide +kernel), List.mem_of_getElem? (i := 215) (by decide +kernel), List.mem_of_getElem? (i := 216) (by decide +kernel)⟩
theorem lw_p4 : lw_okq (⟨"MirrorHouse$House", "second", "(II)I"⟩, 18) := ⟨⟨by decide +kernel, by decide +kernel⟩, List.mem_of_getElem? (i := 204) (by decide +kernel), List.mem_of_getElem? (i := 219) (by decide +kernel), List.mem_of_getElem? (i := 220) (by decide +kernel)⟩
theorem lw_p5 : lw_okq (⟨"MirrorHouse", "houseAt", "(I)LMirrorHouse$House;"⟩, 13) := ⟨⟨by decide +kernel, by decide +kernel⟩, List.mem_of_getElem? (i := 13) (by decide +kernel), List.mem_of_getElem? (i := 302) (by decide +kernel), List.mem_of_getElem? (i := 303) (by decide +kernel)⟩
theorem lw_p6 : lw_okq (⟨"MirrorHouse$Sight", "setOut", "(III)V"⟩, 11) := ⟨⟨by decide +kernel, by decide +kernel⟩, List.mem_of_getElem? (i := 29) (by decide +kernel), List.mem_of_getElem? (i := 357) (by decide +kernel), List.mem_of_getElem? (i := 358) (by decide +kernel)⟩
theorem lw_p7 : lw_okq (⟨"MirrorHouse$Sight", "aim", "(III)V"⟩, 11) := ⟨⟨by decide +kernel, by decide +kernel⟩, List.mem_of_getElem? (i := 29) (by decide +kernel), List.mem_of_getElem? (i := 364) (by decide +kernel), List.mem_of_getElem? (i := 365) (by decide +kernel)⟩
theorem lw_p8 : lw_okq (⟨"MirrorHouse$Sight", "goOn", "(LMirrorHouse$House;)V"⟩, 11) := ⟨⟨by decide +kernel, by decide +kernel⟩, List.mem_of_getElem? (i := 29) (by decide +kernel), List.mem_of_getElem? (i := 371) (by decide +kernel), List.mem_of_getElem? (i := 372) (by decide +kernel)⟩
theorem lw_p9 : lw_okq (⟨"MirrorHouse$Sight", "nextWay", "()I"⟩, 11) := ⟨⟨by decide +kernel, by decide +kernel⟩, List.mem_of_getElem? (i := 29) (by decide +kernel), List.mem_of_getElem? (i := 375) (by decide +kernel), List.mem_of_getElem? (i := 376) (by decide +kernel)⟩
theorem lw_p10 : lw_okq (⟨"MirrorHouse$Sight", "foldOver", "(I)V"⟩, 11) := ⟨⟨by decide +kernel, by decide +kernel⟩, List.mem_of_getElem? (i := 29) (by decide +kernel), List.mem_of_getElem? (i := 380) (by decide +kernel), List.mem_of_getElem? (i := 381) (by decide +kernel)⟩
theorem lw_p11 : lw_okq (⟨"MirrorHouse$Sight", "crossesMore", "()Z"⟩, 11) := ⟨⟨by decide +kernel, by decide +kernel⟩, List.mem_of_getElem? (i := 29) (by decide +kernel), List.mem_of_getElem? (i := 404) (by decide +kernel), List.mem_of_getElem? (i := 405) (by decide +kernel)⟩
theorem lw_p12 : lw_okq (⟨"MirrorHouse", "fits", "(LMirrorHouse$House;LMirrorHouse$Report;)I"⟩, 13) := ⟨⟨by decide +kernel, by decide +kernel⟩, List.mem_of_getElem? (i := 13) (by decide +kernel), List.mem_of_getElem? (i := 455) (by decide +kernel), List.mem_of_getElem? (i := 456) (by decide +kernel)⟩
theorem lw_p13 : lw_okq (⟨"MirrorHouse", "showsPhotoFrom", "(LMirrorHouse$House;I)Z"⟩, 13) := ⟨⟨by decide +kernel, by decide +kernel⟩, List.mem_of_getElem? (i := 13) (by decide +kernel), List.mem_of_getElem? (i := 470) (by decide +kernel), List.mem_of_getElem? (i := 471) (by decide +kernel)⟩
theorem lw_p14 : lw_okq (⟨"MirrorHouse", "insideOf", "(I)I"⟩, 13) := ⟨⟨by decide +kernel, by decide +kernel⟩, List.mem_of_getElem? (i := 13) (by decide +kernel), List.mem_of_getElem? (i := 519) (by decide +kernel), List.mem_of_getElem? (i := 520) (by decide +kernel)⟩
theorem lw_p15 : lw_okq (⟨"MirrorHouse", "tickAll", "(LMirrorHouse$House;I)V"⟩, 13) := ⟨⟨by decide +kernel, by decide +kernel⟩, List.mem_of_getElem? (i := 13) (by decide +kernel), List.mem_of_getElem? (i := 527) (by decide +kernel), List.mem_of_getElem? (i := 528) (by decide +kernel)⟩
def lw_privs_1 : List (MethodName × Nat) := [(⟨"MirrorHouse", "sheetAt", "(I)LMirrorHouse$Sheet;"⟩, 13), (⟨"MirrorHouse", "faulted", "(I)I"⟩, 13), (⟨"MirrorHouse$House", "placeSides", "(II)V"⟩, 18), (⟨"MirrorHouse$House", "place", "(IIII)V"⟩, 18), (⟨"MirrorHouse$House", "second", "(II)I"⟩, 18), (⟨"MirrorHouse", "houseAt", "(I)LMirrorHouse$House;"⟩, 13), (⟨"MirrorHouse$Sight", "setOut", "(III)V"⟩, 11), (⟨"MirrorHouse$Sight", "aim", "(III)V"⟩, 11), (⟨"MirrorHouse$Sight", "goOn", "(LMirrorHouse$House;)V"⟩, 11), (⟨"MirrorHouse$Sight", "nextWay", "()I"⟩, 11), (⟨"MirrorHouse$Sight", "foldOver", "(I)V"⟩, 11), (⟨"MirrorHouse$Sight", "crossesMore", "()Z"⟩, 11), (⟨"MirrorHouse", "fits", "(LMirrorHouse$House;LMirrorHouse$Report;)I"⟩, 13), (⟨"MirrorHouse", "showsPhotoFrom", "(LMirrorHouse$House;I)Z"⟩, 13), (⟨"MirrorHouse", "insideOf", "(I)I"⟩, 13), (⟨"MirrorHouse", "tickAll", "(LMirrorHouse$House;I)V"⟩, 13)]
theorem lw_r1 : ∀ q ∈ lw_privs_1, lw_okq q := List.forall_mem_cons.mpr ⟨lw_p0, List.forall_mem_cons.mpr ⟨lw_p1, List.forall_mem_cons.mpr ⟨lw_p2, List.forall_mem_cons.mpr ⟨lw_p3, List.forall_mem_cons.mpr ⟨lw_p4, List.forall_mem_cons.mpr ⟨lw_p5, List.forall_mem_cons.mpr ⟨lw_p6, List.forall_mem_cons.mpr ⟨lw_p7, List.forall_mem_cons.mpr ⟨lw_p8, List.forall_mem_cons.mpr ⟨lw_p9, List.forall_mem_cons.mpr ⟨lw_p10, List.forall_mem_cons.mpr ⟨lw_p11, List.forall_mem_cons.mpr ⟨lw_p12, List.forall_mem_cons.mpr ⟨lw_p13, List.forall_mem_cons.mpr ⟨lw_p14, List.forall_mem_cons.mpr ⟨lw_p15, fun _ h => absurd h List.not_mem_nil⟩⟩⟩⟩⟩⟩⟩⟩⟩⟩⟩⟩⟩⟩⟩⟩
theorem lw_p16 : lw_okq (⟨"MirrorHouse$Walker", "firstClear", "(LMirrorHouse$House;)I"⟩, 8) := ⟨⟨by decide +kernel, by decide +kernel⟩, List.mem_of_getElem? (i := 477) (by decide +kernel), List.mem_of_getElem? (i := 542) (by decide +kernel), List.mem_of_getElem? (i := 543) (by decide +kernel)⟩
theorem lw_p17 : lw_okq (⟨"MirrorHouse", "walkerAt", "(I)LMirrorHouse$Walker;"⟩, 13) := ⟨⟨by decide +kernel, by decide +kernel⟩, List.mem_of_getElem? (i := 13) (by decide +kernel), List.mem_of_getElem? (i := 556) (by decide +kernel), List.mem_of_getElem? (i := 557) (by decide +kernel)⟩
theorem lw_p18 : lw_okq (⟨"MirrorHouse$House", "openBy", "([I)V"⟩, 18) := ⟨⟨by decide +kernel, by decide +kernel⟩, List.mem_of_getElem? (i := 204) (by decide +kernel), List.mem_of_getElem? (i := 568) (by decide +kernel), List.mem_of_getElem? (i := 569) (by decide +kernel)⟩
theorem lw_p19 : lw_okq (⟨"MirrorHouse$House", "openAlso", "(I)V"⟩, 18) := ⟨⟨by decide +kernel, by decide +kernel⟩, List.mem_of_getElem? (i := 204) (by decide +kernel), List.mem_of_getElem? (i := 575) (by decide +kernel), List.mem_of_getElem? (i := 576) (by decide +kernel)⟩
theorem lw_p20 : lw_okq (⟨"MirrorHouse$House", "roomsWithin", "(I)I"⟩, 18) := ⟨⟨by decide +kernel, by decide +kernel⟩, List.mem_of_getElem? (i := 204) (by decide +kernel), List.mem_of_getElem? (i := 579) (by decide +kernel), List.mem_of_getElem? (i := 580) (by decide +kernel)⟩
theorem lw_p21 : lw_okq (⟨"MirrorHouse$House", "widened", "(I)I"⟩, 18) := ⟨⟨by decide +kernel, by decide +kernel⟩, List.mem_of_getElem? (i := 204) (by decide +kernel), List.mem_of_getElem? (i := 583) (by decide +kernel), List.mem_of_getElem? (i := 584) (by decide +kernel)⟩
theorem lw_p22 : lw_okq (⟨"MirrorHouse$House", "isNearWith", "(III)Z"⟩, 18) := ⟨⟨by decide +kernel, by decide +kernel⟩, List.mem_of_getElem? (i := 204) (by decide +kernel), List.mem_of_getElem? (i := 608) (by decide +kernel), List.mem_of_getElem? (i := 609) (by decide +kernel)⟩
theorem lw_p23 : lw_okq (⟨"MirrorHouse$House", "findTwo", "(I)Z"⟩, 18) := ⟨⟨by decide +kernel, by decide +kernel⟩, List.mem_of_getElem? (i := 204) (by decide +kernel), List.mem_of_getElem? (i := 612) (by decide +kernel), List.mem_of_getElem? (i := 613) (by decide +kernel)⟩
theorem lw_p24 : lw_okq (⟨"MirrorHouse$House", "isTrialFair", "()Z"⟩, 18) := ⟨⟨by decide +kernel, by decide +kernel⟩, List.mem_of_getElem? (i := 204) (by decide +kernel), List.mem_of_getElem? (i := 630) (by decide +kernel), List.mem_of_getElem? (i := 631) (by decide +kernel)⟩
theorem lw_p25 : lw_okq (⟨"MirrorHouse$House", "ticksOfBlind", "(II)I"⟩, 18) := ⟨⟨by decide +kernel, by decide +kernel⟩, List.mem_of_getElem? (i := 204) (by decide +kernel), List.mem_of_getElem? (i := 634) (by decide +kernel), List.mem_of_getElem? (i := 635) (by decide +kernel)⟩
theorem lw_p26 : lw_okq (⟨"MirrorHouse$Change", "rowsBehind", "(I)I"⟩, 3) := ⟨⟨by decide +kernel, by decide +kernel⟩, List.mem_of_getElem? (i := 78) (by decide +kernel), List.mem_of_getElem? (i := 653) (by decide +kernel), List.mem_of_getElem? (i := 654) (by decide +kernel)⟩
theorem lw_p27 : lw_okq (⟨"MirrorHouse$Change", "firstThatGoesOn", "(I)I"⟩, 3) := ⟨⟨by decide +kernel, by decide +kernel⟩, List.mem_of_getElem? (i := 78) (by decide +kernel), List.mem_of_getElem? (i := 669) (by decide +kernel), List.mem_of_getElem? (i := 670) (by decide +kernel)⟩
theorem lw_p28 : lw_okq (⟨"MirrorHouse", "lostBy", "(I)J"⟩, 13) := ⟨⟨by decide +kernel, by decide +kernel⟩, List.mem_of_getElem? (i := 13) (by decide +kernel), List.mem_of_getElem? (i := 700) (by decide +kernel), List.mem_of_getElem? (i := 701) (by decide +kernel)⟩
theorem lw_p29 : lw_okq (⟨"MirrorHouse", "waryTells", "(LMirrorHouse$Walker;)I"⟩, 13) := ⟨⟨by decide +kernel, by decide +kernel⟩, List.mem_of_getElem? (i := 13) (by decide +kernel), List.mem_of_getElem? (i := 713) (by decide +kernel), List.mem_of_getElem? (i := 714) (by decide +kernel)⟩
theorem lw_p30 : lw_okq (⟨"MirrorHouse", "leave", "(I)V"⟩, 13) := ⟨⟨by decide +kernel, by decide +kernel⟩, List.mem_of_getElem? (i := 13) (by decide +kernel), List.mem_of_getElem? (i := 717) (by decide +kernel), List.mem_of_getElem? (i := 718) (by decide +kernel)⟩
theorem lw_p31 : lw_okq (⟨"MirrorHouse", "seerTells", "(LMirrorHouse$Walker;)I"⟩, 13) := ⟨⟨by decide +kernel, by decide +kernel⟩, List.mem_of_getElem? (i := 13) (by decide +kernel), List.mem_of_getElem? (i := 721) (by decide +kernel), List.mem_of_getElem? (i := 722) (by decide +kernel)⟩
def lw_privs_2 : List (MethodName × Nat) := [(⟨"MirrorHouse$Walker", "firstClear", "(LMirrorHouse$House;)I"⟩, 8), (⟨"MirrorHouse", "walkerAt", "(I)LMirrorHouse$Walker;"⟩, 13), (⟨"MirrorHouse$House", "openBy", "([I)V"⟩, 18), (⟨"MirrorHouse$House", "openAlso", "(I)V"⟩, 18), (⟨"MirrorHouse$House", "roomsWithin", "(I)I"⟩, 18), (⟨"MirrorHouse$House", "widened", "(I)I"⟩, 18), (⟨"MirrorHouse$House", "isNearWith", "(III)Z"⟩, 18), (⟨"MirrorHouse$House", "findTwo", "(I)Z"⟩, 18), (⟨"MirrorHouse$House", "isTrialFair", "()Z"⟩, 18), (⟨"MirrorHouse$House", "ticksOfBlind", "(II)I"⟩, 18), (⟨"MirrorHouse$Change", "rowsBehind", "(I)I"⟩, 3), (⟨"MirrorHouse$Change", "firstThatGoesOn", "(I)I"⟩, 3), (⟨"MirrorHouse", "lostBy", "(I)J"⟩, 13), (⟨"MirrorHouse", "waryTells", "(LMirrorHouse$Walker;)I"⟩, 13), (⟨"MirrorHouse", "leave", "(I)V"⟩, 13), (⟨"MirrorHouse", "seerTells", "(LMirrorHouse$Walker;)I"⟩, 13)]
theorem lw_r2 : ∀ q ∈ lw_privs_2, lw_okq q := List.forall_mem_cons.mpr ⟨lw_p16, List.forall_mem_cons.mpr ⟨lw_p17, List.forall_mem_cons.mpr ⟨lw_p18, List.forall_mem_cons.mpr ⟨lw_p19, List.forall_mem_cons.mpr ⟨lw_p20, List.forall_mem_cons.mpr ⟨lw_p21, List.forall_mem_cons.mpr ⟨lw_p22, List.forall_mem_cons.mpr ⟨lw_p23, List.forall_mem_cons.mpr ⟨lw_p24, List.forall_mem_cons.mpr ⟨lw_p25, List.forall_mem_cons.mpr ⟨lw_p26, List.forall_mem_cons.mpr ⟨lw_p27, List.forall_mem_cons.mpr ⟨lw_p28, List.forall_mem_cons.mpr ⟨lw_p29, List.forall_mem_cons.mpr ⟨lw_p30, List.forall_mem_cons.mpr ⟨lw_p31, fun _ h => absurd h List.not_mem_nil⟩⟩⟩⟩⟩⟩⟩⟩⟩⟩⟩⟩⟩⟩⟩⟩
theorem lw_p32 : lw_okq (⟨"MirrorHouse", "blindTells", "(LMirrorHouse$Walker;)I"⟩, 13) := ⟨⟨by decide +kernel, by decide +kernel⟩, List.mem_of_getElem? (i := 13) (by decide +kernel), List.mem_of_getElem? (i := 725) (by decide +kernel), List.mem_of_getElem? (i := 726) (by decide +kernel)⟩
theorem lw_p33 : lw_okq (⟨"MirrorHouse", "outs", "()I"⟩, 13) := ⟨⟨by decide +kernel, by decide +kernel⟩, List.mem_of_getElem? (i := 13) (by decide +kernel), List.mem_of_getElem? (i := 749) (by decide +kernel), List.mem_of_getElem? (i := 750) (by decide +kernel)⟩
theorem lw_p34 : lw_okq (⟨"MirrorHouseModel", "against", "(IIII)I"⟩, 46) := ⟨⟨by decide +kernel, by decide +kernel⟩, List.mem_of_getElem? (i := 753) (by decide +kernel), List.mem_of_getElem? (i := 913) (by decide +kernel), List.mem_of_getElem? (i := 914) (by decide +kernel)⟩
theorem lw_p35 : lw_okq (⟨"MirrorHouseModel", "fails", "(I)I"⟩, 46) := ⟨⟨by decide +kernel, by decide +kernel⟩, List.mem_of_getElem? (i := 753) (by decide +kernel), List.mem_of_getElem? (i := 917) (by decide +kernel), List.mem_of_getElem? (i := 918) (by decide +kernel)⟩
theorem lw_p36 : lw_okq (⟨"MirrorHouseModel", "readHouse", "(II)I"⟩, 46) := ⟨⟨by decide +kernel, by decide +kernel⟩, List.mem_of_getElem? (i := 753) (by decide +kernel), List.mem_of_getElem? (i := 921) (by decide +kernel), List.mem_of_getElem? (i := 922) (by decide +kernel)⟩
theorem lw_p37 : lw_okq (⟨"MirrorHouseModel", "digitAt", "(II)I"⟩, 46) := ⟨⟨by decide +kernel, by decide +kernel⟩, List.mem_of_getElem? (i := 753) (by decide +kernel), List.mem_of_getElem? (i := 925) (by decide +kernel), List.mem_of_getElem? (i := 926) (by decide +kernel)⟩
theorem lw_p38 : lw_okq (⟨"MirrorHouseModel", "isHouse", "(I)Z"⟩, 46) := ⟨⟨by decide +kernel, by decide +kernel⟩, List.mem_of_getElem? (i := 753) (by decide +kernel), List.mem_of_getElem? (i := 933) (by decide +kernel), List.mem_of_getElem? (i := 934) (by decide +kernel)⟩
theorem lw_p39 : lw_okq (⟨"MirrorHouseModel", "rooms", "(I)I"⟩, 46) := ⟨⟨by decide +kernel, by decide +kernel⟩, List.mem_of_getElem? (i := 753) (by decide +kernel), List.mem_of_getElem? (i := 937) (by decide +kernel), List.mem_of_getElem? (i := 938) (by decide +kernel)⟩
theorem lw_p40 : lw_okq (⟨"MirrorHouseModel", "sides", "(I)I"⟩, 46) := ⟨⟨by decide +kernel, by decide +kernel⟩, List.mem_of_getElem? (i := 753) (by decide +kernel), List.mem_of_getElem? (i := 941) (by decide +kernel), List.mem_of_getElem? (i := 942) (by decide +kernel)⟩
theorem lw_p41 : lw_okq (⟨"MirrorHouseModel", "countOf", "(II)I"⟩, 46) := ⟨⟨by decide +kernel, by decide +kernel⟩, List.mem_of_getElem? (i := 753) (by decide +kernel), List.mem_of_getElem? (i := 945) (by decide +kernel), List.mem_of_getElem? (i := 946) (by decide +kernel)⟩
theorem lw_p42 : lw_okq (⟨"MirrorHouseModel", "isSide", "(II)Z"⟩, 46) := ⟨⟨by decide +kernel, by decide +kernel⟩, List.mem_of_getElem? (i := 753) (by decide +kernel), List.mem_of_getElem? (i := 953) (by decide +kernel), List.mem_of_getElem? (i := 954) (by decide +kernel)⟩
theorem lw_p43 : lw_okq (⟨"MirrorHouseModel", "sideOf", "(III)I"⟩, 46) := ⟨⟨by decide +kernel, by decide +kernel⟩, List.mem_of_getElem? (i := 753) (by decide +kernel), List.mem_of_getElem? (i := 957) (by decide +kernel), List.mem_of_getElem? (i := 958) (by decide +kernel)⟩
theorem lw_p44 : lw_okq (⟨"MirrorHouseModel", "isRoom", "(II)Z"⟩, 46) := ⟨⟨by decide +kernel, by decide +kernel⟩, List.mem_of_getElem? (i := 753) (by decide +kernel), List.mem_of_getElem? (i := 965) (by decide +kernel), List.mem_of_getElem? (i := 966) (by decide +kernel)⟩
theorem lw_p45 : lw_okq (⟨"MirrorHouseModel", "look", "(IIIII)V"⟩, 46) := ⟨⟨by decide +kernel, by decide +kernel⟩, List.mem_of_getElem? (i := 753) (by decide +kernel), List.mem_of_getElem? (i := 980) (by decide +kernel), List.mem_of_getElem? (i := 981) (by decide +kernel)⟩
theorem lw_p46 : lw_okq (⟨"MirrorHouseModel", "setOut", "(III)V"⟩, 46) := ⟨⟨by decide +kernel, by decide +kernel⟩, List.mem_of_getElem? (i := 753) (by decide +kernel), List.mem_of_getElem? (i := 984) (by decide +kernel), List.mem_of_getElem? (i := 985) (by decide +kernel)⟩
theorem lw_p47 : lw_okq (⟨"MirrorHouseModel", "cross", "(I)V"⟩, 46) := ⟨⟨by decide +kernel, by decide +kernel⟩, List.mem_of_getElem? (i := 753) (by decide +kernel), List.mem_of_getElem? (i := 988) (by decide +kernel), List.mem_of_getElem? (i := 989) (by decide +kernel)⟩
def lw_privs_3 : List (MethodName × Nat) := [(⟨"MirrorHouse", "blindTells", "(LMirrorHouse$Walker;)I"⟩, 13), (⟨"MirrorHouse", "outs", "()I"⟩, 13), (⟨"MirrorHouseModel", "against", "(IIII)I"⟩, 46), (⟨"MirrorHouseModel", "fails", "(I)I"⟩, 46), (⟨"MirrorHouseModel", "readHouse", "(II)I"⟩, 46), (⟨"MirrorHouseModel", "digitAt", "(II)I"⟩, 46), (⟨"MirrorHouseModel", "isHouse", "(I)Z"⟩, 46), (⟨"MirrorHouseModel", "rooms", "(I)I"⟩, 46), (⟨"MirrorHouseModel", "sides", "(I)I"⟩, 46), (⟨"MirrorHouseModel", "countOf", "(II)I"⟩, 46), (⟨"MirrorHouseModel", "isSide", "(II)Z"⟩, 46), (⟨"MirrorHouseModel", "sideOf", "(III)I"⟩, 46), (⟨"MirrorHouseModel", "isRoom", "(II)Z"⟩, 46), (⟨"MirrorHouseModel", "look", "(IIIII)V"⟩, 46), (⟨"MirrorHouseModel", "setOut", "(III)V"⟩, 46), (⟨"MirrorHouseModel", "cross", "(I)V"⟩, 46)]
theorem lw_r3 : ∀ q ∈ lw_privs_3, lw_okq q := List.forall_mem_cons.mpr ⟨lw_p32, List.forall_mem_cons.mpr ⟨lw_p33, List.forall_mem_cons.mpr ⟨lw_p34, List.forall_mem_cons.mpr ⟨lw_p35, List.forall_mem_cons.mpr ⟨lw_p36, List.forall_mem_cons.mpr ⟨lw_p37, List.forall_mem_cons.mpr ⟨lw_p38, List.forall_mem_cons.mpr ⟨lw_p39, List.forall_mem_cons.mpr ⟨lw_p40, List.forall_mem_cons.mpr ⟨lw_p41, List.forall_mem_cons.mpr ⟨lw_p42, List.forall_mem_cons.mpr ⟨lw_p43, List.forall_mem_cons.mpr ⟨lw_p44, List.forall_mem_cons.mpr ⟨lw_p45, List.forall_mem_cons.mpr ⟨lw_p46, List.forall_mem_cons.mpr ⟨lw_p47, fun _ h => absurd h List.not_mem_nil⟩⟩⟩⟩⟩⟩⟩⟩⟩⟩⟩⟩⟩⟩⟩⟩
theorem lw_p48 : lw_okq (⟨"MirrorHouseModel", "nextWay", "()I"⟩, 46) := ⟨⟨by decide +kernel, by decide +kernel⟩, List.mem_of_getElem? (i := 753) (by decide +kernel), List.mem_of_getElem? (i := 992) (by decide +kernel), List.mem_of_getElem? (i := 993) (by decide +kernel)⟩
theorem lw_p49 : lw_okq (⟨"MirrorHouseModel", "behind", "(III)I"⟩, 46) := ⟨⟨by decide +kernel, by decide +kernel⟩, List.mem_of_getElem? (i := 753) (by decide +kernel), List.mem_of_getElem? (i := 996) (by decide +kernel), List.mem_of_getElem? (i := 997) (by decide +kernel)⟩
theorem lw_p50 : lw_okq (⟨"MirrorHouseModel", "imageOf", "(IIII)I"⟩, 46) := ⟨⟨by decide +kernel, by decide +kernel⟩, List.mem_of_getElem? (i := 753) (by decide +kernel), List.mem_of_getElem? (i := 1008) (by decide +kernel), List.mem_of_getElem? (i := 1009) (by decide +kernel)⟩
theorem lw_p51 : lw_okq (⟨"MirrorHouseModel", "isAhead", "()Z"⟩, 46) := ⟨⟨by decide +kernel, by decide +kernel⟩, List.mem_of_getElem? (i := 753) (by decide +kernel), List.mem_of_getElem? (i := 1015) (by decide +kernel), List.mem_of_getElem? (i := 1016) (by decide +kernel)⟩
theorem lw_p52 : lw_okq (⟨"MirrorHouseModel", "walk", "(I)V"⟩, 46) := ⟨⟨by decide +kernel, by decide +kernel⟩, List.mem_of_getElem? (i := 753) (by decide +kernel), List.mem_of_getElem? (i := 1047) (by decide +kernel), List.mem_of_getElem? (i := 1048) (by decide +kernel)⟩
theorem lw_p53 : lw_okq (⟨"MirrorHouseModel", "choice", "(I)I"⟩, 46) := ⟨⟨by decide +kernel, by decide +kernel⟩, List.mem_of_getElem? (i := 753) (by decide +kernel), List.mem_of_getElem? (i := 1051) (by decide +kernel), List.mem_of_getElem? (i := 1052) (by decide +kernel)⟩
theorem lw_p54 : lw_okq (⟨"MirrorHouseModel", "takes", "(II)Z"⟩, 46) := ⟨⟨by decide +kernel, by decide +kernel⟩, List.mem_of_getElem? (i := 753) (by decide +kernel), List.mem_of_getElem? (i := 1058) (by decide +kernel), List.mem_of_getElem? (i := 1059) (by decide +kernel)⟩
theorem lw_p55 : lw_okq (⟨"MirrorHouseModel", "isWalker", "(I)Z"⟩, 46) := ⟨⟨by decide +kernel, by decide +kernel⟩, List.mem_of_getElem? (i := 753) (by decide +kernel), List.mem_of_getElem? (i := 1066) (by decide +kernel), List.mem_of_getElem? (i := 1067) (by decide +kernel)⟩
theorem lw_p56 : lw_okq (⟨"MirrorHouseModel", "shutOf", "(I)I"⟩, 46) := ⟨⟨by decide +kernel, by decide +kernel⟩, List.mem_of_getElem? (i := 753) (by decide +kernel), List.mem_of_getElem? (i := 1074) (by decide +kernel), List.mem_of_getElem? (i := 1075) (by decide +kernel)⟩
theorem lw_p57 : lw_okq (⟨"MirrorHouseModel", "layFars", "(I)V"⟩, 46) := ⟨⟨by decide +kernel, by decide +kernel⟩, List.mem_of_getElem? (i := 753) (by decide +kernel), List.mem_of_getElem? (i := 1078) (by decide +kernel), List.mem_of_getElem? (i := 1079) (by decide +kernel)⟩
theorem lw_p58 : lw_okq (⟨"MirrorHouseModel", "findOpened", "(II)I"⟩, 46) := ⟨⟨by decide +kernel, by decide +kernel⟩, List.mem_of_getElem? (i := 753) (by decide +kernel), List.mem_of_getElem? (i := 1090) (by decide +kernel), List.mem_of_getElem? (i := 1091) (by decide +kernel)⟩
theorem lw_p59 : lw_okq (⟨"MirrorHouseModel", "areNear", "(II)Z"⟩, 46) := ⟨⟨by decide +kernel, by decide +kernel⟩, List.mem_of_getElem? (i := 753) (by decide +kernel), List.mem_of_getElem? (i := 1094) (by decide +kernel), List.mem_of_getElem? (i := 1095) (by decide +kernel)⟩
theorem lw_p60 : lw_okq (⟨"MirrorHouseModel", "blindTicks", "(III)I"⟩, 46) := ⟨⟨by decide +kernel, by decide +kernel⟩, List.mem_of_getElem? (i := 753) (by decide +kernel), List.mem_of_getElem? (i := 1105) (by decide +kernel), List.mem_of_getElem? (i := 1106) (by decide +kernel)⟩
theorem lw_p61 : lw_okq (⟨"MirrorHouseModel", "whyNot", "(II)I"⟩, 46) := ⟨⟨by decide +kernel, by decide +kernel⟩, List.mem_of_getElem? (i := 753) (by decide +kernel), List.mem_of_getElem? (i := 1113) (by decide +kernel), List.mem_of_getElem? (i := 1114) (by decide +kernel)⟩
theorem lw_p62 : lw_okq (⟨"MirrorHouseModel", "layRows", "(II)V"⟩, 46) := ⟨⟨by decide +kernel, by decide +kernel⟩, List.mem_of_getElem? (i := 753) (by decide +kernel), List.mem_of_getElem? (i := 1118) (by decide +kernel), List.mem_of_getElem? (i := 1119) (by decide +kernel)⟩
theorem lw_p63 : lw_okq (⟨"MirrorHouseModel", "lost", "(I)J"⟩, 46) := ⟨⟨by decide +kernel, by decide +kernel⟩, List.mem_of_getElem? (i := 753) (by decide +kernel), List.mem_of_getElem? (i := 1142) (by decide +kernel), List.mem_of_getElem? (i := 1143) (by decide +kernel)⟩
def lw_privs_4 : List (MethodName × Nat) := [(⟨"MirrorHouseModel", "nextWay", "()I"⟩, 46), (⟨"MirrorHouseModel", "behind", "(III)I"⟩, 46), (⟨"MirrorHouseModel", "imageOf", "(IIII)I"⟩, 46), (⟨"MirrorHouseModel", "isAhead", "()Z"⟩, 46), (⟨"MirrorHouseModel", "walk", "(I)V"⟩, 46), (⟨"MirrorHouseModel", "choice", "(I)I"⟩, 46), (⟨"MirrorHouseModel", "takes", "(II)Z"⟩, 46), (⟨"MirrorHouseModel", "isWalker", "(I)Z"⟩, 46), (⟨"MirrorHouseModel", "shutOf", "(I)I"⟩, 46), (⟨"MirrorHouseModel", "layFars", "(I)V"⟩, 46), (⟨"MirrorHouseModel", "findOpened", "(II)I"⟩, 46), (⟨"MirrorHouseModel", "areNear", "(II)Z"⟩, 46), (⟨"MirrorHouseModel", "blindTicks", "(III)I"⟩, 46), (⟨"MirrorHouseModel", "whyNot", "(II)I"⟩, 46), (⟨"MirrorHouseModel", "layRows", "(II)V"⟩, 46), (⟨"MirrorHouseModel", "lost", "(I)J"⟩, 46)]
theorem lw_r4 : ∀ q ∈ lw_privs_4, lw_okq q := List.forall_mem_cons.mpr ⟨lw_p48, List.forall_mem_cons.mpr ⟨lw_p49, List.forall_mem_cons.mpr ⟨lw_p50, List.forall_mem_cons.mpr ⟨lw_p51, List.forall_mem_cons.mpr ⟨lw_p52, List.forall_mem_cons.mpr ⟨lw_p53, List.forall_mem_cons.mpr ⟨lw_p54, List.forall_mem_cons.mpr ⟨lw_p55, List.forall_mem_cons.mpr ⟨lw_p56, List.forall_mem_cons.mpr ⟨lw_p57, List.forall_mem_cons.mpr ⟨lw_p58, List.forall_mem_cons.mpr ⟨lw_p59, List.forall_mem_cons.mpr ⟨lw_p60, List.forall_mem_cons.mpr ⟨lw_p61, List.forall_mem_cons.mpr ⟨lw_p62, List.forall_mem_cons.mpr ⟨lw_p63, fun _ h => absurd h List.not_mem_nil⟩⟩⟩⟩⟩⟩⟩⟩⟩⟩⟩⟩⟩⟩⟩⟩
theorem lw_p64 : lw_okq (⟨"MirrorHouseModel", "begins", "(I)V"⟩, 46) := ⟨⟨by decide +kernel, by decide +kernel⟩, List.mem_of_getElem? (i := 753) (by decide +kernel), List.mem_of_getElem? (i := 1154) (by decide +kernel), List.mem_of_getElem? (i := 1155) (by decide +kernel)⟩
def lw_privs_5 : List (MethodName × Nat) := [(⟨"MirrorHouseModel", "begins", "(I)V"⟩, 46)]
theorem lw_r5 : ∀ q ∈ lw_privs_5, lw_okq q := List.forall_mem_cons.mpr ⟨lw_p64, fun _ h => absurd h List.not_mem_nil⟩
def lw_privs : List (MethodName × Nat) := lw_privs_1 ++ (lw_privs_2 ++ (lw_privs_3 ++ (lw_privs_4 ++ (lw_privs_5))))
def lw_tbl : List Cond := k2_sels lw_privs ++ tables_1
theorem lw_privs_ok : ∀ q ∈ lw_privs, lw_okq q := by
  show ∀ q ∈ lw_privs_1 ++ (lw_privs_2 ++ (lw_privs_3 ++ (lw_privs_4 ++ (lw_privs_5)))), lw_okq q
  exact List.forall_mem_append.mpr ⟨lw_r1, List.forall_mem_append.mpr ⟨lw_r2, List.forall_mem_append.mpr ⟨lw_r3, List.forall_mem_append.mpr ⟨lw_r4, lw_r5⟩⟩⟩⟩
end
section
theorem goodIn_r {big : List Cond} (ws : List Cond) (ps : List Nat) (hp : ws = ps.filterMap (fun i => big[i]?)) (h : ws.all goodWord = true) : GoodIn big ws := by
  intro w hw
  have h1 := List.all_eq_true.mp h w hw
  rw [hp] at hw
  obtain ⟨i, -, hi⟩ := List.mem_filterMap.mp hw
  have hm : w ∈ big := by first | exact List.mem_of_getElem? hi | exact List.getElem?_mem hi
  exact ⟨hm, good_of_word h1⟩
theorem goodIn_app {big a b : List Cond} (ha : GoodIn big a) (hb : GoodIn big b) : GoodIn big (a ++ b) := fun w h => (List.mem_append.mp h).elim (ha w) (hb w)
theorem goodIn_ca {big a b : List Cond} {c : Cond} (ha : GoodIn big (c :: a)) (hb : GoodIn big b) : GoodIn big (c :: (a ++ b)) := fun w h => (List.mem_cons.mp h).elim (fun e => ha w (List.mem_cons.mpr (Or.inl e))) (fun h => (List.mem_append.mp h).elim (fun h => ha w (List.mem_cons.mpr (Or.inr h))) (hb w))
theorem goodIn_sub {big ws : List Cond} (hm : ∀ w ∈ ws, w ∈ big) (h : ws.all goodWord = true) : GoodIn big ws := fun w hw => ⟨hm w hw, good_of_word (List.all_eq_true.mp h w hw)⟩
def RX0 : String := "MirrorHouse$Change"
def TX0 : u_T := fun k => match k with
  | 0 => ("MirrorHouse$Change", "unlike", "[I", true)
  | 1 => ("MirrorHouse$Change", "n", "I", false)
  | _ => ("MirrorHouse$Change", "rows", "[I", true)
def tyX0 : Nat → FieldType := fun k => match k with
  | 0 => .array .int
  | 1 => .int
  | _ => .array .int
abbrev wsX00 : List Cond := u_ws RX0 TX0 3
theorem nmX0 : ∀ a, a < 3 → ∀ b, b < 3 → a ≠ b → (TX0 a).2.1 ≠ (TX0 b).2.1 := by decide +kernel
theorem tyX0_ok : ∀ k, k < 3 → parseFieldDescriptor (TX0 k).2.2.1 = some (tyX0 k) := by decide +kernel
abbrev cX0_init : ByteArray := prog_2_method_1_code
def yX0_init : MethodName := ⟨RX0, "<init>", "()V"⟩
abbrev cX0_compare : ByteArray := prog_2_method_2_code
def yX0_compare : MethodName := ⟨RX0, "compare", "(LMirrorHouse$House;LMirrorHouse$House;)Z"⟩
abbrev cX0_countRows : ByteArray := prog_2_method_3_code
def yX0_countRows : MethodName := ⟨RX0, "countRows", "(LMirrorHouse$House;LMirrorHouse$House;)I"⟩
abbrev cX0_rowsBehind : ByteArray := prog_2_method_4_code
def yX0_rowsBehind : MethodName := ⟨RX0, "rowsBehind", "(I)I"⟩
abbrev cX0_ofFirstRow : ByteArray := prog_2_method_5_code
def yX0_ofFirstRow : MethodName := ⟨RX0, "ofFirstRow", "(I)I"⟩
abbrev cX0_firstThatGoesOn : ByteArray := prog_2_method_6_code
def yX0_firstThatGoesOn : MethodName := ⟨RX0, "firstThatGoesOn", "(I)I"⟩
def RX1 : String := "MirrorHouse$House"
def TX1 : u_T := fun k => match k with
  | 0 => ("MirrorHouse$House", "w", "I", true)
  | 1 => ("MirrorHouse$House", "h", "I", true)
  | 2 => ("MirrorHouse$House", "rooms", "I", true)
  | 3 => ("MirrorHouse$House", "sides", "I", true)
  | 4 => ("MirrorHouse$House", "panes", "[I", true)
  | 5 => ("MirrorHouse$House", "smeared", "[I", true)
  | 6 => ("MirrorHouse$House", "wayOf", "[I", true)
  | 7 => ("MirrorHouse$House", "evenBy", "[I", true)
  | 8 => ("MirrorHouse$House", "oddBy", "[I", true)
  | 9 => ("MirrorHouse$House", "firstToOpen", "I", false)
  | 10 => ("MirrorHouse$House", "secondToOpen", "I", false)
  | 11 => ("MirrorHouse$House", "keptTicks", "I", false)
  | 12 => ("MirrorHouse$House", "keptBy", "I", false)
  | 13 => ("MirrorHouse$House", "sidesBy", "[I", true)
  | 14 => ("MirrorHouse$House", "trial", "[I", true)
  | 15 => ("MirrorHouse$House", "opens", "[I", true)
  | 16 => ("MirrorHouse$House", "opensNow", "[I", true)
  | _ => ("MirrorHouse$House", "toOdd", "[I", true)
def tyX1 : Nat → FieldType := fun k => match k with
  | 0 => .int
  | 1 => .int
  | 2 => .int
  | 3 => .int
  | 4 => .array .int
  | 5 => .array .int
  | 6 => .array .int
  | 7 => .array .int
  | 8 => .array .int
  | 9 => .int
  | 10 => .int
  | 11 => .int
  | 12 => .int
  | 13 => .array .int
  | 14 => .array .int
  | 15 => .array .int
  | 16 => .array .int
  | _ => .array .int
abbrev wsX10 : List Cond := u_ws RX1 TX1 18
theorem nmX1 : ∀ a, a < 18 → ∀ b, b < 18 → a ≠ b → (TX1 a).2.1 ≠ (TX1 b).2.1 := by decide +kernel
theorem tyX1_ok : ∀ k, k < 18 → parseFieldDescriptor (TX1 k).2.2.1 = some (tyX1 k) := by decide +kernel
abbrev cX1_init : ByteArray := prog_3_method_1_code
def yX1_init : MethodName := ⟨RX1, "<init>", "(II)V"⟩
abbrev cX1_second : ByteArray := prog_3_method_2_code
def yX1_second : MethodName := ⟨RX1, "second", "(II)I"⟩
abbrev cX1_placeSides : ByteArray := prog_3_method_3_code
def yX1_placeSides : MethodName := ⟨RX1, "placeSides", "(II)V"⟩
abbrev cX1_place : ByteArray := prog_3_method_4_code
def yX1_place : MethodName := ⟨RX1, "place", "(IIII)V"⟩
abbrev cX1_hasRoom : ByteArray := prog_3_method_5_code
def yX1_hasRoom : MethodName := ⟨RX1, "hasRoom", "(I)Z"⟩
abbrev cX1_hasSide : ByteArray := prog_3_method_6_code
def yX1_hasSide : MethodName := ⟨RX1, "hasSide", "(I)Z"⟩
abbrev cX1_allRooms : ByteArray := prog_3_method_7_code
def yX1_allRooms : MethodName := ⟨RX1, "allRooms", "()I"⟩
abbrev cX1_sideOf : ByteArray := prog_3_method_8_code
def yX1_sideOf : MethodName := ⟨RX1, "sideOf", "(II)I"⟩
abbrev cX1_behind : ByteArray := prog_3_method_9_code
def yX1_behind : MethodName := ⟨RX1, "behind", "(II)I"⟩
abbrev cX1_panesOf : ByteArray := prog_3_method_10_code
def yX1_panesOf : MethodName := ⟨RX1, "panesOf", "(I)I"⟩
abbrev cX1_smears : ByteArray := prog_3_method_11_code
def yX1_smears : MethodName := ⟨RX1, "smears", "()I"⟩
abbrev cX1_become : ByteArray := prog_3_method_12_code
def yX1_become : MethodName := ⟨RX1, "become", "(II)I"⟩
abbrev cX1_openBy : ByteArray := prog_3_method_13_code
def yX1_openBy : MethodName := ⟨RX1, "openBy", "([I)V"⟩
abbrev cX1_openAlso : ByteArray := prog_3_method_14_code
def yX1_openAlso : MethodName := ⟨RX1, "openAlso", "(I)V"⟩
abbrev cX1_widened : ByteArray := prog_3_method_15_code
def yX1_widened : MethodName := ⟨RX1, "widened", "(I)I"⟩
abbrev cX1_moved : ByteArray := prog_3_method_16_code
def yX1_moved : MethodName := ⟨RX1, "moved", "(II)I"⟩
abbrev cX1_roomsWithin : ByteArray := prog_3_method_17_code
def yX1_roomsWithin : MethodName := ⟨RX1, "roomsWithin", "(I)I"⟩
abbrev cX1_howFar : ByteArray := prog_3_method_18_code
def yX1_howFar : MethodName := ⟨RX1, "howFar", "(I)I"⟩
abbrev cX1_firstShut : ByteArray := prog_3_method_19_code
def yX1_firstShut : MethodName := ⟨RX1, "firstShut", "()I"⟩
abbrev cX1_isTrialFair : ByteArray := prog_3_method_20_code
def yX1_isTrialFair : MethodName := ⟨RX1, "isTrialFair", "()Z"⟩
abbrev cX1_fewestToOpen : ByteArray := prog_3_method_21_code
def yX1_fewestToOpen : MethodName := ⟨RX1, "fewestToOpen", "(I)I"⟩
abbrev cX1_findTwo : ByteArray := prog_3_method_22_code
def yX1_findTwo : MethodName := ⟨RX1, "findTwo", "(I)Z"⟩
abbrev cX1_isNearWith : ByteArray := prog_3_method_23_code
def yX1_isNearWith : MethodName := ⟨RX1, "isNearWith", "(III)Z"⟩
abbrev cX1_keepLongest : ByteArray := prog_3_method_24_code
def yX1_keepLongest : MethodName := ⟨RX1, "keepLongest", "(LMirrorHouse$Sheet;IIII)V"⟩
abbrev cX1_ticksOfBlind : ByteArray := prog_3_method_25_code
def yX1_ticksOfBlind : MethodName := ⟨RX1, "ticksOfBlind", "(II)I"⟩
abbrev cX1_firstOpen : ByteArray := prog_3_method_26_code
def yX1_firstOpen : MethodName := ⟨RX1, "firstOpen", "([III)I"⟩
abbrev cX1_handWay : ByteArray := prog_3_method_27_code
def yX1_handWay : MethodName := ⟨RX1, "handWay", "(III)I"⟩
abbrev cX1_isFairWith : ByteArray := prog_3_method_28_code
def yX1_isFairWith : MethodName := ⟨RX1, "isFairWith", "(LMirrorHouse$House;[III)Z"⟩
def RX2 : String := "MirrorHouse$Report"
def TX2 : u_T := fun k => match k with
  | 0 => ("MirrorHouse$Report", "houseNumber", "I", true)
  | 1 => ("MirrorHouse$Report", "room", "I", true)
  | 2 => ("MirrorHouse$Report", "p", "I", true)
  | 3 => ("MirrorHouse$Report", "q", "I", true)
  | _ => ("MirrorHouse$Report", "saw", "Z", true)
def tyX2 : Nat → FieldType := fun k => match k with
  | 0 => .int
  | 1 => .int
  | 2 => .int
  | 3 => .int
  | _ => .boolean
abbrev wsX20 : List Cond := u_ws RX2 TX2 5
theorem nmX2 : ∀ a, a < 5 → ∀ b, b < 5 → a ≠ b → (TX2 a).2.1 ≠ (TX2 b).2.1 := by decide +kernel
theorem tyX2_ok : ∀ k, k < 5 → parseFieldDescriptor (TX2 k).2.2.1 = some (tyX2 k) := by decide +kernel
abbrev cX2_init : ByteArray := prog_4_method_1_code
def yX2_init : MethodName := ⟨RX2, "<init>", "(IIIIZ)V"⟩
def RX3 : String := "MirrorHouse$Sheet"
def TX3 : u_T := fun k => match k with
  | 0 => ("MirrorHouse$Sheet", "cells", "[I", true)
  | 1 => ("MirrorHouse$Sheet", "sort", "I", false)
  | _ => ("MirrorHouse$Sheet", "length", "I", false)
def tyX3 : Nat → FieldType := fun k => match k with
  | 0 => .array .int
  | 1 => .int
  | _ => .int
abbrev wsX30 : List Cond := u_ws RX3 TX3 3
theorem nmX3 : ∀ a, a < 3 → ∀ b, b < 3 → a ≠ b → (TX3 a).2.1 ≠ (TX3 b).2.1 := by decide +kernel
theorem tyX3_ok : ∀ k, k < 3 → parseFieldDescriptor (TX3 k).2.2.1 = some (tyX3 k) := by decide +kernel
abbrev cX3_init : ByteArray := prog_5_method_1_code
def yX3_init : MethodName := ⟨RX3, "<init>", "()V"⟩
abbrev cX3_renew : ByteArray := prog_5_method_2_code
def yX3_renew : MethodName := ⟨RX3, "renew", "(II)V"⟩
abbrev cX3_isNothing : ByteArray := prog_5_method_3_code
def yX3_isNothing : MethodName := ⟨RX3, "isNothing", "()Z"⟩
abbrev cX3_canBe : ByteArray := prog_5_method_4_code
def yX3_canBe : MethodName := ⟨RX3, "canBe", "(I)Z"⟩
abbrev cX3_hasCells : ByteArray := prog_5_method_5_code
def yX3_hasCells : MethodName := ⟨RX3, "hasCells", "(II)Z"⟩
abbrev cX3_cut : ByteArray := prog_5_method_6_code
def yX3_cut : MethodName := ⟨RX3, "cut", "(I)I"⟩
abbrev cX3_faultOfRow : ByteArray := prog_5_method_7_code
def yX3_faultOfRow : MethodName := ⟨RX3, "faultOfRow", "(III)I"⟩
def RX4 : String := "MirrorHouse$Sight"
def TX4 : u_T := fun k => match k with
  | 0 => ("MirrorHouse$Sight", "ends", "I", false)
  | 1 => ("MirrorHouse$Sight", "crossings", "I", false)
  | 2 => ("MirrorHouse$Sight", "mirrors", "I", false)
  | 3 => ("MirrorHouse$Sight", "room", "I", false)
  | 4 => ("MirrorHouse$Sight", "side", "I", false)
  | 5 => ("MirrorHouse$Sight", "found", "I", false)
  | 6 => ("MirrorHouse$Sight", "nearestP", "I", false)
  | 7 => ("MirrorHouse$Sight", "nearestQ", "I", false)
  | 8 => ("MirrorHouse$Sight", "ahead", "[I", true)
  | 9 => ("MirrorHouse$Sight", "pace", "[I", true)
  | _ => ("MirrorHouse$Sight", "folded", "[I", true)
def tyX4 : Nat → FieldType := fun k => match k with
  | 0 => .int
  | 1 => .int
  | 2 => .int
  | 3 => .int
  | 4 => .int
  | 5 => .int
  | 6 => .int
  | 7 => .int
  | 8 => .array .int
  | 9 => .array .int
  | _ => .array .int
abbrev wsX40 : List Cond := u_ws RX4 TX4 11
theorem nmX4 : ∀ a, a < 11 → ∀ b, b < 11 → a ≠ b → (TX4 a).2.1 ≠ (TX4 b).2.1 := by decide +kernel
theorem tyX4_ok : ∀ k, k < 11 → parseFieldDescriptor (TX4 k).2.2.1 = some (tyX4 k) := by decide +kernel
abbrev cX4_init : ByteArray := prog_6_method_1_code
def yX4_init : MethodName := ⟨RX4, "<init>", "()V"⟩
abbrev cX4_look : ByteArray := prog_6_method_2_code
def yX4_look : MethodName := ⟨RX4, "look", "(LMirrorHouse$House;IIII)V"⟩
abbrev cX4_setOut : ByteArray := prog_6_method_3_code
def yX4_setOut : MethodName := ⟨RX4, "setOut", "(III)V"⟩
abbrev cX4_thirdsIn : ByteArray := prog_6_method_4_code
def yX4_thirdsIn : MethodName := ⟨RX4, "thirdsIn", "(I)I"⟩
abbrev cX4_aim : ByteArray := prog_6_method_5_code
def yX4_aim : MethodName := ⟨RX4, "aim", "(III)V"⟩
abbrev cX4_goOn : ByteArray := prog_6_method_6_code
def yX4_goOn : MethodName := ⟨RX4, "goOn", "(LMirrorHouse$House;)V"⟩
abbrev cX4_nextWay : ByteArray := prog_6_method_7_code
def yX4_nextWay : MethodName := ⟨RX4, "nextWay", "()I"⟩
abbrev cX4_foldOver : ByteArray := prog_6_method_8_code
def yX4_foldOver : MethodName := ⟨RX4, "foldOver", "(I)V"⟩
abbrev cX4_imageBy : ByteArray := prog_6_method_9_code
def yX4_imageBy : MethodName := ⟨RX4, "imageBy", "(LMirrorHouse$House;III)I"⟩
abbrev cX4_crossesMore : ByteArray := prog_6_method_10_code
def yX4_crossesMore : MethodName := ⟨RX4, "crossesMore", "()Z"⟩
abbrev cX4_seek : ByteArray := prog_6_method_11_code
def yX4_seek : MethodName := ⟨RX4, "seek", "(LMirrorHouse$House;III)V"⟩
def RX5 : String := "MirrorHouse$Walker"
def TX5 : u_T := fun k => match k with
  | 0 => ("MirrorHouse$Walker", "kind", "I", true)
  | 1 => ("MirrorHouse$Walker", "houseNumber", "I", true)
  | 2 => ("MirrorHouse$Walker", "room", "I", false)
  | 3 => ("MirrorHouse$Walker", "came", "I", false)
  | 4 => ("MirrorHouse$Walker", "went", "I", false)
  | 5 => ("MirrorHouse$Walker", "ran", "I", false)
  | 6 => ("MirrorHouse$Walker", "lived", "I", false)
  | _ => ("MirrorHouse$Walker", "times", "[I", true)
def tyX5 : Nat → FieldType := fun k => match k with
  | 0 => .int
  | 1 => .int
  | 2 => .int
  | 3 => .int
  | 4 => .int
  | 5 => .int
  | 6 => .int
  | _ => .array .int
abbrev wsX50 : List Cond := u_ws RX5 TX5 8
theorem nmX5 : ∀ a, a < 8 → ∀ b, b < 8 → a ≠ b → (TX5 a).2.1 ≠ (TX5 b).2.1 := by decide +kernel
theorem tyX5_ok : ∀ k, k < 8 → parseFieldDescriptor (TX5 k).2.2.1 = some (tyX5 k) := by decide +kernel
abbrev cX5_init : ByteArray := prog_7_method_1_code
def yX5_init : MethodName := ⟨RX5, "<init>", "(IIII)V"⟩
abbrev cX5_isOut : ByteArray := prog_7_method_2_code
def yX5_isOut : MethodName := ⟨RX5, "isOut", "()Z"⟩
abbrev cX5_goOn : ByteArray := prog_7_method_3_code
def yX5_goOn : MethodName := ⟨RX5, "goOn", "(LMirrorHouse$House;)V"⟩
abbrev cX5_firstClear : ByteArray := prog_7_method_4_code
def yX5_firstClear : MethodName := ⟨RX5, "firstClear", "(LMirrorHouse$House;)I"⟩
abbrev cX5_seemsOpen : ByteArray := prog_7_method_5_code
def yX5_seemsOpen : MethodName := ⟨RX5, "seemsOpen", "(LMirrorHouse$House;I)Z"⟩
def RX6 : String := "MirrorHouse"
def TX6 : u_T := fun k => match k with
  | 0 => ("MirrorHouse", "sheets", "[LMirrorHouse$Sheet;", true)
  | 1 => ("MirrorHouse", "houses", "[LMirrorHouse$House;", true)
  | 2 => ("MirrorHouse", "reports", "[LMirrorHouse$Report;", true)
  | 3 => ("MirrorHouse", "walkers", "[LMirrorHouse$Walker;", true)
  | 4 => ("MirrorHouse", "photo", "[I", true)
  | 5 => ("MirrorHouse", "sight", "LMirrorHouse$Sight;", true)
  | 6 => ("MirrorHouse", "plan", "LMirrorHouse$Change;", true)
  | 7 => ("MirrorHouse", "houseCount", "I", false)
  | 8 => ("MirrorHouse", "reportCount", "I", false)
  | 9 => ("MirrorHouse", "walkerCount", "I", false)
  | 10 => ("MirrorHouse", "photoRows", "I", false)
  | 11 => ("MirrorHouse", "traced", "I", false)
  | _ => ("MirrorHouse", "lastFault", "I", false)
def tyX6 : Nat → FieldType := fun k => match k with
  | 0 => .array (.object "MirrorHouse$Sheet")
  | 1 => .array (.object "MirrorHouse$House")
  | 2 => .array (.object "MirrorHouse$Report")
  | 3 => .array (.object "MirrorHouse$Walker")
  | 4 => .array .int
  | 5 => .object "MirrorHouse$Sight"
  | 6 => .object "MirrorHouse$Change"
  | 7 => .int
  | 8 => .int
  | 9 => .int
  | 10 => .int
  | 11 => .int
  | _ => .int
abbrev wsX60 : List Cond := u_ws RX6 TX6 13
theorem nmX6 : ∀ a, a < 13 → ∀ b, b < 13 → a ≠ b → (TX6 a).2.1 ≠ (TX6 b).2.1 := by decide +kernel
theorem tyX6_ok : ∀ k, k < 13 → parseFieldDescriptor (TX6 k).2.2.1 = some (tyX6 k) := by decide +kernel
abbrev cX6_init : ByteArray := prog_1_method_1_code
def yX6_init : MethodName := ⟨RX6, "<init>", "()V"⟩
abbrev cX6_houseAt : ByteArray := prog_1_method_2_code
def yX6_houseAt : MethodName := ⟨RX6, "houseAt", "(I)LMirrorHouse$House;"⟩
abbrev cX6_walkerAt : ByteArray := prog_1_method_3_code
def yX6_walkerAt : MethodName := ⟨RX6, "walkerAt", "(I)LMirrorHouse$Walker;"⟩
abbrev cX6_sheetAt : ByteArray := prog_1_method_4_code
def yX6_sheetAt : MethodName := ⟨RX6, "sheetAt", "(I)LMirrorHouse$Sheet;"⟩
abbrev cX6_within : ByteArray := prog_1_method_5_code
def yX6_within : MethodName := ⟨RX6, "within", "(III)Z"⟩
abbrev cX6_isWay : ByteArray := prog_1_method_6_code
def yX6_isWay : MethodName := ⟨RX6, "isWay", "(I)Z"⟩
abbrev cX6_isSort : ByteArray := prog_1_method_7_code
def yX6_isSort : MethodName := ⟨RX6, "isSort", "(I)Z"⟩
abbrev cX6_isTurn : ByteArray := prog_1_method_8_code
def yX6_isTurn : MethodName := ⟨RX6, "isTurn", "(II)Z"⟩
abbrev cX6_faulted : ByteArray := prog_1_method_9_code
def yX6_faulted : MethodName := ⟨RX6, "faulted", "(I)I"⟩
abbrev cX6_lostBy : ByteArray := prog_1_method_10_code
def yX6_lostBy : MethodName := ⟨RX6, "lostBy", "(I)J"⟩
abbrev cX6_house : ByteArray := prog_1_method_11_code
def yX6_house : MethodName := ⟨RX6, "house", "(IIII)I"⟩
abbrev cX6_firstFaultOf : ByteArray := prog_1_method_12_code
def yX6_firstFaultOf : MethodName := ⟨RX6, "firstFaultOf", "(LMirrorHouse$Sheet;II)I"⟩
abbrev cX6_goesOn : ByteArray := prog_1_method_13_code
def yX6_goesOn : MethodName := ⟨RX6, "goesOn", "(LMirrorHouse$Sheet;II)Z"⟩
abbrev cX6_lettersOf : ByteArray := prog_1_method_14_code
def yX6_lettersOf : MethodName := ⟨RX6, "lettersOf", "(LMirrorHouse$Sheet;I)I"⟩
abbrev cX6_sidesOf : ByteArray := prog_1_method_15_code
def yX6_sidesOf : MethodName := ⟨RX6, "sidesOf", "(II)I"⟩
abbrev cX6_kindOf : ByteArray := prog_1_method_16_code
def yX6_kindOf : MethodName := ⟨RX6, "kindOf", "(I)I"⟩
abbrev cX6_builtBy : ByteArray := prog_1_method_17_code
def yX6_builtBy : MethodName := ⟨RX6, "builtBy", "(LMirrorHouse$Sheet;I)LMirrorHouse$House;"⟩
abbrev cX6_ofHouse : ByteArray := prog_1_method_18_code
def yX6_ofHouse : MethodName := ⟨RX6, "ofHouse", "(II)I"⟩
abbrev cX6_ofSide : ByteArray := prog_1_method_19_code
def yX6_ofSide : MethodName := ⟨RX6, "ofSide", "(III)I"⟩
abbrev cX6_side : ByteArray := prog_1_method_20_code
def yX6_side : MethodName := ⟨RX6, "side", "(III)I"⟩
abbrev cX6_pane : ByteArray := prog_1_method_21_code
def yX6_pane : MethodName := ⟨RX6, "pane", "(III)I"⟩
abbrev cX6_seen : ByteArray := prog_1_method_22_code
def yX6_seen : MethodName := ⟨RX6, "seen", "(IIIIII)I"⟩
abbrev cX6_met : ByteArray := prog_1_method_23_code
def yX6_met : MethodName := ⟨RX6, "met", "(IIIII)I"⟩
abbrev cX6_image : ByteArray := prog_1_method_24_code
def yX6_image : MethodName := ⟨RX6, "image", "(IIII)I"⟩
abbrev cX6_images : ByteArray := prog_1_method_25_code
def yX6_images : MethodName := ⟨RX6, "images", "(IIIII)I"⟩
abbrev cX6_report : ByteArray := prog_1_method_26_code
def yX6_report : MethodName := ⟨RX6, "report", "(IIIIZ)I"⟩
abbrev cX6_spots : ByteArray := prog_1_method_27_code
def yX6_spots : MethodName := ⟨RX6, "spots", "(I)I"⟩
abbrev cX6_fits : ByteArray := prog_1_method_28_code
def yX6_fits : MethodName := ⟨RX6, "fits", "(LMirrorHouse$House;LMirrorHouse$Report;)I"⟩
abbrev cX6_photograph : ByteArray := prog_1_method_29_code
def yX6_photograph : MethodName := ⟨RX6, "photograph", "(IIII)I"⟩
abbrev cX6_taken : ByteArray := prog_1_method_30_code
def yX6_taken : MethodName := ⟨RX6, "taken", "(I)I"⟩
abbrev cX6_showsPhotoFrom : ByteArray := prog_1_method_31_code
def yX6_showsPhotoFrom : MethodName := ⟨RX6, "showsPhotoFrom", "(LMirrorHouse$House;I)Z"⟩
abbrev cX6_walker : ByteArray := prog_1_method_32_code
def yX6_walker : MethodName := ⟨RX6, "walker", "(IIII)I"⟩
abbrev cX6_ticks : ByteArray := prog_1_method_33_code
def yX6_ticks : MethodName := ⟨RX6, "ticks", "(II)I"⟩
abbrev cX6_tickAll : ByteArray := prog_1_method_34_code
def yX6_tickAll : MethodName := ⟨RX6, "tickAll", "(LMirrorHouse$House;I)V"⟩
abbrev cX6_insideOf : ByteArray := prog_1_method_35_code
def yX6_insideOf : MethodName := ⟨RX6, "insideOf", "(I)I"⟩
abbrev cX6_ofWalker : ByteArray := prog_1_method_36_code
def yX6_ofWalker : MethodName := ⟨RX6, "ofWalker", "(II)I"⟩
abbrev cX6_shut : ByteArray := prog_1_method_37_code
def yX6_shut : MethodName := ⟨RX6, "shut", "(I)I"⟩
abbrev cX6_far : ByteArray := prog_1_method_38_code
def yX6_far : MethodName := ⟨RX6, "far", "(II)I"⟩
abbrev cX6_opened : ByteArray := prog_1_method_39_code
def yX6_opened : MethodName := ⟨RX6, "opened", "(III)I"⟩
abbrev cX6_keeps : ByteArray := prog_1_method_40_code
def yX6_keeps : MethodName := ⟨RX6, "keeps", "(IIIIIIII)I"⟩
abbrev cX6_areSides : ByteArray := prog_1_method_41_code
def yX6_areSides : MethodName := ⟨RX6, "areSides", "(LMirrorHouse$House;LMirrorHouse$Sheet;II)Z"⟩
abbrev cX6_hasLike : ByteArray := prog_1_method_42_code
def yX6_hasLike : MethodName := ⟨RX6, "hasLike", "(LMirrorHouse$Sheet;II)Z"⟩
abbrev cX6_changed : ByteArray := prog_1_method_43_code
def yX6_changed : MethodName := ⟨RX6, "changed", "(II)J"⟩
abbrev cX6_change : ByteArray := prog_1_method_44_code
def yX6_change : MethodName := ⟨RX6, "change", "(III)I"⟩
abbrev cX6_sheet : ByteArray := prog_1_method_45_code
def yX6_sheet : MethodName := ⟨RX6, "sheet", "(III)I"⟩
abbrev cX6_lose : ByteArray := prog_1_method_46_code
def yX6_lose : MethodName := ⟨RX6, "lose", "(I)I"⟩
abbrev cX6_put : ByteArray := prog_1_method_47_code
def yX6_put : MethodName := ⟨RX6, "put", "(III)I"⟩
abbrev cX6_cell : ByteArray := prog_1_method_48_code
def yX6_cell : MethodName := ⟨RX6, "cell", "(III)J"⟩
abbrev cX6_copy : ByteArray := prog_1_method_49_code
def yX6_copy : MethodName := ⟨RX6, "copy", "(IIIII)I"⟩
abbrev cX6_tell : ByteArray := prog_1_method_50_code
def yX6_tell : MethodName := ⟨RX6, "tell", "(I)I"⟩
abbrev cX6_blindTells : ByteArray := prog_1_method_51_code
def yX6_blindTells : MethodName := ⟨RX6, "blindTells", "(LMirrorHouse$Walker;)I"⟩
abbrev cX6_seerTells : ByteArray := prog_1_method_52_code
def yX6_seerTells : MethodName := ⟨RX6, "seerTells", "(LMirrorHouse$Walker;)I"⟩
abbrev cX6_waryTells : ByteArray := prog_1_method_53_code
def yX6_waryTells : MethodName := ⟨RX6, "waryTells", "(LMirrorHouse$Walker;)I"⟩
abbrev cX6_leave : ByteArray := prog_1_method_54_code
def yX6_leave : MethodName := ⟨RX6, "leave", "(I)V"⟩
abbrev cX6_greet : ByteArray := prog_1_method_55_code
def yX6_greet : MethodName := ⟨RX6, "greet", "(I)I"⟩
abbrev cX6_as : ByteArray := prog_1_method_56_code
def yX6_as : MethodName := ⟨RX6, "as", "(II)I"⟩
abbrev cX6_trace : ByteArray := prog_1_method_57_code
def yX6_trace : MethodName := ⟨RX6, "trace", "()I"⟩
abbrev cX6_fault : ByteArray := prog_1_method_58_code
def yX6_fault : MethodName := ⟨RX6, "fault", "()I"⟩
abbrev cX6_many : ByteArray := prog_1_method_59_code
def yX6_many : MethodName := ⟨RX6, "many", "(I)I"⟩
abbrev cX6_outs : ByteArray := prog_1_method_60_code
def yX6_outs : MethodName := ⟨RX6, "outs", "()I"⟩
def RX7 : String := "MirrorHouseModel"
def TX7 : u_T := fun k => match k with
  | 0 => ("MirrorHouseModel", "fault", "I", false)
  | 1 => ("MirrorHouseModel", "trace", "I", false)
  | 2 => ("MirrorHouseModel", "sorts", "[I", true)
  | 3 => ("MirrorHouseModel", "sheetLong", "[I", true)
  | 4 => ("MirrorHouseModel", "cells", "[I", true)
  | 5 => ("MirrorHouseModel", "houses", "I", false)
  | 6 => ("MirrorHouseModel", "wide", "[I", true)
  | 7 => ("MirrorHouseModel", "high", "[I", true)
  | 8 => ("MirrorHouseModel", "kinds", "[I", true)
  | 9 => ("MirrorHouseModel", "smears", "[I", true)
  | 10 => ("MirrorHouseModel", "readWide", "I", false)
  | 11 => ("MirrorHouseModel", "readHigh", "I", false)
  | 12 => ("MirrorHouseModel", "till", "[I", true)
  | 13 => ("MirrorHouseModel", "pace", "[I", true)
  | 14 => ("MirrorHouseModel", "fold", "[I", true)
  | 15 => ("MirrorHouseModel", "now", "I", false)
  | 16 => ("MirrorHouseModel", "crossings", "I", false)
  | 17 => ("MirrorHouseModel", "mirrors", "I", false)
  | 18 => ("MirrorHouseModel", "lastSide", "I", false)
  | 19 => ("MirrorHouseModel", "ending", "I", false)
  | 20 => ("MirrorHouseModel", "reports", "I", false)
  | 21 => ("MirrorHouseModel", "reportHouse", "[I", true)
  | 22 => ("MirrorHouseModel", "reportRoom", "[I", true)
  | 23 => ("MirrorHouseModel", "reportP", "[I", true)
  | 24 => ("MirrorHouseModel", "reportQ", "[I", true)
  | 25 => ("MirrorHouseModel", "reportSaw", "[Z", true)
  | 26 => ("MirrorHouseModel", "pictures", "I", false)
  | 27 => ("MirrorHouseModel", "picture", "[I", true)
  | 28 => ("MirrorHouseModel", "walkers", "I", false)
  | 29 => ("MirrorHouseModel", "walkKind", "[I", true)
  | 30 => ("MirrorHouseModel", "walkHouse", "[I", true)
  | 31 => ("MirrorHouseModel", "walkRoom", "[I", true)
  | 32 => ("MirrorHouseModel", "walkWay", "[I", true)
  | 33 => ("MirrorHouseModel", "walkWent", "[I", true)
  | 34 => ("MirrorHouseModel", "walkRan", "[I", true)
  | 35 => ("MirrorHouseModel", "walkTicks", "[I", true)
  | 36 => ("MirrorHouseModel", "walkOut", "[I", true)
  | 37 => ("MirrorHouseModel", "walkBy", "[I", true)
  | 38 => ("MirrorHouseModel", "fars", "[I", true)
  | 39 => ("MirrorHouseModel", "openA", "I", false)
  | 40 => ("MirrorHouseModel", "openB", "I", false)
  | 41 => ("MirrorHouseModel", "wasKinds", "[I", true)
  | 42 => ("MirrorHouseModel", "unlike", "I", false)
  | 43 => ("MirrorHouseModel", "unlikeSide", "[I", true)
  | 44 => ("MirrorHouseModel", "keptKinds", "[I", true)
  | _ => ("MirrorHouseModel", "rowsLeft", "[J", true)
def tyX7 : Nat → FieldType := fun k => match k with
  | 0 => .int
  | 1 => .int
  | 2 => .array .int
  | 3 => .array .int
  | 4 => .array .int
  | 5 => .int
  | 6 => .array .int
  | 7 => .array .int
  | 8 => .array .int
  | 9 => .array .int
  | 10 => .int
  | 11 => .int
  | 12 => .array .int
  | 13 => .array .int
  | 14 => .array .int
  | 15 => .int
  | 16 => .int
  | 17 => .int
  | 18 => .int
  | 19 => .int
  | 20 => .int
  | 21 => .array .int
  | 22 => .array .int
  | 23 => .array .int
  | 24 => .array .int
  | 25 => .array .boolean
  | 26 => .int
  | 27 => .array .int
  | 28 => .int
  | 29 => .array .int
  | 30 => .array .int
  | 31 => .array .int
  | 32 => .array .int
  | 33 => .array .int
  | 34 => .array .int
  | 35 => .array .int
  | 36 => .array .int
  | 37 => .array .int
  | 38 => .array .int
  | 39 => .int
  | 40 => .int
  | 41 => .array .int
  | 42 => .int
  | 43 => .array .int
  | 44 => .array .int
  | _ => .array .long
abbrev wsX70 : List Cond := u_ws RX7 TX7 46
theorem nmX7 : ∀ a, a < 46 → ∀ b, b < 46 → a ≠ b → (TX7 a).2.1 ≠ (TX7 b).2.1 := by decide +kernel
theorem tyX7_ok : ∀ k, k < 46 → parseFieldDescriptor (TX7 k).2.2.1 = some (tyX7 k) := by decide +kernel
abbrev cX7_init : ByteArray := prog_9_method_1_code
def yX7_init : MethodName := ⟨RX7, "<init>", "()V"⟩
abbrev cX7_fails : ByteArray := prog_9_method_3_code
def yX7_fails : MethodName := ⟨RX7, "fails", "(I)I"⟩
abbrev cX7_lost : ByteArray := prog_9_method_4_code
def yX7_lost : MethodName := ⟨RX7, "lost", "(I)J"⟩
abbrev cX7_within : ByteArray := prog_9_method_5_code
def yX7_within : MethodName := ⟨RX7, "within", "(III)Z"⟩
abbrev cX7_has : ByteArray := prog_9_method_6_code
def yX7_has : MethodName := ⟨RX7, "has", "(II)Z"⟩
abbrev cX7_isSheet : ByteArray := prog_9_method_7_code
def yX7_isSheet : MethodName := ⟨RX7, "isSheet", "(I)Z"⟩
abbrev cX7_isSort : ByteArray := prog_9_method_8_code
def yX7_isSort : MethodName := ⟨RX7, "isSort", "(I)Z"⟩
abbrev cX7_against : ByteArray := prog_9_method_9_code
def yX7_against : MethodName := ⟨RX7, "against", "(IIII)I"⟩
abbrev cX7_isHouse : ByteArray := prog_9_method_10_code
def yX7_isHouse : MethodName := ⟨RX7, "isHouse", "(I)Z"⟩
abbrev cX7_rooms : ByteArray := prog_9_method_11_code
def yX7_rooms : MethodName := ⟨RX7, "rooms", "(I)I"⟩
abbrev cX7_sides : ByteArray := prog_9_method_12_code
def yX7_sides : MethodName := ⟨RX7, "sides", "(I)I"⟩
abbrev cX7_isRoom : ByteArray := prog_9_method_13_code
def yX7_isRoom : MethodName := ⟨RX7, "isRoom", "(II)Z"⟩
abbrev cX7_isSide : ByteArray := prog_9_method_14_code
def yX7_isSide : MethodName := ⟨RX7, "isSide", "(II)Z"⟩
abbrev cX7_house : ByteArray := prog_9_method_15_code
def yX7_house : MethodName := ⟨RX7, "house", "(IIII)I"⟩
abbrev cX7_digitAt : ByteArray := prog_9_method_16_code
def yX7_digitAt : MethodName := ⟨RX7, "digitAt", "(II)I"⟩
abbrev cX7_readHouse : ByteArray := prog_9_method_17_code
def yX7_readHouse : MethodName := ⟨RX7, "readHouse", "(II)I"⟩
abbrev cX7_countOf : ByteArray := prog_9_method_18_code
def yX7_countOf : MethodName := ⟨RX7, "countOf", "(II)I"⟩
abbrev cX7_ofHouse : ByteArray := prog_9_method_19_code
def yX7_ofHouse : MethodName := ⟨RX7, "ofHouse", "(II)I"⟩
abbrev cX7_sideOf : ByteArray := prog_9_method_20_code
def yX7_sideOf : MethodName := ⟨RX7, "sideOf", "(III)I"⟩
abbrev cX7_behind : ByteArray := prog_9_method_21_code
def yX7_behind : MethodName := ⟨RX7, "behind", "(III)I"⟩
abbrev cX7_ofSide : ByteArray := prog_9_method_22_code
def yX7_ofSide : MethodName := ⟨RX7, "ofSide", "(III)I"⟩
abbrev cX7_side : ByteArray := prog_9_method_23_code
def yX7_side : MethodName := ⟨RX7, "side", "(III)I"⟩
abbrev cX7_pane : ByteArray := prog_9_method_24_code
def yX7_pane : MethodName := ⟨RX7, "pane", "(III)I"⟩
abbrev cX7_isTurn : ByteArray := prog_9_method_25_code
def yX7_isTurn : MethodName := ⟨RX7, "isTurn", "(II)Z"⟩
abbrev cX7_setOut : ByteArray := prog_9_method_26_code
def yX7_setOut : MethodName := ⟨RX7, "setOut", "(III)V"⟩
abbrev cX7_nextWay : ByteArray := prog_9_method_27_code
def yX7_nextWay : MethodName := ⟨RX7, "nextWay", "()I"⟩
abbrev cX7_cross : ByteArray := prog_9_method_28_code
def yX7_cross : MethodName := ⟨RX7, "cross", "(I)V"⟩
abbrev cX7_look : ByteArray := prog_9_method_29_code
def yX7_look : MethodName := ⟨RX7, "look", "(IIIII)V"⟩
abbrev cX7_seen : ByteArray := prog_9_method_30_code
def yX7_seen : MethodName := ⟨RX7, "seen", "(IIIIII)I"⟩
abbrev cX7_met : ByteArray := prog_9_method_31_code
def yX7_met : MethodName := ⟨RX7, "met", "(IIIII)I"⟩
abbrev cX7_isAhead : ByteArray := prog_9_method_32_code
def yX7_isAhead : MethodName := ⟨RX7, "isAhead", "()Z"⟩
abbrev cX7_over : ByteArray := prog_9_method_33_code
def yX7_over : MethodName := ⟨RX7, "over", "(I)I"⟩
abbrev cX7_imageOf : ByteArray := prog_9_method_34_code
def yX7_imageOf : MethodName := ⟨RX7, "imageOf", "(IIII)I"⟩
abbrev cX7_image : ByteArray := prog_9_method_35_code
def yX7_image : MethodName := ⟨RX7, "image", "(IIII)I"⟩
abbrev cX7_images : ByteArray := prog_9_method_36_code
def yX7_images : MethodName := ⟨RX7, "images", "(IIIII)I"⟩
abbrev cX7_report : ByteArray := prog_9_method_37_code
def yX7_report : MethodName := ⟨RX7, "report", "(IIIIZ)I"⟩
abbrev cX7_spots : ByteArray := prog_9_method_38_code
def yX7_spots : MethodName := ⟨RX7, "spots", "(I)I"⟩
abbrev cX7_photograph : ByteArray := prog_9_method_39_code
def yX7_photograph : MethodName := ⟨RX7, "photograph", "(IIII)I"⟩
abbrev cX7_taken : ByteArray := prog_9_method_40_code
def yX7_taken : MethodName := ⟨RX7, "taken", "(I)I"⟩
abbrev cX7_isWalker : ByteArray := prog_9_method_41_code
def yX7_isWalker : MethodName := ⟨RX7, "isWalker", "(I)Z"⟩
abbrev cX7_walker : ByteArray := prog_9_method_42_code
def yX7_walker : MethodName := ⟨RX7, "walker", "(IIII)I"⟩
abbrev cX7_hand : ByteArray := prog_9_method_43_code
def yX7_hand : MethodName := ⟨RX7, "hand", "(III)I"⟩
abbrev cX7_takes : ByteArray := prog_9_method_44_code
def yX7_takes : MethodName := ⟨RX7, "takes", "(II)Z"⟩
abbrev cX7_choice : ByteArray := prog_9_method_45_code
def yX7_choice : MethodName := ⟨RX7, "choice", "(I)I"⟩
abbrev cX7_walk : ByteArray := prog_9_method_46_code
def yX7_walk : MethodName := ⟨RX7, "walk", "(I)V"⟩
abbrev cX7_ticks : ByteArray := prog_9_method_47_code
def yX7_ticks : MethodName := ⟨RX7, "ticks", "(II)I"⟩
abbrev cX7_ofWalker : ByteArray := prog_9_method_48_code
def yX7_ofWalker : MethodName := ⟨RX7, "ofWalker", "(II)I"⟩
abbrev cX7_layFars : ByteArray := prog_9_method_49_code
def yX7_layFars : MethodName := ⟨RX7, "layFars", "(I)V"⟩
abbrev cX7_shutOf : ByteArray := prog_9_method_50_code
def yX7_shutOf : MethodName := ⟨RX7, "shutOf", "(I)I"⟩
abbrev cX7_shut : ByteArray := prog_9_method_51_code
def yX7_shut : MethodName := ⟨RX7, "shut", "(I)I"⟩
abbrev cX7_far : ByteArray := prog_9_method_52_code
def yX7_far : MethodName := ⟨RX7, "far", "(II)I"⟩
abbrev cX7_areNear : ByteArray := prog_9_method_53_code
def yX7_areNear : MethodName := ⟨RX7, "areNear", "(II)Z"⟩
abbrev cX7_findOpened : ByteArray := prog_9_method_54_code
def yX7_findOpened : MethodName := ⟨RX7, "findOpened", "(II)I"⟩
abbrev cX7_opened : ByteArray := prog_9_method_55_code
def yX7_opened : MethodName := ⟨RX7, "opened", "(III)I"⟩
abbrev cX7_blindTicks : ByteArray := prog_9_method_56_code
def yX7_blindTicks : MethodName := ⟨RX7, "blindTicks", "(III)I"⟩
abbrev cX7_keeps : ByteArray := prog_9_method_57_code
def yX7_keeps : MethodName := ⟨RX7, "keeps", "(IIIIIIII)I"⟩
abbrev cX7_whyNot : ByteArray := prog_9_method_58_code
def yX7_whyNot : MethodName := ⟨RX7, "whyNot", "(II)I"⟩
abbrev cX7_layRows : ByteArray := prog_9_method_59_code
def yX7_layRows : MethodName := ⟨RX7, "layRows", "(II)V"⟩
abbrev cX7_changed : ByteArray := prog_9_method_60_code
def yX7_changed : MethodName := ⟨RX7, "changed", "(II)J"⟩
abbrev cX7_change : ByteArray := prog_9_method_61_code
def yX7_change : MethodName := ⟨RX7, "change", "(III)I"⟩
abbrev cX7_sheet : ByteArray := prog_9_method_62_code
def yX7_sheet : MethodName := ⟨RX7, "sheet", "(III)I"⟩
abbrev cX7_lose : ByteArray := prog_9_method_63_code
def yX7_lose : MethodName := ⟨RX7, "lose", "(I)I"⟩
abbrev cX7_put : ByteArray := prog_9_method_64_code
def yX7_put : MethodName := ⟨RX7, "put", "(III)I"⟩
abbrev cX7_cell : ByteArray := prog_9_method_65_code
def yX7_cell : MethodName := ⟨RX7, "cell", "(III)J"⟩
abbrev cX7_copy : ByteArray := prog_9_method_66_code
def yX7_copy : MethodName := ⟨RX7, "copy", "(IIIII)I"⟩
abbrev cX7_begins : ByteArray := prog_9_method_67_code
def yX7_begins : MethodName := ⟨RX7, "begins", "(I)V"⟩
abbrev cX7_tell : ByteArray := prog_9_method_68_code
def yX7_tell : MethodName := ⟨RX7, "tell", "(I)I"⟩
abbrev cX7_greet : ByteArray := prog_9_method_69_code
def yX7_greet : MethodName := ⟨RX7, "greet", "(I)I"⟩
abbrev cX7_as : ByteArray := prog_9_method_70_code
def yX7_as : MethodName := ⟨RX7, "as", "(II)I"⟩
abbrev cX7_trace : ByteArray := prog_9_method_71_code
def yX7_trace : MethodName := ⟨RX7, "trace", "()I"⟩
abbrev cX7_fault : ByteArray := prog_9_method_72_code
def yX7_fault : MethodName := ⟨RX7, "fault", "()I"⟩
abbrev cX7_many : ByteArray := prog_9_method_73_code
def yX7_many : MethodName := ⟨RX7, "many", "(I)I"⟩
def RJ9 : String := "java/lang/Math"
def TJ9 : u_T := fun k => match k with
  | _ => ("", "", "", false)
def tyJ9 : Nat → FieldType := fun k => match k with
  | _ => .int
theorem tyJ9_ok : ∀ k, k < 0 → parseFieldDescriptor (TJ9 k).2.2.1 = some (tyJ9 k) := by decide +kernel
abbrev cJ9_floorMod_7cf53 : ByteArray := prog_10_method_50_code
def yJ9_floorMod_7cf53 : MethodName := ⟨RJ9, "floorMod", "(II)I"⟩
abbrev cJ9_abs_0f7a4 : ByteArray := prog_10_method_59_code
def yJ9_abs_0f7a4 : MethodName := ⟨RJ9, "abs", "(I)I"⟩
def RJ10 : String := "java/lang/System"
def TJ10 : u_T := fun k => match k with
  | _ => ("", "", "", false)
def tyJ10 : Nat → FieldType := fun k => match k with
  | _ => .int
theorem tyJ10_ok : ∀ k, k < 0 → parseFieldDescriptor (TJ10 k).2.2.1 = some (tyJ10 k) := by decide +kernel
def RJ7 : String := "java/util/Arrays"
def TJ7 : u_T := fun k => match k with
  | _ => ("", "", "", false)
def tyJ7 : Nat → FieldType := fun k => match k with
  | _ => .int
theorem tyJ7_ok : ∀ k, k < 0 → parseFieldDescriptor (TJ7 k).2.2.1 = some (tyJ7 k) := by decide +kernel
abbrev cJ7_fill_53178 : ByteArray := prog_12_method_103_code
def yJ7_fill_53178 : MethodName := ⟨RJ7, "fill", "([II)V"⟩
def RL : String := "MirrorHouseLaw"
abbrev cL_law : ByteArray := code
def yL_law : MethodName := ⟨RL, "law", "([I)Z"⟩
abbrev vwCl : List vw_C := [(RX0, TX0, 3), (RX1, TX1, 18), (RX2, TX2, 5), (RX3, TX3, 3), (RX4, TX4, 11), (RX5, TX5, 8), (RX6, TX6, 13), (RX7, TX7, 46)]
theorem mhGiX0 : GoodIn lw_tbl wsX00 := goodIn_r _ [151, 153, 155] (by decide +kernel) (by decide +kernel)
theorem mhGiX1 : GoodIn lw_tbl wsX10 := goodIn_r _ [325, 327, 329, 331, 333, 335, 337, 339, 341, 343, 345, 347, 349, 351, 353, 355, 357, 359] (by decide +kernel) (by decide +kernel)
theorem mhGiX2 : GoodIn lw_tbl wsX20 := goodIn_r _ [500, 502, 504, 506, 508] (by decide +kernel) (by decide +kernel)
theorem mhGiX3 : GoodIn lw_tbl wsX30 := goodIn_r _ [170, 172, 174] (by decide +kernel) (by decide +kernel)
theorem mhGiX4 : GoodIn lw_tbl wsX40 := goodIn_r _ [118, 120, 122, 124, 126, 128, 130, 132, 134, 136, 138] (by decide +kernel) (by decide +kernel)
theorem mhGiX5 : GoodIn lw_tbl wsX50 := goodIn_r _ [562, 564, 566, 568, 570, 572, 574, 576] (by decide +kernel) (by decide +kernel)
theorem mhGiX6 : GoodIn lw_tbl wsX60 := goodIn_r _ [190, 192, 194, 196, 198, 200, 202, 204, 206, 208, 210, 212, 214] (by decide +kernel) (by decide +kernel)
theorem mhGiX7 : GoodIn lw_tbl wsX70 := goodIn_r _ [869, 871, 873, 875, 877, 879, 881, 883, 885, 887, 889, 891, 893, 895, 897, 899, 901, 903, 905, 907, 909, 911, 913, 915, 917, 919, 921, 923, 925, 927, 929, 931, 933, 935, 937, 939, 941, 943, 945, 947, 949, 951, 953, 955, 957, 959] (by decide +kernel) (by decide +kernel)
/-- the tables' words that hold on while the run goes on -/
def mhT : List Cond := lw_tbl.filter goodWord
theorem mhT_in {w : Cond} (h : w ∈ mhT) : w ∈ lw_tbl := (List.mem_filter.mp h).1
theorem mhT_of {w : Cond} (i : Nat) (h : lw_tbl[i]? = some w) (hg : goodWord w = true) : w ∈ mhT := List.mem_filter.mpr ⟨List.mem_of_getElem? h, hg⟩
theorem mhT_good : GoodIn mhT mhT := fun w h => ⟨h, good_of_word (List.mem_filter.mp h).2⟩
theorem inX0 : ∀ w ∈ wsX00, w ∈ mhT := fun w h => List.mem_filter.mpr ⟨(mhGiX0 w h).1, List.all_eq_true.mp (show wsX00.all goodWord = true by decide +kernel) w h⟩
theorem inX1 : ∀ w ∈ wsX10, w ∈ mhT := fun w h => List.mem_filter.mpr ⟨(mhGiX1 w h).1, List.all_eq_true.mp (show wsX10.all goodWord = true by decide +kernel) w h⟩
theorem inX2 : ∀ w ∈ wsX20, w ∈ mhT := fun w h => List.mem_filter.mpr ⟨(mhGiX2 w h).1, List.all_eq_true.mp (show wsX20.all goodWord = true by decide +kernel) w h⟩
theorem inX3 : ∀ w ∈ wsX30, w ∈ mhT := fun w h => List.mem_filter.mpr ⟨(mhGiX3 w h).1, List.all_eq_true.mp (show wsX30.all goodWord = true by decide +kernel) w h⟩
theorem inX4 : ∀ w ∈ wsX40, w ∈ mhT := fun w h => List.mem_filter.mpr ⟨(mhGiX4 w h).1, List.all_eq_true.mp (show wsX40.all goodWord = true by decide +kernel) w h⟩
theorem inX5 : ∀ w ∈ wsX50, w ∈ mhT := fun w h => List.mem_filter.mpr ⟨(mhGiX5 w h).1, List.all_eq_true.mp (show wsX50.all goodWord = true by decide +kernel) w h⟩
theorem inX6 : ∀ w ∈ wsX60, w ∈ mhT := fun w h => List.mem_filter.mpr ⟨(mhGiX6 w h).1, List.all_eq_true.mp (show wsX60.all goodWord = true by decide +kernel) w h⟩
theorem inX7 : ∀ w ∈ wsX70, w ∈ mhT := fun w h => List.mem_filter.mpr ⟨(mhGiX7 w h).1, List.all_eq_true.mp (show wsX70.all goodWord = true by decide +kernel) w h⟩
end
section
/-! THE SMALL HEAP: what a state of all objects is, in plain data; addresses are places in a list of shapes. -/
/-- where things lie: the tables' numbers, the array classes, the first address, the script -/
abbrev mhX : Type := va_G × (Nat → ClassId) × Nat × (Nat × Nat × (Nat → Int32))
/-- a shape: an array (its sort, its length) or an object (its class, its fields: a number, or a reference) -/
abbrev mhS : Type := (Nat × Nat) ⊕ (Nat × List (Option (Option Nat)))
abbrev mhF : Type := Nat → Nat → Int32
abbrev mhI : Type := Nat → Int32 → Int32
abbrev mhJ : Type := Nat → Int32 → Int64
abbrev mhP : Type := Nat → Int32 → Option Nat
/-- a method: name, code, locals, answer, room -/
abbrev mhM : Type := MethodName × ByteArray × Nat × Option FieldType × Room
abbrev mhQ : Type := Option Value → List mhS → mhF → mhI → mhJ → mhP → Prop
def mhTr (K : mhX) : Value → Value
  | .ref i => .ref (K.2.2.1 + i)
  | .retAddr _ => .ref K.2.2.2.1
  | v => v
def mhTys (K : mhX) : List (ClassId × FieldType) := [(K.2.1 0, .int), (K.2.1 1, .long), (K.2.1 2, .boolean), (K.2.1 3, .object RX3), (K.2.1 4, .object RX1), (K.2.1 5, .object RX2), (K.2.1 6, .object RX5)]
def mhArr (K : mhX) (I : mhI) (J : mhJ) (P : mhP) (a n : Nat) : Nat → vp_A
  | 0 => (n, .inl fun j => if j < n then I a (nI j) else 0)
  | 1 => (n, .inr (.inl fun j => if j < n then J a (nI j) else 0))
  | 2 => (n, .inl fun j => if j < n then I a (nI j) else 0)
  | _ => (n, .inr (.inr (.inr (.inr fun j => if j < n then (P a (nI j)).map (K.2.2.1 + ·) else none))))
def mhFld (K : mhX) (x : Int32) : Option (Option Nat) → Value
  | none => .int x
  | some none => .null
  | some (some q) => .ref (K.2.2.1 + q)
def mhCell (K : mhX) (F : mhF) (I : mhI) (J : mhJ) (P : mhP) (a : Nat) : mhS → va_E
  | .inl q => .inl (K.2.1 q.1, mhArr K I J P a q.2 q.1)
  | .inr q => .inr (q.1, q.2.mapIdx fun k r => mhFld K (F a k) r)
def mhW (K : mhX) (S : List mhS) (F : mhF) (I : mhI) (J : mhJ) (P : mhP) : va_W := S.mapIdx fun a sh => (K.2.2.1 + a, mhCell K F I J P a sh)
def mhRep (K : mhX) (S : List mhS) (F : mhF) (I : mhI) (J : mhJ) (P : mhP) (H : Heap) : Prop := H.size = K.2.2.1 + S.length ∧ va_P K.1 vwCl (mhW K S F I J P) H
theorem mhW_get {K : mhX} {S : List mhS} {F : mhF} {I : mhI} {J : mhJ} {P : mhP} {a : Nat} {sh : mhS} (h : S[a]? = some sh) : (mhW K S F I J P)[a]? = some (K.2.2.1 + a, mhCell K F I J P a sh) := by
  simp [mhW, List.getElem?_mapIdx, h]
theorem mhW_at {K : mhX} {S : List mhS} {F : mhF} {I : mhI} {J : mhJ} {P : mhP} {a : Nat} {q : Nat × va_E} (h : (mhW K S F I J P)[a]? = some q) : ∃ sh, S[a]? = some sh ∧ q = (K.2.2.1 + a, mhCell K F I J P a sh) := by
  simp only [mhW, List.getElem?_mapIdx, Option.map_eq_some_iff] at h
  obtain ⟨sh, h1, h2⟩ := h
  exact ⟨sh, h1, h2.symm⟩
theorem mhW_D {K : mhX} {S : List mhS} {F : mhF} {I : mhI} {J : mhJ} {P : mhP} : va_D (fun q => K.2.2.1 ≤ q) (mhW K S F I J P) := by
  refine ⟨fun i j p q hi hj hpq => ?_, fun k q hk => ?_⟩
  · obtain ⟨s1, -, rfl⟩ := mhW_at hi
    obtain ⟨s2, -, rfl⟩ := mhW_at hj
    exact Nat.add_left_cancel hpq
  · obtain ⟨s1, -, rfl⟩ := mhW_at hk
    exact Nat.le_add_right _ _
/-- the world with one cell put anew is the world of what is put anew -/
theorem mhW_set {K : mhX} {S S' : List mhS} {F F' : mhF} {I I' : mhI} {J J' : mhJ} {P P' : mhP} {a : Nat} {sh' : mhS} (h' : S' = S.set a sh') (ha : a < S.length) (e : va_E) (he : e = mhCell K F' I' J' P' a sh')
    (ho : ∀ b sh, b ≠ a → S[b]? = some sh → mhCell K F' I' J' P' b sh = mhCell K F I J P b sh) : (mhW K S F I J P).set a (K.2.2.1 + a, e) = mhW K S' F' I' J' P' := by
  apply List.ext_getElem?
  intro b
  subst h'
  by_cases hb : b = a
  · subst hb
    rw [List.getElem?_set_self (by simp [mhW, ha]), mhW_get (by rw [List.getElem?_set_self ha]), he]
  · rw [List.getElem?_set_ne (Ne.symm hb)]
    cases hs : S[b]? with
    | none => simp [mhW, List.getElem?_mapIdx, hs, List.getElem?_set_ne (Ne.symm hb)]
    | some sh => rw [mhW_get hs, mhW_get (by rw [List.getElem?_set_ne (Ne.symm hb), hs]), ho b sh hb hs]
theorem mhW_set0 {K : mhX} {S : List mhS} {F F' : mhF} {I I' : mhI} {J J' : mhJ} {P P' : mhP} {a : Nat} {sh : mhS} (ha : S[a]? = some sh) (e : va_E) (he : e = mhCell K F' I' J' P' a sh)
    (ho : ∀ b sh, b ≠ a → S[b]? = some sh → mhCell K F' I' J' P' b sh = mhCell K F I J P b sh) : (mhW K S F I J P).set a (K.2.2.1 + a, e) = mhW K S F' I' J' P' := by
  have hl := (List.getElem?_eq_some_iff.mp ha).1
  refine mhW_set (sh' := sh) ?_ hl e he ho
  apply List.ext_getElem?
  intro b
  by_cases hb : b = a
  · subst hb; rw [List.getElem?_set_self hl, ha]
  · rw [List.getElem?_set_ne (Ne.symm hb)]
/-! locals -/
def mhL (K : mhX) (n : Nat) (ls : Array Slot) (lo : List (Option Value)) : Prop := ls.size = n ∧ lo.length = n ∧ lv_wf ls ∧ ∀ (i : Nat) (v : Value), lo[i]? = some (some v) → ls[i]? = some (.val (mhTr K v)) ∧ (mhTr K v).category = 1
def mhLl (K : mhX) (lo : List (Option Value)) : List (Nat × Value) := (List.range lo.length).filterMap fun j => match lo[j]? with
  | some (some v) => some (j, mhTr K v)
  | _ => none
theorem mhLl_mem {K : mhX} {lo : List (Option Value)} {q : Nat × Value} : q ∈ mhLl K lo ↔ ∃ v, lo[q.1]? = some (some v) ∧ q.2 = mhTr K v := by
  unfold mhLl
  rw [List.mem_filterMap]
  constructor
  · rintro ⟨j, hj, h⟩
    split at h
    · rename_i v hv
      cases h
      exact ⟨v, hv, rfl⟩
    · cases h
  · rintro ⟨v, hv, h2⟩
    refine ⟨q.1, List.mem_range.mpr (List.getElem?_eq_some_iff.mp hv).1, ?_⟩
    rw [hv]
    obtain ⟨q1, q2⟩ := q
    cases h2
    rfl
theorem mhL_has {K : mhX} {n : Nat} {ls : Array Slot} {lo : List (Option Value)} (h : mhL K n ls lo) : lv_has ls n (mhLl K lo) := ⟨h.1, h.2.2.1, fun q hq => by
  obtain ⟨v, h1, h2⟩ := mhLl_mem.mp hq
  rw [h2]
  exact (h.2.2.2 _ _ h1).1⟩
theorem mhL_store {K : mhX} {n : Nat} {ls ls' : Array Slot} {lo : List (Option Value)} {i : Nat} {v : Value} (h : mhL K n ls lo) (hi : i < n) (hc : (mhTr K v).category = 1)
    (h' : lv_has ls' n ((i, mhTr K v) :: (mhLl K lo).filter (fun q => !(q.1 == i) && !(q.1 + 1 == i && q.2.category == 2)))) : mhL K n ls' (lo.set i (some v)) := by
  refine ⟨h'.1, by rw [List.length_set]; exact h.2.1, h'.2.1, fun j w hj => ?_⟩
  by_cases e : j = i
  · subst e
    rw [List.getElem?_set_self (by rw [h.2.1]; exact hi)] at hj
    cases hj
    exact ⟨h'.2.2 _ List.mem_cons_self, hc⟩
  · rw [List.getElem?_set_ne (Ne.symm e)] at hj
    have hw := (h.2.2.2 j w hj).2
    refine ⟨h'.2.2 (j, mhTr K w) (List.mem_cons_of_mem _ (List.mem_filter.mpr ⟨mhLl_mem.mpr ⟨w, hj, rfl⟩, ?_⟩)), hw⟩
    simp [e, hw]
theorem mhL_entry {K : mhX} {n : Nat} (vs : List Value) (hc : ∀ v ∈ vs, (mhTr K v).category = 1) (hn : vs.length ≤ n) : mhL K n ((lg_sl (vs.map (mhTr K)) ++ List.replicate (n - (lg_sl (vs.map (mhTr K))).length) Slot.unset).toArray) (vs.map some ++ List.replicate (n - vs.length) none) := by
  have e : ∀ ws : List Value, (∀ v ∈ ws, v.category = 1) → lg_sl ws = ws.map Slot.val := by
    intro ws
    induction ws with
    | nil => intro _; rfl
    | cons a r ih =>
      intro h
      have h1 := ih (fun v hv => h v (List.mem_cons_of_mem _ hv))
      unfold lg_sl at h1 ⊢
      rw [List.flatMap_cons, h1, if_neg (by rw [h a List.mem_cons_self]; decide)]
      rfl
  have e1 := e (vs.map (mhTr K)) (by intro v hv; obtain ⟨w, h1, rfl⟩ := List.mem_map.mp hv; exact hc w h1)
  have hl := lv_entry (vs.map (mhTr K)) (n := n) (by rw [e1]; simpa using hn)
  refine ⟨hl.1, by simp; omega, hl.2.1, fun i v hi => ?_⟩
  rcases Nat.lt_or_ge i vs.length with h | h
  · rw [List.getElem?_append_left (by simpa using h)] at hi
    simp only [List.getElem?_map, Option.map_eq_some_iff, Option.some.injEq] at hi
    obtain ⟨w, h1, rfl⟩ := hi
    refine ⟨?_, hc w (List.mem_of_getElem? h1)⟩
    rw [e1]
    have hw := (List.getElem?_eq_some_iff.mp h1).2
    simp [List.getElem?_append_left, h, h1, hw]
  · rw [List.getElem?_append_right (by simpa using h)] at hi
    simp only [List.getElem?_replicate] at hi
    split at hi <;> cases hi
end
section
/-! THE JUDGEMENT over the small heap -/
def mhNest : List (String × Nat × MethodName × String) := [("MirrorHouse", 41, yX4_init, "MirrorHouse"), ("MirrorHouse", 48, yX0_init, "MirrorHouse"), ("MirrorHouse", 53, yX3_init, "MirrorHouse"), ("MirrorHouse$House", 64, yX6_sidesOf, "MirrorHouse"), ("MirrorHouse$House", 82, yX6_within, "MirrorHouse")]
def mhAOs : List String := [RX3, RX1, RX2, RX5]
/-- what the tables say, at any state of the run -/
def mhG (K : mhX) (U : State) : Prop := va_K K.1 vwCl (mhTys K) U ∧ (∀ q ∈ mhNest, va_Nw (.methodLinkNest q.1 q.2.1 q.2.2.1 q.2.2.2) U) ∧ ∀ C ∈ mhAOs, va_AO C U
theorem mhG.warm {K : mhX} {s U : State} (hW : s.WarmedH U.vm) (h : mhG K s) : mhG K U := ⟨va_K.moved hW.alike h.1, fun q hq => va_Nw.warmM hW (h.2.1 q hq), fun C hC => va_AO.moved hW.alike (h.2.2 C hC)⟩
theorem mhG.same {K : mhX} {s U : State} (hv : s.vm = U.vm) (h : mhG K s) : mhG K U := ⟨va_K.moved (hv ▸ Vm.Alike.refl s.vm) h.1, fun q hq => va_Nw.same rfl hv (h.2.1 q hq), fun C hC => va_AO.moved (hv ▸ Vm.Alike.refl s.vm) (h.2.2 C hC)⟩
def mhFx (K : mhX) (M : mhM) (p : Program) (s : State) (m : MethodId) (args : Array Value) (meth : Method) (c : Code) : Prop :=
  p.tables.exec = Jvm.exec ∧ c.code = M.2.1 ∧ c.maxLocals = M.2.2.1 ∧ s.vm.findClass M.1.cls = some m.cls ∧ (∀ w ∈ mhT, w.before args s = true) ∧ mhG K s ∧ K.2.2.1 ≤ s.heap.size ∧ (M.1.name = "<init>" → meth.name = "<init>") ∧
  (M.1.name = "law" → va_X K.2.2.2.1 K.2.2.2.2.1 K.2.2.2.2.2 s s.heap ∧ K.2.2.2.1 < s.heap.size ∧ K.2.2.2.1 < K.2.2.1)
/-- how a method may end -/
def mhEnd (M : mhM) (v : Option Value) (pc : Nat) : Prop := match v with
  | none => M.2.2.2.1 = none ∧ decode M.2.1 pc = .ok (.return_, 1)
  | some (.int x) => (∃ ty, M.2.2.2.1 = some ty ∧ narrow ty (.int x) = .int x) ∧ decode M.2.1 pc = .ok (.ireturn, 1)
  | some (.long _) => M.2.2.2.1 = some .long ∧ decode M.2.1 pc = .ok (.lreturn, 1)
  | some .null => (∃ n, M.2.2.2.1 = some (.object n)) ∧ decode M.2.1 pc = .ok (.areturn, 1)
  | some (.ref _) => (∃ n, M.2.2.2.1 = some (.object n)) ∧ decode M.2.1 pc = .ok (.areturn, 1)
  | _ => False
def mhRet (K : mhX) (M : mhM) (p : Program) (l : Launch) (e : Env) (s : State) (m : MethodId) (args : Array Value) (below : List Frame) (meth : Method) (c : Code) (Q : State → Prop) (MC MS : Nat) (Φ : mhQ) : Prop :=
  ∀ (v : Option Value) (S : List mhS) (F : mhF) (I : mhI) (J : mhJ) (P : mhP) (H : Heap) (locs : List Loc) (cells slots pc : Nat) (ls : Array Slot), Φ v S F I J P → mhRep K S F I J P H → va_S (fun q => K.2.2.1 ≤ q) s.heap H locs → cells ≤ MC → slots ≤ MS → mhEnd M v pc →
    W p l e M.2.2.2.2 s m args below meth c H locs cells slots Q (F0 m pc ls (v.toList.map (mhTr K)))
/-- from here, at these locals and this stack, the method comes to its end with Φ -/
def mhV (l : Launch) (K : mhX) (M : mhM) (kc ks : Nat) (Φ : mhQ) (pc : Nat) (lo : List (Option Value)) (st : List Value) (S : List mhS) (F : mhF) (I : mhI) (J : mhJ) (P : mhP) : Prop :=
  ∀ (p : Program) (e : Env) (s : State) (m : MethodId) (args : Array Value) (below : List Frame) (meth : Method) (c : Code) (Q : State → Prop) (MC MS : Nat), mhFx K M p s m args meth c → MC ≤ M.2.2.2.2.cells → MS ≤ M.2.2.2.2.slots → mhRet K M p l e s m args below meth c Q MC MS Φ →
    ∀ (H : Heap) (locs : List Loc) (cells slots : Nat) (ls : Array Slot), mhRep K S F I J P H → va_S (fun q => K.2.2.1 ≤ q) s.heap H locs → mhL K M.2.2.1 ls lo → cells + kc ≤ MC → slots + ks ≤ MS →
      W p l e M.2.2.2.2 s m args below meth c H locs cells slots Q (F0 m pc ls (st.map (mhTr K)))
def mhPre (K : mhX) (as : List Value) (S : List mhS) (F : mhF) (I : mhI) (J : mhJ) (P : mhP) : Array Value → State → Prop := fun v U => v = (as.map (mhTr K)).toArray ∧ mhRep K S F I J P U.heap ∧ mhG K U
def mhPost (K : mhX) (Φ : mhQ) : Array Value → State → Outcome → State → Prop := fun _ st oc t => (∃ (v : Option Value) (S : List mhS) (F : mhF) (I : mhI) (J : mhJ) (P : mhP), oc = .returned (v.map (mhTr K)) ∧ Φ v S F I J P ∧ mhRep K S F I J P t.heap) ∧ va_F (fun q => K.2.2.1 ≤ q) st t
def mhWs (M : mhM) : List Cond := .code M.1 M.2.1 M.2.2.1 M.2.2.2.1 :: mhT
/-- a method, called with these, comes to its end with Φ -/
def mhOk (l : Launch) (K : mhX) (M : mhM) (as : List Value) (S : List mhS) (F : mhF) (I : mhI) (J : mhJ) (P : mhP) (Φ : mhQ) : Prop :=
  Met l M.1 (mhWs M) M.2.2.2.2 (mhPre K as S F I J P) (mhPost K Φ) M.2.2.2.2.cells M.2.2.2.2.slots (fun q => K.2.2.1 ≤ q)
theorem mhFx.hA {K : mhX} {M : mhM} {p : Program} {s : State} {m : MethodId} {args : Array Value} {meth : Method} {c : Code} (h : mhFx K M p s m args meth c) : ∀ q : Nat, s.heap.size ≤ q → K.2.2.1 ≤ q := fun q hq => Nat.le_trans h.2.2.2.2.2.2.1 hq
/-- a method out of its body -/
theorem mhOk.of {l : Launch} {K : mhX} {M : mhM} {as : List Value} {S : List mhS} {F : mhF} {I : mhI} {J : mhJ} {P : mhP} {Φ : mhQ} (hpl : plainName M.1.cls = true) (hnl : M.1.name ≠ "law") (hc : (as.map (fun v => decide ((mhTr K v).category = 1))).all id = true) (hn : as.length ≤ M.2.2.1)
    (h : mhV l K M M.2.2.2.2.cells M.2.2.2.2.slots Φ 0 (as.map some ++ List.replicate (M.2.2.1 - as.length) none) [] S F I J P) : mhOk l K M as S F I J P Φ := by
  refine Met.ofW (cc := M.2.1) (maxL := M.2.2.1) (ret := M.2.2.2.1) hpl rfl ?_
  intro p e s m args below meth c s₁ B hml hv
  obtain ⟨rfl, hrep, hG⟩ := hv
  have hts := atoms_spec (ws := mhWs M) B.pre
  have hlocks := B.notSynchronized
  have hcat : ∀ v ∈ as, (mhTr K v).category = 1 := fun v hv => by
    have := List.all_eq_true.mp hc (decide ((mhTr K v).category = 1)) (List.mem_map.mpr ⟨v, hv, rfl⟩)
    simpa using this
  have hl := mhL_entry (K := K) as hcat hn
  rw [lg_entry_eq]
  refine h p e s m _ below meth c _ M.2.2.2.2.cells M.2.2.2.2.slots ⟨B.exec, B.bytes, hml, findClass_of_methodNamed B.named, fun w hw => hts w (List.mem_cons_of_mem _ hw), hG, by rw [hrep.1]; exact Nat.le_add_right _ _, fun e => (name_of_methodNamed B.named B.method).1.trans e, fun e => absurd e hnl⟩ (Nat.le_refl _) (Nat.le_refl _) ?_ s.heap [] 0 0 _ hrep va_S.rf hl (by omega) (by omega)
  intro v S' F' I' J' P' H locs cells slots pc ls hΦ hr' hS' hcl hsl hend
  have hq : ∀ t : State, t.heap = H → mhPost K Φ (as.map (mhTr K)).toArray s (.returned (v.map (mhTr K))) t := fun t ht => ⟨⟨v, S', F', I', J', P', rfl, hΦ, by rw [ht]; exact hr'⟩, hS'.F ht⟩
  refine W.widen (k := M.2.2.2.2.cells) (n := M.2.2.2.2.slots) hcl hsl ?_
  have hr := B.returns
  match v, hend, hq with
  | none, hend, hq => exact W.vret B.exec B.bytes (hr.trans hend.1) (fun t ht _ => hq t ht) hS'.2.2 hend.2
  | some (.int x), hend, hq =>
    obtain ⟨⟨ty, h1, h2⟩, h3⟩ := hend
    exact W.zret B.exec B.bytes (hr.trans h1) h2 (fun t ht _ => hq t ht) hS'.2.2 h3
  | some (.long x), hend, hq => exact W.lret B.exec B.bytes (hr.trans hend.1) (fun t ht _ => hq t ht) hS'.2.2 hend.2
  | some .null, hend, hq =>
    obtain ⟨⟨n, h1⟩, h3⟩ := hend
    exact W.aret B.exec B.bytes (hr.trans h1) (Or.inl ⟨n, rfl⟩) (Or.inl rfl) (fun t ht _ => hq t ht) hS'.2.2 h3
  | some (.ref a), hend, hq =>
    obtain ⟨⟨n, h1⟩, h3⟩ := hend
    exact W.aret B.exec B.bytes (hr.trans h1) (Or.inl ⟨n, rfl⟩) (Or.inr ⟨_, rfl⟩) (fun t ht _ => hq t ht) hS'.2.2 h3
  | some (.float _), hend, _ => exact hend.elim
  | some (.double _), hend, _ => exact hend.elim
  | some (.retAddr _), hend, _ => exact hend.elim
theorem mhPre_blind {K : mhX} {as : List Value} {S : List mhS} {F : mhF} {I : mhI} {J : mhJ} {P : mhP} : FrameBlind (mhPre K as S F I J P) := fun a U g mk h => ⟨h.1, h.2.1, h.2.2.same rfl⟩
end
section
section MHR
variable {l : Launch} {K : mhX} {M : mhM} {kc ks : Nat} {Φ : mhQ} {pc q : Nat} {lo : List (Option Value)} {st : List Value} {S : List mhS} {F : mhF} {I : mhI} {J : mhJ} {P : mhP}
theorem mh_iconst_m1  (hd : decode M.2.1 pc = .ok (.iconst (-1), 1)) (hq : pc + 1 = q)  (k : mhV l K M kc ks Φ q lo (.int (-1) :: st) S F I J P) : mhV l K M kc ks Φ pc lo st S F I J P := by
  intro p e s m args below meth c Q MC MS hF h1 h2 hR H locs cells slots ls hr hS hl hc hs
  subst hq
  exact lv_iconst hF.1 hF.2.1 hd (by decide) (k p e s m args below meth c Q MC MS hF h1 h2 hR H locs cells slots ls hr hS hl hc hs)
theorem mh_iconst_0  (hd : decode M.2.1 pc = .ok (.iconst 0, 1)) (hq : pc + 1 = q)  (k : mhV l K M kc ks Φ q lo (.int 0 :: st) S F I J P) : mhV l K M kc ks Φ pc lo st S F I J P := by
  intro p e s m args below meth c Q MC MS hF h1 h2 hR H locs cells slots ls hr hS hl hc hs
  subst hq
  exact lv_iconst hF.1 hF.2.1 hd (by decide) (k p e s m args below meth c Q MC MS hF h1 h2 hR H locs cells slots ls hr hS hl hc hs)
theorem mh_iconst_1  (hd : decode M.2.1 pc = .ok (.iconst 1, 1)) (hq : pc + 1 = q)  (k : mhV l K M kc ks Φ q lo (.int 1 :: st) S F I J P) : mhV l K M kc ks Φ pc lo st S F I J P := by
  intro p e s m args below meth c Q MC MS hF h1 h2 hR H locs cells slots ls hr hS hl hc hs
  subst hq
  exact lv_iconst hF.1 hF.2.1 hd (by decide) (k p e s m args below meth c Q MC MS hF h1 h2 hR H locs cells slots ls hr hS hl hc hs)
theorem mh_iconst_2  (hd : decode M.2.1 pc = .ok (.iconst 2, 1)) (hq : pc + 1 = q)  (k : mhV l K M kc ks Φ q lo (.int 2 :: st) S F I J P) : mhV l K M kc ks Φ pc lo st S F I J P := by
  intro p e s m args below meth c Q MC MS hF h1 h2 hR H locs cells slots ls hr hS hl hc hs
  subst hq
  exact lv_iconst hF.1 hF.2.1 hd (by decide) (k p e s m args below meth c Q MC MS hF h1 h2 hR H locs cells slots ls hr hS hl hc hs)
theorem mh_iconst_3  (hd : decode M.2.1 pc = .ok (.iconst 3, 1)) (hq : pc + 1 = q)  (k : mhV l K M kc ks Φ q lo (.int 3 :: st) S F I J P) : mhV l K M kc ks Φ pc lo st S F I J P := by
  intro p e s m args below meth c Q MC MS hF h1 h2 hR H locs cells slots ls hr hS hl hc hs
  subst hq
  exact lv_iconst hF.1 hF.2.1 hd (by decide) (k p e s m args below meth c Q MC MS hF h1 h2 hR H locs cells slots ls hr hS hl hc hs)
theorem mh_iconst_4  (hd : decode M.2.1 pc = .ok (.iconst 4, 1)) (hq : pc + 1 = q)  (k : mhV l K M kc ks Φ q lo (.int 4 :: st) S F I J P) : mhV l K M kc ks Φ pc lo st S F I J P := by
  intro p e s m args below meth c Q MC MS hF h1 h2 hR H locs cells slots ls hr hS hl hc hs
  subst hq
  exact lv_iconst hF.1 hF.2.1 hd (by decide) (k p e s m args below meth c Q MC MS hF h1 h2 hR H locs cells slots ls hr hS hl hc hs)
theorem mh_iconst_5  (hd : decode M.2.1 pc = .ok (.iconst 5, 1)) (hq : pc + 1 = q)  (k : mhV l K M kc ks Φ q lo (.int 5 :: st) S F I J P) : mhV l K M kc ks Φ pc lo st S F I J P := by
  intro p e s m args below meth c Q MC MS hF h1 h2 hR H locs cells slots ls hr hS hl hc hs
  subst hq
  exact lv_iconst hF.1 hF.2.1 hd (by decide) (k p e s m args below meth c Q MC MS hF h1 h2 hR H locs cells slots ls hr hS hl hc hs)
theorem mh_bipush {n : Int} {v : Int32} (hd : decode M.2.1 pc = .ok (.bipush n, 2)) (hq : pc + 2 = q) (hv : (Int8.ofInt n).toInt32 = v) (k : mhV l K M kc ks Φ q lo (.int v :: st) S F I J P) : mhV l K M kc ks Φ pc lo st S F I J P := by
  intro p e s m args below meth c Q MC MS hF h1 h2 hR H locs cells slots ls hr hS hl hc hs
  subst hq
  exact lv_bipush hF.1 hF.2.1 hd hv (k p e s m args below meth c Q MC MS hF h1 h2 hR H locs cells slots ls hr hS hl hc hs)
theorem mh_sipush {n : Int} {v : Int32} (hd : decode M.2.1 pc = .ok (.sipush n, 3)) (hq : pc + 3 = q) (hv : (Int16.ofInt n).toInt32 = v) (k : mhV l K M kc ks Φ q lo (.int v :: st) S F I J P) : mhV l K M kc ks Φ pc lo st S F I J P := by
  intro p e s m args below meth c Q MC MS hF h1 h2 hR H locs cells slots ls hr hS hl hc hs
  subst hq
  exact lv_sipush hF.1 hF.2.1 hd hv (k p e s m args below meth c Q MC MS hF h1 h2 hR H locs cells slots ls hr hS hl hc hs)
theorem mh_aconst_null  (hd : decode M.2.1 pc = .ok (.aconst_null, 1)) (hq : pc + 1 = q)  (k : mhV l K M kc ks Φ q lo (.null :: st) S F I J P) : mhV l K M kc ks Φ pc lo st S F I J P := by
  intro p e s m args below meth c Q MC MS hF h1 h2 hR H locs cells slots ls hr hS hl hc hs
  subst hq
  exact lv_null hF.1 hF.2.1 hd (k p e s m args below meth c Q MC MS hF h1 h2 hR H locs cells slots ls hr hS hl hc hs)
theorem mh_lconst_0  (hd : decode M.2.1 pc = .ok (.lconst 0, 1)) (hq : pc + 1 = q)  (k : mhV l K M kc ks Φ q lo (.long 0 :: st) S F I J P) : mhV l K M kc ks Φ pc lo st S F I J P := by
  intro p e s m args below meth c Q MC MS hF h1 h2 hR H locs cells slots ls hr hS hl hc hs
  subst hq
  exact lv_lconst hF.1 hF.2.1 hd (by decide) (k p e s m args below meth c Q MC MS hF h1 h2 hR H locs cells slots ls hr hS hl hc hs)
theorem mh_lconst_1  (hd : decode M.2.1 pc = .ok (.lconst 1, 1)) (hq : pc + 1 = q)  (k : mhV l K M kc ks Φ q lo (.long 1 :: st) S F I J P) : mhV l K M kc ks Φ pc lo st S F I J P := by
  intro p e s m args below meth c Q MC MS hF h1 h2 hR H locs cells slots ls hr hS hl hc hs
  subst hq
  exact lv_lconst hF.1 hF.2.1 hd (by decide) (k p e s m args below meth c Q MC MS hF h1 h2 hR H locs cells slots ls hr hS hl hc hs)
theorem mh_ldc2_w {ix : Nat} {v : Int64} (hd : decode M.2.1 pc = .ok (.ldc2_w ix, 3)) (hq : pc + 3 = q) (hw : Cond.constantLong M.1.cls ix v ∈ mhT) (k : mhV l K M kc ks Φ q lo (.long v :: st) S F I J P) : mhV l K M kc ks Φ pc lo st S F I J P := by
  intro p e s m args below meth c Q MC MS hF h1 h2 hR H locs cells slots ls hr hS hl hc hs
  subst hq
  exact lv_ldc2 hF.1 hF.2.1 hF.2.2.2.1 (hF.2.2.2.2.1 _ hw) hd (k p e s m args below meth c Q MC MS hF h1 h2 hR H locs cells slots ls hr hS hl hc hs)
theorem mh_iadd {x y : Int32} (hd : decode M.2.1 pc = .ok (.iadd, 1)) (hq : pc + 1 = q)  (k : mhV l K M kc ks Φ q lo (.int (x + y) :: st) S F I J P) : mhV l K M kc ks Φ pc lo (.int y :: .int x :: st) S F I J P := by
  intro p e s m args below meth c Q MC MS hF h1 h2 hR H locs cells slots ls hr hS hl hc hs
  subst hq
  exact lv_iadd hF.1 hF.2.1 hd (k p e s m args below meth c Q MC MS hF h1 h2 hR H locs cells slots ls hr hS hl hc hs)
theorem mh_isub {x y : Int32} (hd : decode M.2.1 pc = .ok (.isub, 1)) (hq : pc + 1 = q)  (k : mhV l K M kc ks Φ q lo (.int (x - y) :: st) S F I J P) : mhV l K M kc ks Φ pc lo (.int y :: .int x :: st) S F I J P := by
  intro p e s m args below meth c Q MC MS hF h1 h2 hR H locs cells slots ls hr hS hl hc hs
  subst hq
  exact lv_isub hF.1 hF.2.1 hd (k p e s m args below meth c Q MC MS hF h1 h2 hR H locs cells slots ls hr hS hl hc hs)
theorem mh_imul {x y : Int32} (hd : decode M.2.1 pc = .ok (.imul, 1)) (hq : pc + 1 = q)  (k : mhV l K M kc ks Φ q lo (.int (x * y) :: st) S F I J P) : mhV l K M kc ks Φ pc lo (.int y :: .int x :: st) S F I J P := by
  intro p e s m args below meth c Q MC MS hF h1 h2 hR H locs cells slots ls hr hS hl hc hs
  subst hq
  exact lv_imul hF.1 hF.2.1 hd (k p e s m args below meth c Q MC MS hF h1 h2 hR H locs cells slots ls hr hS hl hc hs)
theorem mh_iand {x y : Int32} (hd : decode M.2.1 pc = .ok (.iand, 1)) (hq : pc + 1 = q)  (k : mhV l K M kc ks Φ q lo (.int (x &&& y) :: st) S F I J P) : mhV l K M kc ks Φ pc lo (.int y :: .int x :: st) S F I J P := by
  intro p e s m args below meth c Q MC MS hF h1 h2 hR H locs cells slots ls hr hS hl hc hs
  subst hq
  exact lv_iand hF.1 hF.2.1 hd (k p e s m args below meth c Q MC MS hF h1 h2 hR H locs cells slots ls hr hS hl hc hs)
theorem mh_ior {x y : Int32} (hd : decode M.2.1 pc = .ok (.ior, 1)) (hq : pc + 1 = q)  (k : mhV l K M kc ks Φ q lo (.int (x ||| y) :: st) S F I J P) : mhV l K M kc ks Φ pc lo (.int y :: .int x :: st) S F I J P := by
  intro p e s m args below meth c Q MC MS hF h1 h2 hR H locs cells slots ls hr hS hl hc hs
  subst hq
  exact lv_ior hF.1 hF.2.1 hd (k p e s m args below meth c Q MC MS hF h1 h2 hR H locs cells slots ls hr hS hl hc hs)
theorem mh_ixor {x y : Int32} (hd : decode M.2.1 pc = .ok (.ixor, 1)) (hq : pc + 1 = q)  (k : mhV l K M kc ks Φ q lo (.int (x ^^^ y) :: st) S F I J P) : mhV l K M kc ks Φ pc lo (.int y :: .int x :: st) S F I J P := by
  intro p e s m args below meth c Q MC MS hF h1 h2 hR H locs cells slots ls hr hS hl hc hs
  subst hq
  exact lv_ixor hF.1 hF.2.1 hd (k p e s m args below meth c Q MC MS hF h1 h2 hR H locs cells slots ls hr hS hl hc hs)
theorem mh_ishl {x y : Int32} (hd : decode M.2.1 pc = .ok (.ishl, 1)) (hq : pc + 1 = q)  (k : mhV l K M kc ks Φ q lo (.int (x <<< (y &&& 31)) :: st) S F I J P) : mhV l K M kc ks Φ pc lo (.int y :: .int x :: st) S F I J P := by
  intro p e s m args below meth c Q MC MS hF h1 h2 hR H locs cells slots ls hr hS hl hc hs
  subst hq
  exact lv_ishl hF.1 hF.2.1 hd (k p e s m args below meth c Q MC MS hF h1 h2 hR H locs cells slots ls hr hS hl hc hs)
theorem mh_ishr {x y : Int32} (hd : decode M.2.1 pc = .ok (.ishr, 1)) (hq : pc + 1 = q)  (k : mhV l K M kc ks Φ q lo (.int (x >>> (y &&& 31)) :: st) S F I J P) : mhV l K M kc ks Φ pc lo (.int y :: .int x :: st) S F I J P := by
  intro p e s m args below meth c Q MC MS hF h1 h2 hR H locs cells slots ls hr hS hl hc hs
  subst hq
  exact lv_ishr hF.1 hF.2.1 hd (k p e s m args below meth c Q MC MS hF h1 h2 hR H locs cells slots ls hr hS hl hc hs)
theorem mh_iushr {x y : Int32} (hd : decode M.2.1 pc = .ok (.iushr, 1)) (hq : pc + 1 = q)  (k : mhV l K M kc ks Φ q lo (.int ((x.toUInt32 >>> (y.toUInt32 &&& Int32.toUInt32 31)).toInt32) :: st) S F I J P) : mhV l K M kc ks Φ pc lo (.int y :: .int x :: st) S F I J P := by
  intro p e s m args below meth c Q MC MS hF h1 h2 hR H locs cells slots ls hr hS hl hc hs
  subst hq
  exact lv_iushr hF.1 hF.2.1 hd rfl (k p e s m args below meth c Q MC MS hF h1 h2 hR H locs cells slots ls hr hS hl hc hs)
theorem mh_idiv {x y : Int32} (hd : decode M.2.1 pc = .ok (.idiv, 1)) (hq : pc + 1 = q) (hn : ¬ y = 0) (k : mhV l K M kc ks Φ q lo (.int (x / y) :: st) S F I J P) : mhV l K M kc ks Φ pc lo (.int y :: .int x :: st) S F I J P := by
  intro p e s m args below meth c Q MC MS hF h1 h2 hR H locs cells slots ls hr hS hl hc hs
  subst hq
  exact lv_idiv hF.1 hF.2.1 hd hn (k p e s m args below meth c Q MC MS hF h1 h2 hR H locs cells slots ls hr hS hl hc hs)
theorem mh_irem {x y : Int32} (hd : decode M.2.1 pc = .ok (.irem, 1)) (hq : pc + 1 = q) (hn : ¬ y = 0) (k : mhV l K M kc ks Φ q lo (.int (x - x / y * y) :: st) S F I J P) : mhV l K M kc ks Φ pc lo (.int y :: .int x :: st) S F I J P := by
  intro p e s m args below meth c Q MC MS hF h1 h2 hR H locs cells slots ls hr hS hl hc hs
  subst hq
  exact lv_irem hF.1 hF.2.1 hd hn (k p e s m args below meth c Q MC MS hF h1 h2 hR H locs cells slots ls hr hS hl hc hs)
theorem mh_ineg {x : Int32} (hd : decode M.2.1 pc = .ok (.ineg, 1)) (hq : pc + 1 = q)  (k : mhV l K M kc ks Φ q lo (.int (-x) :: st) S F I J P) : mhV l K M kc ks Φ pc lo (.int x :: st) S F I J P := by
  intro p e s m args below meth c Q MC MS hF h1 h2 hR H locs cells slots ls hr hS hl hc hs
  subst hq
  exact lv_ineg hF.1 hF.2.1 hd (k p e s m args below meth c Q MC MS hF h1 h2 hR H locs cells slots ls hr hS hl hc hs)
theorem mh_i2l {x : Int32} (hd : decode M.2.1 pc = .ok (.i2l, 1)) (hq : pc + 1 = q)  (k : mhV l K M kc ks Φ q lo (.long x.toInt64 :: st) S F I J P) : mhV l K M kc ks Φ pc lo (.int x :: st) S F I J P := by
  intro p e s m args below meth c Q MC MS hF h1 h2 hR H locs cells slots ls hr hS hl hc hs
  subst hq
  exact lv_i2l hF.1 hF.2.1 hd rfl (k p e s m args below meth c Q MC MS hF h1 h2 hR H locs cells slots ls hr hS hl hc hs)
theorem mh_i2b {x : Int32} (hd : decode M.2.1 pc = .ok (.i2b, 1)) (hq : pc + 1 = q)  (k : mhV l K M kc ks Φ q lo (.int x.toInt8.toInt32 :: st) S F I J P) : mhV l K M kc ks Φ pc lo (.int x :: st) S F I J P := by
  intro p e s m args below meth c Q MC MS hF h1 h2 hR H locs cells slots ls hr hS hl hc hs
  subst hq
  exact lv_i2b hF.1 hF.2.1 hd rfl (k p e s m args below meth c Q MC MS hF h1 h2 hR H locs cells slots ls hr hS hl hc hs)
theorem mh_i2s {x : Int32} (hd : decode M.2.1 pc = .ok (.i2s, 1)) (hq : pc + 1 = q)  (k : mhV l K M kc ks Φ q lo (.int x.toInt16.toInt32 :: st) S F I J P) : mhV l K M kc ks Φ pc lo (.int x :: st) S F I J P := by
  intro p e s m args below meth c Q MC MS hF h1 h2 hR H locs cells slots ls hr hS hl hc hs
  subst hq
  exact lv_i2s hF.1 hF.2.1 hd rfl (k p e s m args below meth c Q MC MS hF h1 h2 hR H locs cells slots ls hr hS hl hc hs)
theorem mh_ladd {x y : Int64} (hd : decode M.2.1 pc = .ok (.ladd, 1)) (hq : pc + 1 = q)  (k : mhV l K M kc ks Φ q lo (.long (x + y) :: st) S F I J P) : mhV l K M kc ks Φ pc lo (.long y :: .long x :: st) S F I J P := by
  intro p e s m args below meth c Q MC MS hF h1 h2 hR H locs cells slots ls hr hS hl hc hs
  subst hq
  exact lv_ladd hF.1 hF.2.1 hd (k p e s m args below meth c Q MC MS hF h1 h2 hR H locs cells slots ls hr hS hl hc hs)
theorem mh_lcmp {x y : Int64} (hd : decode M.2.1 pc = .ok (.lcmp, 1)) (hq : pc + 1 = q)  (k : mhV l K M kc ks Φ q lo (.int (lg_cmp x y) :: st) S F I J P) : mhV l K M kc ks Φ pc lo (.long y :: .long x :: st) S F I J P := by
  intro p e s m args below meth c Q MC MS hF h1 h2 hR H locs cells slots ls hr hS hl hc hs
  subst hq
  exact W.lcmp hF.1 hF.2.1 hd (k p e s m args below meth c Q MC MS hF h1 h2 hR H locs cells slots ls hr hS hl hc hs)
theorem mh_dupi {x : Int32} (hd : decode M.2.1 pc = .ok (.dup, 1)) (hq : pc + 1 = q)  (k : mhV l K M kc ks Φ q lo (.int x :: .int x :: st) S F I J P) : mhV l K M kc ks Φ pc lo (.int x :: st) S F I J P := by
  intro p e s m args below meth c Q MC MS hF h1 h2 hR H locs cells slots ls hr hS hl hc hs
  subst hq
  exact lv_dup hF.1 hF.2.1 hd rfl (k p e s m args below meth c Q MC MS hF h1 h2 hR H locs cells slots ls hr hS hl hc hs)
theorem mh_dupr {x : Nat} (hd : decode M.2.1 pc = .ok (.dup, 1)) (hq : pc + 1 = q)  (k : mhV l K M kc ks Φ q lo (.ref x :: .ref x :: st) S F I J P) : mhV l K M kc ks Φ pc lo (.ref x :: st) S F I J P := by
  intro p e s m args below meth c Q MC MS hF h1 h2 hR H locs cells slots ls hr hS hl hc hs
  subst hq
  exact lv_dup hF.1 hF.2.1 hd rfl (k p e s m args below meth c Q MC MS hF h1 h2 hR H locs cells slots ls hr hS hl hc hs)
theorem mh_dup2ir {x : Int32} {a : Nat} (hd : decode M.2.1 pc = .ok (.dup2, 1)) (hq : pc + 1 = q)  (k : mhV l K M kc ks Φ q lo (.int x :: .ref a :: .int x :: .ref a :: st) S F I J P) : mhV l K M kc ks Φ pc lo (.int x :: .ref a :: st) S F I J P := by
  intro p e s m args below meth c Q MC MS hF h1 h2 hR H locs cells slots ls hr hS hl hc hs
  subst hq
  exact lv_dup2_11 hF.1 hF.2.1 hd rfl rfl (k p e s m args below meth c Q MC MS hF h1 h2 hR H locs cells slots ls hr hS hl hc hs)
theorem mh_if_eq {x : Int32} {off : Int} {tgt : Nat} (hd : decode M.2.1 pc = .ok (.ifCond .eq off, 3)) (ht : (pc : Int) + off = (tgt : Int)) (hq : pc + 3 = q) (kt : x = 0 → mhV l K M kc ks Φ tgt lo st S F I J P) (kf : ¬ x = 0 → mhV l K M kc ks Φ q lo st S F I J P) : mhV l K M kc ks Φ pc lo (.int x :: st) S F I J P := by
  intro p e s m args below meth c Q MC MS hF h1 h2 hR H locs cells slots ls hr hS hl hc hs
  subst hq
  exact lv_if_eq hF.1 hF.2.1 hd ht (fun hh => kt hh p e s m args below meth c Q MC MS hF h1 h2 hR H locs cells slots ls hr hS hl hc hs) (fun hh => kf hh p e s m args below meth c Q MC MS hF h1 h2 hR H locs cells slots ls hr hS hl hc hs)
theorem mh_icmp_eq {x y : Int32} {off : Int} {tgt : Nat} (hd : decode M.2.1 pc = .ok (.if_icmp .eq off, 3)) (ht : (pc : Int) + off = (tgt : Int)) (hq : pc + 3 = q) (kt : x = y → mhV l K M kc ks Φ tgt lo st S F I J P) (kf : ¬ x = y → mhV l K M kc ks Φ q lo st S F I J P) : mhV l K M kc ks Φ pc lo (.int y :: .int x :: st) S F I J P := by
  intro p e s m args below meth c Q MC MS hF h1 h2 hR H locs cells slots ls hr hS hl hc hs
  subst hq
  exact lv_icmp_eq hF.1 hF.2.1 hd ht (fun hh => kt hh p e s m args below meth c Q MC MS hF h1 h2 hR H locs cells slots ls hr hS hl hc hs) (fun hh => kf hh p e s m args below meth c Q MC MS hF h1 h2 hR H locs cells slots ls hr hS hl hc hs)
theorem mh_if_ne {x : Int32} {off : Int} {tgt : Nat} (hd : decode M.2.1 pc = .ok (.ifCond .ne off, 3)) (ht : (pc : Int) + off = (tgt : Int)) (hq : pc + 3 = q) (kt : ¬ x = 0 → mhV l K M kc ks Φ tgt lo st S F I J P) (kf : x = 0 → mhV l K M kc ks Φ q lo st S F I J P) : mhV l K M kc ks Φ pc lo (.int x :: st) S F I J P := by
  intro p e s m args below meth c Q MC MS hF h1 h2 hR H locs cells slots ls hr hS hl hc hs
  subst hq
  exact lv_if_ne hF.1 hF.2.1 hd ht (fun hh => kt hh p e s m args below meth c Q MC MS hF h1 h2 hR H locs cells slots ls hr hS hl hc hs) (fun hh => kf hh p e s m args below meth c Q MC MS hF h1 h2 hR H locs cells slots ls hr hS hl hc hs)
theorem mh_icmp_ne {x y : Int32} {off : Int} {tgt : Nat} (hd : decode M.2.1 pc = .ok (.if_icmp .ne off, 3)) (ht : (pc : Int) + off = (tgt : Int)) (hq : pc + 3 = q) (kt : ¬ x = y → mhV l K M kc ks Φ tgt lo st S F I J P) (kf : x = y → mhV l K M kc ks Φ q lo st S F I J P) : mhV l K M kc ks Φ pc lo (.int y :: .int x :: st) S F I J P := by
  intro p e s m args below meth c Q MC MS hF h1 h2 hR H locs cells slots ls hr hS hl hc hs
  subst hq
  exact lv_icmp_ne hF.1 hF.2.1 hd ht (fun hh => kt hh p e s m args below meth c Q MC MS hF h1 h2 hR H locs cells slots ls hr hS hl hc hs) (fun hh => kf hh p e s m args below meth c Q MC MS hF h1 h2 hR H locs cells slots ls hr hS hl hc hs)
theorem mh_if_lt {x : Int32} {off : Int} {tgt : Nat} (hd : decode M.2.1 pc = .ok (.ifCond .lt off, 3)) (ht : (pc : Int) + off = (tgt : Int)) (hq : pc + 3 = q) (kt : x < 0 → mhV l K M kc ks Φ tgt lo st S F I J P) (kf : ¬ x < 0 → mhV l K M kc ks Φ q lo st S F I J P) : mhV l K M kc ks Φ pc lo (.int x :: st) S F I J P := by
  intro p e s m args below meth c Q MC MS hF h1 h2 hR H locs cells slots ls hr hS hl hc hs
  subst hq
  exact lv_if_lt hF.1 hF.2.1 hd ht (fun hh => kt hh p e s m args below meth c Q MC MS hF h1 h2 hR H locs cells slots ls hr hS hl hc hs) (fun hh => kf hh p e s m args below meth c Q MC MS hF h1 h2 hR H locs cells slots ls hr hS hl hc hs)
theorem mh_icmp_lt {x y : Int32} {off : Int} {tgt : Nat} (hd : decode M.2.1 pc = .ok (.if_icmp .lt off, 3)) (ht : (pc : Int) + off = (tgt : Int)) (hq : pc + 3 = q) (kt : x < y → mhV l K M kc ks Φ tgt lo st S F I J P) (kf : ¬ x < y → mhV l K M kc ks Φ q lo st S F I J P) : mhV l K M kc ks Φ pc lo (.int y :: .int x :: st) S F I J P := by
  intro p e s m args below meth c Q MC MS hF h1 h2 hR H locs cells slots ls hr hS hl hc hs
  subst hq
  exact lv_icmp_lt hF.1 hF.2.1 hd ht (fun hh => kt hh p e s m args below meth c Q MC MS hF h1 h2 hR H locs cells slots ls hr hS hl hc hs) (fun hh => kf hh p e s m args below meth c Q MC MS hF h1 h2 hR H locs cells slots ls hr hS hl hc hs)
theorem mh_if_ge {x : Int32} {off : Int} {tgt : Nat} (hd : decode M.2.1 pc = .ok (.ifCond .ge off, 3)) (ht : (pc : Int) + off = (tgt : Int)) (hq : pc + 3 = q) (kt : 0 ≤ x → mhV l K M kc ks Φ tgt lo st S F I J P) (kf : ¬ 0 ≤ x → mhV l K M kc ks Φ q lo st S F I J P) : mhV l K M kc ks Φ pc lo (.int x :: st) S F I J P := by
  intro p e s m args below meth c Q MC MS hF h1 h2 hR H locs cells slots ls hr hS hl hc hs
  subst hq
  exact lv_if_ge hF.1 hF.2.1 hd ht (fun hh => kt hh p e s m args below meth c Q MC MS hF h1 h2 hR H locs cells slots ls hr hS hl hc hs) (fun hh => kf hh p e s m args below meth c Q MC MS hF h1 h2 hR H locs cells slots ls hr hS hl hc hs)
theorem mh_icmp_ge {x y : Int32} {off : Int} {tgt : Nat} (hd : decode M.2.1 pc = .ok (.if_icmp .ge off, 3)) (ht : (pc : Int) + off = (tgt : Int)) (hq : pc + 3 = q) (kt : y ≤ x → mhV l K M kc ks Φ tgt lo st S F I J P) (kf : ¬ y ≤ x → mhV l K M kc ks Φ q lo st S F I J P) : mhV l K M kc ks Φ pc lo (.int y :: .int x :: st) S F I J P := by
  intro p e s m args below meth c Q MC MS hF h1 h2 hR H locs cells slots ls hr hS hl hc hs
  subst hq
  exact lv_icmp_ge hF.1 hF.2.1 hd ht (fun hh => kt hh p e s m args below meth c Q MC MS hF h1 h2 hR H locs cells slots ls hr hS hl hc hs) (fun hh => kf hh p e s m args below meth c Q MC MS hF h1 h2 hR H locs cells slots ls hr hS hl hc hs)
theorem mh_if_gt {x : Int32} {off : Int} {tgt : Nat} (hd : decode M.2.1 pc = .ok (.ifCond .gt off, 3)) (ht : (pc : Int) + off = (tgt : Int)) (hq : pc + 3 = q) (kt : 0 < x → mhV l K M kc ks Φ tgt lo st S F I J P) (kf : ¬ 0 < x → mhV l K M kc ks Φ q lo st S F I J P) : mhV l K M kc ks Φ pc lo (.int x :: st) S F I J P := by
  intro p e s m args below meth c Q MC MS hF h1 h2 hR H locs cells slots ls hr hS hl hc hs
  subst hq
  exact lv_if_gt hF.1 hF.2.1 hd ht (fun hh => kt hh p e s m args below meth c Q MC MS hF h1 h2 hR H locs cells slots ls hr hS hl hc hs) (fun hh => kf hh p e s m args below meth c Q MC MS hF h1 h2 hR H locs cells slots ls hr hS hl hc hs)
theorem mh_icmp_gt {x y : Int32} {off : Int} {tgt : Nat} (hd : decode M.2.1 pc = .ok (.if_icmp .gt off, 3)) (ht : (pc : Int) + off = (tgt : Int)) (hq : pc + 3 = q) (kt : y < x → mhV l K M kc ks Φ tgt lo st S F I J P) (kf : ¬ y < x → mhV l K M kc ks Φ q lo st S F I J P) : mhV l K M kc ks Φ pc lo (.int y :: .int x :: st) S F I J P := by
  intro p e s m args below meth c Q MC MS hF h1 h2 hR H locs cells slots ls hr hS hl hc hs
  subst hq
  exact lv_icmp_gt hF.1 hF.2.1 hd ht (fun hh => kt hh p e s m args below meth c Q MC MS hF h1 h2 hR H locs cells slots ls hr hS hl hc hs) (fun hh => kf hh p e s m args below meth c Q MC MS hF h1 h2 hR H locs cells slots ls hr hS hl hc hs)
theorem mh_if_le {x : Int32} {off : Int} {tgt : Nat} (hd : decode M.2.1 pc = .ok (.ifCond .le off, 3)) (ht : (pc : Int) + off = (tgt : Int)) (hq : pc + 3 = q) (kt : x ≤ 0 → mhV l K M kc ks Φ tgt lo st S F I J P) (kf : ¬ x ≤ 0 → mhV l K M kc ks Φ q lo st S F I J P) : mhV l K M kc ks Φ pc lo (.int x :: st) S F I J P := by
  intro p e s m args below meth c Q MC MS hF h1 h2 hR H locs cells slots ls hr hS hl hc hs
  subst hq
  exact lv_if_le hF.1 hF.2.1 hd ht (fun hh => kt hh p e s m args below meth c Q MC MS hF h1 h2 hR H locs cells slots ls hr hS hl hc hs) (fun hh => kf hh p e s m args below meth c Q MC MS hF h1 h2 hR H locs cells slots ls hr hS hl hc hs)
theorem mh_icmp_le {x y : Int32} {off : Int} {tgt : Nat} (hd : decode M.2.1 pc = .ok (.if_icmp .le off, 3)) (ht : (pc : Int) + off = (tgt : Int)) (hq : pc + 3 = q) (kt : x ≤ y → mhV l K M kc ks Φ tgt lo st S F I J P) (kf : ¬ x ≤ y → mhV l K M kc ks Φ q lo st S F I J P) : mhV l K M kc ks Φ pc lo (.int y :: .int x :: st) S F I J P := by
  intro p e s m args below meth c Q MC MS hF h1 h2 hR H locs cells slots ls hr hS hl hc hs
  subst hq
  exact lv_icmp_le hF.1 hF.2.1 hd ht (fun hh => kt hh p e s m args below meth c Q MC MS hF h1 h2 hR H locs cells slots ls hr hS hl hc hs) (fun hh => kf hh p e s m args below meth c Q MC MS hF h1 h2 hR H locs cells slots ls hr hS hl hc hs)
theorem mh_goto {off : Int} {tgt : Nat} (hd : decode M.2.1 pc = .ok (.goto off, 3)) (ht : (pc : Int) + off = (tgt : Int)) (k : mhV l K M kc ks Φ tgt lo st S F I J P) : mhV l K M kc ks Φ pc lo st S F I J P := by
  intro p e s m args below meth c Q MC MS hF h1 h2 hR H locs cells slots ls hr hS hl hc hs
  exact lv_goto hF.1 hF.2.1 hd ht (k p e s m args below meth c Q MC MS hF h1 h2 hR H locs cells slots ls hr hS hl hc hs)
theorem mh_ifnullR {x : Nat} {off : Int} (hd : decode M.2.1 pc = .ok (.ifnull off, 3)) (hq : pc + 3 = q) (k : mhV l K M kc ks Φ q lo st S F I J P) : mhV l K M kc ks Φ pc lo (.ref x :: st) S F I J P := by
  intro p e s m args below meth c Q MC MS hF h1 h2 hR H locs cells slots ls hr hS hl hc hs
  subst hq
  exact lv_ifnull hF.1 hF.2.1 hd (k p e s m args below meth c Q MC MS hF h1 h2 hR H locs cells slots ls hr hS hl hc hs)
theorem mh_ifnullN {off : Int} {tgt : Nat} (hd : decode M.2.1 pc = .ok (.ifnull off, 3)) (ht : (pc : Int) + off = (tgt : Int)) (k : mhV l K M kc ks Φ tgt lo st S F I J P) : mhV l K M kc ks Φ pc lo (.null :: st) S F I J P := by
  intro p e s m args below meth c Q MC MS hF h1 h2 hR H locs cells slots ls hr hS hl hc hs
  exact lv_ifnullN hF.1 hF.2.1 hd ht (k p e s m args below meth c Q MC MS hF h1 h2 hR H locs cells slots ls hr hS hl hc hs)
theorem mh_ifnonnullR {x : Nat} {off : Int} {tgt : Nat} (hd : decode M.2.1 pc = .ok (.ifnonnull off, 3)) (ht : (pc : Int) + off = (tgt : Int)) (k : mhV l K M kc ks Φ tgt lo st S F I J P) : mhV l K M kc ks Φ pc lo (.ref x :: st) S F I J P := by
  intro p e s m args below meth c Q MC MS hF h1 h2 hR H locs cells slots ls hr hS hl hc hs
  exact lv_ifnonnull hF.1 hF.2.1 hd ht (k p e s m args below meth c Q MC MS hF h1 h2 hR H locs cells slots ls hr hS hl hc hs)
theorem mh_ifnonnullN {off : Int} (hd : decode M.2.1 pc = .ok (.ifnonnull off, 3)) (hq : pc + 3 = q) (k : mhV l K M kc ks Φ q lo st S F I J P) : mhV l K M kc ks Φ pc lo (.null :: st) S F I J P := by
  intro p e s m args below meth c Q MC MS hF h1 h2 hR H locs cells slots ls hr hS hl hc hs
  subst hq
  exact lv_ifnonnullN hF.1 hF.2.1 hd (k p e s m args below meth c Q MC MS hF h1 h2 hR H locs cells slots ls hr hS hl hc hs)
theorem mh_tsw {dflt lw hg : Int} {offs : Array Int} {len : Nat} {x : Int32} (hd : decode M.2.1 pc = .ok (.tableswitch dflt lw hg offs, len)) {tgt : Nat} (ht : (pc : Int) + dflt = (tgt : Int)) (kd : x.toInt < lw ∨ hg < x.toInt → mhV l K M kc ks Φ tgt lo st S F I J P)
    (ki : ∀ i : Nat, lw + i ≤ hg → x.toInt = lw + i → ∃ (off : Int) (tg : Nat), offs[i]? = some off ∧ (pc : Int) + off = (tg : Int) ∧ mhV l K M kc ks Φ tg lo st S F I J P) : mhV l K M kc ks Φ pc lo (.int x :: st) S F I J P := by
  intro p e s m args below meth c Q MC MS hF h1 h2 hR H locs cells slots ls hr hS hl hc hs
  by_cases hx : x.toInt < lw ∨ hg < x.toInt
  · exact lv_tableOut hF.1 hF.2.1 hd hx ht (kd hx p e s m args below meth c Q MC MS hF h1 h2 hR H locs cells slots ls hr hS hl hc hs)
  · have ha : lw + ((x.toInt - lw).toNat : Int) ≤ hg := by omega
    have hb : x.toInt = lw + ((x.toInt - lw).toNat : Int) := by omega
    obtain ⟨off, tg, e1, e2, k⟩ := ki _ ha hb
    exact lv_tableIn hF.1 hF.2.1 hd (by omega) (by omega) e1 e2 (k p e s m args below meth c Q MC MS hF h1 h2 hR H locs cells slots ls hr hS hl hc hs)
theorem mh_lsw {dflt : Int} {ps : Array (Int × Int)} {len : Nat} {x : Int32} {off : Int} {tgt : Nat} (hd : decode M.2.1 pc = .ok (.lookupswitch dflt ps, len)) (hp : (ps.toList.zip (ps.toList.drop 1)).all (fun (a, next) => a.1 < next.1) = true) (ho : Op.lookupswitch.offset ps.toList dflt x.toInt = off) (ht : (pc : Int) + off = (tgt : Int))
    (k : mhV l K M kc ks Φ tgt lo st S F I J P) : mhV l K M kc ks Φ pc lo (.int x :: st) S F I J P := by
  intro p e s m args below meth c Q MC MS hF h1 h2 hR H locs cells slots ls hr hS hl hc hs
  exact lv_lookup hF.1 hF.2.1 hd hp ho ht (k p e s m args below meth c Q MC MS hF h1 h2 hR H locs cells slots ls hr hS hl hc hs)
theorem mh_iloadG {i : Nat} {x : Int32} (hd : (∃ j : Fin 4, (j : Nat) = i ∧ decode M.2.1 pc = .ok (.iload_n j, 1) ∧ pc + 1 = q) ∨ (decode M.2.1 pc = .ok (.iload i, 2) ∧ pc + 2 = q)) (hi : lo[i]? = some (some (.int x))) (k : mhV l K M kc ks Φ q lo (.int x :: st) S F I J P) : mhV l K M kc ks Φ pc lo st S F I J P := by
  intro p e s m args below meth c Q MC MS hF h1 h2 hR H locs cells slots ls hr hS hl hc hs
  have hv := (hl.2.2.2 _ _ hi).1
  rcases hd with ⟨j, e1, e2, rfl⟩ | ⟨e2, rfl⟩
  · exact lv_iload_n hF.1 hF.2.1 e2 e1 hv (k p e s m args below meth c Q MC MS hF h1 h2 hR H locs cells slots ls hr hS hl hc hs)
  · exact lv_iload hF.1 hF.2.1 e2 hv (k p e s m args below meth c Q MC MS hF h1 h2 hR H locs cells slots ls hr hS hl hc hs)
theorem mh_aloadG {i : Nat} {x : Nat} (hd : (∃ j : Fin 4, (j : Nat) = i ∧ decode M.2.1 pc = .ok (.aload_n j, 1) ∧ pc + 1 = q) ∨ (decode M.2.1 pc = .ok (.aload i, 2) ∧ pc + 2 = q)) (hi : lo[i]? = some (some (.ref x))) (k : mhV l K M kc ks Φ q lo (.ref x :: st) S F I J P) : mhV l K M kc ks Φ pc lo st S F I J P := by
  intro p e s m args below meth c Q MC MS hF h1 h2 hR H locs cells slots ls hr hS hl hc hs
  have hv := (hl.2.2.2 _ _ hi).1
  rcases hd with ⟨j, e1, e2, rfl⟩ | ⟨e2, rfl⟩
  · exact lv_aload_n hF.1 hF.2.1 e2 e1 hv (k p e s m args below meth c Q MC MS hF h1 h2 hR H locs cells slots ls hr hS hl hc hs)
  · exact lv_aload hF.1 hF.2.1 e2 hv (k p e s m args below meth c Q MC MS hF h1 h2 hR H locs cells slots ls hr hS hl hc hs)
theorem mh_aloadNG {i : Nat} (hd : (∃ j : Fin 4, (j : Nat) = i ∧ decode M.2.1 pc = .ok (.aload_n j, 1) ∧ pc + 1 = q) ∨ (decode M.2.1 pc = .ok (.aload i, 2) ∧ pc + 2 = q)) (hi : lo[i]? = some (some .null)) (k : mhV l K M kc ks Φ q lo (.null :: st) S F I J P) : mhV l K M kc ks Φ pc lo st S F I J P := by
  intro p e s m args below meth c Q MC MS hF h1 h2 hR H locs cells slots ls hr hS hl hc hs
  have hv := (hl.2.2.2 _ _ hi).1
  rcases hd with ⟨j, e1, e2, rfl⟩ | ⟨e2, rfl⟩
  · exact lv_aload_nN hF.1 hF.2.1 e2 e1 hv (k p e s m args below meth c Q MC MS hF h1 h2 hR H locs cells slots ls hr hS hl hc hs)
  · exact lv_aloadN hF.1 hF.2.1 e2 hv (k p e s m args below meth c Q MC MS hF h1 h2 hR H locs cells slots ls hr hS hl hc hs)
theorem mh_aloadTG {i z : Nat} (hd : (∃ j : Fin 4, (j : Nat) = i ∧ decode M.2.1 pc = .ok (.aload_n j, 1) ∧ pc + 1 = q) ∨ (decode M.2.1 pc = .ok (.aload i, 2) ∧ pc + 2 = q)) (hi : lo[i]? = some (some (.retAddr z))) (k : mhV l K M kc ks Φ q lo (.retAddr z :: st) S F I J P) : mhV l K M kc ks Φ pc lo st S F I J P := by
  intro p e s m args below meth c Q MC MS hF h1 h2 hR H locs cells slots ls hr hS hl hc hs
  have hv := (hl.2.2.2 _ _ hi).1
  rcases hd with ⟨j, e1, e2, rfl⟩ | ⟨e2, rfl⟩
  · exact lv_aload_n hF.1 hF.2.1 e2 e1 hv (k p e s m args below meth c Q MC MS hF h1 h2 hR H locs cells slots ls hr hS hl hc hs)
  · exact lv_aload hF.1 hF.2.1 e2 hv (k p e s m args below meth c Q MC MS hF h1 h2 hR H locs cells slots ls hr hS hl hc hs)
theorem mh_istoreG {i : Nat} {x : Int32} (hd : (∃ j : Fin 4, (j : Nat) = i ∧ decode M.2.1 pc = .ok (.istore_n j, 1) ∧ pc + 1 = q) ∨ (decode M.2.1 pc = .ok (.istore i, 2) ∧ pc + 2 = q)) (hi : i < lo.length) (k : mhV l K M kc ks Φ q (lo.set i (some (.int x))) st S F I J P) : mhV l K M kc ks Φ pc lo (.int x :: st) S F I J P := by
  intro p e s m args below meth c Q MC MS hF h1 h2 hR H locs cells slots ls hr hS hl hc hs
  have hi' : i < M.2.2.1 := by rw [← hl.2.1]; exact hi
  rcases hd with ⟨j, e1, e2, rfl⟩ | ⟨e2, rfl⟩
  · exact lv_istore_n hF.1 hF.2.1 e2 e1 (mhL_has hl) hi' rfl (fun ls' hl' => k p e s m args below meth c Q MC MS hF h1 h2 hR H locs cells slots ls' hr hS (mhL_store hl hi' rfl hl') hc hs)
  · exact lv_istore hF.1 hF.2.1 e2 (mhL_has hl) hi' rfl (fun ls' hl' => k p e s m args below meth c Q MC MS hF h1 h2 hR H locs cells slots ls' hr hS (mhL_store hl hi' rfl hl') hc hs)
theorem mh_astoreG {i : Nat} {x : Nat} (hd : (∃ j : Fin 4, (j : Nat) = i ∧ decode M.2.1 pc = .ok (.astore_n j, 1) ∧ pc + 1 = q) ∨ (decode M.2.1 pc = .ok (.astore i, 2) ∧ pc + 2 = q)) (hi : i < lo.length) (k : mhV l K M kc ks Φ q (lo.set i (some (.ref x))) st S F I J P) : mhV l K M kc ks Φ pc lo (.ref x :: st) S F I J P := by
  intro p e s m args below meth c Q MC MS hF h1 h2 hR H locs cells slots ls hr hS hl hc hs
  have hi' : i < M.2.2.1 := by rw [← hl.2.1]; exact hi
  rcases hd with ⟨j, e1, e2, rfl⟩ | ⟨e2, rfl⟩
  · exact lv_astore_n hF.1 hF.2.1 e2 e1 (mhL_has hl) hi' rfl (fun ls' hl' => k p e s m args below meth c Q MC MS hF h1 h2 hR H locs cells slots ls' hr hS (mhL_store hl hi' rfl hl') hc hs)
  · exact lv_astore hF.1 hF.2.1 e2 (mhL_has hl) hi' rfl (fun ls' hl' => k p e s m args below meth c Q MC MS hF h1 h2 hR H locs cells slots ls' hr hS (mhL_store hl hi' rfl hl') hc hs)
theorem mh_astoreNG {i : Nat}  (hd : (∃ j : Fin 4, (j : Nat) = i ∧ decode M.2.1 pc = .ok (.astore_n j, 1) ∧ pc + 1 = q) ∨ (decode M.2.1 pc = .ok (.astore i, 2) ∧ pc + 2 = q)) (hi : i < lo.length) (k : mhV l K M kc ks Φ q (lo.set i (some (.null))) st S F I J P) : mhV l K M kc ks Φ pc lo (.null :: st) S F I J P := by
  intro p e s m args below meth c Q MC MS hF h1 h2 hR H locs cells slots ls hr hS hl hc hs
  have hi' : i < M.2.2.1 := by rw [← hl.2.1]; exact hi
  rcases hd with ⟨j, e1, e2, rfl⟩ | ⟨e2, rfl⟩
  · exact lv_astore_nN hF.1 hF.2.1 e2 e1 (mhL_has hl) hi' rfl (fun ls' hl' => k p e s m args below meth c Q MC MS hF h1 h2 hR H locs cells slots ls' hr hS (mhL_store hl hi' rfl hl') hc hs)
  · exact lv_astoreN hF.1 hF.2.1 e2 (mhL_has hl) hi' rfl (fun ls' hl' => k p e s m args below meth c Q MC MS hF h1 h2 hR H locs cells slots ls' hr hS (mhL_store hl hi' rfl hl') hc hs)
theorem mh_iincG {i : Nat} {n : Int} {x v : Int32} (hd : decode M.2.1 pc = .ok (.iinc i n, 3)) (hq : pc + 3 = q) (hv : Int32.ofInt n = v) (hi : lo[i]? = some (some (.int x))) (k : mhV l K M kc ks Φ q (lo.set i (some (.int (x + v)))) st S F I J P) : mhV l K M kc ks Φ pc lo st S F I J P := by
  intro p e s m args below meth c Q MC MS hF h1 h2 hR H locs cells slots ls hr hS hl hc hs
  subst hq
  subst hv
  have hlt := (List.getElem?_eq_some_iff.mp hi).1
  have hi' : i < M.2.2.1 := by rw [← hl.2.1]; exact hlt
  have hh : lv_has ls M.2.2.1 ((i, .int x) :: mhLl K lo) := ⟨hl.1, hl.2.2.1, fun q hq => (List.mem_cons.mp hq).elim (fun e => by rw [e]; exact (hl.2.2.2 _ _ hi).1) (fun h => (mhL_has hl).2.2 q h)⟩
  refine lv_iinc hF.1 hF.2.1 hd hh (k := 0) rfl rfl hi' rfl (fun ls' hl' => k p e s m args below meth c Q MC MS hF h1 h2 hR H locs cells slots ls' hr hS (mhL_store (v := .int (x + Int32.ofInt n)) hl hi' rfl ?_) hc hs)
  refine ⟨hl'.1, hl'.2.1, fun q hq => hl'.2.2 q ?_⟩
  rcases List.mem_cons.mp hq with h | h
  · rw [h]; exact List.mem_cons_self
  · refine List.mem_cons_of_mem _ (List.mem_filter.mpr ⟨List.mem_cons_of_mem _ (List.mem_filter.mp h).1, (List.mem_filter.mp h).2⟩)
theorem mh_iload_0 {x : Int32} {r : List (Option Value)} (hd : decode M.2.1 pc = .ok (.iload_n 0, 1)) (hq : pc + 1 = q) (k : mhV l K M kc ks Φ q (some (.int x) :: r) (.int x :: st) S F I J P) : mhV l K M kc ks Φ pc (some (.int x) :: r) st S F I J P := mh_iloadG (i := 0) (Or.inl ⟨0, rfl, hd, hq⟩) rfl k
theorem mh_aload_0 {x : Nat} {r : List (Option Value)} (hd : decode M.2.1 pc = .ok (.aload_n 0, 1)) (hq : pc + 1 = q) (k : mhV l K M kc ks Φ q (some (.ref x) :: r) (.ref x :: st) S F I J P) : mhV l K M kc ks Φ pc (some (.ref x) :: r) st S F I J P := mh_aloadG (i := 0) (Or.inl ⟨0, rfl, hd, hq⟩) rfl k
theorem mh_aloadN_0 {r : List (Option Value)} (hd : decode M.2.1 pc = .ok (.aload_n 0, 1)) (hq : pc + 1 = q) (k : mhV l K M kc ks Φ q (some (.null) :: r) (.null :: st) S F I J P) : mhV l K M kc ks Φ pc (some (.null) :: r) st S F I J P := mh_aloadNG (i := 0) (Or.inl ⟨0, rfl, hd, hq⟩) rfl k
theorem mh_aloadT_0 {z : Nat} {r : List (Option Value)} (hd : decode M.2.1 pc = .ok (.aload_n 0, 1)) (hq : pc + 1 = q) (k : mhV l K M kc ks Φ q (some (.retAddr z) :: r) (.retAddr z :: st) S F I J P) : mhV l K M kc ks Φ pc (some (.retAddr z) :: r) st S F I J P := mh_aloadTG (i := 0) (Or.inl ⟨0, rfl, hd, hq⟩) rfl k
theorem mh_istore_0 {x : Int32} {y : Option Value} {r : List (Option Value)} (hd : decode M.2.1 pc = .ok (.istore_n 0, 1)) (hq : pc + 1 = q) (k : mhV l K M kc ks Φ q (some (.int x) :: r) st S F I J P) : mhV l K M kc ks Φ pc (y :: r) (.int x :: st) S F I J P := mh_istoreG (i := 0) (Or.inl ⟨0, rfl, hd, hq⟩) (by simp only [List.length_cons]; omega) k
theorem mh_astore_0 {x : Nat} {y : Option Value} {r : List (Option Value)} (hd : decode M.2.1 pc = .ok (.astore_n 0, 1)) (hq : pc + 1 = q) (k : mhV l K M kc ks Φ q (some (.ref x) :: r) st S F I J P) : mhV l K M kc ks Φ pc (y :: r) (.ref x :: st) S F I J P := mh_astoreG (i := 0) (Or.inl ⟨0, rfl, hd, hq⟩) (by simp only [List.length_cons]; omega) k
theorem mh_astoreN_0 {y : Option Value} {r : List (Option Value)} (hd : decode M.2.1 pc = .ok (.astore_n 0, 1)) (hq : pc + 1 = q) (k : mhV l K M kc ks Φ q (some (.null) :: r) st S F I J P) : mhV l K M kc ks Φ pc (y :: r) (.null :: st) S F I J P := mh_astoreNG (i := 0) (Or.inl ⟨0, rfl, hd, hq⟩) (by simp only [List.length_cons]; omega) k
theorem mh_iinc_0 {n : Int} {x v : Int32} {r : List (Option Value)} (hd : decode M.2.1 pc = .ok (.iinc 0 n, 3)) (hq : pc + 3 = q) (hv : Int32.ofInt n = v) (k : mhV l K M kc ks Φ q (some (.int (x + v)) :: r) st S F I J P) : mhV l K M kc ks Φ pc (some (.int x) :: r) st S F I J P := mh_iincG (i := 0) hd hq hv rfl k
theorem mh_iload_1 {a0 : Option Value} {x : Int32} {r : List (Option Value)} (hd : decode M.2.1 pc = .ok (.iload_n 1, 1)) (hq : pc + 1 = q) (k : mhV l K M kc ks Φ q (a0 :: some (.int x) :: r) (.int x :: st) S F I J P) : mhV l K M kc ks Φ pc (a0 :: some (.int x) :: r) st S F I J P := mh_iloadG (i := 1) (Or.inl ⟨1, rfl, hd, hq⟩) rfl k
theorem mh_aload_1 {a0 : Option Value} {x : Nat} {r : List (Option Value)} (hd : decode M.2.1 pc = .ok (.aload_n 1, 1)) (hq : pc + 1 = q) (k : mhV l K M kc ks Φ q (a0 :: some (.ref x) :: r) (.ref x :: st) S F I J P) : mhV l K M kc ks Φ pc (a0 :: some (.ref x) :: r) st S F I J P := mh_aloadG (i := 1) (Or.inl ⟨1, rfl, hd, hq⟩) rfl k
theorem mh_aloadN_1 {a0 : Option Value} {r : List (Option Value)} (hd : decode M.2.1 pc = .ok (.aload_n 1, 1)) (hq : pc + 1 = q) (k : mhV l K M kc ks Φ q (a0 :: some (.null) :: r) (.null :: st) S F I J P) : mhV l K M kc ks Φ pc (a0 :: some (.null) :: r) st S F I J P := mh_aloadNG (i := 1) (Or.inl ⟨1, rfl, hd, hq⟩) rfl k
theorem mh_istore_1 {a0 : Option Value} {x : Int32} {y : Option Value} {r : List (Option Value)} (hd : decode M.2.1 pc = .ok (.istore_n 1, 1)) (hq : pc + 1 = q) (k : mhV l K M kc ks Φ q (a0 :: some (.int x) :: r) st S F I J P) : mhV l K M kc ks Φ pc (a0 :: y :: r) (.int x :: st) S F I J P := mh_istoreG (i := 1) (Or.inl ⟨1, rfl, hd, hq⟩) (by simp only [List.length_cons]; omega) k
theorem mh_astore_1 {a0 : Option Value} {x : Nat} {y : Option Value} {r : List (Option Value)} (hd : decode M.2.1 pc = .ok (.astore_n 1, 1)) (hq : pc + 1 = q) (k : mhV l K M kc ks Φ q (a0 :: some (.ref x) :: r) st S F I J P) : mhV l K M kc ks Φ pc (a0 :: y :: r) (.ref x :: st) S F I J P := mh_astoreG (i := 1) (Or.inl ⟨1, rfl, hd, hq⟩) (by simp only [List.length_cons]; omega) k
theorem mh_astoreN_1 {a0 : Option Value} {y : Option Value} {r : List (Option Value)} (hd : decode M.2.1 pc = .ok (.astore_n 1, 1)) (hq : pc + 1 = q) (k : mhV l K M kc ks Φ q (a0 :: some (.null) :: r) st S F I J P) : mhV l K M kc ks Φ pc (a0 :: y :: r) (.null :: st) S F I J P := mh_astoreNG (i := 1) (Or.inl ⟨1, rfl, hd, hq⟩) (by simp only [List.length_cons]; omega) k
theorem mh_iinc_1 {a0 : Option Value} {n : Int} {x v : Int32} {r : List (Option Value)} (hd : decode M.2.1 pc = .ok (.iinc 1 n, 3)) (hq : pc + 3 = q) (hv : Int32.ofInt n = v) (k : mhV l K M kc ks Φ q (a0 :: some (.int (x + v)) :: r) st S F I J P) : mhV l K M kc ks Φ pc (a0 :: some (.int x) :: r) st S F I J P := mh_iincG (i := 1) hd hq hv rfl k
theorem mh_iload_2 {a0 a1 : Option Value} {x : Int32} {r : List (Option Value)} (hd : decode M.2.1 pc = .ok (.iload_n 2, 1)) (hq : pc + 1 = q) (k : mhV l K M kc ks Φ q (a0 :: a1 :: some (.int x) :: r) (.int x :: st) S F I J P) : mhV l K M kc ks Φ pc (a0 :: a1 :: some (.int x) :: r) st S F I J P := mh_iloadG (i := 2) (Or.inl ⟨2, rfl, hd, hq⟩) rfl k
theorem mh_aload_2 {a0 a1 : Option Value} {x : Nat} {r : List (Option Value)} (hd : decode M.2.1 pc = .ok (.aload_n 2, 1)) (hq : pc + 1 = q) (k : mhV l K M kc ks Φ q (a0 :: a1 :: some (.ref x) :: r) (.ref x :: st) S F I J P) : mhV l K M kc ks Φ pc (a0 :: a1 :: some (.ref x) :: r) st S F I J P := mh_aloadG (i := 2) (Or.inl ⟨2, rfl, hd, hq⟩) rfl k
theorem mh_aloadN_2 {a0 a1 : Option Value} {r : List (Option Value)} (hd : decode M.2.1 pc = .ok (.aload_n 2, 1)) (hq : pc + 1 = q) (k : mhV l K M kc ks Φ q (a0 :: a1 :: some (.null) :: r) (.null :: st) S F I J P) : mhV l K M kc ks Φ pc (a0 :: a1 :: some (.null) :: r) st S F I J P := mh_aloadNG (i := 2) (Or.inl ⟨2, rfl, hd, hq⟩) rfl k
theorem mh_istore_2 {a0 a1 : Option Value} {x : Int32} {y : Option Value} {r : List (Option Value)} (hd : decode M.2.1 pc = .ok (.istore_n 2, 1)) (hq : pc + 1 = q) (k : mhV l K M kc ks Φ q (a0 :: a1 :: some (.int x) :: r) st S F I J P) : mhV l K M kc ks Φ pc (a0 :: a1 :: y :: r) (.int x :: st) S F I J P := mh_istoreG (i := 2) (Or.inl ⟨2, rfl, hd, hq⟩) (by simp only [List.length_cons]; omega) k
theorem mh_astore_2 {a0 a1 : Option Value} {x : Nat} {y : Option Value} {r : List (Option Value)} (hd : decode M.2.1 pc = .ok (.astore_n 2, 1)) (hq : pc + 1 = q) (k : mhV l K M kc ks Φ q (a0 :: a1 :: some (.ref x) :: r) st S F I J P) : mhV l K M kc ks Φ pc (a0 :: a1 :: y :: r) (.ref x :: st) S F I J P := mh_astoreG (i := 2) (Or.inl ⟨2, rfl, hd, hq⟩) (by simp only [List.length_cons]; omega) k
theorem mh_astoreN_2 {a0 a1 : Option Value} {y : Option Value} {r : List (Option Value)} (hd : decode M.2.1 pc = .ok (.astore_n 2, 1)) (hq : pc + 1 = q) (k : mhV l K M kc ks Φ q (a0 :: a1 :: some (.null) :: r) st S F I J P) : mhV l K M kc ks Φ pc (a0 :: a1 :: y :: r) (.null :: st) S F I J P := mh_astoreNG (i := 2) (Or.inl ⟨2, rfl, hd, hq⟩) (by simp only [List.length_cons]; omega) k
theorem mh_iinc_2 {a0 a1 : Option Value} {n : Int} {x v : Int32} {r : List (Option Value)} (hd : decode M.2.1 pc = .ok (.iinc 2 n, 3)) (hq : pc + 3 = q) (hv : Int32.ofInt n = v) (k : mhV l K M kc ks Φ q (a0 :: a1 :: some (.int (x + v)) :: r) st S F I J P) : mhV l K M kc ks Φ pc (a0 :: a1 :: some (.int x) :: r) st S F I J P := mh_iincG (i := 2) hd hq hv rfl k
theorem mh_iload_3 {a0 a1 a2 : Option Value} {x : Int32} {r : List (Option Value)} (hd : decode M.2.1 pc = .ok (.iload_n 3, 1)) (hq : pc + 1 = q) (k : mhV l K M kc ks Φ q (a0 :: a1 :: a2 :: some (.int x) :: r) (.int x :: st) S F I J P) : mhV l K M kc ks Φ pc (a0 :: a1 :: a2 :: some (.int x) :: r) st S F I J P := mh_iloadG (i := 3) (Or.inl ⟨3, rfl, hd, hq⟩) rfl k
theorem mh_aload_3 {a0 a1 a2 : Option Value} {x : Nat} {r : List (Option Value)} (hd : decode M.2.1 pc = .ok (.aload_n 3, 1)) (hq : pc + 1 = q) (k : mhV l K M kc ks Φ q (a0 :: a1 :: a2 :: some (.ref x) :: r) (.ref x :: st) S F I J P) : mhV l K M kc ks Φ pc (a0 :: a1 :: a2 :: some (.ref x) :: r) st S F I J P := mh_aloadG (i := 3) (Or.inl ⟨3, rfl, hd, hq⟩) rfl k
theorem mh_aloadN_3 {a0 a1 a2 : Option Value} {r : List (Option Value)} (hd : decode M.2.1 pc = .ok (.aload_n 3, 1)) (hq : pc + 1 = q) (k : mhV l K M kc ks Φ q (a0 :: a1 :: a2 :: some (.null) :: r) (.null :: st) S F I J P) : mhV l K M kc ks Φ pc (a0 :: a1 :: a2 :: some (.null) :: r) st S F I J P := mh_aloadNG (i := 3) (Or.inl ⟨3, rfl, hd, hq⟩) rfl k
theorem mh_istore_3 {a0 a1 a2 : Option Value} {x : Int32} {y : Option Value} {r : List (Option Value)} (hd : decode M.2.1 pc = .ok (.istore_n 3, 1)) (hq : pc + 1 = q) (k : mhV l K M kc ks Φ q (a0 :: a1 :: a2 :: some (.int x) :: r) st S F I J P) : mhV l K M kc ks Φ pc (a0 :: a1 :: a2 :: y :: r) (.int x :: st) S F I J P := mh_istoreG (i := 3) (Or.inl ⟨3, rfl, hd, hq⟩) (by simp only [List.length_cons]; omega) k
theorem mh_astore_3 {a0 a1 a2 : Option Value} {x : Nat} {y : Option Value} {r : List (Option Value)} (hd : decode M.2.1 pc = .ok (.astore_n 3, 1)) (hq : pc + 1 = q) (k : mhV l K M kc ks Φ q (a0 :: a1 :: a2 :: some (.ref x) :: r) st S F I J P) : mhV l K M kc ks Φ pc (a0 :: a1 :: a2 :: y :: r) (.ref x :: st) S F I J P := mh_astoreG (i := 3) (Or.inl ⟨3, rfl, hd, hq⟩) (by simp only [List.length_cons]; omega) k
theorem mh_astoreN_3 {a0 a1 a2 : Option Value} {y : Option Value} {r : List (Option Value)} (hd : decode M.2.1 pc = .ok (.astore_n 3, 1)) (hq : pc + 1 = q) (k : mhV l K M kc ks Φ q (a0 :: a1 :: a2 :: some (.null) :: r) st S F I J P) : mhV l K M kc ks Φ pc (a0 :: a1 :: a2 :: y :: r) (.null :: st) S F I J P := mh_astoreNG (i := 3) (Or.inl ⟨3, rfl, hd, hq⟩) (by simp only [List.length_cons]; omega) k
theorem mh_iinc_3 {a0 a1 a2 : Option Value} {n : Int} {x v : Int32} {r : List (Option Value)} (hd : decode M.2.1 pc = .ok (.iinc 3 n, 3)) (hq : pc + 3 = q) (hv : Int32.ofInt n = v) (k : mhV l K M kc ks Φ q (a0 :: a1 :: a2 :: some (.int (x + v)) :: r) st S F I J P) : mhV l K M kc ks Φ pc (a0 :: a1 :: a2 :: some (.int x) :: r) st S F I J P := mh_iincG (i := 3) hd hq hv rfl k
theorem mh_iload_4 {a0 a1 a2 a3 : Option Value} {x : Int32} {r : List (Option Value)} (hd : decode M.2.1 pc = .ok (.iload 4, 2)) (hq : pc + 2 = q) (k : mhV l K M kc ks Φ q (a0 :: a1 :: a2 :: a3 :: some (.int x) :: r) (.int x :: st) S F I J P) : mhV l K M kc ks Φ pc (a0 :: a1 :: a2 :: a3 :: some (.int x) :: r) st S F I J P := mh_iloadG (i := 4) (Or.inr ⟨hd, hq⟩) rfl k
theorem mh_aload_4 {a0 a1 a2 a3 : Option Value} {x : Nat} {r : List (Option Value)} (hd : decode M.2.1 pc = .ok (.aload 4, 2)) (hq : pc + 2 = q) (k : mhV l K M kc ks Φ q (a0 :: a1 :: a2 :: a3 :: some (.ref x) :: r) (.ref x :: st) S F I J P) : mhV l K M kc ks Φ pc (a0 :: a1 :: a2 :: a3 :: some (.ref x) :: r) st S F I J P := mh_aloadG (i := 4) (Or.inr ⟨hd, hq⟩) rfl k
theorem mh_aloadN_4 {a0 a1 a2 a3 : Option Value} {r : List (Option Value)} (hd : decode M.2.1 pc = .ok (.aload 4, 2)) (hq : pc + 2 = q) (k : mhV l K M kc ks Φ q (a0 :: a1 :: a2 :: a3 :: some (.null) :: r) (.null :: st) S F I J P) : mhV l K M kc ks Φ pc (a0 :: a1 :: a2 :: a3 :: some (.null) :: r) st S F I J P := mh_aloadNG (i := 4) (Or.inr ⟨hd, hq⟩) rfl k
theorem mh_istore_4 {a0 a1 a2 a3 : Option Value} {x : Int32} {y : Option Value} {r : List (Option Value)} (hd : decode M.2.1 pc = .ok (.istore 4, 2)) (hq : pc + 2 = q) (k : mhV l K M kc ks Φ q (a0 :: a1 :: a2 :: a3 :: some (.int x) :: r) st S F I J P) : mhV l K M kc ks Φ pc (a0 :: a1 :: a2 :: a3 :: y :: r) (.int x :: st) S F I J P := mh_istoreG (i := 4) (Or.inr ⟨hd, hq⟩) (by simp only [List.length_cons]; omega) k
theorem mh_astore_4 {a0 a1 a2 a3 : Option Value} {x : Nat} {y : Option Value} {r : List (Option Value)} (hd : decode M.2.1 pc = .ok (.astore 4, 2)) (hq : pc + 2 = q) (k : mhV l K M kc ks Φ q (a0 :: a1 :: a2 :: a3 :: some (.ref x) :: r) st S F I J P) : mhV l K M kc ks Φ pc (a0 :: a1 :: a2 :: a3 :: y :: r) (.ref x :: st) S F I J P := mh_astoreG (i := 4) (Or.inr ⟨hd, hq⟩) (by simp only [List.length_cons]; omega) k
theorem mh_astoreN_4 {a0 a1 a2 a3 : Option Value} {y : Option Value} {r : List (Option Value)} (hd : decode M.2.1 pc = .ok (.astore 4, 2)) (hq : pc + 2 = q) (k : mhV l K M kc ks Φ q (a0 :: a1 :: a2 :: a3 :: some (.null) :: r) st S F I J P) : mhV l K M kc ks Φ pc (a0 :: a1 :: a2 :: a3 :: y :: r) (.null :: st) S F I J P := mh_astoreNG (i := 4) (Or.inr ⟨hd, hq⟩) (by simp only [List.length_cons]; omega) k
theorem mh_iinc_4 {a0 a1 a2 a3 : Option Value} {n : Int} {x v : Int32} {r : List (Option Value)} (hd : decode M.2.1 pc = .ok (.iinc 4 n, 3)) (hq : pc + 3 = q) (hv : Int32.ofInt n = v) (k : mhV l K M kc ks Φ q (a0 :: a1 :: a2 :: a3 :: some (.int (x + v)) :: r) st S F I J P) : mhV l K M kc ks Φ pc (a0 :: a1 :: a2 :: a3 :: some (.int x) :: r) st S F I J P := mh_iincG (i := 4) hd hq hv rfl k
theorem mh_iload_5 {a0 a1 a2 a3 a4 : Option Value} {x : Int32} {r : List (Option Value)} (hd : decode M.2.1 pc = .ok (.iload 5, 2)) (hq : pc + 2 = q) (k : mhV l K M kc ks Φ q (a0 :: a1 :: a2 :: a3 :: a4 :: some (.int x) :: r) (.int x :: st) S F I J P) : mhV l K M kc ks Φ pc (a0 :: a1 :: a2 :: a3 :: a4 :: some (.int x) :: r) st S F I J P := mh_iloadG (i := 5) (Or.inr ⟨hd, hq⟩) rfl k
theorem mh_aload_5 {a0 a1 a2 a3 a4 : Option Value} {x : Nat} {r : List (Option Value)} (hd : decode M.2.1 pc = .ok (.aload 5, 2)) (hq : pc + 2 = q) (k : mhV l K M kc ks Φ q (a0 :: a1 :: a2 :: a3 :: a4 :: some (.ref x) :: r) (.ref x :: st) S F I J P) : mhV l K M kc ks Φ pc (a0 :: a1 :: a2 :: a3 :: a4 :: some (.ref x) :: r) st S F I J P := mh_aloadG (i := 5) (Or.inr ⟨hd, hq⟩) rfl k
theorem mh_aloadN_5 {a0 a1 a2 a3 a4 : Option Value} {r : List (Option Value)} (hd : decode M.2.1 pc = .ok (.aload 5, 2)) (hq : pc + 2 = q) (k : mhV l K M kc ks Φ q (a0 :: a1 :: a2 :: a3 :: a4 :: some (.null) :: r) (.null :: st) S F I J P) : mhV l K M kc ks Φ pc (a0 :: a1 :: a2 :: a3 :: a4 :: some (.null) :: r) st S F I J P := mh_aloadNG (i := 5) (Or.inr ⟨hd, hq⟩) rfl k
theorem mh_istore_5 {a0 a1 a2 a3 a4 : Option Value} {x : Int32} {y : Option Value} {r : List (Option Value)} (hd : decode M.2.1 pc = .ok (.istore 5, 2)) (hq : pc + 2 = q) (k : mhV l K M kc ks Φ q (a0 :: a1 :: a2 :: a3 :: a4 :: some (.int x) :: r) st S F I J P) : mhV l K M kc ks Φ pc (a0 :: a1 :: a2 :: a3 :: a4 :: y :: r) (.int x :: st) S F I J P := mh_istoreG (i := 5) (Or.inr ⟨hd, hq⟩) (by simp only [List.length_cons]; omega) k
theorem mh_astore_5 {a0 a1 a2 a3 a4 : Option Value} {x : Nat} {y : Option Value} {r : List (Option Value)} (hd : decode M.2.1 pc = .ok (.astore 5, 2)) (hq : pc + 2 = q) (k : mhV l K M kc ks Φ q (a0 :: a1 :: a2 :: a3 :: a4 :: some (.ref x) :: r) st S F I J P) : mhV l K M kc ks Φ pc (a0 :: a1 :: a2 :: a3 :: a4 :: y :: r) (.ref x :: st) S F I J P := mh_astoreG (i := 5) (Or.inr ⟨hd, hq⟩) (by simp only [List.length_cons]; omega) k
theorem mh_astoreN_5 {a0 a1 a2 a3 a4 : Option Value} {y : Option Value} {r : List (Option Value)} (hd : decode M.2.1 pc = .ok (.astore 5, 2)) (hq : pc + 2 = q) (k : mhV l K M kc ks Φ q (a0 :: a1 :: a2 :: a3 :: a4 :: some (.null) :: r) st S F I J P) : mhV l K M kc ks Φ pc (a0 :: a1 :: a2 :: a3 :: a4 :: y :: r) (.null :: st) S F I J P := mh_astoreNG (i := 5) (Or.inr ⟨hd, hq⟩) (by simp only [List.length_cons]; omega) k
theorem mh_iinc_5 {a0 a1 a2 a3 a4 : Option Value} {n : Int} {x v : Int32} {r : List (Option Value)} (hd : decode M.2.1 pc = .ok (.iinc 5 n, 3)) (hq : pc + 3 = q) (hv : Int32.ofInt n = v) (k : mhV l K M kc ks Φ q (a0 :: a1 :: a2 :: a3 :: a4 :: some (.int (x + v)) :: r) st S F I J P) : mhV l K M kc ks Φ pc (a0 :: a1 :: a2 :: a3 :: a4 :: some (.int x) :: r) st S F I J P := mh_iincG (i := 5) hd hq hv rfl k
theorem mh_iload_6 {a0 a1 a2 a3 a4 a5 : Option Value} {x : Int32} {r : List (Option Value)} (hd : decode M.2.1 pc = .ok (.iload 6, 2)) (hq : pc + 2 = q) (k : mhV l K M kc ks Φ q (a0 :: a1 :: a2 :: a3 :: a4 :: a5 :: some (.int x) :: r) (.int x :: st) S F I J P) : mhV l K M kc ks Φ pc (a0 :: a1 :: a2 :: a3 :: a4 :: a5 :: some (.int x) :: r) st S F I J P := mh_iloadG (i := 6) (Or.inr ⟨hd, hq⟩) rfl k
theorem mh_aload_6 {a0 a1 a2 a3 a4 a5 : Option Value} {x : Nat} {r : List (Option Value)} (hd : decode M.2.1 pc = .ok (.aload 6, 2)) (hq : pc + 2 = q) (k : mhV l K M kc ks Φ q (a0 :: a1 :: a2 :: a3 :: a4 :: a5 :: some (.ref x) :: r) (.ref x :: st) S F I J P) : mhV l K M kc ks Φ pc (a0 :: a1 :: a2 :: a3 :: a4 :: a5 :: some (.ref x) :: r) st S F I J P := mh_aloadG (i := 6) (Or.inr ⟨hd, hq⟩) rfl k
theorem mh_aloadN_6 {a0 a1 a2 a3 a4 a5 : Option Value} {r : List (Option Value)} (hd : decode M.2.1 pc = .ok (.aload 6, 2)) (hq : pc + 2 = q) (k : mhV l K M kc ks Φ q (a0 :: a1 :: a2 :: a3 :: a4 :: a5 :: some (.null) :: r) (.null :: st) S F I J P) : mhV l K M kc ks Φ pc (a0 :: a1 :: a2 :: a3 :: a4 :: a5 :: some (.null) :: r) st S F I J P := mh_aloadNG (i := 6) (Or.inr ⟨hd, hq⟩) rfl k
theorem mh_istore_6 {a0 a1 a2 a3 a4 a5 : Option Value} {x : Int32} {y : Option Value} {r : List (Option Value)} (hd : decode M.2.1 pc = .ok (.istore 6, 2)) (hq : pc + 2 = q) (k : mhV l K M kc ks Φ q (a0 :: a1 :: a2 :: a3 :: a4 :: a5 :: some (.int x) :: r) st S F I J P) : mhV l K M kc ks Φ pc (a0 :: a1 :: a2 :: a3 :: a4 :: a5 :: y :: r) (.int x :: st) S F I J P := mh_istoreG (i := 6) (Or.inr ⟨hd, hq⟩) (by simp only [List.length_cons]; omega) k
theorem mh_astore_6 {a0 a1 a2 a3 a4 a5 : Option Value} {x : Nat} {y : Option Value} {r : List (Option Value)} (hd : decode M.2.1 pc = .ok (.astore 6, 2)) (hq : pc + 2 = q) (k : mhV l K M kc ks Φ q (a0 :: a1 :: a2 :: a3 :: a4 :: a5 :: some (.ref x) :: r) st S F I J P) : mhV l K M kc ks Φ pc (a0 :: a1 :: a2 :: a3 :: a4 :: a5 :: y :: r) (.ref x :: st) S F I J P := mh_astoreG (i := 6) (Or.inr ⟨hd, hq⟩) (by simp only [List.length_cons]; omega) k
theorem mh_astoreN_6 {a0 a1 a2 a3 a4 a5 : Option Value} {y : Option Value} {r : List (Option Value)} (hd : decode M.2.1 pc = .ok (.astore 6, 2)) (hq : pc + 2 = q) (k : mhV l K M kc ks Φ q (a0 :: a1 :: a2 :: a3 :: a4 :: a5 :: some (.null) :: r) st S F I J P) : mhV l K M kc ks Φ pc (a0 :: a1 :: a2 :: a3 :: a4 :: a5 :: y :: r) (.null :: st) S F I J P := mh_astoreNG (i := 6) (Or.inr ⟨hd, hq⟩) (by simp only [List.length_cons]; omega) k
theorem mh_iinc_6 {a0 a1 a2 a3 a4 a5 : Option Value} {n : Int} {x v : Int32} {r : List (Option Value)} (hd : decode M.2.1 pc = .ok (.iinc 6 n, 3)) (hq : pc + 3 = q) (hv : Int32.ofInt n = v) (k : mhV l K M kc ks Φ q (a0 :: a1 :: a2 :: a3 :: a4 :: a5 :: some (.int (x + v)) :: r) st S F I J P) : mhV l K M kc ks Φ pc (a0 :: a1 :: a2 :: a3 :: a4 :: a5 :: some (.int x) :: r) st S F I J P := mh_iincG (i := 6) hd hq hv rfl k
theorem mh_iload_7 {a0 a1 a2 a3 a4 a5 a6 : Option Value} {x : Int32} {r : List (Option Value)} (hd : decode M.2.1 pc = .ok (.iload 7, 2)) (hq : pc + 2 = q) (k : mhV l K M kc ks Φ q (a0 :: a1 :: a2 :: a3 :: a4 :: a5 :: a6 :: some (.int x) :: r) (.int x :: st) S F I J P) : mhV l K M kc ks Φ pc (a0 :: a1 :: a2 :: a3 :: a4 :: a5 :: a6 :: some (.int x) :: r) st S F I J P := mh_iloadG (i := 7) (Or.inr ⟨hd, hq⟩) rfl k
theorem mh_aload_7 {a0 a1 a2 a3 a4 a5 a6 : Option Value} {x : Nat} {r : List (Option Value)} (hd : decode M.2.1 pc = .ok (.aload 7, 2)) (hq : pc + 2 = q) (k : mhV l K M kc ks Φ q (a0 :: a1 :: a2 :: a3 :: a4 :: a5 :: a6 :: some (.ref x) :: r) (.ref x :: st) S F I J P) : mhV l K M kc ks Φ pc (a0 :: a1 :: a2 :: a3 :: a4 :: a5 :: a6 :: some (.ref x) :: r) st S F I J P := mh_aloadG (i := 7) (Or.inr ⟨hd, hq⟩) rfl k
theorem mh_aloadN_7 {a0 a1 a2 a3 a4 a5 a6 : Option Value} {r : List (Option Value)} (hd : decode M.2.1 pc = .ok (.aload 7, 2)) (hq : pc + 2 = q) (k : mhV l K M kc ks Φ q (a0 :: a1 :: a2 :: a3 :: a4 :: a5 :: a6 :: some (.null) :: r) (.null :: st) S F I J P) : mhV l K M kc ks Φ pc (a0 :: a1 :: a2 :: a3 :: a4 :: a5 :: a6 :: some (.null) :: r) st S F I J P := mh_aloadNG (i := 7) (Or.inr ⟨hd, hq⟩) rfl k
theorem mh_istore_7 {a0 a1 a2 a3 a4 a5 a6 : Option Value} {x : Int32} {y : Option Value} {r : List (Option Value)} (hd : decode M.2.1 pc = .ok (.istore 7, 2)) (hq : pc + 2 = q) (k : mhV l K M kc ks Φ q (a0 :: a1 :: a2 :: a3 :: a4 :: a5 :: a6 :: some (.int x) :: r) st S F I J P) : mhV l K M kc ks Φ pc (a0 :: a1 :: a2 :: a3 :: a4 :: a5 :: a6 :: y :: r) (.int x :: st) S F I J P := mh_istoreG (i := 7) (Or.inr ⟨hd, hq⟩) (by simp only [List.length_cons]; omega) k
theorem mh_astore_7 {a0 a1 a2 a3 a4 a5 a6 : Option Value} {x : Nat} {y : Option Value} {r : List (Option Value)} (hd : decode M.2.1 pc = .ok (.astore 7, 2)) (hq : pc + 2 = q) (k : mhV l K M kc ks Φ q (a0 :: a1 :: a2 :: a3 :: a4 :: a5 :: a6 :: some (.ref x) :: r) st S F I J P) : mhV l K M kc ks Φ pc (a0 :: a1 :: a2 :: a3 :: a4 :: a5 :: a6 :: y :: r) (.ref x :: st) S F I J P := mh_astoreG (i := 7) (Or.inr ⟨hd, hq⟩) (by simp only [List.length_cons]; omega) k
theorem mh_astoreN_7 {a0 a1 a2 a3 a4 a5 a6 : Option Value} {y : Option Value} {r : List (Option Value)} (hd : decode M.2.1 pc = .ok (.astore 7, 2)) (hq : pc + 2 = q) (k : mhV l K M kc ks Φ q (a0 :: a1 :: a2 :: a3 :: a4 :: a5 :: a6 :: some (.null) :: r) st S F I J P) : mhV l K M kc ks Φ pc (a0 :: a1 :: a2 :: a3 :: a4 :: a5 :: a6 :: y :: r) (.null :: st) S F I J P := mh_astoreNG (i := 7) (Or.inr ⟨hd, hq⟩) (by simp only [List.length_cons]; omega) k
theorem mh_iinc_7 {a0 a1 a2 a3 a4 a5 a6 : Option Value} {n : Int} {x v : Int32} {r : List (Option Value)} (hd : decode M.2.1 pc = .ok (.iinc 7 n, 3)) (hq : pc + 3 = q) (hv : Int32.ofInt n = v) (k : mhV l K M kc ks Φ q (a0 :: a1 :: a2 :: a3 :: a4 :: a5 :: a6 :: some (.int (x + v)) :: r) st S F I J P) : mhV l K M kc ks Φ pc (a0 :: a1 :: a2 :: a3 :: a4 :: a5 :: a6 :: some (.int x) :: r) st S F I J P := mh_iincG (i := 7) hd hq hv rfl k
theorem mh_iload_8 {a0 a1 a2 a3 a4 a5 a6 a7 : Option Value} {x : Int32} {r : List (Option Value)} (hd : decode M.2.1 pc = .ok (.iload 8, 2)) (hq : pc + 2 = q) (k : mhV l K M kc ks Φ q (a0 :: a1 :: a2 :: a3 :: a4 :: a5 :: a6 :: a7 :: some (.int x) :: r) (.int x :: st) S F I J P) : mhV l K M kc ks Φ pc (a0 :: a1 :: a2 :: a3 :: a4 :: a5 :: a6 :: a7 :: some (.int x) :: r) st S F I J P := mh_iloadG (i := 8) (Or.inr ⟨hd, hq⟩) rfl k
theorem mh_aload_8 {a0 a1 a2 a3 a4 a5 a6 a7 : Option Value} {x : Nat} {r : List (Option Value)} (hd : decode M.2.1 pc = .ok (.aload 8, 2)) (hq : pc + 2 = q) (k : mhV l K M kc ks Φ q (a0 :: a1 :: a2 :: a3 :: a4 :: a5 :: a6 :: a7 :: some (.ref x) :: r) (.ref x :: st) S F I J P) : mhV l K M kc ks Φ pc (a0 :: a1 :: a2 :: a3 :: a4 :: a5 :: a6 :: a7 :: some (.ref x) :: r) st S F I J P := mh_aloadG (i := 8) (Or.inr ⟨hd, hq⟩) rfl k
theorem mh_aloadN_8 {a0 a1 a2 a3 a4 a5 a6 a7 : Option Value} {r : List (Option Value)} (hd : decode M.2.1 pc = .ok (.aload 8, 2)) (hq : pc + 2 = q) (k : mhV l K M kc ks Φ q (a0 :: a1 :: a2 :: a3 :: a4 :: a5 :: a6 :: a7 :: some (.null) :: r) (.null :: st) S F I J P) : mhV l K M kc ks Φ pc (a0 :: a1 :: a2 :: a3 :: a4 :: a5 :: a6 :: a7 :: some (.null) :: r) st S F I J P := mh_aloadNG (i := 8) (Or.inr ⟨hd, hq⟩) rfl k
theorem mh_istore_8 {a0 a1 a2 a3 a4 a5 a6 a7 : Option Value} {x : Int32} {y : Option Value} {r : List (Option Value)} (hd : decode M.2.1 pc = .ok (.istore 8, 2)) (hq : pc + 2 = q) (k : mhV l K M kc ks Φ q (a0 :: a1 :: a2 :: a3 :: a4 :: a5 :: a6 :: a7 :: some (.int x) :: r) st S F I J P) : mhV l K M kc ks Φ pc (a0 :: a1 :: a2 :: a3 :: a4 :: a5 :: a6 :: a7 :: y :: r) (.int x :: st) S F I J P := mh_istoreG (i := 8) (Or.inr ⟨hd, hq⟩) (by simp only [List.length_cons]; omega) k
theorem mh_astore_8 {a0 a1 a2 a3 a4 a5 a6 a7 : Option Value} {x : Nat} {y : Option Value} {r : List (Option Value)} (hd : decode M.2.1 pc = .ok (.astore 8, 2)) (hq : pc + 2 = q) (k : mhV l K M kc ks Φ q (a0 :: a1 :: a2 :: a3 :: a4 :: a5 :: a6 :: a7 :: some (.ref x) :: r) st S F I J P) : mhV l K M kc ks Φ pc (a0 :: a1 :: a2 :: a3 :: a4 :: a5 :: a6 :: a7 :: y :: r) (.ref x :: st) S F I J P := mh_astoreG (i := 8) (Or.inr ⟨hd, hq⟩) (by simp only [List.length_cons]; omega) k
theorem mh_astoreN_8 {a0 a1 a2 a3 a4 a5 a6 a7 : Option Value} {y : Option Value} {r : List (Option Value)} (hd : decode M.2.1 pc = .ok (.astore 8, 2)) (hq : pc + 2 = q) (k : mhV l K M kc ks Φ q (a0 :: a1 :: a2 :: a3 :: a4 :: a5 :: a6 :: a7 :: some (.null) :: r) st S F I J P) : mhV l K M kc ks Φ pc (a0 :: a1 :: a2 :: a3 :: a4 :: a5 :: a6 :: a7 :: y :: r) (.null :: st) S F I J P := mh_astoreNG (i := 8) (Or.inr ⟨hd, hq⟩) (by simp only [List.length_cons]; omega) k
theorem mh_iinc_8 {a0 a1 a2 a3 a4 a5 a6 a7 : Option Value} {n : Int} {x v : Int32} {r : List (Option Value)} (hd : decode M.2.1 pc = .ok (.iinc 8 n, 3)) (hq : pc + 3 = q) (hv : Int32.ofInt n = v) (k : mhV l K M kc ks Φ q (a0 :: a1 :: a2 :: a3 :: a4 :: a5 :: a6 :: a7 :: some (.int (x + v)) :: r) st S F I J P) : mhV l K M kc ks Φ pc (a0 :: a1 :: a2 :: a3 :: a4 :: a5 :: a6 :: a7 :: some (.int x) :: r) st S F I J P := mh_iincG (i := 8) hd hq hv rfl k
theorem mh_iload_9 {a0 a1 a2 a3 a4 a5 a6 a7 a8 : Option Value} {x : Int32} {r : List (Option Value)} (hd : decode M.2.1 pc = .ok (.iload 9, 2)) (hq : pc + 2 = q) (k : mhV l K M kc ks Φ q (a0 :: a1 :: a2 :: a3 :: a4 :: a5 :: a6 :: a7 :: a8 :: some (.int x) :: r) (.int x :: st) S F I J P) : mhV l K M kc ks Φ pc (a0 :: a1 :: a2 :: a3 :: a4 :: a5 :: a6 :: a7 :: a8 :: some (.int x) :: r) st S F I J P := mh_iloadG (i := 9) (Or.inr ⟨hd, hq⟩) rfl k
theorem mh_aload_9 {a0 a1 a2 a3 a4 a5 a6 a7 a8 : Option Value} {x : Nat} {r : List (Option Value)} (hd : decode M.2.1 pc = .ok (.aload 9, 2)) (hq : pc + 2 = q) (k : mhV l K M kc ks Φ q (a0 :: a1 :: a2 :: a3 :: a4 :: a5 :: a6 :: a7 :: a8 :: some (.ref x) :: r) (.ref x :: st) S F I J P) : mhV l K M kc ks Φ pc (a0 :: a1 :: a2 :: a3 :: a4 :: a5 :: a6 :: a7 :: a8 :: some (.ref x) :: r) st S F I J P := mh_aloadG (i := 9) (Or.inr ⟨hd, hq⟩) rfl k
theorem mh_aloadN_9 {a0 a1 a2 a3 a4 a5 a6 a7 a8 : Option Value} {r : List (Option Value)} (hd : decode M.2.1 pc = .ok (.aload 9, 2)) (hq : pc + 2 = q) (k : mhV l K M kc ks Φ q (a0 :: a1 :: a2 :: a3 :: a4 :: a5 :: a6 :: a7 :: a8 :: some (.null) :: r) (.null :: st) S F I J P) : mhV l K M kc ks Φ pc (a0 :: a1 :: a2 :: a3 :: a4 :: a5 :: a6 :: a7 :: a8 :: some (.null) :: r) st S F I J P := mh_aloadNG (i := 9) (Or.inr ⟨hd, hq⟩) rfl k
theorem mh_istore_9 {a0 a1 a2 a3 a4 a5 a6 a7 a8 : Option Value} {x : Int32} {y : Option Value} {r : List (Option Value)} (hd : decode M.2.1 pc = .ok (.istore 9, 2)) (hq : pc + 2 = q) (k : mhV l K M kc ks Φ q (a0 :: a1 :: a2 :: a3 :: a4 :: a5 :: a6 :: a7 :: a8 :: some (.int x) :: r) st S F I J P) : mhV l K M kc ks Φ pc (a0 :: a1 :: a2 :: a3 :: a4 :: a5 :: a6 :: a7 :: a8 :: y :: r) (.int x :: st) S F I J P := mh_istoreG (i := 9) (Or.inr ⟨hd, hq⟩) (by simp only [List.length_cons]; omega) k
theorem mh_astore_9 {a0 a1 a2 a3 a4 a5 a6 a7 a8 : Option Value} {x : Nat} {y : Option Value} {r : List (Option Value)} (hd : decode M.2.1 pc = .ok (.astore 9, 2)) (hq : pc + 2 = q) (k : mhV l K M kc ks Φ q (a0 :: a1 :: a2 :: a3 :: a4 :: a5 :: a6 :: a7 :: a8 :: some (.ref x) :: r) st S F I J P) : mhV l K M kc ks Φ pc (a0 :: a1 :: a2 :: a3 :: a4 :: a5 :: a6 :: a7 :: a8 :: y :: r) (.ref x :: st) S F I J P := mh_astoreG (i := 9) (Or.inr ⟨hd, hq⟩) (by simp only [List.length_cons]; omega) k
theorem mh_astoreN_9 {a0 a1 a2 a3 a4 a5 a6 a7 a8 : Option Value} {y : Option Value} {r : List (Option Value)} (hd : decode M.2.1 pc = .ok (.astore 9, 2)) (hq : pc + 2 = q) (k : mhV l K M kc ks Φ q (a0 :: a1 :: a2 :: a3 :: a4 :: a5 :: a6 :: a7 :: a8 :: some (.null) :: r) st S F I J P) : mhV l K M kc ks Φ pc (a0 :: a1 :: a2 :: a3 :: a4 :: a5 :: a6 :: a7 :: a8 :: y :: r) (.null :: st) S F I J P := mh_astoreNG (i := 9) (Or.inr ⟨hd, hq⟩) (by simp only [List.length_cons]; omega) k
theorem mh_iinc_9 {a0 a1 a2 a3 a4 a5 a6 a7 a8 : Option Value} {n : Int} {x v : Int32} {r : List (Option Value)} (hd : decode M.2.1 pc = .ok (.iinc 9 n, 3)) (hq : pc + 3 = q) (hv : Int32.ofInt n = v) (k : mhV l K M kc ks Φ q (a0 :: a1 :: a2 :: a3 :: a4 :: a5 :: a6 :: a7 :: a8 :: some (.int (x + v)) :: r) st S F I J P) : mhV l K M kc ks Φ pc (a0 :: a1 :: a2 :: a3 :: a4 :: a5 :: a6 :: a7 :: a8 :: some (.int x) :: r) st S F I J P := mh_iincG (i := 9) hd hq hv rfl k
theorem mh_iload_10 {a0 a1 a2 a3 a4 a5 a6 a7 a8 a9 : Option Value} {x : Int32} {r : List (Option Value)} (hd : decode M.2.1 pc = .ok (.iload 10, 2)) (hq : pc + 2 = q) (k : mhV l K M kc ks Φ q (a0 :: a1 :: a2 :: a3 :: a4 :: a5 :: a6 :: a7 :: a8 :: a9 :: some (.int x) :: r) (.int x :: st) S F I J P) : mhV l K M kc ks Φ pc (a0 :: a1 :: a2 :: a3 :: a4 :: a5 :: a6 :: a7 :: a8 :: a9 :: some (.int x) :: r) st S F I J P := mh_iloadG (i := 10) (Or.inr ⟨hd, hq⟩) rfl k
theorem mh_aload_10 {a0 a1 a2 a3 a4 a5 a6 a7 a8 a9 : Option Value} {x : Nat} {r : List (Option Value)} (hd : decode M.2.1 pc = .ok (.aload 10, 2)) (hq : pc + 2 = q) (k : mhV l K M kc ks Φ q (a0 :: a1 :: a2 :: a3 :: a4 :: a5 :: a6 :: a7 :: a8 :: a9 :: some (.ref x) :: r) (.ref x :: st) S F I J P) : mhV l K M kc ks Φ pc (a0 :: a1 :: a2 :: a3 :: a4 :: a5 :: a6 :: a7 :: a8 :: a9 :: some (.ref x) :: r) st S F I J P := mh_aloadG (i := 10) (Or.inr ⟨hd, hq⟩) rfl k
theorem mh_aloadN_10 {a0 a1 a2 a3 a4 a5 a6 a7 a8 a9 : Option Value} {r : List (Option Value)} (hd : decode M.2.1 pc = .ok (.aload 10, 2)) (hq : pc + 2 = q) (k : mhV l K M kc ks Φ q (a0 :: a1 :: a2 :: a3 :: a4 :: a5 :: a6 :: a7 :: a8 :: a9 :: some (.null) :: r) (.null :: st) S F I J P) : mhV l K M kc ks Φ pc (a0 :: a1 :: a2 :: a3 :: a4 :: a5 :: a6 :: a7 :: a8 :: a9 :: some (.null) :: r) st S F I J P := mh_aloadNG (i := 10) (Or.inr ⟨hd, hq⟩) rfl k
theorem mh_istore_10 {a0 a1 a2 a3 a4 a5 a6 a7 a8 a9 : Option Value} {x : Int32} {y : Option Value} {r : List (Option Value)} (hd : decode M.2.1 pc = .ok (.istore 10, 2)) (hq : pc + 2 = q) (k : mhV l K M kc ks Φ q (a0 :: a1 :: a2 :: a3 :: a4 :: a5 :: a6 :: a7 :: a8 :: a9 :: some (.int x) :: r) st S F I J P) : mhV l K M kc ks Φ pc (a0 :: a1 :: a2 :: a3 :: a4 :: a5 :: a6 :: a7 :: a8 :: a9 :: y :: r) (.int x :: st) S F I J P := mh_istoreG (i := 10) (Or.inr ⟨hd, hq⟩) (by simp only [List.length_cons]; omega) k
theorem mh_astore_10 {a0 a1 a2 a3 a4 a5 a6 a7 a8 a9 : Option Value} {x : Nat} {y : Option Value} {r : List (Option Value)} (hd : decode M.2.1 pc = .ok (.astore 10, 2)) (hq : pc + 2 = q) (k : mhV l K M kc ks Φ q (a0 :: a1 :: a2 :: a3 :: a4 :: a5 :: a6 :: a7 :: a8 :: a9 :: some (.ref x) :: r) st S F I J P) : mhV l K M kc ks Φ pc (a0 :: a1 :: a2 :: a3 :: a4 :: a5 :: a6 :: a7 :: a8 :: a9 :: y :: r) (.ref x :: st) S F I J P := mh_astoreG (i := 10) (Or.inr ⟨hd, hq⟩) (by simp only [List.length_cons]; omega) k
theorem mh_astoreN_10 {a0 a1 a2 a3 a4 a5 a6 a7 a8 a9 : Option Value} {y : Option Value} {r : List (Option Value)} (hd : decode M.2.1 pc = .ok (.astore 10, 2)) (hq : pc + 2 = q) (k : mhV l K M kc ks Φ q (a0 :: a1 :: a2 :: a3 :: a4 :: a5 :: a6 :: a7 :: a8 :: a9 :: some (.null) :: r) st S F I J P) : mhV l K M kc ks Φ pc (a0 :: a1 :: a2 :: a3 :: a4 :: a5 :: a6 :: a7 :: a8 :: a9 :: y :: r) (.null :: st) S F I J P := mh_astoreNG (i := 10) (Or.inr ⟨hd, hq⟩) (by simp only [List.length_cons]; omega) k
theorem mh_iinc_10 {a0 a1 a2 a3 a4 a5 a6 a7 a8 a9 : Option Value} {n : Int} {x v : Int32} {r : List (Option Value)} (hd : decode M.2.1 pc = .ok (.iinc 10 n, 3)) (hq : pc + 3 = q) (hv : Int32.ofInt n = v) (k : mhV l K M kc ks Φ q (a0 :: a1 :: a2 :: a3 :: a4 :: a5 :: a6 :: a7 :: a8 :: a9 :: some (.int (x + v)) :: r) st S F I J P) : mhV l K M kc ks Φ pc (a0 :: a1 :: a2 :: a3 :: a4 :: a5 :: a6 :: a7 :: a8 :: a9 :: some (.int x) :: r) st S F I J P := mh_iincG (i := 10) hd hq hv rfl k
theorem mh_iload_11 {a0 a1 a2 a3 a4 a5 a6 a7 a8 a9 a10 : Option Value} {x : Int32} {r : List (Option Value)} (hd : decode M.2.1 pc = .ok (.iload 11, 2)) (hq : pc + 2 = q) (k : mhV l K M kc ks Φ q (a0 :: a1 :: a2 :: a3 :: a4 :: a5 :: a6 :: a7 :: a8 :: a9 :: a10 :: some (.int x) :: r) (.int x :: st) S F I J P) : mhV l K M kc ks Φ pc (a0 :: a1 :: a2 :: a3 :: a4 :: a5 :: a6 :: a7 :: a8 :: a9 :: a10 :: some (.int x) :: r) st S F I J P := mh_iloadG (i := 11) (Or.inr ⟨hd, hq⟩) rfl k
theorem mh_aload_11 {a0 a1 a2 a3 a4 a5 a6 a7 a8 a9 a10 : Option Value} {x : Nat} {r : List (Option Value)} (hd : decode M.2.1 pc = .ok (.aload 11, 2)) (hq : pc + 2 = q) (k : mhV l K M kc ks Φ q (a0 :: a1 :: a2 :: a3 :: a4 :: a5 :: a6 :: a7 :: a8 :: a9 :: a10 :: some (.ref x) :: r) (.ref x :: st) S F I J P) : mhV l K M kc ks Φ pc (a0 :: a1 :: a2 :: a3 :: a4 :: a5 :: a6 :: a7 :: a8 :: a9 :: a10 :: some (.ref x) :: r) st S F I J P := mh_aloadG (i := 11) (Or.inr ⟨hd, hq⟩) rfl k
theorem mh_aloadN_11 {a0 a1 a2 a3 a4 a5 a6 a7 a8 a9 a10 : Option Value} {r : List (Option Value)} (hd : decode M.2.1 pc = .ok (.aload 11, 2)) (hq : pc + 2 = q) (k : mhV l K M kc ks Φ q (a0 :: a1 :: a2 :: a3 :: a4 :: a5 :: a6 :: a7 :: a8 :: a9 :: a10 :: some (.null) :: r) (.null :: st) S F I J P) : mhV l K M kc ks Φ pc (a0 :: a1 :: a2 :: a3 :: a4 :: a5 :: a6 :: a7 :: a8 :: a9 :: a10 :: some (.null) :: r) st S F I J P := mh_aloadNG (i := 11) (Or.inr ⟨hd, hq⟩) rfl k
theorem mh_istore_11 {a0 a1 a2 a3 a4 a5 a6 a7 a8 a9 a10 : Option Value} {x : Int32} {y : Option Value} {r : List (Option Value)} (hd : decode M.2.1 pc = .ok (.istore 11, 2)) (hq : pc + 2 = q) (k : mhV l K M kc ks Φ q (a0 :: a1 :: a2 :: a3 :: a4 :: a5 :: a6 :: a7 :: a8 :: a9 :: a10 :: some (.int x) :: r) st S F I J P) : mhV l K M kc ks Φ pc (a0 :: a1 :: a2 :: a3 :: a4 :: a5 :: a6 :: a7 :: a8 :: a9 :: a10 :: y :: r) (.int x :: st) S F I J P := mh_istoreG (i := 11) (Or.inr ⟨hd, hq⟩) (by simp only [List.length_cons]; omega) k
theorem mh_astore_11 {a0 a1 a2 a3 a4 a5 a6 a7 a8 a9 a10 : Option Value} {x : Nat} {y : Option Value} {r : List (Option Value)} (hd : decode M.2.1 pc = .ok (.astore 11, 2)) (hq : pc + 2 = q) (k : mhV l K M kc ks Φ q (a0 :: a1 :: a2 :: a3 :: a4 :: a5 :: a6 :: a7 :: a8 :: a9 :: a10 :: some (.ref x) :: r) st S F I J P) : mhV l K M kc ks Φ pc (a0 :: a1 :: a2 :: a3 :: a4 :: a5 :: a6 :: a7 :: a8 :: a9 :: a10 :: y :: r) (.ref x :: st) S F I J P := mh_astoreG (i := 11) (Or.inr ⟨hd, hq⟩) (by simp only [List.length_cons]; omega) k
theorem mh_astoreN_11 {a0 a1 a2 a3 a4 a5 a6 a7 a8 a9 a10 : Option Value} {y : Option Value} {r : List (Option Value)} (hd : decode M.2.1 pc = .ok (.astore 11, 2)) (hq : pc + 2 = q) (k : mhV l K M kc ks Φ q (a0 :: a1 :: a2 :: a3 :: a4 :: a5 :: a6 :: a7 :: a8 :: a9 :: a10 :: some (.null) :: r) st S F I J P) : mhV l K M kc ks Φ pc (a0 :: a1 :: a2 :: a3 :: a4 :: a5 :: a6 :: a7 :: a8 :: a9 :: a10 :: y :: r) (.null :: st) S F I J P := mh_astoreNG (i := 11) (Or.inr ⟨hd, hq⟩) (by simp only [List.length_cons]; omega) k
theorem mh_iinc_11 {a0 a1 a2 a3 a4 a5 a6 a7 a8 a9 a10 : Option Value} {n : Int} {x v : Int32} {r : List (Option Value)} (hd : decode M.2.1 pc = .ok (.iinc 11 n, 3)) (hq : pc + 3 = q) (hv : Int32.ofInt n = v) (k : mhV l K M kc ks Φ q (a0 :: a1 :: a2 :: a3 :: a4 :: a5 :: a6 :: a7 :: a8 :: a9 :: a10 :: some (.int (x + v)) :: r) st S F I J P) : mhV l K M kc ks Φ pc (a0 :: a1 :: a2 :: a3 :: a4 :: a5 :: a6 :: a7 :: a8 :: a9 :: a10 :: some (.int x) :: r) st S F I J P := mh_iincG (i := 11) hd hq hv rfl k
theorem mh_iload_12 {a0 a1 a2 a3 a4 a5 a6 a7 a8 a9 a10 a11 : Option Value} {x : Int32} {r : List (Option Value)} (hd : decode M.2.1 pc = .ok (.iload 12, 2)) (hq : pc + 2 = q) (k : mhV l K M kc ks Φ q (a0 :: a1 :: a2 :: a3 :: a4 :: a5 :: a6 :: a7 :: a8 :: a9 :: a10 :: a11 :: some (.int x) :: r) (.int x :: st) S F I J P) : mhV l K M kc ks Φ pc (a0 :: a1 :: a2 :: a3 :: a4 :: a5 :: a6 :: a7 :: a8 :: a9 :: a10 :: a11 :: some (.int x) :: r) st S F I J P := mh_iloadG (i := 12) (Or.inr ⟨hd, hq⟩) rfl k
theorem mh_aload_12 {a0 a1 a2 a3 a4 a5 a6 a7 a8 a9 a10 a11 : Option Value} {x : Nat} {r : List (Option Value)} (hd : decode M.2.1 pc = .ok (.aload 12, 2)) (hq : pc + 2 = q) (k : mhV l K M kc ks Φ q (a0 :: a1 :: a2 :: a3 :: a4 :: a5 :: a6 :: a7 :: a8 :: a9 :: a10 :: a11 :: some (.ref x) :: r) (.ref x :: st) S F I J P) : mhV l K M kc ks Φ pc (a0 :: a1 :: a2 :: a3 :: a4 :: a5 :: a6 :: a7 :: a8 :: a9 :: a10 :: a11 :: some (.ref x) :: r) st S F I J P := mh_aloadG (i := 12) (Or.inr ⟨hd, hq⟩) rfl k
theorem mh_aloadN_12 {a0 a1 a2 a3 a4 a5 a6 a7 a8 a9 a10 a11 : Option Value} {r : List (Option Value)} (hd : decode M.2.1 pc = .ok (.aload 12, 2)) (hq : pc + 2 = q) (k : mhV l K M kc ks Φ q (a0 :: a1 :: a2 :: a3 :: a4 :: a5 :: a6 :: a7 :: a8 :: a9 :: a10 :: a11 :: some (.null) :: r) (.null :: st) S F I J P) : mhV l K M kc ks Φ pc (a0 :: a1 :: a2 :: a3 :: a4 :: a5 :: a6 :: a7 :: a8 :: a9 :: a10 :: a11 :: some (.null) :: r) st S F I J P := mh_aloadNG (i := 12) (Or.inr ⟨hd, hq⟩) rfl k
theorem mh_istore_12 {a0 a1 a2 a3 a4 a5 a6 a7 a8 a9 a10 a11 : Option Value} {x : Int32} {y : Option Value} {r : List (Option Value)} (hd : decode M.2.1 pc = .ok (.istore 12, 2)) (hq : pc + 2 = q) (k : mhV l K M kc ks Φ q (a0 :: a1 :: a2 :: a3 :: a4 :: a5 :: a6 :: a7 :: a8 :: a9 :: a10 :: a11 :: some (.int x) :: r) st S F I J P) : mhV l K M kc ks Φ pc (a0 :: a1 :: a2 :: a3 :: a4 :: a5 :: a6 :: a7 :: a8 :: a9 :: a10 :: a11 :: y :: r) (.int x :: st) S F I J P := mh_istoreG (i := 12) (Or.inr ⟨hd, hq⟩) (by simp only [List.length_cons]; omega) k
theorem mh_astore_12 {a0 a1 a2 a3 a4 a5 a6 a7 a8 a9 a10 a11 : Option Value} {x : Nat} {y : Option Value} {r : List (Option Value)} (hd : decode M.2.1 pc = .ok (.astore 12, 2)) (hq : pc + 2 = q) (k : mhV l K M kc ks Φ q (a0 :: a1 :: a2 :: a3 :: a4 :: a5 :: a6 :: a7 :: a8 :: a9 :: a10 :: a11 :: some (.ref x) :: r) st S F I J P) : mhV l K M kc ks Φ pc (a0 :: a1 :: a2 :: a3 :: a4 :: a5 :: a6 :: a7 :: a8 :: a9 :: a10 :: a11 :: y :: r) (.ref x :: st) S F I J P := mh_astoreG (i := 12) (Or.inr ⟨hd, hq⟩) (by simp only [List.length_cons]; omega) k
theorem mh_astoreN_12 {a0 a1 a2 a3 a4 a5 a6 a7 a8 a9 a10 a11 : Option Value} {y : Option Value} {r : List (Option Value)} (hd : decode M.2.1 pc = .ok (.astore 12, 2)) (hq : pc + 2 = q) (k : mhV l K M kc ks Φ q (a0 :: a1 :: a2 :: a3 :: a4 :: a5 :: a6 :: a7 :: a8 :: a9 :: a10 :: a11 :: some (.null) :: r) st S F I J P) : mhV l K M kc ks Φ pc (a0 :: a1 :: a2 :: a3 :: a4 :: a5 :: a6 :: a7 :: a8 :: a9 :: a10 :: a11 :: y :: r) (.null :: st) S F I J P := mh_astoreNG (i := 12) (Or.inr ⟨hd, hq⟩) (by simp only [List.length_cons]; omega) k
theorem mh_iinc_12 {a0 a1 a2 a3 a4 a5 a6 a7 a8 a9 a10 a11 : Option Value} {n : Int} {x v : Int32} {r : List (Option Value)} (hd : decode M.2.1 pc = .ok (.iinc 12 n, 3)) (hq : pc + 3 = q) (hv : Int32.ofInt n = v) (k : mhV l K M kc ks Φ q (a0 :: a1 :: a2 :: a3 :: a4 :: a5 :: a6 :: a7 :: a8 :: a9 :: a10 :: a11 :: some (.int (x + v)) :: r) st S F I J P) : mhV l K M kc ks Φ pc (a0 :: a1 :: a2 :: a3 :: a4 :: a5 :: a6 :: a7 :: a8 :: a9 :: a10 :: a11 :: some (.int x) :: r) st S F I J P := mh_iincG (i := 12) hd hq hv rfl k
theorem mh_iload_13 {a0 a1 a2 a3 a4 a5 a6 a7 a8 a9 a10 a11 a12 : Option Value} {x : Int32} {r : List (Option Value)} (hd : decode M.2.1 pc = .ok (.iload 13, 2)) (hq : pc + 2 = q) (k : mhV l K M kc ks Φ q (a0 :: a1 :: a2 :: a3 :: a4 :: a5 :: a6 :: a7 :: a8 :: a9 :: a10 :: a11 :: a12 :: some (.int x) :: r) (.int x :: st) S F I J P) : mhV l K M kc ks Φ pc (a0 :: a1 :: a2 :: a3 :: a4 :: a5 :: a6 :: a7 :: a8 :: a9 :: a10 :: a11 :: a12 :: some (.int x) :: r) st S F I J P := mh_iloadG (i := 13) (Or.inr ⟨hd, hq⟩) rfl k
theorem mh_aload_13 {a0 a1 a2 a3 a4 a5 a6 a7 a8 a9 a10 a11 a12 : Option Value} {x : Nat} {r : List (Option Value)} (hd : decode M.2.1 pc = .ok (.aload 13, 2)) (hq : pc + 2 = q) (k : mhV l K M kc ks Φ q (a0 :: a1 :: a2 :: a3 :: a4 :: a5 :: a6 :: a7 :: a8 :: a9 :: a10 :: a11 :: a12 :: some (.ref x) :: r) (.ref x :: st) S F I J P) : mhV l K M kc ks Φ pc (a0 :: a1 :: a2 :: a3 :: a4 :: a5 :: a6 :: a7 :: a8 :: a9 :: a10 :: a11 :: a12 :: some (.ref x) :: r) st S F I J P := mh_aloadG (i := 13) (Or.inr ⟨hd, hq⟩) rfl k
theorem mh_aloadN_13 {a0 a1 a2 a3 a4 a5 a6 a7 a8 a9 a10 a11 a12 : Option Value} {r : List (Option Value)} (hd : decode M.2.1 pc = .ok (.aload 13, 2)) (hq : pc + 2 = q) (k : mhV l K M kc ks Φ q (a0 :: a1 :: a2 :: a3 :: a4 :: a5 :: a6 :: a7 :: a8 :: a9 :: a10 :: a11 :: a12 :: some (.null) :: r) (.null :: st) S F I J P) : mhV l K M kc ks Φ pc (a0 :: a1 :: a2 :: a3 :: a4 :: a5 :: a6 :: a7 :: a8 :: a9 :: a10 :: a11 :: a12 :: some (.null) :: r) st S F I J P := mh_aloadNG (i := 13) (Or.inr ⟨hd, hq⟩) rfl k
theorem mh_istore_13 {a0 a1 a2 a3 a4 a5 a6 a7 a8 a9 a10 a11 a12 : Option Value} {x : Int32} {y : Option Value} {r : List (Option Value)} (hd : decode M.2.1 pc = .ok (.istore 13, 2)) (hq : pc + 2 = q) (k : mhV l K M kc ks Φ q (a0 :: a1 :: a2 :: a3 :: a4 :: a5 :: a6 :: a7 :: a8 :: a9 :: a10 :: a11 :: a12 :: some (.int x) :: r) st S F I J P) : mhV l K M kc ks Φ pc (a0 :: a1 :: a2 :: a3 :: a4 :: a5 :: a6 :: a7 :: a8 :: a9 :: a10 :: a11 :: a12 :: y :: r) (.int x :: st) S F I J P := mh_istoreG (i := 13) (Or.inr ⟨hd, hq⟩) (by simp only [List.length_cons]; omega) k
theorem mh_astore_13 {a0 a1 a2 a3 a4 a5 a6 a7 a8 a9 a10 a11 a12 : Option Value} {x : Nat} {y : Option Value} {r : List (Option Value)} (hd : decode M.2.1 pc = .ok (.astore 13, 2)) (hq : pc + 2 = q) (k : mhV l K M kc ks Φ q (a0 :: a1 :: a2 :: a3 :: a4 :: a5 :: a6 :: a7 :: a8 :: a9 :: a10 :: a11 :: a12 :: some (.ref x) :: r) st S F I J P) : mhV l K M kc ks Φ pc (a0 :: a1 :: a2 :: a3 :: a4 :: a5 :: a6 :: a7 :: a8 :: a9 :: a10 :: a11 :: a12 :: y :: r) (.ref x :: st) S F I J P := mh_astoreG (i := 13) (Or.inr ⟨hd, hq⟩) (by simp only [List.length_cons]; omega) k
theorem mh_astoreN_13 {a0 a1 a2 a3 a4 a5 a6 a7 a8 a9 a10 a11 a12 : Option Value} {y : Option Value} {r : List (Option Value)} (hd : decode M.2.1 pc = .ok (.astore 13, 2)) (hq : pc + 2 = q) (k : mhV l K M kc ks Φ q (a0 :: a1 :: a2 :: a3 :: a4 :: a5 :: a6 :: a7 :: a8 :: a9 :: a10 :: a11 :: a12 :: some (.null) :: r) st S F I J P) : mhV l K M kc ks Φ pc (a0 :: a1 :: a2 :: a3 :: a4 :: a5 :: a6 :: a7 :: a8 :: a9 :: a10 :: a11 :: a12 :: y :: r) (.null :: st) S F I J P := mh_astoreNG (i := 13) (Or.inr ⟨hd, hq⟩) (by simp only [List.length_cons]; omega) k
theorem mh_iinc_13 {a0 a1 a2 a3 a4 a5 a6 a7 a8 a9 a10 a11 a12 : Option Value} {n : Int} {x v : Int32} {r : List (Option Value)} (hd : decode M.2.1 pc = .ok (.iinc 13 n, 3)) (hq : pc + 3 = q) (hv : Int32.ofInt n = v) (k : mhV l K M kc ks Φ q (a0 :: a1 :: a2 :: a3 :: a4 :: a5 :: a6 :: a7 :: a8 :: a9 :: a10 :: a11 :: a12 :: some (.int (x + v)) :: r) st S F I J P) : mhV l K M kc ks Φ pc (a0 :: a1 :: a2 :: a3 :: a4 :: a5 :: a6 :: a7 :: a8 :: a9 :: a10 :: a11 :: a12 :: some (.int x) :: r) st S F I J P := mh_iincG (i := 13) hd hq hv rfl k
theorem mh_iload_14 {a0 a1 a2 a3 a4 a5 a6 a7 a8 a9 a10 a11 a12 a13 : Option Value} {x : Int32} {r : List (Option Value)} (hd : decode M.2.1 pc = .ok (.iload 14, 2)) (hq : pc + 2 = q) (k : mhV l K M kc ks Φ q (a0 :: a1 :: a2 :: a3 :: a4 :: a5 :: a6 :: a7 :: a8 :: a9 :: a10 :: a11 :: a12 :: a13 :: some (.int x) :: r) (.int x :: st) S F I J P) : mhV l K M kc ks Φ pc (a0 :: a1 :: a2 :: a3 :: a4 :: a5 :: a6 :: a7 :: a8 :: a9 :: a10 :: a11 :: a12 :: a13 :: some (.int x) :: r) st S F I J P := mh_iloadG (i := 14) (Or.inr ⟨hd, hq⟩) rfl k
theorem mh_aload_14 {a0 a1 a2 a3 a4 a5 a6 a7 a8 a9 a10 a11 a12 a13 : Option Value} {x : Nat} {r : List (Option Value)} (hd : decode M.2.1 pc = .ok (.aload 14, 2)) (hq : pc + 2 = q) (k : mhV l K M kc ks Φ q (a0 :: a1 :: a2 :: a3 :: a4 :: a5 :: a6 :: a7 :: a8 :: a9 :: a10 :: a11 :: a12 :: a13 :: some (.ref x) :: r) (.ref x :: st) S F I J P) : mhV l K M kc ks Φ pc (a0 :: a1 :: a2 :: a3 :: a4 :: a5 :: a6 :: a7 :: a8 :: a9 :: a10 :: a11 :: a12 :: a13 :: some (.ref x) :: r) st S F I J P := mh_aloadG (i := 14) (Or.inr ⟨hd, hq⟩) rfl k
theorem mh_aloadN_14 {a0 a1 a2 a3 a4 a5 a6 a7 a8 a9 a10 a11 a12 a13 : Option Value} {r : List (Option Value)} (hd : decode M.2.1 pc = .ok (.aload 14, 2)) (hq : pc + 2 = q) (k : mhV l K M kc ks Φ q (a0 :: a1 :: a2 :: a3 :: a4 :: a5 :: a6 :: a7 :: a8 :: a9 :: a10 :: a11 :: a12 :: a13 :: some (.null) :: r) (.null :: st) S F I J P) : mhV l K M kc ks Φ pc (a0 :: a1 :: a2 :: a3 :: a4 :: a5 :: a6 :: a7 :: a8 :: a9 :: a10 :: a11 :: a12 :: a13 :: some (.null) :: r) st S F I J P := mh_aloadNG (i := 14) (Or.inr ⟨hd, hq⟩) rfl k
theorem mh_istore_14 {a0 a1 a2 a3 a4 a5 a6 a7 a8 a9 a10 a11 a12 a13 : Option Value} {x : Int32} {y : Option Value} {r : List (Option Value)} (hd : decode M.2.1 pc = .ok (.istore 14, 2)) (hq : pc + 2 = q) (k : mhV l K M kc ks Φ q (a0 :: a1 :: a2 :: a3 :: a4 :: a5 :: a6 :: a7 :: a8 :: a9 :: a10 :: a11 :: a12 :: a13 :: some (.int x) :: r) st S F I J P) : mhV l K M kc ks Φ pc (a0 :: a1 :: a2 :: a3 :: a4 :: a5 :: a6 :: a7 :: a8 :: a9 :: a10 :: a11 :: a12 :: a13 :: y :: r) (.int x :: st) S F I J P := mh_istoreG (i := 14) (Or.inr ⟨hd, hq⟩) (by simp only [List.length_cons]; omega) k
theorem mh_astore_14 {a0 a1 a2 a3 a4 a5 a6 a7 a8 a9 a10 a11 a12 a13 : Option Value} {x : Nat} {y : Option Value} {r : List (Option Value)} (hd : decode M.2.1 pc = .ok (.astore 14, 2)) (hq : pc + 2 = q) (k : mhV l K M kc ks Φ q (a0 :: a1 :: a2 :: a3 :: a4 :: a5 :: a6 :: a7 :: a8 :: a9 :: a10 :: a11 :: a12 :: a13 :: some (.ref x) :: r) st S F I J P) : mhV l K M kc ks Φ pc (a0 :: a1 :: a2 :: a3 :: a4 :: a5 :: a6 :: a7 :: a8 :: a9 :: a10 :: a11 :: a12 :: a13 :: y :: r) (.ref x :: st) S F I J P := mh_astoreG (i := 14) (Or.inr ⟨hd, hq⟩) (by simp only [List.length_cons]; omega) k
theorem mh_astoreN_14 {a0 a1 a2 a3 a4 a5 a6 a7 a8 a9 a10 a11 a12 a13 : Option Value} {y : Option Value} {r : List (Option Value)} (hd : decode M.2.1 pc = .ok (.astore 14, 2)) (hq : pc + 2 = q) (k : mhV l K M kc ks Φ q (a0 :: a1 :: a2 :: a3 :: a4 :: a5 :: a6 :: a7 :: a8 :: a9 :: a10 :: a11 :: a12 :: a13 :: some (.null) :: r) st S F I J P) : mhV l K M kc ks Φ pc (a0 :: a1 :: a2 :: a3 :: a4 :: a5 :: a6 :: a7 :: a8 :: a9 :: a10 :: a11 :: a12 :: a13 :: y :: r) (.null :: st) S F I J P := mh_astoreNG (i := 14) (Or.inr ⟨hd, hq⟩) (by simp only [List.length_cons]; omega) k
theorem mh_iinc_14 {a0 a1 a2 a3 a4 a5 a6 a7 a8 a9 a10 a11 a12 a13 : Option Value} {n : Int} {x v : Int32} {r : List (Option Value)} (hd : decode M.2.1 pc = .ok (.iinc 14 n, 3)) (hq : pc + 3 = q) (hv : Int32.ofInt n = v) (k : mhV l K M kc ks Φ q (a0 :: a1 :: a2 :: a3 :: a4 :: a5 :: a6 :: a7 :: a8 :: a9 :: a10 :: a11 :: a12 :: a13 :: some (.int (x + v)) :: r) st S F I J P) : mhV l K M kc ks Φ pc (a0 :: a1 :: a2 :: a3 :: a4 :: a5 :: a6 :: a7 :: a8 :: a9 :: a10 :: a11 :: a12 :: a13 :: some (.int x) :: r) st S F I J P := mh_iincG (i := 14) hd hq hv rfl k
theorem mh_iload_15 {a0 a1 a2 a3 a4 a5 a6 a7 a8 a9 a10 a11 a12 a13 a14 : Option Value} {x : Int32} {r : List (Option Value)} (hd : decode M.2.1 pc = .ok (.iload 15, 2)) (hq : pc + 2 = q) (k : mhV l K M kc ks Φ q (a0 :: a1 :: a2 :: a3 :: a4 :: a5 :: a6 :: a7 :: a8 :: a9 :: a10 :: a11 :: a12 :: a13 :: a14 :: some (.int x) :: r) (.int x :: st) S F I J P) : mhV l K M kc ks Φ pc (a0 :: a1 :: a2 :: a3 :: a4 :: a5 :: a6 :: a7 :: a8 :: a9 :: a10 :: a11 :: a12 :: a13 :: a14 :: some (.int x) :: r) st S F I J P := mh_iloadG (i := 15) (Or.inr ⟨hd, hq⟩) rfl k
theorem mh_aload_15 {a0 a1 a2 a3 a4 a5 a6 a7 a8 a9 a10 a11 a12 a13 a14 : Option Value} {x : Nat} {r : List (Option Value)} (hd : decode M.2.1 pc = .ok (.aload 15, 2)) (hq : pc + 2 = q) (k : mhV l K M kc ks Φ q (a0 :: a1 :: a2 :: a3 :: a4 :: a5 :: a6 :: a7 :: a8 :: a9 :: a10 :: a11 :: a12 :: a13 :: a14 :: some (.ref x) :: r) (.ref x :: st) S F I J P) : mhV l K M kc ks Φ pc (a0 :: a1 :: a2 :: a3 :: a4 :: a5 :: a6 :: a7 :: a8 :: a9 :: a10 :: a11 :: a12 :: a13 :: a14 :: some (.ref x) :: r) st S F I J P := mh_aloadG (i := 15) (Or.inr ⟨hd, hq⟩) rfl k
theorem mh_aloadN_15 {a0 a1 a2 a3 a4 a5 a6 a7 a8 a9 a10 a11 a12 a13 a14 : Option Value} {r : List (Option Value)} (hd : decode M.2.1 pc = .ok (.aload 15, 2)) (hq : pc + 2 = q) (k : mhV l K M kc ks Φ q (a0 :: a1 :: a2 :: a3 :: a4 :: a5 :: a6 :: a7 :: a8 :: a9 :: a10 :: a11 :: a12 :: a13 :: a14 :: some (.null) :: r) (.null :: st) S F I J P) : mhV l K M kc ks Φ pc (a0 :: a1 :: a2 :: a3 :: a4 :: a5 :: a6 :: a7 :: a8 :: a9 :: a10 :: a11 :: a12 :: a13 :: a14 :: some (.null) :: r) st S F I J P := mh_aloadNG (i := 15) (Or.inr ⟨hd, hq⟩) rfl k
theorem mh_istore_15 {a0 a1 a2 a3 a4 a5 a6 a7 a8 a9 a10 a11 a12 a13 a14 : Option Value} {x : Int32} {y : Option Value} {r : List (Option Value)} (hd : decode M.2.1 pc = .ok (.istore 15, 2)) (hq : pc + 2 = q) (k : mhV l K M kc ks Φ q (a0 :: a1 :: a2 :: a3 :: a4 :: a5 :: a6 :: a7 :: a8 :: a9 :: a10 :: a11 :: a12 :: a13 :: a14 :: some (.int x) :: r) st S F I J P) : mhV l K M kc ks Φ pc (a0 :: a1 :: a2 :: a3 :: a4 :: a5 :: a6 :: a7 :: a8 :: a9 :: a10 :: a11 :: a12 :: a13 :: a14 :: y :: r) (.int x :: st) S F I J P := mh_istoreG (i := 15) (Or.inr ⟨hd, hq⟩) (by simp only [List.length_cons]; omega) k
theorem mh_astore_15 {a0 a1 a2 a3 a4 a5 a6 a7 a8 a9 a10 a11 a12 a13 a14 : Option Value} {x : Nat} {y : Option Value} {r : List (Option Value)} (hd : decode M.2.1 pc = .ok (.astore 15, 2)) (hq : pc + 2 = q) (k : mhV l K M kc ks Φ q (a0 :: a1 :: a2 :: a3 :: a4 :: a5 :: a6 :: a7 :: a8 :: a9 :: a10 :: a11 :: a12 :: a13 :: a14 :: some (.ref x) :: r) st S F I J P) : mhV l K M kc ks Φ pc (a0 :: a1 :: a2 :: a3 :: a4 :: a5 :: a6 :: a7 :: a8 :: a9 :: a10 :: a11 :: a12 :: a13 :: a14 :: y :: r) (.ref x :: st) S F I J P := mh_astoreG (i := 15) (Or.inr ⟨hd, hq⟩) (by simp only [List.length_cons]; omega) k
theorem mh_astoreN_15 {a0 a1 a2 a3 a4 a5 a6 a7 a8 a9 a10 a11 a12 a13 a14 : Option Value} {y : Option Value} {r : List (Option Value)} (hd : decode M.2.1 pc = .ok (.astore 15, 2)) (hq : pc + 2 = q) (k : mhV l K M kc ks Φ q (a0 :: a1 :: a2 :: a3 :: a4 :: a5 :: a6 :: a7 :: a8 :: a9 :: a10 :: a11 :: a12 :: a13 :: a14 :: some (.null) :: r) st S F I J P) : mhV l K M kc ks Φ pc (a0 :: a1 :: a2 :: a3 :: a4 :: a5 :: a6 :: a7 :: a8 :: a9 :: a10 :: a11 :: a12 :: a13 :: a14 :: y :: r) (.null :: st) S F I J P := mh_astoreNG (i := 15) (Or.inr ⟨hd, hq⟩) (by simp only [List.length_cons]; omega) k
theorem mh_iinc_15 {a0 a1 a2 a3 a4 a5 a6 a7 a8 a9 a10 a11 a12 a13 a14 : Option Value} {n : Int} {x v : Int32} {r : List (Option Value)} (hd : decode M.2.1 pc = .ok (.iinc 15 n, 3)) (hq : pc + 3 = q) (hv : Int32.ofInt n = v) (k : mhV l K M kc ks Φ q (a0 :: a1 :: a2 :: a3 :: a4 :: a5 :: a6 :: a7 :: a8 :: a9 :: a10 :: a11 :: a12 :: a13 :: a14 :: some (.int (x + v)) :: r) st S F I J P) : mhV l K M kc ks Φ pc (a0 :: a1 :: a2 :: a3 :: a4 :: a5 :: a6 :: a7 :: a8 :: a9 :: a10 :: a11 :: a12 :: a13 :: a14 :: some (.int x) :: r) st S F I J P := mh_iincG (i := 15) hd hq hv rfl k
theorem mh_ireturn {x : Int32} {ty : FieldType} (hd : decode M.2.1 pc = .ok (.ireturn, 1)) (ht : M.2.2.2.1 = some ty) (hn : narrow ty (.int x) = .int x) (h : Φ (some (.int x)) S F I J P) : mhV l K M kc ks Φ pc lo [.int x] S F I J P := by
  intro p e s m args below meth c Q MC MS hF h1 h2 hR H locs cells slots ls hr hS hl hc hs
  exact hR (some (.int x)) S F I J P H locs cells slots pc ls h hr hS (by omega) (by omega) ⟨⟨ty, ht, hn⟩, hd⟩
theorem mh_lreturn {x : Int64} (hd : decode M.2.1 pc = .ok (.lreturn, 1)) (ht : M.2.2.2.1 = some .long) (h : Φ (some (.long x)) S F I J P) : mhV l K M kc ks Φ pc lo [.long x] S F I J P := by
  intro p e s m args below meth c Q MC MS hF h1 h2 hR H locs cells slots ls hr hS hl hc hs
  exact hR (some (.long x)) S F I J P H locs cells slots pc ls h hr hS (by omega) (by omega) ⟨ht, hd⟩
theorem mh_areturn {x : Nat} {n : String} (hd : decode M.2.1 pc = .ok (.areturn, 1)) (ht : M.2.2.2.1 = some (.object n)) (h : Φ (some (.ref x)) S F I J P) : mhV l K M kc ks Φ pc lo [.ref x] S F I J P := by
  intro p e s m args below meth c Q MC MS hF h1 h2 hR H locs cells slots ls hr hS hl hc hs
  exact hR (some (.ref x)) S F I J P H locs cells slots pc ls h hr hS (by omega) (by omega) ⟨⟨n, ht⟩, hd⟩
theorem mh_areturnN {n : String} (hd : decode M.2.1 pc = .ok (.areturn, 1)) (ht : M.2.2.2.1 = some (.object n)) (h : Φ (some .null) S F I J P) : mhV l K M kc ks Φ pc lo [.null] S F I J P := by
  intro p e s m args below meth c Q MC MS hF h1 h2 hR H locs cells slots ls hr hS hl hc hs
  exact hR (some .null) S F I J P H locs cells slots pc ls h hr hS (by omega) (by omega) ⟨⟨n, ht⟩, hd⟩
theorem mh_return (hd : decode M.2.1 pc = .ok (.return_, 1)) (ht : M.2.2.2.1 = none) (h : Φ none S F I J P) : mhV l K M kc ks Φ pc lo [] S F I J P := by
  intro p e s m args below meth c Q MC MS hF h1 h2 hR H locs cells slots ls hr hS hl hc hs
  exact hR none S F I J P H locs cells slots pc ls h hr hS (by omega) (by omega) ⟨ht, hd⟩
end MHR
end
section
/-! fields and arrays over the small heap -/
def mhUF (F : mhF) (a k : Nat) (x : Int32) : mhF := fun b j => if b = a ∧ j = k then x else F b j
def mhUI (I : mhI) (a : Nat) (i x : Int32) : mhI := fun b j => if b = a ∧ j = i then x else I b j
def mhUJ (J : mhJ) (a : Nat) (i : Int32) (x : Int64) : mhJ := fun b j => if b = a ∧ j = i then x else J b j
def mhUP (P : mhP) (a : Nat) (i : Int32) (x : Option Nat) : mhP := fun b j => if b = a ∧ j = i then x else P b j
/-- the link of a field's reading: class of the reader, entry, class of the object (its number), field -/
def mhFl (own : String) (ix ci k : Nat) : Prop := ∃ (C : String) (T : u_T) (N : Nat), vwCl[ci]? = some (C, T, N) ∧ (∀ w ∈ u_ws C T N, w ∈ mhT) ∧ k < N ∧ Cond.fieldLink own ix (T k).1 (T k).2.1 (T k).2.2.1 ∈ mhT
/-- and of its writing: its type, whether it is final -/
def mhFw (own : String) (ix ci k : Nat) (ty : FieldType) (fin : Bool) : Prop := ∃ (C : String) (T : u_T) (N : Nat) (ty0 : Nat → FieldType), vwCl[ci]? = some (C, T, N) ∧ (∀ w ∈ u_ws C T N, w ∈ mhT) ∧ k < N ∧ Cond.fieldLink own ix (T k).1 (T k).2.1 (T k).2.2.1 ∈ mhT ∧
  (∀ k, k < N → parseFieldDescriptor (T k).2.2.1 = some (ty0 k)) ∧ (∀ a, a < N → ∀ b, b < N → a ≠ b → (T a).2.1 ≠ (T b).2.1) ∧ ty0 k = ty ∧ (T k).2.2.2 = fin ∧ (T k).1 = own
theorem mh_clamp {i : Int32} {n : Nat} (h : vp_in i n) : nI i.toNatClampNeg = i ∧ i.toNatClampNeg < n := by
  have h1 := vp_in_iff.mp h
  refine ⟨?_, Nat.not_le.mp fun q => h (Or.inr q)⟩
  have h0 : ¬ i < 0 := fun q => h (Or.inl q)
  obtain ⟨j, hj, rfl⟩ := nI_of h0
  rw [nI_clamp hj]
theorem mh_nIeq {i : Int32} {n j : Nat} (h : vp_in i n) (hn : n < 2 ^ 31) (hj : j < n) : nI j = i ↔ j = i.toNatClampNeg := by
  obtain ⟨h1, h2⟩ := mh_clamp h
  constructor
  · intro e
    rw [← e, nI_clamp (by omega)]
  · intro e
    rw [e, h1]
section MHC
variable {l : Launch} {K : mhX} {M : mhM} {kc ks : Nat} {Φ : mhQ} {pc q : Nat} {lo : List (Option Value)} {st : List Value} {S : List mhS} {F : mhF} {I : mhI} {J : mhJ} {P : mhP}
theorem mh_getI {a ci k ix : Nat} {rs : List (Option (Option Nat))} (hf : mhFl M.1.cls ix ci k) (hd : decode M.2.1 pc = .ok (.getfield ix, 3)) (hq : pc + 3 = q) (hS : S[a]? = some (.inr (ci, rs))) (hr : rs[k]? = some none) (kk : mhV l K M kc ks Φ q lo (.int (F a k) :: st) S F I J P) : mhV l K M kc ks Φ pc lo (.ref a :: st) S F I J P := by
  intro p e s m args below meth c Q MC MS hF h1 h2 hR H locs cells slots ls hrp hS' hl hc hs
  subst hq
  obtain ⟨C, T, N, f1, f2, f3, f4⟩ := hf
  exact va_get (D := K.1) (cl := vwCl) (tys := mhTys K) hF.1 hF.2.1 hF.2.2.2.2.1 f2 hF.2.2.2.1 hF.2.2.2.2.2.1.1 hrp.2 a (mhW_get hS) f1 k f3 (hF.2.2.2.2.1 _ f4) (fun _ h => h) (v := .int (F a k)) (by simp [List.getElem?_mapIdx, hr, mhFld]) hd (kk p e s m args below meth c Q MC MS hF h1 h2 hR H locs cells slots ls hrp hS' hl hc hs)
theorem mh_getR {a ci k ix r : Nat} {rs : List (Option (Option Nat))} (hf : mhFl M.1.cls ix ci k) (hd : decode M.2.1 pc = .ok (.getfield ix, 3)) (hq : pc + 3 = q) (hS : S[a]? = some (.inr (ci, rs))) (hr : rs[k]? = some (some (some r))) (kk : mhV l K M kc ks Φ q lo (.ref r :: st) S F I J P) : mhV l K M kc ks Φ pc lo (.ref a :: st) S F I J P := by
  intro p e s m args below meth c Q MC MS hF h1 h2 hR H locs cells slots ls hrp hS' hl hc hs
  subst hq
  obtain ⟨C, T, N, f1, f2, f3, f4⟩ := hf
  exact va_get (D := K.1) (cl := vwCl) (tys := mhTys K) hF.1 hF.2.1 hF.2.2.2.2.1 f2 hF.2.2.2.1 hF.2.2.2.2.2.1.1 hrp.2 a (mhW_get hS) f1 k f3 (hF.2.2.2.2.1 _ f4) (fun _ h => h) (v := .ref (K.2.2.1 + r)) (by simp [List.getElem?_mapIdx, hr, mhFld]) hd (kk p e s m args below meth c Q MC MS hF h1 h2 hR H locs cells slots ls hrp hS' hl hc hs)
theorem mhCell_F {F' : mhF} {b : Nat} {sh : mhS} (h : ∀ k, F' b k = F b k) : mhCell K F' I J P b sh = mhCell K F I J P b sh := by
  cases sh with
  | inl x => rfl
  | inr x => simp only [mhCell, h]
theorem mhCell_I {I' : mhI} {b : Nat} {sh : mhS} (h : ∀ k, I' b k = I b k) : mhCell K F I' J P b sh = mhCell K F I J P b sh := by
  cases sh with
  | inl x =>
    obtain ⟨t, n⟩ := x
    match t with
    | 0 => simp only [mhCell, mhArr, h]
    | 1 => simp only [mhCell, mhArr]
    | 2 => simp only [mhCell, mhArr, h]
    | t + 3 => simp only [mhCell, mhArr]
  | inr x => rfl
theorem mhCell_J {J' : mhJ} {b : Nat} {sh : mhS} (h : ∀ k, J' b k = J b k) : mhCell K F I J' P b sh = mhCell K F I J P b sh := by
  cases sh with
  | inl x =>
    obtain ⟨t, n⟩ := x
    match t with
    | 0 => simp only [mhCell, mhArr]
    | 1 => simp only [mhCell, mhArr, h]
    | 2 => simp only [mhCell, mhArr]
    | t + 3 => simp only [mhCell, mhArr]
  | inr x => rfl
theorem mhCell_P {P' : mhP} {b : Nat} {sh : mhS} (h : ∀ k, P' b k = P b k) : mhCell K F I J P' b sh = mhCell K F I J P b sh := by
  cases sh with
  | inl x =>
    obtain ⟨t, n⟩ := x
    match t with
    | 0 => simp only [mhCell, mhArr]
    | 1 => simp only [mhCell, mhArr]
    | 2 => simp only [mhCell, mhArr]
    | t + 3 => simp only [mhCell, mhArr, h]
  | inr x => rfl
theorem mhUF_ne {a k b j : Nat} {x : Int32} (h : b ≠ a) : mhUF F a k x b j = F b j := if_neg fun e => h e.1
theorem mhUI_ne {a b : Nat} {i j x : Int32} (h : b ≠ a) : mhUI I a i x b j = I b j := if_neg fun e => h e.1
theorem mhUJ_ne {a b : Nat} {i j : Int32} {x : Int64} (h : b ≠ a) : mhUJ J a i x b j = J b j := if_neg fun e => h e.1
theorem mhUP_ne {a b : Nat} {i j : Int32} {x : Option Nat} (h : b ≠ a) : mhUP P a i x b j = P b j := if_neg fun e => h e.1
theorem mh_fs_setI {a ci k : Nat} {rs : List (Option (Option Nat))} {x : Int32} (hr : rs[k]? = some none) : ((rs.mapIdx fun j r => mhFld K (F a j) r).set k (.int x)) = rs.mapIdx fun j r => mhFld K (mhUF F a k x a j) r := by
  apply List.ext_getElem?
  intro j
  have hk := (List.getElem?_eq_some_iff.mp hr).1
  by_cases hj : j = k
  · subst hj
    rw [List.getElem?_set_self (by simpa using hk)]
    simp [List.getElem?_mapIdx, hr, mhFld, mhUF]
  · rw [List.getElem?_set_ne (Ne.symm hj)]
    simp [List.getElem?_mapIdx, mhUF, hj]
theorem mhRep_put {S' : List mhS} {F' : mhF} {I' : mhI} {J' : mhJ} {P' : mhP} {a : Nat} {sh' : mhS} {H H1 : Heap} (h : mhRep K S F I J P H) (ha : a < S.length) (hS' : S' = S.set a sh') (z : H1.size = H.size) (oq : ∀ q : Nat, q ≠ K.2.2.1 + a → H1[q]? = H[q]?) (e : va_at K.1 vwCl (K.2.2.1 + a, mhCell K F' I' J' P' a sh') H1)
    (ho : ∀ b sh, b ≠ a → S[b]? = some sh → mhCell K F' I' J' P' b sh = mhCell K F I J P b sh) : mhRep K S' F' I' J' P' H1 := by
  refine ⟨by rw [z, h.1, hS', List.length_set], ?_⟩
  obtain ⟨sh, hsh⟩ : ∃ sh, S[a]? = some sh := ⟨S[a], List.getElem?_eq_getElem ha⟩
  rw [← mhW_set hS' ha _ rfl ho]
  exact h.2.set mhW_D (mhW_get hsh) e oq
theorem mh_same {a : Nat} {sh : mhS} (h : S[a]? = some sh) : S = S.set a sh := by
  apply List.ext_getElem?
  intro b
  by_cases hb : b = a
  · subst hb; rw [List.getElem?_set_self (List.getElem?_eq_some_iff.mp h).1, h]
  · rw [List.getElem?_set_ne (Ne.symm hb)]
/-- writing a field, whatever comes to it -/
theorem mh_putG {a ci k ix : Nat} {rs rs' : List (Option (Option Nat))} {F' : mhF} {v : Value} {ty : FieldType} (hf : mhFw M.1.cls ix ci k ty false ∨ (mhFw M.1.cls ix ci k ty true ∧ M.1.name = "<init>")) (hn : narrow ty (mhTr K v) = mhTr K v) (hfit : fits ty (mhTr K v) = true) (hd : decode M.2.1 pc = .ok (.putfield ix, 3)) (hq : pc + 3 = q) (hS : S[a]? = some (.inr (ci, rs))) (hk0 : k < rs.length)
    (hset : ((rs.mapIdx fun j r => mhFld K (F a j) r).set k (mhTr K v)) = rs'.mapIdx fun j r => mhFld K (F' a j) r) (hF' : ∀ b j, b ≠ a → F' b j = F b j) (kk : mhV l K M kc ks Φ q lo st (S.set a (.inr (ci, rs'))) F' I J P) : mhV l K M kc ks Φ pc lo (v :: .ref a :: st) S F I J P := by
  intro p e s m args below meth c Q MC MS hF h1 h2 hR H locs cells slots ls hrp hS' hl hc hs
  subst hq
  have hlt := (List.getElem?_eq_some_iff.mp hS).1
  have hlen : k < (rs.mapIdx fun j r => mhFld K (F a j) r).length := by rw [List.length_mapIdx]; exact hk0
  have go : ∀ (C : String) (T : u_T) (N : Nat), vwCl[ci]? = some (C, T, N) → k < N → (∀ a, a < N → ∀ b, b < N → a ≠ b → (T a).2.1 ≠ (T b).2.1) → ∀ (ty0 : Nat → FieldType), (∀ k, k < N → parseFieldDescriptor (T k).2.2.1 = some (ty0 k)) → (∀ w ∈ u_ws C T N, w ∈ mhT) → ∀ (cell : Cell), (∀ j, j < N → cell.slots[(K.1.2 ci) j]? = some (vp_V (rs.mapIdx fun j r => mhFld K (F a j) r) j)) → cell.cls = K.1.1 ci → cell.vm = .none →
      ∀ (H1 : Heap) (sl : Nat), sl = K.1.2 ci k → H1[K.2.2.1 + a]? = some (cell.setSlot sl (mhTr K v)) → H1.size = H.size → (∀ q : Nat, q ≠ K.2.2.1 + a → H1[q]? = H[q]?) → W p l e M.2.2.2.2 s m args below meth c H1 (locs ++ [⟨K.2.2.1 + a, sl⟩]) cells slots Q (F0 m (pc + 3) ls (st.map (mhTr K))) := by
    intro C T N f1 f3 hnm ty0 hty f2 cell q4 q2 q3 H1 sl hsl e1 z oq
    subst hsl
    have hap := va_apart (own := M.1.cls) hF.2.2.2.2.1 f2 ty0 hty hnm hF.2.2.2.2.2.1.1 f1
    refine kk p e s m args below meth c Q MC MS hF h1 h2 hR H1 _ cells slots ls (mhRep_put hrp hlt rfl z oq ?_ (fun b sh hb _ => mhCell_F fun j => hF' b j hb)) (hS'.put z oq (Nat.le_add_right _ _)) hl hc hs
    refine ⟨_, f1, t_OB.to (V := updV (vp_V (rs.mapIdx fun j r => mhFld K (F a j) r)) k (mhTr K v)) ⟨_, e1, q2, q3, t_set q4 hap f3 (mhTr K v)⟩ (fun j _ => ?_)⟩
    rw [vp_updV_set hlen (mhTr K v) j, hset]
  have core : ∀ fin, mhFw M.1.cls ix ci k ty fin → (fin = true → M.1.name = "<init>") → W p l e M.2.2.2.2 s m args below meth c H locs cells slots Q (F0 m pc ls (List.map (mhTr K) (v :: .ref a :: st))) := by
    intro fin hfw hini
    obtain ⟨C, T, N, ty0, f1, f2, f3, f4, f5, f6, f7, f8, f9⟩ := hfw
    obtain ⟨r, g1, cell, q1, q2, q3, q4⟩ := hrp.2 a _ (mhW_get hS)
    have hr : r = (C, T, N) := Option.some.inj (g1.symm.trans f1)
    subst hr
    obtain ⟨hSl, hfc, kC, hkC, hkind⟩ := hF.2.2.2.2.2.1.1.1 ci _ f1
    obtain ⟨cf, kf, fi, f, hi, hsl⟩ := hSl k f3
    have hlay := hF.2.2.2.2.1 _ (f2 _ (u_in_lay f3))
    have hst := (u_facts hfc hkC (u_lays hF.2.2.2.2.1 f2 f3) hi).1
    have hpd : parseFieldDescriptor (T k).2.2.1 = some ty := by rw [f5 k f3, f7]
    unfold u_lay at hlay
    cases hfin : (T k).2.2.2 with
    | false =>
      rw [if_neg (by rw [hfin]; decide)] at hlay
      have h6 := u_store hfc hkC hkind hlay hi hpd hn hfit
      refine W.putK hF.1 hF.2.1 (f := f) ⟨hF.2.2.2.1, hF.2.2.2.2.1 _ f4, ⟨_, _, _, hi⟩, hst⟩ (by rw [q2]; exact h6) q1 q3 (by rw [hsl]; exact k2_hasslot (q4 k f3)) rfl rfl hd fun H' e1 e2 e3 => ?_
      exact go C T N f1 f3 f6 ty0 f5 f2 cell q4 q2 q3 H' _ hsl e1 e2 e3
    | true =>
      rw [if_pos hfin] at hlay
      have hcf : m.cls = cf := by
        obtain ⟨_, _, c', _, _, _, -, -, hf', -, -, -, hown2, -⟩ := Cond.laysFinal_spec hlay
        have e1 : c' = cf := by have := hi.symm.trans hf'; simp at this; exact this.1.symm
        rw [f9] at hown2
        rw [← e1]; exact Option.some.inj (hF.2.2.2.1.symm.trans hown2)
      have h6 := u_fits hfc hkC hkind (Or.inr hlay) hi hpd hn hfit
      refine W.putFinK hF.1 hF.2.1 hF.2.2.2.1 (hF.2.2.2.2.1 _ f4) hi hst hcf (hF.2.2.2.2.2.2.2.1 (hini (by rw [← f8, hfin]))) (by rw [q2]; exact h6) q1 q3 (by rw [hsl]; exact k2_hasslot (q4 k f3)) rfl rfl hd fun H' e1 e2 e3 => ?_
      exact go C T N f1 f3 f6 ty0 f5 f2 cell q4 q2 q3 H' _ hsl e1 e2 e3
  rcases hf with hf | ⟨hf, hi⟩
  · exact core false hf (fun e => by cases e)
  · exact core true hf (fun _ => hi)
theorem mh_putI {a ci k ix : Nat} {rs : List (Option (Option Nat))} {x : Int32} {ty : FieldType} (hf : mhFw M.1.cls ix ci k ty false ∨ (mhFw M.1.cls ix ci k ty true ∧ M.1.name = "<init>")) (hn : narrow ty (.int x) = .int x) (hfit : fits ty (.int x) = true) (hd : decode M.2.1 pc = .ok (.putfield ix, 3)) (hq : pc + 3 = q) (hS : S[a]? = some (.inr (ci, rs))) (hr : rs[k]? = some none) (kk : mhV l K M kc ks Φ q lo st S (mhUF F a k x) I J P) : mhV l K M kc ks Φ pc lo (.int x :: .ref a :: st) S F I J P := by
  refine mh_putG (v := .int x) hf hn hfit hd hq hS (List.getElem?_eq_some_iff.mp hr).1 (mh_fs_setI (ci := ci) hr) (fun b j hb => mhUF_ne hb) ?_
  rw [← mh_same hS]
  exact kk
theorem mh_putR {a ci k ix r : Nat} {rs : List (Option (Option Nat))} {x : Option Nat} {ty : FieldType} (hf : mhFw M.1.cls ix ci k ty false ∨ (mhFw M.1.cls ix ci k ty true ∧ M.1.name = "<init>")) (hty : (∃ n, ty = .object n) ∨ ∃ t, ty = .array t) (hd : decode M.2.1 pc = .ok (.putfield ix, 3)) (hq : pc + 3 = q) (hS : S[a]? = some (.inr (ci, rs))) (hr : rs[k]? = some (some x)) (kk : mhV l K M kc ks Φ q lo st (S.set a (.inr (ci, rs.set k (some (some r))))) F I J P) : mhV l K M kc ks Φ pc lo (.ref r :: .ref a :: st) S F I J P := by
  have hk := (List.getElem?_eq_some_iff.mp hr).1
  refine mh_putG (v := .ref r) (F' := F) hf ?_ ?_ hd hq hS hk ?_ (fun _ _ _ => rfl) kk
  · rcases hty with ⟨n, rfl⟩ | ⟨t, rfl⟩ <;> rfl
  · rcases hty with ⟨n, rfl⟩ | ⟨t, rfl⟩ <;> rfl
  · apply List.ext_getElem?
    intro j
    by_cases hj : j = k
    · subst hj
      rw [List.getElem?_set_self (by simpa using hk)]
      simp [List.getElem?_mapIdx, hk, mhFld, mhTr]
    · rw [List.getElem?_set_ne (Ne.symm hj)]
      simp [List.getElem?_mapIdx, List.getElem?_set_ne (Ne.symm hj)]
/-! arrays -/
theorem mh_iald {a n : Nat} {i : Int32} (hd : decode M.2.1 pc = .ok (.iaload, 1)) (hq : pc + 1 = q) (hS : S[a]? = some (.inl (0, n))) (hin : vp_in i n) (kk : mhV l K M kc ks Φ q lo (.int (I a i) :: st) S F I J P) : mhV l K M kc ks Φ pc lo (.int i :: .ref a :: st) S F I J P := by
  intro p e s m args below meth c Q MC MS hF h1 h2 hR H locs cells slots ls hrp hS' hl hc hs
  subst hq
  refine va_iald (D := K.1) (cl := vwCl) (tys := mhTys K) hF.1 hF.2.1 hF.2.2.2.2.2.1.1 hrp.2 a 0 (mhW_get hS) rfl hin hd ?_
  dsimp only
  rw [if_pos (mh_clamp hin).2, (mh_clamp hin).1]
  exact kk p e s m args below meth c Q MC MS hF h1 h2 hR H locs cells slots ls hrp hS' hl hc hs
theorem mh_zald {a n : Nat} {i : Int32} (hd : decode M.2.1 pc = .ok (.baload, 1)) (hq : pc + 1 = q) (hS : S[a]? = some (.inl (2, n))) (hin : vp_in i n) (kk : mhV l K M kc ks Φ q lo (.int (I a i) :: st) S F I J P) : mhV l K M kc ks Φ pc lo (.int i :: .ref a :: st) S F I J P := by
  intro p e s m args below meth c Q MC MS hF h1 h2 hR H locs cells slots ls hrp hS' hl hc hs
  subst hq
  refine va_zald (D := K.1) (cl := vwCl) (tys := mhTys K) hF.1 hF.2.1 hF.2.2.2.2.2.1.1 hrp.2 a 2 (mhW_get hS) rfl hin hd ?_
  dsimp only
  rw [if_pos (mh_clamp hin).2, (mh_clamp hin).1]
  exact kk p e s m args below meth c Q MC MS hF h1 h2 hR H locs cells slots ls hrp hS' hl hc hs
theorem mh_lald {a n : Nat} {i : Int32} (hd : decode M.2.1 pc = .ok (.laload, 1)) (hq : pc + 1 = q) (hS : S[a]? = some (.inl (1, n))) (hin : vp_in i n) (kk : mhV l K M kc ks Φ q lo (.long (J a i) :: st) S F I J P) : mhV l K M kc ks Φ pc lo (.int i :: .ref a :: st) S F I J P := by
  intro p e s m args below meth c Q MC MS hF h1 h2 hR H locs cells slots ls hrp hS' hl hc hs
  subst hq
  refine va_lald (D := K.1) (cl := vwCl) (tys := mhTys K) hF.1 hF.2.1 hF.2.2.2.2.2.1.1 hrp.2 a 1 (mhW_get hS) rfl hin hd ?_
  dsimp only
  rw [if_pos (mh_clamp hin).2, (mh_clamp hin).1]
  exact kk p e s m args below meth c Q MC MS hF h1 h2 hR H locs cells slots ls hrp hS' hl hc hs
theorem mh_alen {a t n : Nat} {v : Int32} (hd : decode M.2.1 pc = .ok (.arraylength, 1)) (hq : pc + 1 = q) (hS : S[a]? = some (.inl (t, n))) (ht : t < 7) (hv : nI n = v) (kk : mhV l K M kc ks Φ q lo (.int v :: st) S F I J P) : mhV l K M kc ks Φ pc lo (.ref a :: st) S F I J P := by
  intro p e s m args below meth c Q MC MS hF h1 h2 hR H locs cells slots ls hrp hS' hl hc hs
  subst hq
  obtain ⟨ty, hty⟩ : ∃ ty, (mhTys K)[t]? = some (K.2.1 t, ty) := by
    match t, ht with
    | 0, _ => exact ⟨_, rfl⟩
    | 1, _ => exact ⟨_, rfl⟩
    | 2, _ => exact ⟨_, rfl⟩
    | 3, _ => exact ⟨_, rfl⟩
    | 4, _ => exact ⟨_, rfl⟩
    | 5, _ => exact ⟨_, rfl⟩
    | 6, _ => exact ⟨_, rfl⟩
    | t + 7, h => omega
  have hx : (mhArr K I J P a n t).1 = n := by
    match t with
    | 0 => rfl
    | 1 => rfl
    | 2 => rfl
    | t + 3 => rfl
  exact va_alen (D := K.1) (cl := vwCl) (tys := mhTys K) hF.1 hF.2.1 hF.2.2.2.2.2.1.1 hrp.2 a t (mhW_get hS) hty (by rw [hx]; exact hv) hd (kk p e s m args below meth c Q MC MS hF h1 h2 hR H locs cells slots ls hrp hS' hl hc hs)
theorem mh_iast {a n : Nat} {i x : Int32} (hd : decode M.2.1 pc = .ok (.iastore, 1)) (hq : pc + 1 = q) (hS : S[a]? = some (.inl (0, n))) (hn : n < 2 ^ 31) (hin : vp_in i n) (kk : mhV l K M kc ks Φ q lo st S F (mhUI I a i x) J P) : mhV l K M kc ks Φ pc lo (.int x :: .int i :: .ref a :: st) S F I J P := by
  intro p e s m args below meth c Q MC MS hF h1 h2 hR H locs cells slots ls hrp hS' hl hc hs
  subst hq
  have hlt := (List.getElem?_eq_some_iff.mp hS).1
  refine W.iast hF.1 hF.2.1 (hrp.2 a _ (mhW_get hS)) ((hF.2.2.2.2.2.1.1.2 0 _ rfl).1 n (fun j => .int (if j < n then I a (nI j) else 0))) (fun q => by cases q) (by show ¬ (i < 0 ∨ (arrV _ _ _).slots.size ≤ _); rw [arrV_size]; exact hin) rfl rfl hd fun H1 e1 z oq => ?_
  refine kk p e s m args below meth c Q MC MS hF h1 h2 hR H1 _ cells slots ls (mhRep_put hrp hlt (mh_same hS) z oq ?_ (fun b sh hb _ => mhCell_I fun j => mhUI_ne hb)) (hS'.put z oq (Nat.le_add_right _ _)) hl hc hs
  show H1[_]? = some (vp_cell _ _)
  rw [e1]
  show some ((arrV (K.2.1 0) n (fun j => Value.int (if j < n then I a (nI j) else 0))).setSlot _ _) = some (arrV (K.2.1 0) n (fun j => Value.int (if j < n then mhUI I a i x a (nI j) else 0)))
  rw [arrV_store]
  congr 2
  funext j
  by_cases hj : j = i.toNatClampNeg
  · subst hj
    simp [updV, mhUI, (mh_clamp hin).1, (mh_clamp hin).2]
  · by_cases hjn : j < n
    · simp [updV, mhUI, hj, hjn, mh_nIeq hin hn hjn]
    · simp [updV, hj, hjn]
theorem mh_zast {a n : Nat} {i x : Int32} (hd : decode M.2.1 pc = .ok (.bastore, 1)) (hq : pc + 1 = q) (hS : S[a]? = some (.inl (2, n))) (hn : n < 2 ^ 31) (hin : vp_in i n) (hx : narrow .boolean (.int x) = .int x) (kk : mhV l K M kc ks Φ q lo st S F (mhUI I a i x) J P) : mhV l K M kc ks Φ pc lo (.int x :: .int i :: .ref a :: st) S F I J P := by
  intro p e s m args below meth c Q MC MS hF h1 h2 hR H locs cells slots ls hrp hS' hl hc hs
  subst hq
  have hlt := (List.getElem?_eq_some_iff.mp hS).1
  refine W.zast hF.1 hF.2.1 (hrp.2 a _ (mhW_get hS)) ((hF.2.2.2.2.2.1.1.2 2 _ rfl).1 n (fun j => .int (if j < n then I a (nI j) else 0))) (fun q => by cases q) (by show ¬ (i < 0 ∨ (arrV _ _ _).slots.size ≤ _); rw [arrV_size]; exact hin) rfl rfl hd fun H1 e1 z oq => ?_
  refine kk p e s m args below meth c Q MC MS hF h1 h2 hR H1 _ cells slots ls (mhRep_put hrp hlt (mh_same hS) z oq ?_ (fun b sh hb _ => mhCell_I fun j => mhUI_ne hb)) (hS'.put z oq (Nat.le_add_right _ _)) hl hc hs
  show H1[_]? = some (vp_cell _ _)
  rw [e1]
  show some ((arrV (K.2.1 2) n (fun j => Value.int (if j < n then I a (nI j) else 0))).setSlot _ _) = some (arrV (K.2.1 2) n (fun j => Value.int (if j < n then mhUI I a i x a (nI j) else 0)))
  rw [arrV_store]
  congr 2
  funext j
  by_cases hj : j = i.toNatClampNeg
  · subst hj
    simp [updV, mhUI, (mh_clamp hin).1, (mh_clamp hin).2, hx]
  · by_cases hjn : j < n
    · simp [updV, mhUI, hj, hjn, mh_nIeq hin hn hjn]
    · simp [updV, hj, hjn]
theorem mh_last {a n : Nat} {i : Int32} {x : Int64} (hd : decode M.2.1 pc = .ok (.lastore, 1)) (hq : pc + 1 = q) (hS : S[a]? = some (.inl (1, n))) (hn : n < 2 ^ 31) (hin : vp_in i n) (kk : mhV l K M kc ks Φ q lo st S F I (mhUJ J a i x) P) : mhV l K M kc ks Φ pc lo (.long x :: .int i :: .ref a :: st) S F I J P := by
  intro p e s m args below meth c Q MC MS hF h1 h2 hR H locs cells slots ls hrp hS' hl hc hs
  subst hq
  have hlt := (List.getElem?_eq_some_iff.mp hS).1
  refine W.last hF.1 hF.2.1 (hrp.2 a _ (mhW_get hS)) ((hF.2.2.2.2.2.1.1.2 1 _ rfl).1 n (fun j => .long (if j < n then J a (nI j) else 0))) (fun q => by cases q) (by show ¬ (i < 0 ∨ (arrV _ _ _).slots.size ≤ _); rw [arrV_size]; exact hin) rfl rfl hd fun H1 e1 z oq => ?_
  refine kk p e s m args below meth c Q MC MS hF h1 h2 hR H1 _ cells slots ls (mhRep_put hrp hlt (mh_same hS) z oq ?_ (fun b sh hb _ => mhCell_J fun j => mhUJ_ne hb)) (hS'.put z oq (Nat.le_add_right _ _)) hl hc hs
  show H1[_]? = some (vp_cell _ _)
  rw [e1]
  show some ((arrV (K.2.1 1) n (fun j => Value.long (if j < n then J a (nI j) else 0))).setSlot _ _) = some (arrV (K.2.1 1) n (fun j => Value.long (if j < n then mhUJ J a i x a (nI j) else 0)))
  rw [arrV_store]
  congr 2
  funext j
  by_cases hj : j = i.toNatClampNeg
  · subst hj
    simp [updV, mhUJ, (mh_clamp hin).1, (mh_clamp hin).2]
  · by_cases hjn : j < n
    · simp [updV, mhUJ, hj, hjn, mh_nIeq hin hn hjn]
    · simp [updV, hj, hjn]
end MHC
end
section
/-! calls -/
/-- what the tables say of a method that is called -/
def mhCe (M N : mhM) (n : Nat) : Prop := Cond.initialized N.1.cls ∈ mhT ∧ Cond.code N.1 N.2.1 N.2.2.1 N.2.2.2.1 ∈ mhT ∧ (N.1.cls ≠ "java/lang/invoke/MethodHandle" ∧ N.1.cls ≠ "java/lang/invoke/VarHandle" ∧ (parseMethodDescriptor N.1.desc).map (fun d => d.parameters.length) = some n) ∧ N.2.2.2.2.frames + 1 ≤ M.2.2.2.2.frames ∧ 8 + (N.2.2.1 + 11) + N.2.2.2.2.locals ≤ M.2.2.2.2.locals
/-- the sites: a static call, one of a nest mate, a virtual one, a constructor's, one of a nest mate's -/
def mhSs (M : mhM) (pc : Nat) (N : mhM) (n : Nat) : Prop := mhCe M N n ∧ ∃ ix, decode M.2.1 pc = .ok (.invokestatic ix, 3) ∧ Cond.methodLink M.1.cls ix N.1 ∈ mhT ∧ Cond.static N.1 ∈ mhT
def mhSn (M : mhM) (pc : Nat) (N : mhM) (n : Nat) : Prop := mhCe M N n ∧ ∃ ix host, decode M.2.1 pc = .ok (.invokestatic ix, 3) ∧ (M.1.cls, ix, N.1, host) ∈ mhNest ∧ Cond.static N.1 ∈ mhT
def mhSv (M : mhM) (pc : Nat) (N : mhM) (n ci : Nat) : Prop := mhCe M N n ∧ (∃ r : vw_C, vwCl[ci]? = some r ∧ r.1 = N.1.cls) ∧ ∃ ix, decode M.2.1 pc = .ok (.invokevirtual ix, 3) ∧ Cond.methodLink M.1.cls ix N.1 ∈ mhT ∧ Cond.instanceMethod N.1 ∈ mhT ∧ Cond.selects N.1.cls N.1 N.1 ∈ mhT
def mhSi (M : mhM) (pc : Nat) (N : mhM) (n : Nat) : Prop := mhCe M N n ∧ N.2.2.2.1 = none ∧ N.1.name = "<init>" ∧ ∃ ix, decode M.2.1 pc = .ok (.invokespecial ix, 3) ∧ Cond.methodLink M.1.cls ix N.1 ∈ mhT ∧ Cond.instanceMethod N.1 ∈ mhT
def mhSj (M : mhM) (pc : Nat) (N : mhM) (n : Nat) : Prop := mhCe M N n ∧ N.2.2.2.1 = none ∧ N.1.name = "<init>" ∧ ∃ ix host, decode M.2.1 pc = .ok (.invokespecial ix, 3) ∧ (M.1.cls, ix, N.1, host) ∈ mhNest ∧ Cond.instanceMethod N.1 ∈ mhT
theorem mhTr_cat (K : mhX) (v : Value) : (mhTr K v).category = v.category := by cases v <;> rfl
theorem mh_restTr {K : mhX} {st : List Value} (h : (st.map fun v => v.category).sum ≤ 8) : ((st.map (mhTr K)).map fun v => v.category).sum ≤ 8 := by
  rw [List.map_map]
  have : ((fun v : Value => v.category) ∘ mhTr K) = fun v : Value => v.category := by funext v; exact mhTr_cat K v
  rw [this]; exact h
theorem mhGood {N : mhM} (h : Cond.code N.1 N.2.1 N.2.2.1 N.2.2.2.1 ∈ mhT) : GoodIn mhT (mhWs N) := fun w hw => by
  rcases List.mem_cons.mp hw with e | e
  · rw [e]; exact mhT_good _ h
  · exact mhT_good _ e
section MHK
variable {l : Launch} {K : mhX} {M N : mhM} {kc ks n : Nat} {Φ : mhQ} {pc q : Nat} {lo : List (Option Value)} {st as : List Value} {S : List mhS} {F : mhF} {I : mhI} {J : mhJ} {P : mhP}
variable {p : Program} {e : Env} {s : State} {m : MethodId} {args : Array Value} {below : List Frame} {meth : Method} {c : Code} {Q : State → Prop}
/-- behind a call -/
theorem mh_back {R : Room} {H : Heap} {locs : List Loc} {cells slots mc ms : Nat} {ls : Array Slot} {st0 rest : List Value} {a : Array Value} {Ψ : mhQ} (hF : mhFx K M p s m args meth c)
    (hr : va_Run p l e R s m args below meth c H locs cells slots mc ms (F0 m pc ls st0) rest (mhPost K Ψ a) (fun q => K.2.2.1 ≤ q)) (hS : va_S (fun q => K.2.2.1 ≤ q) s.heap H locs)
    (kk : ∀ (v : Option Value) (S : List mhS) (F : mhF) (I : mhI) (J : mhJ) (P : mhP) (H1 : Heap) (locs1 : List Loc), Ψ v S F I J P → mhRep K S F I J P H1 → va_S (fun q => K.2.2.1 ≤ q) s.heap H1 locs1 → W p l e R s m args below meth c H1 locs1 (cells + mc) (slots + ms) Q (F0 m (pc + 3) ls ((v.map (mhTr K)).toList ++ rest))) : W p l e R s m args below meth c H locs cells slots Q (F0 m pc ls st0) := by
  intro T hT X
  obtain ⟨v, st₀, t, T', L, h0, X', hL, e1, e2, ⟨⟨v', S', F', I', J', P', hv, hΨ, hrep⟩, hz, hk⟩, st⟩ := hr T hT X
  cases hv
  rw [h0] at hz hk
  obtain ⟨t2, a1, b1⟩ := kk v' S' F' I' J' P' T'.heap (locs ++ L) hΨ (by rw [e1]; exact hrep)
    ⟨Nat.le_trans hS.1 (by rw [e1]; exact hz), fun q h1 h2 => by rw [e1, hk q (Nat.lt_of_lt_of_le h1 hS.1) h2]; exact hS.2.1 q h1 h2, fun q hq => by
      rcases List.mem_append.mp hq with h | h
      · exact hS.2.2 q h
      · exact hL q h⟩ T' rfl X'
  exact ⟨t2, st t2 a1, b1⟩
theorem mh_after {MC MS : Nat} (hF : mhFx K M p s m args meth c) (h1 : MC ≤ M.2.2.2.2.cells) (h2 : MS ≤ M.2.2.2.2.slots) (hR : mhRet K M p l e s m args below meth c Q MC MS Φ) {cells slots : Nat} {ls : Array Slot} (hl : mhL K M.2.2.1 ls lo) (hc : cells + kc ≤ MC) (hs : slots + ks ≤ MS) (hk : N.2.2.2.2.cells ≤ kc ∧ N.2.2.2.2.slots ≤ ks)
    (v : Option Value) (S : List mhS) (F : mhF) (I : mhI) (J : mhJ) (P : mhP) (H1 : Heap) (locs1 : List Loc) (hV : mhV l K M (kc - N.2.2.2.2.cells) (ks - N.2.2.2.2.slots) Φ (pc + 3) lo (v.toList ++ st) S F I J P) (hrep : mhRep K S F I J P H1) (hS : va_S (fun q => K.2.2.1 ≤ q) s.heap H1 locs1) :
    W p l e M.2.2.2.2 s m args below meth c H1 locs1 (cells + N.2.2.2.2.cells) (slots + N.2.2.2.2.slots) Q (F0 m (pc + 3) ls ((v.map (mhTr K)).toList ++ st.map (mhTr K))) := by
  have h := hV p e s m args below meth c Q MC MS hF h1 h2 hR H1 locs1 (cells + N.2.2.2.2.cells) (slots + N.2.2.2.2.slots) ls hrep hS hl (by omega) (by omega)
  rw [List.map_append] at h
  cases v <;> exact h
theorem mh_pre {H : Heap} (hF : mhFx K M p s m args meth c) (hrp : mhRep K S F I J P H) : PreS s H (mhPre K as S F I J P) (as.map (mhTr K)) := ⟨mhPre_blind, fun U hU hW => ⟨rfl, by rw [hU]; exact hrp, hF.2.2.2.2.2.1.warm hW⟩⟩
theorem mh_callB {ix : Nat} (hF : mhFx K M p s m args meth c) (h : mhCe M N n) (hl : Cond.methodLink M.1.cls ix N.1 ∈ mhT) : CallB M.2.2.2.2 s args M.1.cls ix N.1 N.2.1 N.2.2.1 N.2.2.2.1 (mhWs N) N.2.2.2.2 N.2.2.2.2.cells N.2.2.2.2.slots n :=
  callB_of n hF.2.2.2.2.1 (mhGood h.2.1) rfl rfl rfl (hF.2.2.2.2.1 _ h.1) (hF.2.2.2.2.1 _ hl) h.2.2.1 h.2.2.2
theorem mh_callS (h : mhSs M pc N n) (hn : as.length = n) (hq : pc + 3 = q) (hst : (st.map fun v => v.category).sum ≤ 8) (hk : N.2.2.2.2.cells ≤ kc ∧ N.2.2.2.2.slots ≤ ks)
    (hok : mhOk l K N as S F I J P (fun v S F I J P => mhV l K M (kc - N.2.2.2.2.cells) (ks - N.2.2.2.2.slots) Φ q lo (v.toList ++ st) S F I J P)) : mhV l K M kc ks Φ pc lo (as.reverse ++ st) S F I J P := by
  intro p e s m args below meth c Q MC MS hF h1 h2 hR H locs cells slots ls hrp hS hl hc hs
  subst hq
  obtain ⟨hce, ix, hd, hlk, hsta⟩ := h
  refine mh_back hF (va_runS (As := as.map (mhTr K)) (rest := st.map (mhTr K)) ⟨hF.1, hF.2.1, hF.2.2.1, hF.2.2.2.1, hF.2.2.2.2.1⟩ hok ⟨mh_callB hF hce hlk, hF.2.2.2.2.1 _ hsta⟩ (mh_pre hF hrp) rfl (by rw [List.length_map]; exact hn) hl.1 (by show List.map (mhTr K) (as.reverse ++ st) = _; simp) (lv_room (mh_restTr hst)) hd ⟨by omega, by omega⟩) hS ?_
  exact fun v S F I J P H1 locs1 hV hrep hS1 => mh_after hF h1 h2 hR hl hc hs hk v S F I J P H1 locs1 hV hrep hS1
theorem mh_callN (h : mhSn M pc N n) (hn : as.length = n) (hq : pc + 3 = q) (hst : (st.map fun v => v.category).sum ≤ 8) (hk : N.2.2.2.2.cells ≤ kc ∧ N.2.2.2.2.slots ≤ ks)
    (hok : mhOk l K N as S F I J P (fun v S F I J P => mhV l K M (kc - N.2.2.2.2.cells) (ks - N.2.2.2.2.slots) Φ q lo (v.toList ++ st) S F I J P)) : mhV l K M kc ks Φ pc lo (as.reverse ++ st) S F I J P := by
  intro p e s m args below meth c Q MC MS hF h1 h2 hR H locs cells slots ls hrp hS hl hc hs
  subst hq
  obtain ⟨hce, ix, host, hd, hlk, hsta⟩ := h
  refine mh_back hF (va_runSN (As := as.map (mhTr K)) (rest := st.map (mhTr K)) ⟨hF.1, hF.2.1, hF.2.2.1, hF.2.2.2.1, hF.2.2.2.2.1⟩ hok ⟨va_cnB n hF.2.2.2.2.1 (mhGood hce.2.1) rfl rfl rfl (hF.2.2.2.2.2.1.2.1 _ hlk) (hF.2.2.2.2.1 _ hce.1) hce.2.2.1 hce.2.2.2, hF.2.2.2.2.1 _ hsta, trivial⟩ (mh_pre hF hrp) rfl (by rw [List.length_map]; exact hn) hl.1 (by show List.map (mhTr K) (as.reverse ++ st) = _; simp) (lv_room (mh_restTr hst)) hd ⟨by omega, by omega⟩) hS ?_
  exact fun v S F I J P H1 locs1 hV hrep hS1 => mh_after hF h1 h2 hR hl hc hs hk v S F I J P H1 locs1 hV hrep hS1
theorem mh_callV {a ci : Nat} {rs : List (Option (Option Nat))} (h : mhSv M pc N n ci) (hn : as.length = n) (hS0 : S[a]? = some (.inr (ci, rs))) (hq : pc + 3 = q) (hst : (st.map fun v => v.category).sum ≤ 8) (hk : N.2.2.2.2.cells ≤ kc ∧ N.2.2.2.2.slots ≤ ks)
    (hok : mhOk l K N (.ref a :: as) S F I J P (fun v S F I J P => mhV l K M (kc - N.2.2.2.2.cells) (ks - N.2.2.2.2.slots) Φ q lo (v.toList ++ st) S F I J P)) : mhV l K M kc ks Φ pc lo (as.reverse ++ .ref a :: st) S F I J P := by
  intro p e s m args below meth c Q MC MS hF h1 h2 hR H locs cells slots ls hrp hS hl hc hs
  subst hq
  obtain ⟨hce, ⟨r, hr1, hr2⟩, ix, hd, hlk, hin, hse⟩ := h
  have hrecv := va_recv hF.2.2.2.2.2.1.1 hrp.2 hr1 (mhW_get hS0)
  rw [hr2] at hrecv
  refine mh_back hF (va_runV (C := N.1.cls) (b := K.2.2.1 + a) (As := as.map (mhTr K)) (rest := st.map (mhTr K)) ⟨hF.1, hF.2.1, hF.2.2.1, hF.2.2.2.1, hF.2.2.2.2.1⟩ hok ⟨mh_callB hF hce hlk, hF.2.2.2.2.1 _ hin, hF.2.2.2.2.1 _ hse⟩ ⟨mhPre_blind, hrecv, (mh_pre (as := .ref a :: as) hF hrp).2⟩ rfl (by rw [List.length_map]; exact hn) hl.1 (by show List.map (mhTr K) (as.reverse ++ .ref a :: st) = _; simp [mhTr]) (lv_room (mh_restTr hst)) hd ⟨by omega, by omega⟩) hS ?_
  exact fun v S F I J P H1 locs1 hV hrep hS1 => mh_after hF h1 h2 hR hl hc hs hk v S F I J P H1 locs1 hV hrep hS1
theorem mh_callI {a : Nat} (h : mhSi M pc N n) (hn : as.length = n) (hq : pc + 3 = q) (hst : (st.map fun v => v.category).sum ≤ 8) (hk : N.2.2.2.2.cells ≤ kc ∧ N.2.2.2.2.slots ≤ ks)
    (hok : mhOk l K N (.ref a :: as) S F I J P (fun v S F I J P => mhV l K M (kc - N.2.2.2.2.cells) (ks - N.2.2.2.2.slots) Φ q lo (v.toList ++ st) S F I J P)) : mhV l K M kc ks Φ pc lo (as.reverse ++ .ref a :: st) S F I J P := by
  intro p e s m args below meth c Q MC MS hF h1 h2 hR H locs cells slots ls hrp hS hl hc hs
  subst hq
  obtain ⟨hce, hnone, hini, ix, hd, hlk, hin⟩ := h
  have hcb := mh_callB hF hce hlk
  rw [hnone] at hcb
  refine mh_back hF (va_runI (b := K.2.2.1 + a) (As := as.map (mhTr K)) (rest := st.map (mhTr K)) ⟨hF.1, hF.2.1, hF.2.2.1, hF.2.2.2.1, hF.2.2.2.2.1⟩ hok ⟨hcb, hini, hF.2.2.2.2.1 _ hin⟩ (mh_pre (as := .ref a :: as) hF hrp) rfl (by rw [List.length_map]; exact hn) hl.1 (by show List.map (mhTr K) (as.reverse ++ .ref a :: st) = _; simp [mhTr]) (lv_room (mh_restTr hst)) hd ⟨by omega, by omega⟩) hS ?_
  exact fun v S F I J P H1 locs1 hV hrep hS1 => mh_after hF h1 h2 hR hl hc hs hk v S F I J P H1 locs1 hV hrep hS1
theorem mh_callJ {a : Nat} (h : mhSj M pc N n) (hn : as.length = n) (hq : pc + 3 = q) (hst : (st.map fun v => v.category).sum ≤ 8) (hk : N.2.2.2.2.cells ≤ kc ∧ N.2.2.2.2.slots ≤ ks)
    (hok : mhOk l K N (.ref a :: as) S F I J P (fun v S F I J P => mhV l K M (kc - N.2.2.2.2.cells) (ks - N.2.2.2.2.slots) Φ q lo (v.toList ++ st) S F I J P)) : mhV l K M kc ks Φ pc lo (as.reverse ++ .ref a :: st) S F I J P := by
  intro p e s m args below meth c Q MC MS hF h1 h2 hR H locs cells slots ls hrp hS hl hc hs
  subst hq
  obtain ⟨hce, hnone, hini, ix, host, hd, hlk, hin⟩ := h
  have hcb : va_CN M.2.2.2.2 s args M.1.cls ix N.1 host N.2.1 N.2.2.1 N.2.2.2.1 (mhWs N) N.2.2.2.2 N.2.2.2.2.cells N.2.2.2.2.slots n := va_cnB n hF.2.2.2.2.1 (mhGood hce.2.1) rfl rfl rfl (hF.2.2.2.2.2.1.2.1 _ hlk) (hF.2.2.2.2.1 _ hce.1) hce.2.2.1 hce.2.2.2
  rw [hnone] at hcb
  refine mh_back hF (va_runIN (b := K.2.2.1 + a) (As := as.map (mhTr K)) (rest := st.map (mhTr K)) ⟨hF.1, hF.2.1, hF.2.2.1, hF.2.2.2.1, hF.2.2.2.2.1⟩ hok ⟨hcb, hini, hF.2.2.2.2.1 _ hin⟩ (mh_pre (as := .ref a :: as) hF hrp) rfl (by rw [List.length_map]; exact hn) hl.1 (by show List.map (mhTr K) (as.reverse ++ .ref a :: st) = _; simp [mhTr]) (lv_room (mh_restTr hst)) hd ⟨by omega, by omega⟩) hS ?_
  exact fun v S F I J P H1 locs1 hV hrep hS1 => mh_after hF h1 h2 hR hl hc hs hk v S F I J P H1 locs1 hV hrep hS1
/-- Object's own constructor -/
theorem mh_objInit {ix a : Nat} (hd : decode M.2.1 pc = .ok (.invokespecial ix, 3)) (hlk : Cond.methodLink M.1.cls ix Lib.objectInit ∈ mhT) (hin : Cond.instanceMethod Lib.objectInit ∈ mhT) (hco : Cond.code Lib.objectInit ⟨#[0xb1]⟩ 1 none ∈ mhT) (hfr : 1 ≤ M.2.2.2.2.frames) (hlo : 20 ≤ M.2.2.2.2.locals) (hst : (st.map fun v => v.category).sum ≤ 8) (hq : pc + 3 = q) (kk : mhV l K M kc ks Φ q lo st S F I J P) : mhV l K M kc ks Φ pc lo (.ref a :: st) S F I J P := by
  intro p e s m args below meth c Q MC MS hF h1 h2 hR H locs cells slots ls hrp hS hl hc hs
  subst hq
  refine W.objInit hF.1 hF.2.1 hF.2.2.2.1 (hF.2.2.2.2.1 _ hlk) (hF.2.2.2.2.1 _ hin) (hF.2.2.2.2.1 _ hco) rfl (by rw [hF.2.2.1]; exact hl.1) rfl hd hfr ?_ (kk p e s m args below meth c Q MC MS hF h1 h2 hR H locs cells slots ls hrp hS hl hc hs)
  have := lv_room (m := m) (pc := pc) (ls := ls) (rest := List.map (mhTr K) (.ref a :: st)) (mh_restTr (K := K) hst)
  omega
/-- Math.abs -/
theorem mh_abs {ix : Nat} {x : Int32} (hd : decode M.2.1 pc = .ok (.invokestatic ix, 3)) (hlk : Cond.methodLink M.1.cls ix Lib.Math.abs.name ∈ mhT) (hsta : Cond.static Lib.Math.abs.name ∈ mhT) (hini : Cond.initialized "java/lang/Math" ∈ mhT) (hco : Cond.code Lib.Math.abs.name Lib.Math.abs.code 1 (some .int) ∈ mhT) (hfr : 1 ≤ M.2.2.2.2.frames) (hlo : 21 ≤ M.2.2.2.2.locals) (hst : (st.map fun v => v.category).sum ≤ 8) (hq : pc + 3 = q) (kk : mhV l K M kc ks Φ q lo (.int (if 0 ≤ x then x else 0 - x) :: st) S F I J P) : mhV l K M kc ks Φ pc lo (.int x :: st) S F I J P := by
  intro p e s m args below meth c Q MC MS hF h1 h2 hR H locs cells slots ls hrp hS hl hc hs
  subst hq
  refine va_mabs hF.1 hF.2.1 (by rw [hF.2.2.1]; exact hl.1.symm) hF.2.2.2.1 (hF.2.2.2.2.1 _ hlk) (hF.2.2.2.2.1 _ hsta) (hF.2.2.2.2.1 _ hini) (hF.2.2.2.2.1 _ hco) hfr ?_ (by omega) (by omega) hd (kk p e s m args below meth c Q MC MS hF h1 h2 hR H locs cells slots ls hrp hS hl hc hs)
  have := mh_restTr (K := K) hst
  omega
end MHK
end
section
section MHKA
variable {l : Launch} {K : mhX} {M N : mhM} {kc ks n : Nat} {Φ : mhQ} {pc q : Nat} {lo : List (Option Value)} {st as : List Value} {S : List mhS} {F : mhF} {I : mhI} {J : mhJ} {P : mhP}
theorem mh_callS0 (h : mhSs M pc N 0) (hq : pc + 3 = q) (hst : (st.map fun v => v.category).sum ≤ 8) (hk : N.2.2.2.2.cells ≤ kc ∧ N.2.2.2.2.slots ≤ ks) (hok : mhOk l K N [] S F I J P (fun v S F I J P => mhV l K M (kc - N.2.2.2.2.cells) (ks - N.2.2.2.2.slots) Φ q lo (v.toList ++ st) S F I J P)) : mhV l K M kc ks Φ pc lo (st) S F I J P := mh_callS (as := []) h rfl hq hst hk hok
theorem mh_callS1 {x0 : Value} (h : mhSs M pc N 1) (hq : pc + 3 = q) (hst : (st.map fun v => v.category).sum ≤ 8) (hk : N.2.2.2.2.cells ≤ kc ∧ N.2.2.2.2.slots ≤ ks) (hok : mhOk l K N [x0] S F I J P (fun v S F I J P => mhV l K M (kc - N.2.2.2.2.cells) (ks - N.2.2.2.2.slots) Φ q lo (v.toList ++ st) S F I J P)) : mhV l K M kc ks Φ pc lo (x0 :: st) S F I J P := mh_callS (as := [x0]) h rfl hq hst hk hok
theorem mh_callS2 {x0 x1 : Value} (h : mhSs M pc N 2) (hq : pc + 3 = q) (hst : (st.map fun v => v.category).sum ≤ 8) (hk : N.2.2.2.2.cells ≤ kc ∧ N.2.2.2.2.slots ≤ ks) (hok : mhOk l K N [x0, x1] S F I J P (fun v S F I J P => mhV l K M (kc - N.2.2.2.2.cells) (ks - N.2.2.2.2.slots) Φ q lo (v.toList ++ st) S F I J P)) : mhV l K M kc ks Φ pc lo (x1 :: x0 :: st) S F I J P := mh_callS (as := [x0, x1]) h rfl hq hst hk hok
theorem mh_callS3 {x0 x1 x2 : Value} (h : mhSs M pc N 3) (hq : pc + 3 = q) (hst : (st.map fun v => v.category).sum ≤ 8) (hk : N.2.2.2.2.cells ≤ kc ∧ N.2.2.2.2.slots ≤ ks) (hok : mhOk l K N [x0, x1, x2] S F I J P (fun v S F I J P => mhV l K M (kc - N.2.2.2.2.cells) (ks - N.2.2.2.2.slots) Φ q lo (v.toList ++ st) S F I J P)) : mhV l K M kc ks Φ pc lo (x2 :: x1 :: x0 :: st) S F I J P := mh_callS (as := [x0, x1, x2]) h rfl hq hst hk hok
theorem mh_callS4 {x0 x1 x2 x3 : Value} (h : mhSs M pc N 4) (hq : pc + 3 = q) (hst : (st.map fun v => v.category).sum ≤ 8) (hk : N.2.2.2.2.cells ≤ kc ∧ N.2.2.2.2.slots ≤ ks) (hok : mhOk l K N [x0, x1, x2, x3] S F I J P (fun v S F I J P => mhV l K M (kc - N.2.2.2.2.cells) (ks - N.2.2.2.2.slots) Φ q lo (v.toList ++ st) S F I J P)) : mhV l K M kc ks Φ pc lo (x3 :: x2 :: x1 :: x0 :: st) S F I J P := mh_callS (as := [x0, x1, x2, x3]) h rfl hq hst hk hok
theorem mh_callS5 {x0 x1 x2 x3 x4 : Value} (h : mhSs M pc N 5) (hq : pc + 3 = q) (hst : (st.map fun v => v.category).sum ≤ 8) (hk : N.2.2.2.2.cells ≤ kc ∧ N.2.2.2.2.slots ≤ ks) (hok : mhOk l K N [x0, x1, x2, x3, x4] S F I J P (fun v S F I J P => mhV l K M (kc - N.2.2.2.2.cells) (ks - N.2.2.2.2.slots) Φ q lo (v.toList ++ st) S F I J P)) : mhV l K M kc ks Φ pc lo (x4 :: x3 :: x2 :: x1 :: x0 :: st) S F I J P := mh_callS (as := [x0, x1, x2, x3, x4]) h rfl hq hst hk hok
theorem mh_callS6 {x0 x1 x2 x3 x4 x5 : Value} (h : mhSs M pc N 6) (hq : pc + 3 = q) (hst : (st.map fun v => v.category).sum ≤ 8) (hk : N.2.2.2.2.cells ≤ kc ∧ N.2.2.2.2.slots ≤ ks) (hok : mhOk l K N [x0, x1, x2, x3, x4, x5] S F I J P (fun v S F I J P => mhV l K M (kc - N.2.2.2.2.cells) (ks - N.2.2.2.2.slots) Φ q lo (v.toList ++ st) S F I J P)) : mhV l K M kc ks Φ pc lo (x5 :: x4 :: x3 :: x2 :: x1 :: x0 :: st) S F I J P := mh_callS (as := [x0, x1, x2, x3, x4, x5]) h rfl hq hst hk hok
theorem mh_callS7 {x0 x1 x2 x3 x4 x5 x6 : Value} (h : mhSs M pc N 7) (hq : pc + 3 = q) (hst : (st.map fun v => v.category).sum ≤ 8) (hk : N.2.2.2.2.cells ≤ kc ∧ N.2.2.2.2.slots ≤ ks) (hok : mhOk l K N [x0, x1, x2, x3, x4, x5, x6] S F I J P (fun v S F I J P => mhV l K M (kc - N.2.2.2.2.cells) (ks - N.2.2.2.2.slots) Φ q lo (v.toList ++ st) S F I J P)) : mhV l K M kc ks Φ pc lo (x6 :: x5 :: x4 :: x3 :: x2 :: x1 :: x0 :: st) S F I J P := mh_callS (as := [x0, x1, x2, x3, x4, x5, x6]) h rfl hq hst hk hok
theorem mh_callS8 {x0 x1 x2 x3 x4 x5 x6 x7 : Value} (h : mhSs M pc N 8) (hq : pc + 3 = q) (hst : (st.map fun v => v.category).sum ≤ 8) (hk : N.2.2.2.2.cells ≤ kc ∧ N.2.2.2.2.slots ≤ ks) (hok : mhOk l K N [x0, x1, x2, x3, x4, x5, x6, x7] S F I J P (fun v S F I J P => mhV l K M (kc - N.2.2.2.2.cells) (ks - N.2.2.2.2.slots) Φ q lo (v.toList ++ st) S F I J P)) : mhV l K M kc ks Φ pc lo (x7 :: x6 :: x5 :: x4 :: x3 :: x2 :: x1 :: x0 :: st) S F I J P := mh_callS (as := [x0, x1, x2, x3, x4, x5, x6, x7]) h rfl hq hst hk hok
theorem mh_callN0 (h : mhSn M pc N 0) (hq : pc + 3 = q) (hst : (st.map fun v => v.category).sum ≤ 8) (hk : N.2.2.2.2.cells ≤ kc ∧ N.2.2.2.2.slots ≤ ks) (hok : mhOk l K N [] S F I J P (fun v S F I J P => mhV l K M (kc - N.2.2.2.2.cells) (ks - N.2.2.2.2.slots) Φ q lo (v.toList ++ st) S F I J P)) : mhV l K M kc ks Φ pc lo (st) S F I J P := mh_callN (as := []) h rfl hq hst hk hok
theorem mh_callN1 {x0 : Value} (h : mhSn M pc N 1) (hq : pc + 3 = q) (hst : (st.map fun v => v.category).sum ≤ 8) (hk : N.2.2.2.2.cells ≤ kc ∧ N.2.2.2.2.slots ≤ ks) (hok : mhOk l K N [x0] S F I J P (fun v S F I J P => mhV l K M (kc - N.2.2.2.2.cells) (ks - N.2.2.2.2.slots) Φ q lo (v.toList ++ st) S F I J P)) : mhV l K M kc ks Φ pc lo (x0 :: st) S F I J P := mh_callN (as := [x0]) h rfl hq hst hk hok
theorem mh_callN2 {x0 x1 : Value} (h : mhSn M pc N 2) (hq : pc + 3 = q) (hst : (st.map fun v => v.category).sum ≤ 8) (hk : N.2.2.2.2.cells ≤ kc ∧ N.2.2.2.2.slots ≤ ks) (hok : mhOk l K N [x0, x1] S F I J P (fun v S F I J P => mhV l K M (kc - N.2.2.2.2.cells) (ks - N.2.2.2.2.slots) Φ q lo (v.toList ++ st) S F I J P)) : mhV l K M kc ks Φ pc lo (x1 :: x0 :: st) S F I J P := mh_callN (as := [x0, x1]) h rfl hq hst hk hok
theorem mh_callN3 {x0 x1 x2 : Value} (h : mhSn M pc N 3) (hq : pc + 3 = q) (hst : (st.map fun v => v.category).sum ≤ 8) (hk : N.2.2.2.2.cells ≤ kc ∧ N.2.2.2.2.slots ≤ ks) (hok : mhOk l K N [x0, x1, x2] S F I J P (fun v S F I J P => mhV l K M (kc - N.2.2.2.2.cells) (ks - N.2.2.2.2.slots) Φ q lo (v.toList ++ st) S F I J P)) : mhV l K M kc ks Φ pc lo (x2 :: x1 :: x0 :: st) S F I J P := mh_callN (as := [x0, x1, x2]) h rfl hq hst hk hok
theorem mh_callV0 {a ci : Nat} {rs : List (Option (Option Nat))} (h : mhSv M pc N 0 ci) (hS0 : S[a]? = some (.inr (ci, rs))) (hq : pc + 3 = q) (hst : (st.map fun v => v.category).sum ≤ 8) (hk : N.2.2.2.2.cells ≤ kc ∧ N.2.2.2.2.slots ≤ ks) (hok : mhOk l K N [.ref a] S F I J P (fun v S F I J P => mhV l K M (kc - N.2.2.2.2.cells) (ks - N.2.2.2.2.slots) Φ q lo (v.toList ++ st) S F I J P)) : mhV l K M kc ks Φ pc lo (.ref a :: st) S F I J P := mh_callV (as := []) h rfl hS0 hq hst hk hok
theorem mh_callV1 {x0 : Value} {a ci : Nat} {rs : List (Option (Option Nat))} (h : mhSv M pc N 1 ci) (hS0 : S[a]? = some (.inr (ci, rs))) (hq : pc + 3 = q) (hst : (st.map fun v => v.category).sum ≤ 8) (hk : N.2.2.2.2.cells ≤ kc ∧ N.2.2.2.2.slots ≤ ks) (hok : mhOk l K N [.ref a, x0] S F I J P (fun v S F I J P => mhV l K M (kc - N.2.2.2.2.cells) (ks - N.2.2.2.2.slots) Φ q lo (v.toList ++ st) S F I J P)) : mhV l K M kc ks Φ pc lo (x0 :: .ref a :: st) S F I J P := mh_callV (as := [x0]) h rfl hS0 hq hst hk hok
theorem mh_callV2 {x0 x1 : Value} {a ci : Nat} {rs : List (Option (Option Nat))} (h : mhSv M pc N 2 ci) (hS0 : S[a]? = some (.inr (ci, rs))) (hq : pc + 3 = q) (hst : (st.map fun v => v.category).sum ≤ 8) (hk : N.2.2.2.2.cells ≤ kc ∧ N.2.2.2.2.slots ≤ ks) (hok : mhOk l K N [.ref a, x0, x1] S F I J P (fun v S F I J P => mhV l K M (kc - N.2.2.2.2.cells) (ks - N.2.2.2.2.slots) Φ q lo (v.toList ++ st) S F I J P)) : mhV l K M kc ks Φ pc lo (x1 :: x0 :: .ref a :: st) S F I J P := mh_callV (as := [x0, x1]) h rfl hS0 hq hst hk hok
theorem mh_callV3 {x0 x1 x2 : Value} {a ci : Nat} {rs : List (Option (Option Nat))} (h : mhSv M pc N 3 ci) (hS0 : S[a]? = some (.inr (ci, rs))) (hq : pc + 3 = q) (hst : (st.map fun v => v.category).sum ≤ 8) (hk : N.2.2.2.2.cells ≤ kc ∧ N.2.2.2.2.slots ≤ ks) (hok : mhOk l K N [.ref a, x0, x1, x2] S F I J P (fun v S F I J P => mhV l K M (kc - N.2.2.2.2.cells) (ks - N.2.2.2.2.slots) Φ q lo (v.toList ++ st) S F I J P)) : mhV l K M kc ks Φ pc lo (x2 :: x1 :: x0 :: .ref a :: st) S F I J P := mh_callV (as := [x0, x1, x2]) h rfl hS0 hq hst hk hok
theorem mh_callV4 {x0 x1 x2 x3 : Value} {a ci : Nat} {rs : List (Option (Option Nat))} (h : mhSv M pc N 4 ci) (hS0 : S[a]? = some (.inr (ci, rs))) (hq : pc + 3 = q) (hst : (st.map fun v => v.category).sum ≤ 8) (hk : N.2.2.2.2.cells ≤ kc ∧ N.2.2.2.2.slots ≤ ks) (hok : mhOk l K N [.ref a, x0, x1, x2, x3] S F I J P (fun v S F I J P => mhV l K M (kc - N.2.2.2.2.cells) (ks - N.2.2.2.2.slots) Φ q lo (v.toList ++ st) S F I J P)) : mhV l K M kc ks Φ pc lo (x3 :: x2 :: x1 :: x0 :: .ref a :: st) S F I J P := mh_callV (as := [x0, x1, x2, x3]) h rfl hS0 hq hst hk hok
theorem mh_callV5 {x0 x1 x2 x3 x4 : Value} {a ci : Nat} {rs : List (Option (Option Nat))} (h : mhSv M pc N 5 ci) (hS0 : S[a]? = some (.inr (ci, rs))) (hq : pc + 3 = q) (hst : (st.map fun v => v.category).sum ≤ 8) (hk : N.2.2.2.2.cells ≤ kc ∧ N.2.2.2.2.slots ≤ ks) (hok : mhOk l K N [.ref a, x0, x1, x2, x3, x4] S F I J P (fun v S F I J P => mhV l K M (kc - N.2.2.2.2.cells) (ks - N.2.2.2.2.slots) Φ q lo (v.toList ++ st) S F I J P)) : mhV l K M kc ks Φ pc lo (x4 :: x3 :: x2 :: x1 :: x0 :: .ref a :: st) S F I J P := mh_callV (as := [x0, x1, x2, x3, x4]) h rfl hS0 hq hst hk hok
theorem mh_callV6 {x0 x1 x2 x3 x4 x5 : Value} {a ci : Nat} {rs : List (Option (Option Nat))} (h : mhSv M pc N 6 ci) (hS0 : S[a]? = some (.inr (ci, rs))) (hq : pc + 3 = q) (hst : (st.map fun v => v.category).sum ≤ 8) (hk : N.2.2.2.2.cells ≤ kc ∧ N.2.2.2.2.slots ≤ ks) (hok : mhOk l K N [.ref a, x0, x1, x2, x3, x4, x5] S F I J P (fun v S F I J P => mhV l K M (kc - N.2.2.2.2.cells) (ks - N.2.2.2.2.slots) Φ q lo (v.toList ++ st) S F I J P)) : mhV l K M kc ks Φ pc lo (x5 :: x4 :: x3 :: x2 :: x1 :: x0 :: .ref a :: st) S F I J P := mh_callV (as := [x0, x1, x2, x3, x4, x5]) h rfl hS0 hq hst hk hok
theorem mh_callV7 {x0 x1 x2 x3 x4 x5 x6 : Value} {a ci : Nat} {rs : List (Option (Option Nat))} (h : mhSv M pc N 7 ci) (hS0 : S[a]? = some (.inr (ci, rs))) (hq : pc + 3 = q) (hst : (st.map fun v => v.category).sum ≤ 8) (hk : N.2.2.2.2.cells ≤ kc ∧ N.2.2.2.2.slots ≤ ks) (hok : mhOk l K N [.ref a, x0, x1, x2, x3, x4, x5, x6] S F I J P (fun v S F I J P => mhV l K M (kc - N.2.2.2.2.cells) (ks - N.2.2.2.2.slots) Φ q lo (v.toList ++ st) S F I J P)) : mhV l K M kc ks Φ pc lo (x6 :: x5 :: x4 :: x3 :: x2 :: x1 :: x0 :: .ref a :: st) S F I J P := mh_callV (as := [x0, x1, x2, x3, x4, x5, x6]) h rfl hS0 hq hst hk hok
theorem mh_callV8 {x0 x1 x2 x3 x4 x5 x6 x7 : Value} {a ci : Nat} {rs : List (Option (Option Nat))} (h : mhSv M pc N 8 ci) (hS0 : S[a]? = some (.inr (ci, rs))) (hq : pc + 3 = q) (hst : (st.map fun v => v.category).sum ≤ 8) (hk : N.2.2.2.2.cells ≤ kc ∧ N.2.2.2.2.slots ≤ ks) (hok : mhOk l K N [.ref a, x0, x1, x2, x3, x4, x5, x6, x7] S F I J P (fun v S F I J P => mhV l K M (kc - N.2.2.2.2.cells) (ks - N.2.2.2.2.slots) Φ q lo (v.toList ++ st) S F I J P)) : mhV l K M kc ks Φ pc lo (x7 :: x6 :: x5 :: x4 :: x3 :: x2 :: x1 :: x0 :: .ref a :: st) S F I J P := mh_callV (as := [x0, x1, x2, x3, x4, x5, x6, x7]) h rfl hS0 hq hst hk hok
theorem mh_callI0 {a : Nat} (h : mhSi M pc N 0) (hq : pc + 3 = q) (hst : (st.map fun v => v.category).sum ≤ 8) (hk : N.2.2.2.2.cells ≤ kc ∧ N.2.2.2.2.slots ≤ ks) (hok : mhOk l K N [.ref a] S F I J P (fun v S F I J P => mhV l K M (kc - N.2.2.2.2.cells) (ks - N.2.2.2.2.slots) Φ q lo (v.toList ++ st) S F I J P)) : mhV l K M kc ks Φ pc lo (.ref a :: st) S F I J P := mh_callI (as := []) h rfl hq hst hk hok
theorem mh_callI1 {x0 : Value} {a : Nat} (h : mhSi M pc N 1) (hq : pc + 3 = q) (hst : (st.map fun v => v.category).sum ≤ 8) (hk : N.2.2.2.2.cells ≤ kc ∧ N.2.2.2.2.slots ≤ ks) (hok : mhOk l K N [.ref a, x0] S F I J P (fun v S F I J P => mhV l K M (kc - N.2.2.2.2.cells) (ks - N.2.2.2.2.slots) Φ q lo (v.toList ++ st) S F I J P)) : mhV l K M kc ks Φ pc lo (x0 :: .ref a :: st) S F I J P := mh_callI (as := [x0]) h rfl hq hst hk hok
theorem mh_callI2 {x0 x1 : Value} {a : Nat} (h : mhSi M pc N 2) (hq : pc + 3 = q) (hst : (st.map fun v => v.category).sum ≤ 8) (hk : N.2.2.2.2.cells ≤ kc ∧ N.2.2.2.2.slots ≤ ks) (hok : mhOk l K N [.ref a, x0, x1] S F I J P (fun v S F I J P => mhV l K M (kc - N.2.2.2.2.cells) (ks - N.2.2.2.2.slots) Φ q lo (v.toList ++ st) S F I J P)) : mhV l K M kc ks Φ pc lo (x1 :: x0 :: .ref a :: st) S F I J P := mh_callI (as := [x0, x1]) h rfl hq hst hk hok
theorem mh_callI3 {x0 x1 x2 : Value} {a : Nat} (h : mhSi M pc N 3) (hq : pc + 3 = q) (hst : (st.map fun v => v.category).sum ≤ 8) (hk : N.2.2.2.2.cells ≤ kc ∧ N.2.2.2.2.slots ≤ ks) (hok : mhOk l K N [.ref a, x0, x1, x2] S F I J P (fun v S F I J P => mhV l K M (kc - N.2.2.2.2.cells) (ks - N.2.2.2.2.slots) Φ q lo (v.toList ++ st) S F I J P)) : mhV l K M kc ks Φ pc lo (x2 :: x1 :: x0 :: .ref a :: st) S F I J P := mh_callI (as := [x0, x1, x2]) h rfl hq hst hk hok
theorem mh_callI4 {x0 x1 x2 x3 : Value} {a : Nat} (h : mhSi M pc N 4) (hq : pc + 3 = q) (hst : (st.map fun v => v.category).sum ≤ 8) (hk : N.2.2.2.2.cells ≤ kc ∧ N.2.2.2.2.slots ≤ ks) (hok : mhOk l K N [.ref a, x0, x1, x2, x3] S F I J P (fun v S F I J P => mhV l K M (kc - N.2.2.2.2.cells) (ks - N.2.2.2.2.slots) Φ q lo (v.toList ++ st) S F I J P)) : mhV l K M kc ks Φ pc lo (x3 :: x2 :: x1 :: x0 :: .ref a :: st) S F I J P := mh_callI (as := [x0, x1, x2, x3]) h rfl hq hst hk hok
theorem mh_callI5 {x0 x1 x2 x3 x4 : Value} {a : Nat} (h : mhSi M pc N 5) (hq : pc + 3 = q) (hst : (st.map fun v => v.category).sum ≤ 8) (hk : N.2.2.2.2.cells ≤ kc ∧ N.2.2.2.2.slots ≤ ks) (hok : mhOk l K N [.ref a, x0, x1, x2, x3, x4] S F I J P (fun v S F I J P => mhV l K M (kc - N.2.2.2.2.cells) (ks - N.2.2.2.2.slots) Φ q lo (v.toList ++ st) S F I J P)) : mhV l K M kc ks Φ pc lo (x4 :: x3 :: x2 :: x1 :: x0 :: .ref a :: st) S F I J P := mh_callI (as := [x0, x1, x2, x3, x4]) h rfl hq hst hk hok
theorem mh_callJ0 {a : Nat} (h : mhSj M pc N 0) (hq : pc + 3 = q) (hst : (st.map fun v => v.category).sum ≤ 8) (hk : N.2.2.2.2.cells ≤ kc ∧ N.2.2.2.2.slots ≤ ks) (hok : mhOk l K N [.ref a] S F I J P (fun v S F I J P => mhV l K M (kc - N.2.2.2.2.cells) (ks - N.2.2.2.2.slots) Φ q lo (v.toList ++ st) S F I J P)) : mhV l K M kc ks Φ pc lo (.ref a :: st) S F I J P := mh_callJ (as := []) h rfl hq hst hk hok
theorem mh_callJ1 {x0 : Value} {a : Nat} (h : mhSj M pc N 1) (hq : pc + 3 = q) (hst : (st.map fun v => v.category).sum ≤ 8) (hk : N.2.2.2.2.cells ≤ kc ∧ N.2.2.2.2.slots ≤ ks) (hok : mhOk l K N [.ref a, x0] S F I J P (fun v S F I J P => mhV l K M (kc - N.2.2.2.2.cells) (ks - N.2.2.2.2.slots) Φ q lo (v.toList ++ st) S F I J P)) : mhV l K M kc ks Φ pc lo (x0 :: .ref a :: st) S F I J P := mh_callJ (as := [x0]) h rfl hq hst hk hok
theorem mh_callJ2 {x0 x1 : Value} {a : Nat} (h : mhSj M pc N 2) (hq : pc + 3 = q) (hst : (st.map fun v => v.category).sum ≤ 8) (hk : N.2.2.2.2.cells ≤ kc ∧ N.2.2.2.2.slots ≤ ks) (hok : mhOk l K N [.ref a, x0, x1] S F I J P (fun v S F I J P => mhV l K M (kc - N.2.2.2.2.cells) (ks - N.2.2.2.2.slots) Φ q lo (v.toList ++ st) S F I J P)) : mhV l K M kc ks Φ pc lo (x1 :: x0 :: .ref a :: st) S F I J P := mh_callJ (as := [x0, x1]) h rfl hq hst hk hok
theorem mh_callJ3 {x0 x1 x2 : Value} {a : Nat} (h : mhSj M pc N 3) (hq : pc + 3 = q) (hst : (st.map fun v => v.category).sum ≤ 8) (hk : N.2.2.2.2.cells ≤ kc ∧ N.2.2.2.2.slots ≤ ks) (hok : mhOk l K N [.ref a, x0, x1, x2] S F I J P (fun v S F I J P => mhV l K M (kc - N.2.2.2.2.cells) (ks - N.2.2.2.2.slots) Φ q lo (v.toList ++ st) S F I J P)) : mhV l K M kc ks Φ pc lo (x2 :: x1 :: x0 :: .ref a :: st) S F I J P := mh_callJ (as := [x0, x1, x2]) h rfl hq hst hk hok
theorem mh_callJ4 {x0 x1 x2 x3 : Value} {a : Nat} (h : mhSj M pc N 4) (hq : pc + 3 = q) (hst : (st.map fun v => v.category).sum ≤ 8) (hk : N.2.2.2.2.cells ≤ kc ∧ N.2.2.2.2.slots ≤ ks) (hok : mhOk l K N [.ref a, x0, x1, x2, x3] S F I J P (fun v S F I J P => mhV l K M (kc - N.2.2.2.2.cells) (ks - N.2.2.2.2.slots) Φ q lo (v.toList ++ st) S F I J P)) : mhV l K M kc ks Φ pc lo (x3 :: x2 :: x1 :: x0 :: .ref a :: st) S F I J P := mh_callJ (as := [x0, x1, x2, x3]) h rfl hq hst hk hok
theorem mh_callJ5 {x0 x1 x2 x3 x4 : Value} {a : Nat} (h : mhSj M pc N 5) (hq : pc + 3 = q) (hst : (st.map fun v => v.category).sum ≤ 8) (hk : N.2.2.2.2.cells ≤ kc ∧ N.2.2.2.2.slots ≤ ks) (hok : mhOk l K N [.ref a, x0, x1, x2, x3, x4] S F I J P (fun v S F I J P => mhV l K M (kc - N.2.2.2.2.cells) (ks - N.2.2.2.2.slots) Φ q lo (v.toList ++ st) S F I J P)) : mhV l K M kc ks Φ pc lo (x4 :: x3 :: x2 :: x1 :: x0 :: .ref a :: st) S F I J P := mh_callJ (as := [x0, x1, x2, x3, x4]) h rfl hq hst hk hok
end MHKA
end
section
/-! what is made; arrays of references; copying -/
def mhZF (F : mhF) (a : Nat) : mhF := fun b k => if b = a then 0 else F b k
def mhZI (I : mhI) (a : Nat) : mhI := fun b k => if b = a then 0 else I b k
def mhZJ (J : mhJ) (a : Nat) : mhJ := fun b k => if b = a then 0 else J b k
def mhZP (P : mhP) (a : Nat) : mhP := fun b k => if b = a then none else P b k
/-- n cells of src from sp on, put into dst from dp on -/
def mhCp (I : mhI) (src : Nat) (sp : Nat) (dst : Nat) (dp n : Nat) : mhI := fun b j => if b = dst ∧ ¬ j < 0 ∧ dp ≤ j.toNatClampNeg ∧ j.toNatClampNeg < dp + n then I src (nI (sp + (j.toNatClampNeg - dp))) else I b j
section MHN
variable {l : Launch} {K : mhX} {M : mhM} {kc ks : Nat} {Φ : mhQ} {pc q : Nat} {lo : List (Option Value)} {st : List Value} {S : List mhS} {F : mhF} {I : mhI} {J : mhJ} {P : mhP}
theorem mhRep_push {F' : mhF} {I' : mhI} {J' : mhJ} {P' : mhP} {sh : mhS} {H H1 : Heap} (h : mhRep K S F I J P H) (z : H1.size = H.size + 1) (oq : ∀ q : Nat, q < H.size → H1[q]? = H[q]?) (e : va_at K.1 vwCl (H.size, mhCell K F' I' J' P' S.length sh) H1)
    (ho : ∀ b sh, b ≠ S.length → S[b]? = some sh → mhCell K F' I' J' P' b sh = mhCell K F I J P b sh) : mhRep K (S ++ [sh]) F' I' J' P' H1 := by
  refine ⟨by rw [z, h.1, List.length_append]; rfl, fun k x hx => ?_⟩
  obtain ⟨s1, h1, rfl⟩ := mhW_at hx
  rcases Nat.lt_or_ge k S.length with hk | hk
  · rw [List.getElem?_append_left hk] at h1
    have := h.2 k _ (mhW_get h1)
    rw [ho k s1 (by omega) h1]
    exact this.kept (oq _ (by have := this.lt; exact this))
  · rw [List.getElem?_append_right hk] at h1
    have hz : k - S.length < 1 := (List.getElem?_eq_some_iff.mp h1).1
    have hk0 : k = S.length := by omega
    subst hk0
    rw [Nat.sub_self] at h1
    cases h1
    rw [← h.1]
    exact e
theorem mhS_push {H0 H H1 : Heap} {locs : List Loc} {A : Nat → Prop} (h : va_S A H0 H locs) (z : H1.size = H.size + 1) (oq : ∀ q : Nat, q < H.size → H1[q]? = H[q]?) : va_S A H0 H1 locs := ⟨Nat.le_trans h.1 (by omega), fun x h1 h2 => (oq x (Nat.lt_of_lt_of_le h1 h.1)).trans (h.2.1 x h1 h2), h.2.2⟩
theorem mh_new {ci ix : Nat} {C : String} {T : u_T} {N : Nat} {ty0 : Nat → FieldType} {rs : List (Option (Option Nat))} (hd : decode M.2.1 pc = .ok (.new ix, 3)) (hcl : Cond.classLink M.1.cls ix C ∈ mhT) (hinst : Cond.instantiable C N ∈ mhT) (hini : Cond.initialized C ∈ mhT) (hc : vwCl[ci]? = some (C, T, N)) (hin : ∀ w ∈ u_ws C T N, w ∈ mhT) (hty : ∀ k, k < N → parseFieldDescriptor (T k).2.2.1 = some (ty0 k))
    (hrs : ∀ j, j < N → (rs[j]? = some none ∧ defaultValue (ty0 j) = .int 0) ∨ (rs[j]? = some (some none) ∧ defaultValue (ty0 j) = .null)) (hq : pc + 3 = q) (hk : 1 ≤ kc ∧ N ≤ ks) (kk : mhV l K M (kc - 1) (ks - N) Φ q lo (.ref S.length :: st) (S ++ [.inr (ci, rs)]) (mhZF F S.length) I J P) : mhV l K M kc ks Φ pc lo st S F I J P := by
  intro p e s m args below meth c Q MC MS hF h1 h2 hR H locs cells slots ls hrp hS hl hc' hs
  subst hq
  have hKn := hF.2.2.2.2.2.1.1.1 ci _ hc
  refine W.newcK hF.1 hF.2.1 hF.2.2.2.1 (hF.2.2.2.2.1 _ hcl) (hF.2.2.2.2.1 _ hinst) (hF.2.2.2.2.1 _ hini) rfl hd (by omega) (by omega) hKn.2.1 rfl fun H1 kC hkC e1 z1 o1 => ?_
  have hb := u_born ty0 hF.2.2.2.2.1 hin hKn hkC e1 hty
  have hrep := mhRep_push (F' := mhZF F S.length) (I' := I) (J' := J) (P' := P) (sh := .inr (ci, rs)) hrp z1 o1 ⟨_, hc, hb.to (fun j hj => ?_)⟩ (fun b sh hb _ => mhCell_F fun j => if_neg hb)
  · have := kk p e s m args below meth c Q MC MS hF h1 h2 hR H1 locs (cells + 1) (slots + N) ls hrep (mhS_push hS z1 o1) hl (by omega) (by omega)
    rw [List.map_cons, show mhTr K (.ref S.length) = .ref H.size by rw [hrp.1]; rfl] at this
    exact this
  · show defaultValue (ty0 j) = vp_V _ j
    unfold vp_V
    rcases hrs j hj with ⟨h3, h4⟩ | ⟨h3, h4⟩
    · rw [h4, List.getD_eq_getElem?_getD, List.getElem?_mapIdx, h3]
      simp [mhFld, mhZF]
    · rw [h4, List.getD_eq_getElem?_getD, List.getElem?_mapIdx, h3]
      simp [mhFld]
theorem mh_find {s : State} (hG : mhG K s) {t : Nat} {ty : FieldType} {cA : ClassId} (ht : (mhTys K)[t]? = some (K.2.1 t, ty)) (h : s.vm.findClass ("[" ++ ty.toString) = some cA) : cA = K.2.1 t := by
  have h2 := (hG.1.2 t _ ht).2
  cases ty with
  | object C =>
    obtain ⟨_, _, _, _, _, h4⟩ := h2
    exact Option.some.inj (h.symm.trans h4)
  | _ => exact Option.some.inj (h.symm.trans h2)
theorem mh_newI {n : Int32} {N : Nat} (hd : decode M.2.1 pc = .ok (.newarray .int, 2)) (harr : Cond.arrayClass .int ∈ mhT) (hn : ¬ n < 0) (hN : n.toNatClampNeg = N) (hb : N * 4 ≤ 536870912) (hq : pc + 2 = q) (hk : 1 ≤ kc ∧ N ≤ ks) (kk : mhV l K M (kc - 1) (ks - N) Φ q lo (.ref S.length :: st) (S ++ [.inl (0, N)]) F (mhZI I S.length) J P) : mhV l K M kc ks Φ pc lo (.int n :: st) S F I J P := by
  intro p e s m args below meth c Q MC MS hF h1 h2 hR H locs cells slots ls hrp hS hl hc' hs
  subst hq
  refine va_newaK (atype := .int) hF.1 hF.2.1 (hF.2.2.2.2.1 _ harr) rfl hd rfl hn hN hb (by omega) (by omega) rfl fun H1 cA e1 z1 o1 hAr hNm => ?_
  have hcA := mh_find hF.2.2.2.2.2.1 (t := 0) rfl hNm
  subst hcA
  have hrep := mhRep_push (F' := F) (I' := mhZI I S.length) (J' := J) (P' := P) (sh := .inl (0, N)) hrp z1 o1 (by
    show H1[H.size]? = some (arrV (K.2.1 0) N (fun j => .int (if j < N then mhZI I S.length S.length (nI j) else 0)))
    rw [e1]
    congr 2
    funext j
    simp [mhZI, defaultValue, newarray.typeOf]) (fun b sh hb _ => mhCell_I fun j => if_neg hb)
  have := kk p e s m args below meth c Q MC MS hF h1 h2 hR H1 locs (cells + 1) (slots + N) ls hrep (mhS_push hS z1 o1) hl (by omega) (by omega)
  rw [List.map_cons, show mhTr K (.ref S.length) = .ref H.size by rw [hrp.1]; rfl] at this
  exact this
theorem mh_newZ {n : Int32} {N : Nat} (hd : decode M.2.1 pc = .ok (.newarray .boolean, 2)) (harr : Cond.arrayClass .boolean ∈ mhT) (hn : ¬ n < 0) (hN : n.toNatClampNeg = N) (hb : N * 4 ≤ 536870912) (hq : pc + 2 = q) (hk : 1 ≤ kc ∧ N ≤ ks) (kk : mhV l K M (kc - 1) (ks - N) Φ q lo (.ref S.length :: st) (S ++ [.inl (2, N)]) F (mhZI I S.length) J P) : mhV l K M kc ks Φ pc lo (.int n :: st) S F I J P := by
  intro p e s m args below meth c Q MC MS hF h1 h2 hR H locs cells slots ls hrp hS hl hc' hs
  subst hq
  refine va_newaK (atype := .boolean) hF.1 hF.2.1 (hF.2.2.2.2.1 _ harr) rfl hd rfl hn hN (by show N * 1 ≤ _; omega) (by omega) (by omega) rfl fun H1 cA e1 z1 o1 hAr hNm => ?_
  have hcA := mh_find hF.2.2.2.2.2.1 (t := 2) rfl hNm
  subst hcA
  have hrep := mhRep_push (F' := F) (I' := mhZI I S.length) (J' := J) (P' := P) (sh := .inl (2, N)) hrp z1 o1 (by
    show H1[H.size]? = some (arrV (K.2.1 2) N (fun j => .int (if j < N then mhZI I S.length S.length (nI j) else 0)))
    rw [e1]
    congr 2
    funext j
    simp [mhZI, defaultValue, newarray.typeOf]) (fun b sh hb _ => mhCell_I fun j => if_neg hb)
  have := kk p e s m args below meth c Q MC MS hF h1 h2 hR H1 locs (cells + 1) (slots + N) ls hrep (mhS_push hS z1 o1) hl (by omega) (by omega)
  rw [List.map_cons, show mhTr K (.ref S.length) = .ref H.size by rw [hrp.1]; rfl] at this
  exact this
theorem mh_newJ {n : Int32} {N : Nat} (hd : decode M.2.1 pc = .ok (.newarray .long, 2)) (harr : Cond.arrayClass .long ∈ mhT) (hn : ¬ n < 0) (hN : n.toNatClampNeg = N) (hb : N * 8 ≤ 536870912) (hq : pc + 2 = q) (hk : 1 ≤ kc ∧ N ≤ ks) (kk : mhV l K M (kc - 1) (ks - N) Φ q lo (.ref S.length :: st) (S ++ [.inl (1, N)]) F I (mhZJ J S.length) P) : mhV l K M kc ks Φ pc lo (.int n :: st) S F I J P := by
  intro p e s m args below meth c Q MC MS hF h1 h2 hR H locs cells slots ls hrp hS hl hc' hs
  subst hq
  refine va_newaK (atype := .long) hF.1 hF.2.1 (hF.2.2.2.2.1 _ harr) rfl hd rfl hn hN hb (by omega) (by omega) rfl fun H1 cA e1 z1 o1 hAr hNm => ?_
  have hcA := mh_find hF.2.2.2.2.2.1 (t := 1) rfl hNm
  subst hcA
  have hrep := mhRep_push (F' := F) (I' := I) (J' := mhZJ J S.length) (P' := P) (sh := .inl (1, N)) hrp z1 o1 (by
    show H1[H.size]? = some (arrV (K.2.1 1) N (fun j => .long (if j < N then mhZJ J S.length S.length (nI j) else 0)))
    rw [e1]
    congr 2
    funext j
    simp [mhZJ, defaultValue, newarray.typeOf]) (fun b sh hb _ => mhCell_J fun j => if_neg hb)
  have := kk p e s m args below meth c Q MC MS hF h1 h2 hR H1 locs (cells + 1) (slots + N) ls hrep (mhS_push hS z1 o1) hl (by omega) (by omega)
  rw [List.map_cons, show mhTr K (.ref S.length) = .ref H.size by rw [hrp.1]; rfl] at this
  exact this
theorem mhArr_ge {a n t : Nat} (ht : 3 ≤ t) : mhArr K I J P a n t = (n, .inr (.inr (.inr (.inr fun j => if j < n then (P a (nI j)).map (K.2.2.1 + ·) else none)))) := by
  match t, ht with
  | t + 3, _ => rfl
theorem mh_newP {ix : Nat} {C : String} {t : Nat} {n : Int32} {N : Nat} (hd : decode M.2.1 pc = .ok (.anewarray ix, 3)) (hcl : Cond.classLink M.1.cls ix C ∈ mhT) (hC : C ∈ mhAOs) (ht : 3 ≤ t) (hty : (mhTys K)[t]? = some (K.2.1 t, .object C)) (hn : ¬ n < 0) (hN : n.toNatClampNeg = N) (hb : N * 4 ≤ 536870912) (hq : pc + 3 = q) (hk : 1 ≤ kc ∧ N ≤ ks) (kk : mhV l K M (kc - 1) (ks - N) Φ q lo (.ref S.length :: st) (S ++ [.inl (t, N)]) F I J (mhZP P S.length)) : mhV l K M kc ks Φ pc lo (.int n :: st) S F I J P := by
  intro p e s m args below meth c Q MC MS hF h1 h2 hR H locs cells slots ls hrp hS hl hc' hs
  subst hq
  refine W.anew hF.1 hF.2.1 hF.2.2.2.1 (hF.2.2.2.2.1 _ hcl) (va_AO.use (hF.2.2.2.2.2.1.2.2 _ hC)) rfl hd rfl hn (by rw [hN]; exact hb) (by omega) (by omega) fun cA kA comp f1 f2 f3 f4 => ?_
  have hcA := mh_find hF.2.2.2.2.2.1 (t := t) hty f1
  subst hcA
  rw [hN]
  generalize hH1 : H.push ({ cls := K.2.1 t, slots := Array.replicate N .null, vm := .none } : Cell) = H1
  have z1 : H1.size = H.size + 1 := by rw [← hH1, Array.size_push]
  have e1 : H1[H.size]? = some (arrV (K.2.1 t) N (fun _ => .null)) := by rw [← hH1, Array.getElem?_push_size, ← arrV_new]
  have o1 : ∀ q : Nat, q < H.size → H1[q]? = H[q]? := fun q hq => by rw [← hH1, Array.getElem?_push, if_neg (Nat.ne_of_lt hq)]
  have hrep := mhRep_push (F' := F) (I' := I) (J' := J) (P' := mhZP P S.length) (sh := .inl (t, N)) hrp z1 o1 (by
    show H1[H.size]? = some (vp_cell (K.2.1 t) (mhArr K I J (mhZP P S.length) S.length N t))
    rw [e1, mhArr_ge ht, vp_cell_q]
    congr 2
    funext j
    simp [mhZP, va_rf]) (fun b sh hb _ => mhCell_P fun j => if_neg hb)
  have := kk p e s m args below meth c Q MC MS hF h1 h2 hR H1 locs (cells + 1) (slots + N) ls hrep (mhS_push hS z1 o1) hl (by omega) (by omega)
  rw [List.map_cons, show mhTr K (.ref S.length) = .ref H.size by rw [hrp.1]; rfl] at this
  exact this
def mhPt (t : Nat) (C : String) : Prop := (t = 3 ∧ C = RX3) ∨ (t = 4 ∧ C = RX1) ∨ (t = 5 ∧ C = RX2) ∨ (t = 6 ∧ C = RX5)
theorem mhPt.ty {t : Nat} {C : String} (h : mhPt t C) : 3 ≤ t ∧ (mhTys K)[t]? = some (K.2.1 t, .object C) := by
  rcases h with ⟨rfl, rfl⟩ | ⟨rfl, rfl⟩ | ⟨rfl, rfl⟩ | ⟨rfl, rfl⟩ <;> exact ⟨by decide, rfl⟩
theorem mh_aaldV {a t n : Nat} {C : String} {i : Int32} (hd : decode M.2.1 pc = .ok (.aaload, 1)) (hq : pc + 1 = q) (ht : mhPt t C) (hS : S[a]? = some (.inl (t, n))) (hin : vp_in i n) {v : Value} (hv : v = match P a i with | none => .null | some r => .ref r) (kk : mhV l K M kc ks Φ q lo (v :: st) S F I J P) : mhV l K M kc ks Φ pc lo (.int i :: .ref a :: st) S F I J P := by
  intro p e s m args below meth c Q MC MS hF h1 h2 hR H locs cells slots ls hrp hS' hl hc hs
  subst hq
  obtain ⟨h3, hty⟩ := ht.ty (K := K)
  refine va_aldq (D := K.1) (cl := vwCl) (tys := mhTys K) (C := C) (f := fun j => if j < n then (P a (nI j)).map (K.2.2.1 + ·) else none) hF.1 hF.2.1 hF.2.2.2.2.2.1.1 hrp.2 a t (by rw [mhW_get hS]; simp only [mhCell, mhArr_ge h3]) hty hin hd ?_
  have := kk p e s m args below meth c Q MC MS hF h1 h2 hR H locs cells slots ls hrp hS' hl hc hs
  rw [if_pos (mh_clamp hin).2, (mh_clamp hin).1]
  have hvv : va_rf (Option.map (fun x => K.2.2.1 + x) (P a i)) = mhTr K v := by
    rw [hv]
    cases P a i <;> rfl
  rw [hvv]
  exact this
theorem mh_aald {a t n r : Nat} {C : String} {i : Int32} (hd : decode M.2.1 pc = .ok (.aaload, 1)) (hq : pc + 1 = q) (ht : mhPt t C) (hS : S[a]? = some (.inl (t, n))) (hin : vp_in i n) (hr : P a i = some r) (kk : mhV l K M kc ks Φ q lo (.ref r :: st) S F I J P) : mhV l K M kc ks Φ pc lo (.int i :: .ref a :: st) S F I J P := mh_aaldV hd hq ht hS hin (by rw [hr]) kk
theorem mh_aaldN {a t n : Nat} {C : String} {i : Int32} (hd : decode M.2.1 pc = .ok (.aaload, 1)) (hq : pc + 1 = q) (ht : mhPt t C) (hS : S[a]? = some (.inl (t, n))) (hin : vp_in i n) (hr : P a i = none) (kk : mhV l K M kc ks Φ q lo (.null :: st) S F I J P) : mhV l K M kc ks Φ pc lo (.int i :: .ref a :: st) S F I J P := mh_aaldV hd hq ht hS hin (by rw [hr]) kk
theorem mh_aast {a t n r ci : Nat} {x : vw_C} {rs : List (Option (Option Nat))} {i : Int32} (hd : decode M.2.1 pc = .ok (.aastore, 1)) (hq : pc + 1 = q) (hx : vwCl[ci]? = some x) (ht : mhPt t x.1) (hS : S[a]? = some (.inl (t, n))) (hn : n < 2 ^ 31) (hin : vp_in i n) (hr : S[r]? = some (.inr (ci, rs))) (kk : mhV l K M kc ks Φ q lo st S F I J (mhUP P a i (some r))) : mhV l K M kc ks Φ pc lo (.ref r :: .int i :: .ref a :: st) S F I J P := by
  intro p e s m args below meth c Q MC MS hF h1 h2 hR H locs cells slots ls hrp hS' hl hc hs
  subst hq
  obtain ⟨h3, hty⟩ := ht.ty (K := K)
  have hlt := (List.getElem?_eq_some_iff.mp hS).1
  have hcell : H[K.2.2.1 + a]? = some (arrV (K.2.1 t) n (fun j => va_rf (if j < n then (P a (nI j)).map (K.2.2.1 + ·) else none))) := by
    have := hrp.2 a _ (mhW_get hS)
    simp only [mhCell, mhArr_ge h3] at this
    exact this
  obtain ⟨r', hr', cellV, g1, g2, g3, -⟩ := hrp.2 r _ (mhW_get hr)
  have hcls := (hF.2.2.2.2.2.1.1.1 ci x hx).2
  obtain ⟨kA, comp, k1, k2, k3, -⟩ := (hF.2.2.2.2.2.1.1.2 t _ hty).2
  have hcomp : comp = K.1.1 ci := Option.some.inj (k3.symm.trans hcls.1)
  subst hcomp
  obtain ⟨kC, hkC, -⟩ := hcls.2
  have h0 : ¬ i < 0 := fun q => hin (Or.inl q)
  refine W.aast hF.1 hF.2.1 hcell (fun q h => by cases h) (fun h => by cases h) k1 k2 rfl hkC ⟨h0, by show _ < (arrV _ _ _).slots.size; rw [arrV_size]; exact (mh_clamp hin).2⟩ g1 (fun q h => by rw [g3] at h; cases h) (by rw [g2]; exact hkC) (by rw [g2]; exact va_assign hcls) rfl rfl hd fun H1 e1 z oq => ?_
  refine kk p e s m args below meth c Q MC MS hF h1 h2 hR H1 _ cells slots ls (mhRep_put hrp hlt (mh_same hS) z oq ?_ (fun b sh hb _ => mhCell_P fun j => mhUP_ne hb)) (hS'.put z oq (Nat.le_add_right _ _)) hl hc hs
  simp only [mhCell, mhArr_ge h3]
  show H1[_]? = some (vp_cell _ _)
  rw [e1, vp_cell_q, arrV_store]
  congr 2
  funext j
  by_cases hj : j = i.toNatClampNeg
  · subst hj
    simp [updV, mhUP, (mh_clamp hin).1, (mh_clamp hin).2, va_rf]
  · by_cases hjn : j < n
    · simp [updV, mhUP, hj, hjn, mh_nIeq hin hn hjn]
    · simp [updV, hj, hjn]
theorem mh_nn {z : Int32} (hz : ¬ z < 0) : z.toInt = (z.toNatClampNeg : Int) := by
  have hz0 : (0 : Int) ≤ z.toInt := by
    have := Int32.not_lt.mp hz
    simpa using Int32.le_iff_toInt_le.mp this
  show z.toInt = ((z.toInt.toNat : Nat) : Int)
  omega
theorem mh_copyI {ix a0 a n0 n1 : Nat} {sp dp n : Int32} (hd : decode M.2.1 pc = .ok (.invokestatic ix, 3)) (hlk : Cond.methodLink M.1.cls ix arraycopyName ∈ mhT) (hnat : Cond.native arraycopyName ∈ mhT) (hsta : Cond.static arraycopyName ∈ mhT) (hini : Cond.initialized "java/lang/System" ∈ mhT) (hfr : 1 ≤ M.2.2.2.2.frames) (hlo : 8 + (nativeFrameWords "java/lang/System" "arraycopy" 5 + 11) ≤ M.2.2.2.2.locals) (hst : (st.map fun v => v.category).sum ≤ 8)
    (hS0 : S[a0]? = some (.inl (0, n0))) (hS1 : S[a]? = some (.inl (0, n1))) (hb1 : n1 < 2 ^ 31) (h1 : ¬ sp < 0) (h2 : ¬ dp < 0) (h3 : ¬ n < 0) (h4 : sp.toNatClampNeg + n.toNatClampNeg ≤ n0) (h5 : dp.toNatClampNeg + n.toNatClampNeg ≤ n1) (hq : pc + 3 = q)
    (kk : mhV l K M kc ks Φ q lo st S F (mhCp I a0 sp.toNatClampNeg a dp.toNatClampNeg n.toNatClampNeg) J P) : mhV l K M kc ks Φ pc lo (.int n :: .int dp :: .ref a :: .int sp :: .ref a0 :: st) S F I J P := by
  intro p e s m args below meth c Q MC MS hF g1 g2 hR H locs cells slots ls hrp hS' hl hc hs
  subst hq
  obtain ⟨-, k0, hk0, cm0, hkk0⟩ := (hF.2.2.2.2.2.1.1.2 0 _ rfl).1 n0 (fun j => .int (if j < n0 then I a0 (nI j) else 0))
  obtain ⟨-, k1, hk1, cm1, hkk1⟩ := (hF.2.2.2.2.2.1.1.2 0 _ rfl).1 n1 (fun j => .int (if j < n1 then I a (nI j) else 0))
  have hc0 : H[K.2.2.1 + a0]? = some (vp_cell (K.2.1 0) (n0, .inl fun j => if j < n0 then I a0 (nI j) else 0)) := hrp.2 a0 _ (mhW_get hS0)
  have hc1 : H[K.2.2.1 + a]? = some (vp_cell (K.2.1 0) (n1, .inl fun j => if j < n1 then I a (nI j) else 0)) := hrp.2 a _ (mhW_get hS1)
  have hst2 := mh_restTr (K := K) hst
  intro T hT X
  obtain ⟨vm', X', step⟩ := X.arraycopy hF.1 hF.2.2.2.1 (hF.2.2.2.2.1 _ hlk) (hF.2.2.2.2.1 _ hnat) (hF.2.2.2.2.1 _ hsta) (hF.2.2.2.2.1 _ hini) (src := K.2.2.1 + a0) (dst := K.2.2.1 + a) (cs := vp_cell (K.2.1 0) (n0, .inl fun j => if j < n0 then I a0 (nI j) else 0)) (cd := vp_cell (K.2.1 0) (n1, .inl fun j => if j < n1 then I a (nI j) else 0)) (srcPos := sp) (destPos := dp) (n := n) (by rw [hT]; exact hc0) (by rw [hT]; exact hc1)
    (fun _ h => by cases h) (fun _ h => by cases h) (fun h => by cases h) (fun h => by cases h) hk0 hk1 hkk0 hkk1 (by simp [refKind]) h1 h2 h3
    (by rw [mh_nn h1, mh_nn h3]; show ¬ _ > ((arrV (K.2.1 0) n0 (fun j => .int (if j < n0 then I a0 (nI j) else 0))).slots.size : Int); rw [arrV_size]; omega)
    (by rw [mh_nn h2, mh_nn h3]; show ¬ _ > ((arrV (K.2.1 0) n1 (fun j => .int (if j < n1 then I a (nI j) else 0))).slots.size : Int); rw [arrV_size]; omega)
    (fun vm₁ _ i hi => by
      have e : (vp_cell (K.2.1 0) (n0, .inl fun j => if j < n0 then I a0 (nI j) else 0)).slots.getD (sp.toNatClampNeg + i) .null = .int (if sp.toNatClampNeg + i < n0 then I a0 (nI (sp.toNatClampNeg + i)) else 0) := by
        show (arrV (K.2.1 0) n0 (fun j => .int (if j < n0 then I a0 (nI j) else 0))).slots.getD _ _ = _
        rw [Array.getD_eq_getD_getElem?, arrV_read _ _ (by omega)]
        rfl
      refine ⟨?_, ?_⟩
      · rw [e]
        rfl
      · rw [e]
        exact trivial)
    (g := F0 m pc ls (List.map (mhTr K) (.int n :: .int dp :: .ref a :: .int sp :: .ref a0 :: st))) rfl (by rw [hF.2.2.1]; exact hl.1) (rest := st.map (mhTr K)) rfl (by rw [hF.2.1]; exact hd) hfr (by show 2 * 0 + _ + _ ≤ _; omega)
  have e1 : copied (vp_cell (K.2.1 0) (n0, .inl fun j => if j < n0 then I a0 (nI j) else 0)) (vp_cell (K.2.1 0) (n1, .inl fun j => if j < n1 then I a (nI j) else 0)) sp dp n = vp_cell (K.2.1 0) (n1, .inl (va_cpy (fun j => if j < n0 then I a0 (nI j) else 0) (fun j => if j < n1 then I a (nI j) else 0) sp.toNatClampNeg dp.toNatClampNeg n.toNatClampNeg)) := va_copied (fun z => .int z) (K.2.1 0) (K.2.1 0) (fun j => if j < n0 then I a0 (nI j) else 0) (fun j => if j < n1 then I a (nI j) else 0) h4
  rw [e1] at X' step
  have hlh : K.2.2.1 + a < H.size := (Array.getElem?_eq_some_iff.mp hc1).1
  have hlt := (List.getElem?_eq_some_iff.mp hS1).1
  generalize hcell : vp_cell (K.2.1 0) (n1, .inl (va_cpy (fun j => if j < n0 then I a0 (nI j) else 0) (fun j => if j < n1 then I a (nI j) else 0) sp.toNatClampNeg dp.toNatClampNeg n.toNatClampNeg)) = cell at X' step
  have hheap : ((T.setVm vm').setCell (K.2.2.1 + a) cell).heap = H.setIfInBounds (K.2.2.1 + a) cell := by rw [← hT]; rfl
  have oq : ∀ q : Nat, q ≠ K.2.2.1 + a → (H.setIfInBounds (K.2.2.1 + a) cell)[q]? = H[q]? := fun q hq => by simp [Array.getElem?_setIfInBounds, Ne.symm hq]
  have z : (H.setIfInBounds (K.2.2.1 + a) cell).size = H.size := by simp
  have hfun : ∀ j : Nat, va_cpy (fun j => if j < n0 then I a0 (nI j) else 0) (fun j => if j < n1 then I a (nI j) else 0) sp.toNatClampNeg dp.toNatClampNeg n.toNatClampNeg j = if j < n1 then mhCp I a0 sp.toNatClampNeg a dp.toNatClampNeg n.toNatClampNeg a (nI j) else 0 := by
    intro j
    by_cases hj : j < n1
    · have hj2 : j < 2 ^ 31 := by omega
      simp only [va_cpy, mhCp, hj, if_true, nI_clamp hj2, nI_pos hj2, not_false_eq_true, true_and]
      by_cases hr : dp.toNatClampNeg ≤ j ∧ j < dp.toNatClampNeg + n.toNatClampNeg
      · rw [if_pos hr, if_pos hr, if_pos (by omega)]
      · rw [if_neg hr, if_neg hr]
    · have hr : ¬ (dp.toNatClampNeg ≤ j ∧ j < dp.toNatClampNeg + n.toNatClampNeg) := by omega
      simp only [va_cpy, hj, if_false, hr]
  have hrep : mhRep K S F (mhCp I a0 sp.toNatClampNeg a dp.toNatClampNeg n.toNatClampNeg) J P (H.setIfInBounds (K.2.2.1 + a) cell) := by
    refine mhRep_put hrp hlt (mh_same hS1) z oq ?_ (fun b sh hb _ => mhCell_I fun j => if_neg fun h => hb h.1)
    show (H.setIfInBounds (K.2.2.1 + a) cell)[_]? = some (vp_cell (K.2.1 0) (n1, .inl fun j => if j < n1 then mhCp I a0 sp.toNatClampNeg a dp.toNatClampNeg n.toNatClampNeg a (nI j) else 0))
    rw [← funext hfun, hcell]
    simp [Array.getElem?_setIfInBounds, hlh]
  have hSn : ∀ L : List Loc, (∀ q ∈ L, K.2.2.1 ≤ q.base) → va_S (fun q => K.2.2.1 ≤ q) s.heap (H.setIfInBounds (K.2.2.1 + a) cell) (locs ++ L) := by
    intro L hL
    refine ⟨by simp; exact hS'.1, fun q g1 g2 => ?_, fun q hq => ?_⟩
    · rw [oq q (fun e => g2 (by rw [e]; exact Nat.le_add_right _ _))]
      exact hS'.2.1 q g1 g2
    · rcases List.mem_append.mp hq with h | h
      · exact hS'.2.2 q h
      · exact hL q h
  obtain ⟨t, a1, b1⟩ := kk p e s m args below meth c Q MC MS hF g1 g2 hR _ _ cells slots ls hrep (hSn _ (fun q hq => by obtain ⟨w, -, hw⟩ := List.mem_map.mp hq; rw [← hw]; exact Nat.le_add_right _ _)) hl hc hs _ hheap X'
  exact ⟨t, step t a1, b1⟩
end MHN
end
