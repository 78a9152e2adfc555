section
-- ===== PART A: goes FIRST, ahead of the names: the tables' words, and 'selects' of the private methods out of them =====
/-- a private method of a class that the tables say can be made, by its rows of tables_1 -/
def lw_okq (q : MethodName × Nat) : Prop := (q.1.cls ≠ "java/lang/invoke/MethodHandle" ∧ q.1.cls ≠ "java/lang/invoke/VarHandle") ∧ Cond.instantiable q.1.cls q.2 ∈ tables_1 ∧ Cond.privateMethod q.1 ∈ tables_1 ∧ Cond.instanceMethod q.1 ∈ tables_1
theorem lw_p0 : lw_okq (⟨"ValveShop", "found", "(I)I"⟩, 13) := ⟨⟨by decide +kernel, by decide +kernel⟩, List.mem_of_getElem? (i := 15) (by decide +kernel), List.mem_of_getElem? (i := 276) (by decide +kernel), List.mem_of_getElem? (i := 277) (by decide +kernel)⟩
theorem lw_p1 : lw_okq (⟨"ValveShop", "answered", "(I)I"⟩, 13) := ⟨⟨by decide +kernel, by decide +kernel⟩, List.mem_of_getElem? (i := 15) (by decide +kernel), List.mem_of_getElem? (i := 288) (by decide +kernel), List.mem_of_getElem? (i := 289) (by decide +kernel)⟩
theorem lw_p2 : lw_okq (⟨"ValveShop", "sheetAt", "(I)LValveShop$Sheet;"⟩, 13) := ⟨⟨by decide +kernel, by decide +kernel⟩, List.mem_of_getElem? (i := 15) (by decide +kernel), List.mem_of_getElem? (i := 296) (by decide +kernel), List.mem_of_getElem? (i := 297) (by decide +kernel)⟩
theorem lw_p3 : lw_okq (⟨"ValveShop", "engineAt", "(I)LValveShop$Engine;"⟩, 13) := ⟨⟨by decide +kernel, by decide +kernel⟩, List.mem_of_getElem? (i := 15) (by decide +kernel), List.mem_of_getElem? (i := 347) (by decide +kernel), List.mem_of_getElem? (i := 348) (by decide +kernel)⟩
theorem lw_p4 : lw_okq (⟨"ValveShop$Gear", "fillSwing", "(LValveShop$Engine;I[I)V"⟩, 4) := ⟨⟨by decide +kernel, by decide +kernel⟩, List.mem_of_getElem? (i := 72) (by decide +kernel), List.mem_of_getElem? (i := 443) (by decide +kernel), List.mem_of_getElem? (i := 444) (by decide +kernel)⟩
theorem lw_p5 : lw_okq (⟨"ValveShop$Gear", "firstEventOn", "([ILValveShop$Engine;III)I"⟩, 4) := ⟨⟨by decide +kernel, by decide +kernel⟩, List.mem_of_getElem? (i := 72) (by decide +kernel), List.mem_of_getElem? (i := 448) (by decide +kernel), List.mem_of_getElem? (i := 449) (by decide +kernel)⟩
theorem lw_p6 : lw_okq (⟨"ValveShop$Gear", "fillSwings", "(LValveShop$Engine;)V"⟩, 4) := ⟨⟨by decide +kernel, by decide +kernel⟩, List.mem_of_getElem? (i := 72) (by decide +kernel), List.mem_of_getElem? (i := 463) (by decide +kernel), List.mem_of_getElem? (i := 464) (by decide +kernel)⟩
theorem lw_p7 : lw_okq (⟨"ValveShop$Gear", "unlikeBelow", "(LValveShop$Engine;I)I"⟩, 4) := ⟨⟨by decide +kernel, by decide +kernel⟩, List.mem_of_getElem? (i := 72) (by decide +kernel), List.mem_of_getElem? (i := 468) (by decide +kernel), List.mem_of_getElem? (i := 469) (by decide +kernel)⟩
theorem lw_p8 : lw_okq (⟨"ValveShop$Pencil", "prepare", "(LValveShop$Engine;II)V"⟩, 7) := ⟨⟨by decide +kernel, by decide +kernel⟩, List.mem_of_getElem? (i := 96) (by decide +kernel), List.mem_of_getElem? (i := 514) (by decide +kernel), List.mem_of_getElem? (i := 515) (by decide +kernel)⟩
theorem lw_p9 : lw_okq (⟨"ValveShop$Pencil", "pushed", "()J"⟩, 7) := ⟨⟨by decide +kernel, by decide +kernel⟩, List.mem_of_getElem? (i := 96) (by decide +kernel), List.mem_of_getElem? (i := 563) (by decide +kernel), List.mem_of_getElem? (i := 564) (by decide +kernel)⟩
theorem lw_p10 : lw_okq (⟨"ValveShop", "nearest", "(II)I"⟩, 13) := ⟨⟨by decide +kernel, by decide +kernel⟩, List.mem_of_getElem? (i := 15) (by decide +kernel), List.mem_of_getElem? (i := 622) (by decide +kernel), List.mem_of_getElem? (i := 623) (by decide +kernel)⟩
theorem lw_p11 : lw_okq (⟨"ValveShop", "farthestApart", "(III)I"⟩, 13) := ⟨⟨by decide +kernel, by decide +kernel⟩, List.mem_of_getElem? (i := 15) (by decide +kernel), List.mem_of_getElem? (i := 632) (by decide +kernel), List.mem_of_getElem? (i := 633) (by decide +kernel)⟩
theorem lw_p12 : lw_okq (⟨"ValveShop$Planner", "weigh", "(II)V"⟩, 7) := ⟨⟨by decide +kernel, by decide +kernel⟩, List.mem_of_getElem? (i := 148) (by decide +kernel), List.mem_of_getElem? (i := 664) (by decide +kernel), List.mem_of_getElem? (i := 665) (by decide +kernel)⟩
theorem lw_p13 : lw_okq (⟨"ValveShop$Planner", "lasting", "(II)I"⟩, 7) := ⟨⟨by decide +kernel, by decide +kernel⟩, List.mem_of_getElem? (i := 148) (by decide +kernel), List.mem_of_getElem? (i := 669) (by decide +kernel), List.mem_of_getElem? (i := 670) (by decide +kernel)⟩
theorem lw_p14 : lw_okq (⟨"ValveShop$Planner", "burning", "(II)I"⟩, 7) := ⟨⟨by decide +kernel, by decide +kernel⟩, List.mem_of_getElem? (i := 148) (by decide +kernel), List.mem_of_getElem? (i := 673) (by decide +kernel), List.mem_of_getElem? (i := 674) (by decide +kernel)⟩
theorem lw_p15 : lw_okq (⟨"ValveShop$Planner", "keepBest", "(II)I"⟩, 7) := ⟨⟨by decide +kernel, by decide +kernel⟩, List.mem_of_getElem? (i := 148) (by decide +kernel), List.mem_of_getElem? (i := 678) (by decide +kernel), List.mem_of_getElem? (i := 679) (by decide +kernel)⟩
def lw_privs_1 : List (MethodName × Nat) := [(⟨"ValveShop", "found", "(I)I"⟩, 13), (⟨"ValveShop", "answered", "(I)I"⟩, 13), (⟨"ValveShop", "sheetAt", "(I)LValveShop$Sheet;"⟩, 13), (⟨"ValveShop", "engineAt", "(I)LValveShop$Engine;"⟩, 13), (⟨"ValveShop$Gear", "fillSwing", "(LValveShop$Engine;I[I)V"⟩, 4), (⟨"ValveShop$Gear", "firstEventOn", "([ILValveShop$Engine;III)I"⟩, 4), (⟨"ValveShop$Gear", "fillSwings", "(LValveShop$Engine;)V"⟩, 4), (⟨"ValveShop$Gear", "unlikeBelow", "(LValveShop$Engine;I)I"⟩, 4), (⟨"ValveShop$Pencil", "prepare", "(LValveShop$Engine;II)V"⟩, 7), (⟨"ValveShop$Pencil", "pushed", "()J"⟩, 7), (⟨"ValveShop", "nearest", "(II)I"⟩, 13), (⟨"ValveShop", "farthestApart", "(III)I"⟩, 13), (⟨"ValveShop$Planner", "weigh", "(II)V"⟩, 7), (⟨"ValveShop$Planner", "lasting", "(II)I"⟩, 7), (⟨"ValveShop$Planner", "burning", "(II)I"⟩, 7), (⟨"ValveShop$Planner", "keepBest", "(II)I"⟩, 7)]
theorem lw_r1 : ∀ q ∈ lw_privs_1, lw_okq q := List.forall_mem_cons.mpr ⟨lw_p0, List.forall_mem_cons.mpr ⟨lw_p1, List.forall_mem_cons.mpr ⟨lw_p2, List.forall_mem_cons.mpr ⟨lw_p3, List.forall_mem_cons.mpr ⟨lw_p4, List.forall_mem_cons.mpr ⟨lw_p5, List.forall_mem_cons.mpr ⟨lw_p6, List.forall_mem_cons.mpr ⟨lw_p7, List.forall_mem_cons.mpr ⟨lw_p8, List.forall_mem_cons.mpr ⟨lw_p9, List.forall_mem_cons.mpr ⟨lw_p10, List.forall_mem_cons.mpr ⟨lw_p11, List.forall_mem_cons.mpr ⟨lw_p12, List.forall_mem_cons.mpr ⟨lw_p13, List.forall_mem_cons.mpr ⟨lw_p14, List.forall_mem_cons.mpr ⟨lw_p15, fun _ h => absurd h List.not_mem_nil⟩⟩⟩⟩⟩⟩⟩⟩⟩⟩⟩⟩⟩⟩⟩⟩
theorem lw_p16 : lw_okq (⟨"ValveShop", "toldKind", "(LValveShop$Engine;)I"⟩, 13) := ⟨⟨by decide +kernel, by decide +kernel⟩, List.mem_of_getElem? (i := 15) (by decide +kernel), List.mem_of_getElem? (i := 722) (by decide +kernel), List.mem_of_getElem? (i := 723) (by decide +kernel)⟩
theorem lw_p17 : lw_okq (⟨"ValveShop", "askWorth", "(LValveShop$Engine;I)I"⟩, 13) := ⟨⟨by decide +kernel, by decide +kernel⟩, List.mem_of_getElem? (i := 15) (by decide +kernel), List.mem_of_getElem? (i := 741) (by decide +kernel), List.mem_of_getElem? (i := 742) (by decide +kernel)⟩
theorem lw_p18 : lw_okq (⟨"ValveShop", "worthOfSound", "(LValveShop$Engine;)I"⟩, 13) := ⟨⟨by decide +kernel, by decide +kernel⟩, List.mem_of_getElem? (i := 15) (by decide +kernel), List.mem_of_getElem? (i := 745) (by decide +kernel), List.mem_of_getElem? (i := 746) (by decide +kernel)⟩
theorem lw_p19 : lw_okq (⟨"ValveShop", "leave", "(I)V"⟩, 13) := ⟨⟨by decide +kernel, by decide +kernel⟩, List.mem_of_getElem? (i := 15) (by decide +kernel), List.mem_of_getElem? (i := 749) (by decide +kernel), List.mem_of_getElem? (i := 750) (by decide +kernel)⟩
theorem lw_p20 : lw_okq (⟨"ValveShop", "worthOfAny", "(LValveShop$Engine;)I"⟩, 13) := ⟨⟨by decide +kernel, by decide +kernel⟩, List.mem_of_getElem? (i := 15) (by decide +kernel), List.mem_of_getElem? (i := 753) (by decide +kernel), List.mem_of_getElem? (i := 754) (by decide +kernel)⟩
theorem lw_p21 : lw_okq (⟨"ValveShop", "markOfEven", "(LValveShop$Engine;)I"⟩, 13) := ⟨⟨by decide +kernel, by decide +kernel⟩, List.mem_of_getElem? (i := 15) (by decide +kernel), List.mem_of_getElem? (i := 757) (by decide +kernel), List.mem_of_getElem? (i := 758) (by decide +kernel)⟩
theorem lw_p22 : lw_okq (⟨"ValveShop", "markOfAny", "(LValveShop$Engine;)I"⟩, 13) := ⟨⟨by decide +kernel, by decide +kernel⟩, List.mem_of_getElem? (i := 15) (by decide +kernel), List.mem_of_getElem? (i := 761) (by decide +kernel), List.mem_of_getElem? (i := 762) (by decide +kernel)⟩
theorem lw_p23 : lw_okq (⟨"ValveShop", "worthOfSick", "(LValveShop$Engine;)I"⟩, 13) := ⟨⟨by decide +kernel, by decide +kernel⟩, List.mem_of_getElem? (i := 15) (by decide +kernel), List.mem_of_getElem? (i := 765) (by decide +kernel), List.mem_of_getElem? (i := 766) (by decide +kernel)⟩
theorem lw_p24 : lw_okq (⟨"ValveShop", "askMark", "(LValveShop$Engine;I)I"⟩, 13) := ⟨⟨by decide +kernel, by decide +kernel⟩, List.mem_of_getElem? (i := 15) (by decide +kernel), List.mem_of_getElem? (i := 769) (by decide +kernel), List.mem_of_getElem? (i := 770) (by decide +kernel)⟩
theorem lw_p25 : lw_okq (⟨"ValveShop", "markOfSick", "(LValveShop$Engine;I)I"⟩, 13) := ⟨⟨by decide +kernel, by decide +kernel⟩, List.mem_of_getElem? (i := 15) (by decide +kernel), List.mem_of_getElem? (i := 773) (by decide +kernel), List.mem_of_getElem? (i := 774) (by decide +kernel)⟩
theorem lw_p26 : lw_okq (⟨"ValveShop", "countSheets", "()I"⟩, 13) := ⟨⟨by decide +kernel, by decide +kernel⟩, List.mem_of_getElem? (i := 15) (by decide +kernel), List.mem_of_getElem? (i := 785) (by decide +kernel), List.mem_of_getElem? (i := 786) (by decide +kernel)⟩
theorem lw_p27 : lw_okq (⟨"ValveShop", "countEngines", "(I)I"⟩, 13) := ⟨⟨by decide +kernel, by decide +kernel⟩, List.mem_of_getElem? (i := 15) (by decide +kernel), List.mem_of_getElem? (i := 789) (by decide +kernel), List.mem_of_getElem? (i := 790) (by decide +kernel)⟩
theorem lw_p28 : lw_okq (⟨"ValveShop", "countFoundCards", "()I"⟩, 13) := ⟨⟨by decide +kernel, by decide +kernel⟩, List.mem_of_getElem? (i := 15) (by decide +kernel), List.mem_of_getElem? (i := 793) (by decide +kernel), List.mem_of_getElem? (i := 794) (by decide +kernel)⟩
theorem lw_p29 : lw_okq (⟨"ValveShopModel", "found", "(I)I"⟩, 33) := ⟨⟨by decide +kernel, by decide +kernel⟩, List.mem_of_getElem? (i := 801) (by decide +kernel), List.mem_of_getElem? (i := 921) (by decide +kernel), List.mem_of_getElem? (i := 922) (by decide +kernel)⟩
theorem lw_p30 : lw_okq (⟨"ValveShopModel", "stands", "(I)I"⟩, 33) := ⟨⟨by decide +kernel, by decide +kernel⟩, List.mem_of_getElem? (i := 801) (by decide +kernel), List.mem_of_getElem? (i := 962) (by decide +kernel), List.mem_of_getElem? (i := 963) (by decide +kernel)⟩
theorem lw_p31 : lw_okq (⟨"ValveShopModel", "like", "(II)V"⟩, 33) := ⟨⟨by decide +kernel, by decide +kernel⟩, List.mem_of_getElem? (i := 801) (by decide +kernel), List.mem_of_getElem? (i := 975) (by decide +kernel), List.mem_of_getElem? (i := 976) (by decide +kernel)⟩
def lw_privs_2 : List (MethodName × Nat) := [(⟨"ValveShop", "toldKind", "(LValveShop$Engine;)I"⟩, 13), (⟨"ValveShop", "askWorth", "(LValveShop$Engine;I)I"⟩, 13), (⟨"ValveShop", "worthOfSound", "(LValveShop$Engine;)I"⟩, 13), (⟨"ValveShop", "leave", "(I)V"⟩, 13), (⟨"ValveShop", "worthOfAny", "(LValveShop$Engine;)I"⟩, 13), (⟨"ValveShop", "markOfEven", "(LValveShop$Engine;)I"⟩, 13), (⟨"ValveShop", "markOfAny", "(LValveShop$Engine;)I"⟩, 13), (⟨"ValveShop", "worthOfSick", "(LValveShop$Engine;)I"⟩, 13), (⟨"ValveShop", "askMark", "(LValveShop$Engine;I)I"⟩, 13), (⟨"ValveShop", "markOfSick", "(LValveShop$Engine;I)I"⟩, 13), (⟨"ValveShop", "countSheets", "()I"⟩, 13), (⟨"ValveShop", "countEngines", "(I)I"⟩, 13), (⟨"ValveShop", "countFoundCards", "()I"⟩, 13), (⟨"ValveShopModel", "found", "(I)I"⟩, 33), (⟨"ValveShopModel", "stands", "(I)I"⟩, 33), (⟨"ValveShopModel", "like", "(II)V"⟩, 33)]
theorem lw_r2 : ∀ q ∈ lw_privs_2, lw_okq q := List.forall_mem_cons.mpr ⟨lw_p16, List.forall_mem_cons.mpr ⟨lw_p17, List.forall_mem_cons.mpr ⟨lw_p18, List.forall_mem_cons.mpr ⟨lw_p19, List.forall_mem_cons.mpr ⟨lw_p20, List.forall_mem_cons.mpr ⟨lw_p21, List.forall_mem_cons.mpr ⟨lw_p22, List.forall_mem_cons.mpr ⟨lw_p23, List.forall_mem_cons.mpr ⟨lw_p24, List.forall_mem_cons.mpr ⟨lw_p25, List.forall_mem_cons.mpr ⟨lw_p26, List.forall_mem_cons.mpr ⟨lw_p27, List.forall_mem_cons.mpr ⟨lw_p28, List.forall_mem_cons.mpr ⟨lw_p29, List.forall_mem_cons.mpr ⟨lw_p30, List.forall_mem_cons.mpr ⟨lw_p31, fun _ h => absurd h List.not_mem_nil⟩⟩⟩⟩⟩⟩⟩⟩⟩⟩⟩⟩⟩⟩⟩⟩
theorem lw_p32 : lw_okq (⟨"ValveShopModel", "pistonAt", "(II)I"⟩, 33) := ⟨⟨by decide +kernel, by decide +kernel⟩, List.mem_of_getElem? (i := 801) (by decide +kernel), List.mem_of_getElem? (i := 993) (by decide +kernel), List.mem_of_getElem? (i := 994) (by decide +kernel)⟩
theorem lw_p33 : lw_okq (⟨"ValveShopModel", "along", "(I)I"⟩, 33) := ⟨⟨by decide +kernel, by decide +kernel⟩, List.mem_of_getElem? (i := 801) (by decide +kernel), List.mem_of_getElem? (i := 997) (by decide +kernel), List.mem_of_getElem? (i := 998) (by decide +kernel)⟩
theorem lw_p34 : lw_okq (⟨"ValveShopModel", "across", "(I)I"⟩, 33) := ⟨⟨by decide +kernel, by decide +kernel⟩, List.mem_of_getElem? (i := 801) (by decide +kernel), List.mem_of_getElem? (i := 1004) (by decide +kernel), List.mem_of_getElem? (i := 1005) (by decide +kernel)⟩
theorem lw_p35 : lw_okq (⟨"ValveShopModel", "valveAt", "(III)I"⟩, 33) := ⟨⟨by decide +kernel, by decide +kernel⟩, List.mem_of_getElem? (i := 801) (by decide +kernel), List.mem_of_getElem? (i := 1018) (by decide +kernel), List.mem_of_getElem? (i := 1019) (by decide +kernel)⟩
theorem lw_p36 : lw_okq (⟨"ValveShopModel", "openAt", "(IIIII)I"⟩, 33) := ⟨⟨by decide +kernel, by decide +kernel⟩, List.mem_of_getElem? (i := 801) (by decide +kernel), List.mem_of_getElem? (i := 1030) (by decide +kernel), List.mem_of_getElem? (i := 1031) (by decide +kernel)⟩
theorem lw_p37 : lw_okq (⟨"ValveShopModel", "openBy", "(IIII)I"⟩, 33) := ⟨⟨by decide +kernel, by decide +kernel⟩, List.mem_of_getElem? (i := 801) (by decide +kernel), List.mem_of_getElem? (i := 1034) (by decide +kernel), List.mem_of_getElem? (i := 1035) (by decide +kernel)⟩
theorem lw_p38 : lw_okq (⟨"ValveShopModel", "eventOf", "(IIII)I"⟩, 33) := ⟨⟨by decide +kernel, by decide +kernel⟩, List.mem_of_getElem? (i := 801) (by decide +kernel), List.mem_of_getElem? (i := 1043) (by decide +kernel), List.mem_of_getElem? (i := 1044) (by decide +kernel)⟩
theorem lw_p39 : lw_okq (⟨"ValveShopModel", "unlike", "(I)I"⟩, 33) := ⟨⟨by decide +kernel, by decide +kernel⟩, List.mem_of_getElem? (i := 801) (by decide +kernel), List.mem_of_getElem? (i := 1052) (by decide +kernel), List.mem_of_getElem? (i := 1053) (by decide +kernel)⟩
theorem lw_p40 : lw_okq (⟨"ValveShopModel", "leadOf", "(I)I"⟩, 33) := ⟨⟨by decide +kernel, by decide +kernel⟩, List.mem_of_getElem? (i := 801) (by decide +kernel), List.mem_of_getElem? (i := 1056) (by decide +kernel), List.mem_of_getElem? (i := 1057) (by decide +kernel)⟩
theorem lw_p41 : lw_okq (⟨"ValveShopModel", "settle", "(I)I"⟩, 33) := ⟨⟨by decide +kernel, by decide +kernel⟩, List.mem_of_getElem? (i := 801) (by decide +kernel), List.mem_of_getElem? (i := 1064) (by decide +kernel), List.mem_of_getElem? (i := 1065) (by decide +kernel)⟩
theorem lw_p42 : lw_okq (⟨"ValveShopModel", "draw", "(IIIII)V"⟩, 33) := ⟨⟨by decide +kernel, by decide +kernel⟩, List.mem_of_getElem? (i := 801) (by decide +kernel), List.mem_of_getElem? (i := 1081) (by decide +kernel), List.mem_of_getElem? (i := 1082) (by decide +kernel)⟩
theorem lw_p43 : lw_okq (⟨"ValveShopModel", "room", "(III)I"⟩, 33) := ⟨⟨by decide +kernel, by decide +kernel⟩, List.mem_of_getElem? (i := 801) (by decide +kernel), List.mem_of_getElem? (i := 1085) (by decide +kernel), List.mem_of_getElem? (i := 1086) (by decide +kernel)⟩
theorem lw_p44 : lw_okq (⟨"ValveShopModel", "workOf", "(IIII)I"⟩, 33) := ⟨⟨by decide +kernel, by decide +kernel⟩, List.mem_of_getElem? (i := 801) (by decide +kernel), List.mem_of_getElem? (i := 1103) (by decide +kernel), List.mem_of_getElem? (i := 1104) (by decide +kernel)⟩
theorem lw_p45 : lw_okq (⟨"ValveShopModel", "drinkOf", "(IIII)I"⟩, 33) := ⟨⟨by decide +kernel, by decide +kernel⟩, List.mem_of_getElem? (i := 801) (by decide +kernel), List.mem_of_getElem? (i := 1107) (by decide +kernel), List.mem_of_getElem? (i := 1108) (by decide +kernel)⟩
theorem lw_p46 : lw_okq (⟨"ValveShopModel", "isCard", "(II)Z"⟩, 33) := ⟨⟨by decide +kernel, by decide +kernel⟩, List.mem_of_getElem? (i := 801) (by decide +kernel), List.mem_of_getElem? (i := 1116) (by decide +kernel), List.mem_of_getElem? (i := 1117) (by decide +kernel)⟩
theorem lw_p47 : lw_okq (⟨"ValveShopModel", "misfitOf", "(II)I"⟩, 33) := ⟨⟨by decide +kernel, by decide +kernel⟩, List.mem_of_getElem? (i := 801) (by decide +kernel), List.mem_of_getElem? (i := 1127) (by decide +kernel), List.mem_of_getElem? (i := 1128) (by decide +kernel)⟩
def lw_privs_3 : List (MethodName × Nat) := [(⟨"ValveShopModel", "pistonAt", "(II)I"⟩, 33), (⟨"ValveShopModel", "along", "(I)I"⟩, 33), (⟨"ValveShopModel", "across", "(I)I"⟩, 33), (⟨"ValveShopModel", "valveAt", "(III)I"⟩, 33), (⟨"ValveShopModel", "openAt", "(IIIII)I"⟩, 33), (⟨"ValveShopModel", "openBy", "(IIII)I"⟩, 33), (⟨"ValveShopModel", "eventOf", "(IIII)I"⟩, 33), (⟨"ValveShopModel", "unlike", "(I)I"⟩, 33), (⟨"ValveShopModel", "leadOf", "(I)I"⟩, 33), (⟨"ValveShopModel", "settle", "(I)I"⟩, 33), (⟨"ValveShopModel", "draw", "(IIIII)V"⟩, 33), (⟨"ValveShopModel", "room", "(III)I"⟩, 33), (⟨"ValveShopModel", "workOf", "(IIII)I"⟩, 33), (⟨"ValveShopModel", "drinkOf", "(IIII)I"⟩, 33), (⟨"ValveShopModel", "isCard", "(II)Z"⟩, 33), (⟨"ValveShopModel", "misfitOf", "(II)I"⟩, 33)]
theorem lw_r3 : ∀ q ∈ lw_privs_3, lw_okq q := List.forall_mem_cons.mpr ⟨lw_p32, List.forall_mem_cons.mpr ⟨lw_p33, List.forall_mem_cons.mpr ⟨lw_p34, List.forall_mem_cons.mpr ⟨lw_p35, List.forall_mem_cons.mpr ⟨lw_p36, List.forall_mem_cons.mpr ⟨lw_p37, List.forall_mem_cons.mpr ⟨lw_p38, List.forall_mem_cons.mpr ⟨lw_p39, List.forall_mem_cons.mpr ⟨lw_p40, List.forall_mem_cons.mpr ⟨lw_p41, List.forall_mem_cons.mpr ⟨lw_p42, List.forall_mem_cons.mpr ⟨lw_p43, List.forall_mem_cons.mpr ⟨lw_p44, List.forall_mem_cons.mpr ⟨lw_p45, List.forall_mem_cons.mpr ⟨lw_p46, List.forall_mem_cons.mpr ⟨lw_p47, fun _ h => absurd h List.not_mem_nil⟩⟩⟩⟩⟩⟩⟩⟩⟩⟩⟩⟩⟩⟩⟩⟩
theorem lw_p48 : lw_okq (⟨"ValveShopModel", "kindOf", "(I)I"⟩, 33) := ⟨⟨by decide +kernel, by decide +kernel⟩, List.mem_of_getElem? (i := 801) (by decide +kernel), List.mem_of_getElem? (i := 1172) (by decide +kernel), List.mem_of_getElem? (i := 1173) (by decide +kernel)⟩
theorem lw_p49 : lw_okq (⟨"ValveShopModel", "worth", "(II)I"⟩, 33) := ⟨⟨by decide +kernel, by decide +kernel⟩, List.mem_of_getElem? (i := 801) (by decide +kernel), List.mem_of_getElem? (i := 1191) (by decide +kernel), List.mem_of_getElem? (i := 1192) (by decide +kernel)⟩
theorem lw_p50 : lw_okq (⟨"ValveShopModel", "sickWorth", "(II)I"⟩, 33) := ⟨⟨by decide +kernel, by decide +kernel⟩, List.mem_of_getElem? (i := 801) (by decide +kernel), List.mem_of_getElem? (i := 1195) (by decide +kernel), List.mem_of_getElem? (i := 1196) (by decide +kernel)⟩
theorem lw_p51 : lw_okq (⟨"ValveShopModel", "began", "(I)V"⟩, 33) := ⟨⟨by decide +kernel, by decide +kernel⟩, List.mem_of_getElem? (i := 801) (by decide +kernel), List.mem_of_getElem? (i := 1199) (by decide +kernel), List.mem_of_getElem? (i := 1200) (by decide +kernel)⟩
theorem lw_p52 : lw_okq (⟨"ValveShopModel", "marked", "(II)I"⟩, 33) := ⟨⟨by decide +kernel, by decide +kernel⟩, List.mem_of_getElem? (i := 801) (by decide +kernel), List.mem_of_getElem? (i := 1203) (by decide +kernel), List.mem_of_getElem? (i := 1204) (by decide +kernel)⟩
def lw_privs_4 : List (MethodName × Nat) := [(⟨"ValveShopModel", "kindOf", "(I)I"⟩, 33), (⟨"ValveShopModel", "worth", "(II)I"⟩, 33), (⟨"ValveShopModel", "sickWorth", "(II)I"⟩, 33), (⟨"ValveShopModel", "began", "(I)V"⟩, 33), (⟨"ValveShopModel", "marked", "(II)I"⟩, 33)]
theorem lw_r4 : ∀ q ∈ lw_privs_4, lw_okq q := List.forall_mem_cons.mpr ⟨lw_p48, List.forall_mem_cons.mpr ⟨lw_p49, List.forall_mem_cons.mpr ⟨lw_p50, List.forall_mem_cons.mpr ⟨lw_p51, List.forall_mem_cons.mpr ⟨lw_p52, fun _ h => absurd h List.not_mem_nil⟩⟩⟩⟩⟩
def lw_privs : List (MethodName × Nat) := lw_privs_1 ++ (lw_privs_2 ++ (lw_privs_3 ++ (lw_privs_4)))
def lw_tbl : List Cond := k2_sels lw_privs ++ tables_1
theorem lw_privs_ok : ∀ q ∈ lw_privs, lw_okq q := by
  show ∀ q ∈ lw_privs_1 ++ (lw_privs_2 ++ (lw_privs_3 ++ (lw_privs_4))), lw_okq q
  exact List.forall_mem_append.mpr ⟨lw_r1, List.forall_mem_append.mpr ⟨lw_r2, List.forall_mem_append.mpr ⟨lw_r3, lw_r4⟩⟩⟩
-- ===== end of PART A; then your names; then what follows =====
end
section
/-! ===== BEGIN printed: names, fields, word lists, decode rows ===== -/
def RX0 : String := "ValveShop$Engine"
def TX0 : u_T := fun k => match k with
  | 0 => ("ValveShop$Engine", "numbers", "[I", true)
  | 1 => ("ValveShop$Engine", "sickness", "I", false)
  | _ => ("ValveShop$Engine", "there", "Z", false)
def tyX0 : Nat → FieldType := fun k => match k with
  | 0 => .array .int
  | 1 => .int
  | _ => .boolean
abbrev wsX00 : List Cond := u_ws RX0 TX0 3
theorem nmX0 : ∀ a, a < 3 → ∀ b, b < 3 → a ≠ b → (TX0 a).2.1 ≠ (TX0 b).2.1 := by decide +kernel
theorem tyX0_ok : ∀ k, k < 3 → parseFieldDescriptor (TX0 k).2.2.1 = some (tyX0 k) := by decide +kernel
abbrev cX0_init : ByteArray := prog_2_method_1_code
def yX0_init : MethodName := ⟨RX0, "<init>", "()V"⟩
abbrev cX0_build : ByteArray := prog_2_method_2_code
def yX0_build : MethodName := ⟨RX0, "build", "(LValveShop$Sheet;I)V"⟩
abbrev cX0_resemble : ByteArray := prog_2_method_3_code
def yX0_resemble : MethodName := ⟨RX0, "resemble", "(LValveShop$Engine;)V"⟩
abbrev cX0_late : ByteArray := prog_2_method_4_code
def yX0_late : MethodName := ⟨RX0, "late", "()I"⟩
abbrev cX0_leak : ByteArray := prog_2_method_5_code
def yX0_leak : MethodName := ⟨RX0, "leak", "()I"⟩
abbrev cX0_choke : ByteArray := prog_2_method_6_code
def yX0_choke : MethodName := ⟨RX0, "choke", "()I"⟩
abbrev cX0_stroke : ByteArray := prog_2_method_7_code
def yX0_stroke : MethodName := ⟨RX0, "stroke", "(I)I"⟩
abbrev cX0_swing : ByteArray := prog_2_method_8_code
def yX0_swing : MethodName := ⟨RX0, "swing", "(II)I"⟩
abbrev cX0_hanging : ByteArray := prog_2_method_9_code
def yX0_hanging : MethodName := ⟨RX0, "hanging", "(I)I"⟩
abbrev cX0_travel : ByteArray := prog_2_method_10_code
def yX0_travel : MethodName := ⟨RX0, "travel", "(II)I"⟩
abbrev cX0_opening : ByteArray := prog_2_method_11_code
def yX0_opening : MethodName := ⟨RX0, "opening", "(III)I"⟩
abbrev cX0_lead : ByteArray := prog_2_method_12_code
def yX0_lead : MethodName := ⟨RX0, "lead", "()I"⟩
def RX1 : String := "ValveShop$Fire"
def TX1 : u_T := fun k => match k with
  | 0 => ("ValveShop$Fire", "gauge", "I", false)
  | 1 => ("ValveShop$Fire", "heap", "I", false)
  | 2 => ("ValveShop$Fire", "burnt", "I", false)
  | 3 => ("ValveShop$Fire", "drunk", "I", false)
  | 4 => ("ValveShop$Fire", "blown", "I", false)
  | _ => ("ValveShop$Fire", "minutes", "I", false)
def tyX1 : Nat → FieldType := fun k => match k with
  | 0 => .int
  | 1 => .int
  | 2 => .int
  | 3 => .int
  | 4 => .int
  | _ => .int
abbrev wsX10 : List Cond := u_ws RX1 TX1 6
theorem nmX1 : ∀ a, a < 6 → ∀ b, b < 6 → a ≠ b → (TX1 a).2.1 ≠ (TX1 b).2.1 := by decide +kernel
theorem tyX1_ok : ∀ k, k < 6 → parseFieldDescriptor (TX1 k).2.2.1 = some (tyX1 k) := by decide +kernel
abbrev cX1_init : ByteArray := prog_3_method_1_code
def yX1_init : MethodName := ⟨RX1, "<init>", "()V"⟩
abbrev cX1_burn : ByteArray := prog_3_method_2_code
def yX1_burn : MethodName := ⟨RX1, "burn", "()V"⟩
abbrev cX1_give : ByteArray := prog_3_method_3_code
def yX1_give : MethodName := ⟨RX1, "give", "(I)V"⟩
abbrev cX1_blow : ByteArray := prog_3_method_4_code
def yX1_blow : MethodName := ⟨RX1, "blow", "()V"⟩
abbrev cX1_told : ByteArray := prog_3_method_5_code
def yX1_told : MethodName := ⟨RX1, "told", "(I)I"⟩
def RX2 : String := "ValveShop$FoundCard"
def TX2 : u_T := fun k => match k with
  | 0 => ("ValveShop$FoundCard", "items", "[I", true)
  | 1 => ("ValveShop$FoundCard", "kept", "Z", false)
  | 2 => ("ValveShop$FoundCard", "notch", "I", false)
  | _ => ("ValveShop$FoundCard", "boiler", "I", false)
def tyX2 : Nat → FieldType := fun k => match k with
  | 0 => .array .int
  | 1 => .boolean
  | 2 => .int
  | _ => .int
abbrev wsX20 : List Cond := u_ws RX2 TX2 4
theorem nmX2 : ∀ a, a < 4 → ∀ b, b < 4 → a ≠ b → (TX2 a).2.1 ≠ (TX2 b).2.1 := by decide +kernel
theorem tyX2_ok : ∀ k, k < 4 → parseFieldDescriptor (TX2 k).2.2.1 = some (tyX2 k) := by decide +kernel
abbrev cX2_init : ByteArray := prog_4_method_1_code
def yX2_init : MethodName := ⟨RX2, "<init>", "()V"⟩
abbrev cX2_take : ByteArray := prog_4_method_2_code
def yX2_take : MethodName := ⟨RX2, "take", "(LValveShop$Sheet;I)V"⟩
abbrev cX2_readable : ByteArray := prog_4_method_3_code
def yX2_readable : MethodName := ⟨RX2, "readable", "()I"⟩
abbrev cX2_apart : ByteArray := prog_4_method_4_code
def yX2_apart : MethodName := ⟨RX2, "apart", "([I)I"⟩
def RX3 : String := "ValveShop$Gear"
def TX3 : u_T := fun k => match k with
  | 0 => ("ValveShop$Gear", "swings", "[[I", true)
  | 1 => ("ValveShop$Gear", "bestAdvance", "I", false)
  | 2 => ("ValveShop$Gear", "bestHang", "I", false)
  | _ => ("ValveShop$Gear", "leastUnlike", "I", false)
def tyX3 : Nat → FieldType := fun k => match k with
  | 0 => .array (.array .int)
  | 1 => .int
  | 2 => .int
  | _ => .int
abbrev wsX30 : List Cond := u_ws RX3 TX3 4
theorem nmX3 : ∀ a, a < 4 → ∀ b, b < 4 → a ≠ b → (TX3 a).2.1 ≠ (TX3 b).2.1 := by decide +kernel
theorem tyX3_ok : ∀ k, k < 4 → parseFieldDescriptor (TX3 k).2.2.1 = some (tyX3 k) := by decide +kernel
abbrev cX3_init : ByteArray := prog_5_method_1_code
def yX3_init : MethodName := ⟨RX3, "<init>", "()V"⟩
abbrev cX3_firstEvent : ByteArray := prog_5_method_2_code
def yX3_firstEvent : MethodName := ⟨RX3, "firstEvent", "(LValveShop$Engine;III)I"⟩
abbrev cX3_unlike : ByteArray := prog_5_method_3_code
def yX3_unlike : MethodName := ⟨RX3, "unlike", "(LValveShop$Engine;)I"⟩
abbrev cX3_seekSetting : ByteArray := prog_5_method_4_code
def yX3_seekSetting : MethodName := ⟨RX3, "seekSetting", "(LValveShop$Engine;LValveShop$Engine;)V"⟩
abbrev cX3_fillSwings : ByteArray := prog_5_method_5_code
def yX3_fillSwings : MethodName := ⟨RX3, "fillSwings", "(LValveShop$Engine;)V"⟩
abbrev cX3_fillSwing : ByteArray := prog_5_method_6_code
def yX3_fillSwing : MethodName := ⟨RX3, "fillSwing", "(LValveShop$Engine;I[I)V"⟩
abbrev cX3_unlikeBelow : ByteArray := prog_5_method_7_code
def yX3_unlikeBelow : MethodName := ⟨RX3, "unlikeBelow", "(LValveShop$Engine;I)I"⟩
abbrev cX3_offHalfTurn : ByteArray := prog_5_method_8_code
def yX3_offHalfTurn : MethodName := ⟨RX3, "offHalfTurn", "(II)I"⟩
abbrev cX3_firstEventOn : ByteArray := prog_5_method_9_code
def yX3_firstEventOn : MethodName := ⟨RX3, "firstEventOn", "([ILValveShop$Engine;III)I"⟩
def RX4 : String := "ValveShop$Naming"
def TX4 : u_T := fun k => match k with
  | 0 => ("ValveShop$Naming", "misfits", "[I", true)
  | 1 => ("ValveShop$Naming", "best", "I", false)
  | _ => ("ValveShop$Naming", "least", "I", false)
def tyX4 : Nat → FieldType := fun k => match k with
  | 0 => .array .int
  | 1 => .int
  | _ => .int
abbrev wsX40 : List Cond := u_ws RX4 TX4 3
theorem nmX4 : ∀ a, a < 3 → ∀ b, b < 3 → a ≠ b → (TX4 a).2.1 ≠ (TX4 b).2.1 := by decide +kernel
theorem tyX4_ok : ∀ k, k < 3 → parseFieldDescriptor (TX4 k).2.2.1 = some (tyX4 k) := by decide +kernel
abbrev cX4_init : ByteArray := prog_6_method_1_code
def yX4_init : MethodName := ⟨RX4, "<init>", "()V"⟩
abbrev cX4_misfitBy : ByteArray := prog_6_method_2_code
def yX4_misfitBy : MethodName := ⟨RX4, "misfitBy", "(LValveShop$FoundCard;LValveShop$Engine;ILValveShop$Pencil;)I"⟩
abbrev cX4_seek : ByteArray := prog_6_method_3_code
def yX4_seek : MethodName := ⟨RX4, "seek", "(LValveShop$FoundCard;LValveShop$Engine;LValveShop$Pencil;)V"⟩
abbrev cX4_doubt : ByteArray := prog_6_method_4_code
def yX4_doubt : MethodName := ⟨RX4, "doubt", "(I)I"⟩
def RX5 : String := "ValveShop$Pencil"
def TX5 : u_T := fun k => match k with
  | 0 => ("ValveShop$Pencil", "room", "[I", true)
  | 1 => ("ValveShop$Pencil", "steam", "[I", true)
  | 2 => ("ValveShop$Pencil", "exhaust", "[I", true)
  | 3 => ("ValveShop$Pencil", "pressures", "[I", true)
  | 4 => ("ValveShop$Pencil", "drawnIn", "J", false)
  | 5 => ("ValveShop$Pencil", "work", "I", false)
  | _ => ("ValveShop$Pencil", "drink", "I", false)
def tyX5 : Nat → FieldType := fun k => match k with
  | 0 => .array .int
  | 1 => .array .int
  | 2 => .array .int
  | 3 => .array .int
  | 4 => .long
  | 5 => .int
  | _ => .int
abbrev wsX50 : List Cond := u_ws RX5 TX5 7
theorem nmX5 : ∀ a, a < 7 → ∀ b, b < 7 → a ≠ b → (TX5 a).2.1 ≠ (TX5 b).2.1 := by decide +kernel
theorem tyX5_ok : ∀ k, k < 7 → parseFieldDescriptor (TX5 k).2.2.1 = some (tyX5 k) := by decide +kernel
abbrev cX5_init : ByteArray := prog_7_method_1_code
def yX5_init : MethodName := ⟨RX5, "<init>", "()V"⟩
abbrev cX5_draw : ByteArray := prog_7_method_2_code
def yX5_draw : MethodName := ⟨RX5, "draw", "(LValveShop$Engine;IIII)V"⟩
abbrev cX5_measure : ByteArray := prog_7_method_3_code
def yX5_measure : MethodName := ⟨RX5, "measure", "(LValveShop$Engine;III)V"⟩
abbrev cX5_mean : ByteArray := prog_7_method_4_code
def yX5_mean : MethodName := ⟨RX5, "mean", "()I"⟩
abbrev cX5_peak : ByteArray := prog_7_method_5_code
def yX5_peak : MethodName := ⟨RX5, "peak", "()I"⟩
abbrev cX5_loop : ByteArray := prog_7_method_6_code
def yX5_loop : MethodName := ⟨RX5, "loop", "()I"⟩
abbrev cX5_prepare : ByteArray := prog_7_method_7_code
def yX5_prepare : MethodName := ⟨RX5, "prepare", "(LValveShop$Engine;II)V"⟩
abbrev cX5_pushed : ByteArray := prog_7_method_8_code
def yX5_pushed : MethodName := ⟨RX5, "pushed", "()J"⟩
def RX6 : String := "ValveShop$Planner"
def TX6 : u_T := fun k => match k with
  | 0 => ("ValveShop$Planner", "works", "[I", true)
  | 1 => ("ValveShop$Planner", "drinks", "[I", true)
  | 2 => ("ValveShop$Planner", "road", "[I", true)
  | 3 => ("ValveShop$Planner", "leastCoal", "[[I", true)
  | 4 => ("ValveShop$Planner", "kept", "[I", true)
  | 5 => ("ValveShop$Planner", "stretches", "I", false)
  | _ => ("ValveShop$Planner", "keptStretches", "I", false)
def tyX6 : Nat → FieldType := fun k => match k with
  | 0 => .array .int
  | 1 => .array .int
  | 2 => .array .int
  | 3 => .array (.array .int)
  | 4 => .array .int
  | 5 => .int
  | _ => .int
abbrev wsX60 : List Cond := u_ws RX6 TX6 7
theorem nmX6 : ∀ a, a < 7 → ∀ b, b < 7 → a ≠ b → (TX6 a).2.1 ≠ (TX6 b).2.1 := by decide +kernel
theorem tyX6_ok : ∀ k, k < 7 → parseFieldDescriptor (TX6 k).2.2.1 = some (tyX6 k) := by decide +kernel
abbrev cX6_init : ByteArray := prog_8_method_1_code
def yX6_init : MethodName := ⟨RX6, "<init>", "()V"⟩
abbrev cX6_takesRoad : ByteArray := prog_8_method_2_code
def yX6_takesRoad : MethodName := ⟨RX6, "takesRoad", "(LValveShop$Sheet;II)Z"⟩
abbrev cX6_tryOut : ByteArray := prog_8_method_3_code
def yX6_tryOut : MethodName := ⟨RX6, "tryOut", "(LValveShop$Engine;ILValveShop$Pencil;)V"⟩
abbrev cX6_choose : ByteArray := prog_8_method_4_code
def yX6_choose : MethodName := ⟨RX6, "choose", "(I)I"⟩
abbrev cX6_weigh : ByteArray := prog_8_method_5_code
def yX6_weigh : MethodName := ⟨RX6, "weigh", "(II)V"⟩
abbrev cX6_keepBest : ByteArray := prog_8_method_6_code
def yX6_keepBest : MethodName := ⟨RX6, "keepBest", "(II)I"⟩
abbrev cX6_lasting : ByteArray := prog_8_method_7_code
def yX6_lasting : MethodName := ⟨RX6, "lasting", "(II)I"⟩
abbrev cX6_burning : ByteArray := prog_8_method_8_code
def yX6_burning : MethodName := ⟨RX6, "burning", "(II)I"⟩
abbrev cX6_notchOf : ByteArray := prog_8_method_9_code
def yX6_notchOf : MethodName := ⟨RX6, "notchOf", "(I)I"⟩
abbrev cX6_regulatorOf : ByteArray := prog_8_method_10_code
def yX6_regulatorOf : MethodName := ⟨RX6, "regulatorOf", "(I)I"⟩
def RX7 : String := "ValveShop$Sheet"
def TX7 : u_T := fun k => match k with
  | 0 => ("ValveShop$Sheet", "items", "[I", true)
  | 1 => ("ValveShop$Sheet", "there", "Z", false)
  | 2 => ("ValveShop$Sheet", "lane", "I", false)
  | _ => ("ValveShop$Sheet", "size", "I", false)
def tyX7 : Nat → FieldType := fun k => match k with
  | 0 => .array .int
  | 1 => .boolean
  | 2 => .int
  | _ => .int
abbrev wsX70 : List Cond := u_ws RX7 TX7 4
theorem nmX7 : ∀ a, a < 4 → ∀ b, b < 4 → a ≠ b → (TX7 a).2.1 ≠ (TX7 b).2.1 := by decide +kernel
theorem tyX7_ok : ∀ k, k < 4 → parseFieldDescriptor (TX7 k).2.2.1 = some (tyX7 k) := by decide +kernel
abbrev cX7_init : ByteArray := prog_9_method_1_code
def yX7_init : MethodName := ⟨RX7, "<init>", "()V"⟩
abbrev cX7_begin : ByteArray := prog_9_method_2_code
def yX7_begin : MethodName := ⟨RX7, "begin", "(II)V"⟩
abbrev cX7_has : ByteArray := prog_9_method_3_code
def yX7_has : MethodName := ⟨RX7, "has", "(II)Z"⟩
abbrev cX7_read : ByteArray := prog_9_method_4_code
def yX7_read : MethodName := ⟨RX7, "read", "(I)I"⟩
abbrev cX7_write : ByteArray := prog_9_method_5_code
def yX7_write : MethodName := ⟨RX7, "write", "(II)I"⟩
abbrev cX7_holdsWithin : ByteArray := prog_9_method_6_code
def yX7_holdsWithin : MethodName := ⟨RX7, "holdsWithin", "(IIII)Z"⟩
def RX8 : String := "ValveShop"
def TX8 : u_T := fun k => match k with
  | 0 => ("ValveShop", "sheets", "[LValveShop$Sheet;", true)
  | 1 => ("ValveShop", "shelf", "[LValveShop$Engine;", true)
  | 2 => ("ValveShop", "foundCards", "[LValveShop$FoundCard;", true)
  | 3 => ("ValveShop", "trial", "LValveShop$Engine;", true)
  | 4 => ("ValveShop", "compared", "LValveShop$FoundCard;", true)
  | 5 => ("ValveShop", "gear", "LValveShop$Gear;", true)
  | 6 => ("ValveShop", "pencil", "LValveShop$Pencil;", true)
  | 7 => ("ValveShop", "naming", "LValveShop$Naming;", true)
  | 8 => ("ValveShop", "planner", "LValveShop$Planner;", true)
  | 9 => ("ValveShop", "hearth", "LValveShop$Fire;", true)
  | 10 => ("ValveShop", "traced", "[I", true)
  | 11 => ("ValveShop", "tracedBodies", "I", false)
  | _ => ("ValveShop", "finding", "I", false)
def tyX8 : Nat → FieldType := fun k => match k with
  | 0 => .array (.object "ValveShop$Sheet")
  | 1 => .array (.object "ValveShop$Engine")
  | 2 => .array (.object "ValveShop$FoundCard")
  | 3 => .object "ValveShop$Engine"
  | 4 => .object "ValveShop$FoundCard"
  | 5 => .object "ValveShop$Gear"
  | 6 => .object "ValveShop$Pencil"
  | 7 => .object "ValveShop$Naming"
  | 8 => .object "ValveShop$Planner"
  | 9 => .object "ValveShop$Fire"
  | 10 => .array .int
  | 11 => .int
  | _ => .int
abbrev wsX80 : List Cond := u_ws RX8 TX8 13
theorem nmX8 : ∀ a, a < 13 → ∀ b, b < 13 → a ≠ b → (TX8 a).2.1 ≠ (TX8 b).2.1 := by decide +kernel
theorem tyX8_ok : ∀ k, k < 13 → parseFieldDescriptor (TX8 k).2.2.1 = some (tyX8 k) := by decide +kernel
abbrev cX8_init : ByteArray := prog_1_method_1_code
def yX8_init : MethodName := ⟨RX8, "<init>", "()V"⟩
abbrev cX8_sheet : ByteArray := prog_1_method_2_code
def yX8_sheet : MethodName := ⟨RX8, "sheet", "(III)I"⟩
abbrev cX8_set : ByteArray := prog_1_method_3_code
def yX8_set : MethodName := ⟨RX8, "set", "(III)I"⟩
abbrev cX8_copy : ByteArray := prog_1_method_4_code
def yX8_copy : MethodName := ⟨RX8, "copy", "(IIIII)I"⟩
abbrev cX8_drop : ByteArray := prog_1_method_5_code
def yX8_drop : MethodName := ⟨RX8, "drop", "(I)I"⟩
abbrev cX8_engine : ByteArray := prog_1_method_6_code
def yX8_engine : MethodName := ⟨RX8, "engine", "(III)I"⟩
abbrev cX8_adjust : ByteArray := prog_1_method_7_code
def yX8_adjust : MethodName := ⟨RX8, "adjust", "(III)I"⟩
abbrev cX8_sicken : ByteArray := prog_1_method_8_code
def yX8_sicken : MethodName := ⟨RX8, "sicken", "(II)I"⟩
abbrev cX8_twin : ByteArray := prog_1_method_9_code
def yX8_twin : MethodName := ⟨RX8, "twin", "(II)I"⟩
abbrev cX8_clear : ByteArray := prog_1_method_10_code
def yX8_clear : MethodName := ⟨RX8, "clear", "(I)I"⟩
abbrev cX8_number : ByteArray := prog_1_method_11_code
def yX8_number : MethodName := ⟨RX8, "number", "(II)I"⟩
abbrev cX8_piston : ByteArray := prog_1_method_12_code
def yX8_piston : MethodName := ⟨RX8, "piston", "(II)I"⟩
abbrev cX8_valve : ByteArray := prog_1_method_13_code
def yX8_valve : MethodName := ⟨RX8, "valve", "(III)I"⟩
abbrev cX8_open : ByteArray := prog_1_method_14_code
def yX8_open : MethodName := ⟨RX8, "open", "(IIIII)I"⟩
abbrev cX8_event : ByteArray := prog_1_method_15_code
def yX8_event : MethodName := ⟨RX8, "event", "(IIII)I"⟩
abbrev cX8_valves : ByteArray := prog_1_method_16_code
def yX8_valves : MethodName := ⟨RX8, "valves", "(II)I"⟩
abbrev cX8_setting : ByteArray := prog_1_method_17_code
def yX8_setting : MethodName := ⟨RX8, "setting", "(II)I"⟩
abbrev cX8_tune : ByteArray := prog_1_method_18_code
def yX8_tune : MethodName := ⟨RX8, "tune", "(I)I"⟩
abbrev cX8_card : ByteArray := prog_1_method_19_code
def yX8_card : MethodName := ⟨RX8, "card", "(IIIIII)I"⟩
abbrev cX8_look : ByteArray := prog_1_method_20_code
def yX8_look : MethodName := ⟨RX8, "look", "(IIIIII)I"⟩
abbrev cX8_work : ByteArray := prog_1_method_21_code
def yX8_work : MethodName := ⟨RX8, "work", "(IIIII)I"⟩
abbrev cX8_find : ByteArray := prog_1_method_22_code
def yX8_find : MethodName := ⟨RX8, "find", "(IIIII)I"⟩
abbrev cX8_misfit : ByteArray := prog_1_method_23_code
def yX8_misfit : MethodName := ⟨RX8, "misfit", "(II)I"⟩
abbrev cX8_named : ByteArray := prog_1_method_24_code
def yX8_named : MethodName := ⟨RX8, "named", "(III)I"⟩
abbrev cX8_whose : ByteArray := prog_1_method_25_code
def yX8_whose : MethodName := ⟨RX8, "whose", "(IIII)I"⟩
abbrev cX8_next : ByteArray := prog_1_method_26_code
def yX8_next : MethodName := ⟨RX8, "next", "(IIII)I"⟩
abbrev cX8_run : ByteArray := prog_1_method_27_code
def yX8_run : MethodName := ⟨RX8, "run", "(IIIIII)I"⟩
abbrev cX8_plan : ByteArray := prog_1_method_28_code
def yX8_plan : MethodName := ⟨RX8, "plan", "(II)I"⟩
abbrev cX8_stoke : ByteArray := prog_1_method_29_code
def yX8_stoke : MethodName := ⟨RX8, "stoke", "(I)I"⟩
abbrev cX8_minute : ByteArray := prog_1_method_30_code
def yX8_minute : MethodName := ⟨RX8, "minute", "(III)I"⟩
abbrev cX8_fire : ByteArray := prog_1_method_31_code
def yX8_fire : MethodName := ⟨RX8, "fire", "(I)I"⟩
abbrev cX8_kind : ByteArray := prog_1_method_32_code
def yX8_kind : MethodName := ⟨RX8, "kind", "(I)I"⟩
abbrev cX8_is : ByteArray := prog_1_method_33_code
def yX8_is : MethodName := ⟨RX8, "is", "(II)I"⟩
abbrev cX8_as : ByteArray := prog_1_method_34_code
def yX8_as : MethodName := ⟨RX8, "as", "(II)I"⟩
abbrev cX8_ask : ByteArray := prog_1_method_35_code
def yX8_ask : MethodName := ⟨RX8, "ask", "(II)I"⟩
abbrev cX8_trace : ByteArray := prog_1_method_36_code
def yX8_trace : MethodName := ⟨RX8, "trace", "(I)I"⟩
abbrev cX8_count : ByteArray := prog_1_method_37_code
def yX8_count : MethodName := ⟨RX8, "count", "(I)I"⟩
abbrev cX8_status : ByteArray := prog_1_method_38_code
def yX8_status : MethodName := ⟨RX8, "status", "()I"⟩
abbrev cX8_within : ByteArray := prog_1_method_39_code
def yX8_within : MethodName := ⟨RX8, "within", "(III)Z"⟩
abbrev cX8_isPlace : ByteArray := prog_1_method_40_code
def yX8_isPlace : MethodName := ⟨RX8, "isPlace", "(I)Z"⟩
abbrev cX8_isNumber : ByteArray := prog_1_method_41_code
def yX8_isNumber : MethodName := ⟨RX8, "isNumber", "(II)Z"⟩
abbrev cX8_isSickness : ByteArray := prog_1_method_42_code
def yX8_isSickness : MethodName := ⟨RX8, "isSickness", "(I)Z"⟩
abbrev cX8_isNotch : ByteArray := prog_1_method_43_code
def yX8_isNotch : MethodName := ⟨RX8, "isNotch", "(I)Z"⟩
abbrev cX8_isEnd : ByteArray := prog_1_method_44_code
def yX8_isEnd : MethodName := ⟨RX8, "isEnd", "(I)Z"⟩
abbrev cX8_isTurned : ByteArray := prog_1_method_45_code
def yX8_isTurned : MethodName := ⟨RX8, "isTurned", "(I)Z"⟩
abbrev cX8_isBoiler : ByteArray := prog_1_method_46_code
def yX8_isBoiler : MethodName := ⟨RX8, "isBoiler", "(I)Z"⟩
abbrev cX8_isRegulator : ByteArray := prog_1_method_47_code
def yX8_isRegulator : MethodName := ⟨RX8, "isRegulator", "(I)Z"⟩
abbrev cX8_found : ByteArray := prog_1_method_48_code
def yX8_found : MethodName := ⟨RX8, "found", "(I)I"⟩
abbrev cX8_answered : ByteArray := prog_1_method_49_code
def yX8_answered : MethodName := ⟨RX8, "answered", "(I)I"⟩
abbrev cX8_sheetAt : ByteArray := prog_1_method_50_code
def yX8_sheetAt : MethodName := ⟨RX8, "sheetAt", "(I)LValveShop$Sheet;"⟩
abbrev cX8_engineAt : ByteArray := prog_1_method_51_code
def yX8_engineAt : MethodName := ⟨RX8, "engineAt", "(I)LValveShop$Engine;"⟩
abbrev cX8_cosine : ByteArray := prog_1_method_52_code
def yX8_cosine : MethodName := ⟨RX8, "cosine", "(I)I"⟩
abbrev cX8_share : ByteArray := prog_1_method_53_code
def yX8_share : MethodName := ⟨RX8, "share", "(III)I"⟩
abbrev cX8_nearest : ByteArray := prog_1_method_54_code
def yX8_nearest : MethodName := ⟨RX8, "nearest", "(II)I"⟩
abbrev cX8_farthestApart : ByteArray := prog_1_method_55_code
def yX8_farthestApart : MethodName := ⟨RX8, "farthestApart", "(III)I"⟩
abbrev cX8_toldKind : ByteArray := prog_1_method_56_code
def yX8_toldKind : MethodName := ⟨RX8, "toldKind", "(LValveShop$Engine;)I"⟩
abbrev cX8_belongs : ByteArray := prog_1_method_57_code
def yX8_belongs : MethodName := ⟨RX8, "belongs", "(II)Z"⟩
abbrev cX8_askWorth : ByteArray := prog_1_method_58_code
def yX8_askWorth : MethodName := ⟨RX8, "askWorth", "(LValveShop$Engine;I)I"⟩
abbrev cX8_worthOfAny : ByteArray := prog_1_method_59_code
def yX8_worthOfAny : MethodName := ⟨RX8, "worthOfAny", "(LValveShop$Engine;)I"⟩
abbrev cX8_worthOfSound : ByteArray := prog_1_method_60_code
def yX8_worthOfSound : MethodName := ⟨RX8, "worthOfSound", "(LValveShop$Engine;)I"⟩
abbrev cX8_worthOfSick : ByteArray := prog_1_method_61_code
def yX8_worthOfSick : MethodName := ⟨RX8, "worthOfSick", "(LValveShop$Engine;)I"⟩
abbrev cX8_askMark : ByteArray := prog_1_method_62_code
def yX8_askMark : MethodName := ⟨RX8, "askMark", "(LValveShop$Engine;I)I"⟩
abbrev cX8_markOfAny : ByteArray := prog_1_method_63_code
def yX8_markOfAny : MethodName := ⟨RX8, "markOfAny", "(LValveShop$Engine;)I"⟩
abbrev cX8_markOfEven : ByteArray := prog_1_method_64_code
def yX8_markOfEven : MethodName := ⟨RX8, "markOfEven", "(LValveShop$Engine;)I"⟩
abbrev cX8_markOfSick : ByteArray := prog_1_method_65_code
def yX8_markOfSick : MethodName := ⟨RX8, "markOfSick", "(LValveShop$Engine;I)I"⟩
abbrev cX8_leave : ByteArray := prog_1_method_66_code
def yX8_leave : MethodName := ⟨RX8, "leave", "(I)V"⟩
abbrev cX8_countSheets : ByteArray := prog_1_method_67_code
def yX8_countSheets : MethodName := ⟨RX8, "countSheets", "()I"⟩
abbrev cX8_countEngines : ByteArray := prog_1_method_68_code
def yX8_countEngines : MethodName := ⟨RX8, "countEngines", "(I)I"⟩
abbrev cX8_countFoundCards : ByteArray := prog_1_method_69_code
def yX8_countFoundCards : MethodName := ⟨RX8, "countFoundCards", "()I"⟩
def RX9 : String := "ValveShopModel"
def TX9 : u_T := fun k => match k with
  | 0 => ("ValveShopModel", "thrown", "I", false)
  | 1 => ("ValveShopModel", "status", "I", false)
  | 2 => ("ValveShopModel", "lane", "[I", true)
  | 3 => ("ValveShopModel", "many", "[I", true)
  | 4 => ("ValveShopModel", "item", "[I", true)
  | 5 => ("ValveShopModel", "isThere", "[Z", true)
  | 6 => ("ValveShopModel", "number", "[I", true)
  | 7 => ("ValveShopModel", "isKept", "[Z", true)
  | 8 => ("ValveShopModel", "keptNotch", "[I", true)
  | 9 => ("ValveShopModel", "keptBoiler", "[I", true)
  | 10 => ("ValveShopModel", "kept", "[I", true)
  | 11 => ("ValveShopModel", "falls", "[I", true)
  | 12 => ("ValveShopModel", "bestAdvance", "I", false)
  | 13 => ("ValveShopModel", "bestHang", "I", false)
  | 14 => ("ValveShopModel", "pressure", "[I", true)
  | 15 => ("ValveShopModel", "drunk", "J", false)
  | 16 => ("ValveShopModel", "misfits", "[I", true)
  | 17 => ("ValveShopModel", "other", "[I", true)
  | 18 => ("ValveShopModel", "minutesBy", "[I", true)
  | 19 => ("ValveShopModel", "coalBy", "[I", true)
  | 20 => ("ValveShopModel", "least", "[I", true)
  | 21 => ("ValveShopModel", "planned", "I", false)
  | 22 => ("ValveShopModel", "planChoice", "[I", true)
  | 23 => ("ValveShopModel", "planMinutes", "[I", true)
  | 24 => ("ValveShopModel", "planCoal", "[I", true)
  | 25 => ("ValveShopModel", "gauge", "I", false)
  | 26 => ("ValveShopModel", "heap", "I", false)
  | 27 => ("ValveShopModel", "burnt", "I", false)
  | 28 => ("ValveShopModel", "taken", "I", false)
  | 29 => ("ValveShopModel", "blown", "I", false)
  | 30 => ("ValveShopModel", "minutesGone", "I", false)
  | 31 => ("ValveShopModel", "trace", "[I", true)
  | _ => ("ValveShopModel", "traced", "I", false)
def tyX9 : Nat → FieldType := fun k => match k with
  | 0 => .int
  | 1 => .int
  | 2 => .array .int
  | 3 => .array .int
  | 4 => .array .int
  | 5 => .array .boolean
  | 6 => .array .int
  | 7 => .array .boolean
  | 8 => .array .int
  | 9 => .array .int
  | 10 => .array .int
  | 11 => .array .int
  | 12 => .int
  | 13 => .int
  | 14 => .array .int
  | 15 => .long
  | 16 => .array .int
  | 17 => .array .int
  | 18 => .array .int
  | 19 => .array .int
  | 20 => .array .int
  | 21 => .int
  | 22 => .array .int
  | 23 => .array .int
  | 24 => .array .int
  | 25 => .int
  | 26 => .int
  | 27 => .int
  | 28 => .int
  | 29 => .int
  | 30 => .int
  | 31 => .array .int
  | _ => .int
abbrev wsX90 : List Cond := u_ws RX9 TX9 33
theorem nmX9 : ∀ a, a < 33 → ∀ b, b < 33 → a ≠ b → (TX9 a).2.1 ≠ (TX9 b).2.1 := by decide +kernel
theorem tyX9_ok : ∀ k, k < 33 → parseFieldDescriptor (TX9 k).2.2.1 = some (tyX9 k) := by decide +kernel
abbrev cX9_init : ByteArray := prog_11_method_1_code
def yX9_init : MethodName := ⟨RX9, "<init>", "()V"⟩
abbrev cX9_in : ByteArray := prog_11_method_3_code
def yX9_in : MethodName := ⟨RX9, "in", "(JJJ)Z"⟩
abbrev cX9_found : ByteArray := prog_11_method_4_code
def yX9_found : MethodName := ⟨RX9, "found", "(I)I"⟩
abbrev cX9_isSheet : ByteArray := prog_11_method_5_code
def yX9_isSheet : MethodName := ⟨RX9, "isSheet", "(I)Z"⟩
abbrev cX9_sheet : ByteArray := prog_11_method_6_code
def yX9_sheet : MethodName := ⟨RX9, "sheet", "(III)I"⟩
abbrev cX9_set : ByteArray := prog_11_method_7_code
def yX9_set : MethodName := ⟨RX9, "set", "(III)I"⟩
abbrev cX9_copy : ByteArray := prog_11_method_8_code
def yX9_copy : MethodName := ⟨RX9, "copy", "(IIIII)I"⟩
abbrev cX9_drop : ByteArray := prog_11_method_9_code
def yX9_drop : MethodName := ⟨RX9, "drop", "(I)I"⟩
abbrev cX9_isPlace : ByteArray := prog_11_method_10_code
def yX9_isPlace : MethodName := ⟨RX9, "isPlace", "(I)Z"⟩
abbrev cX9_isNumber : ByteArray := prog_11_method_11_code
def yX9_isNumber : MethodName := ⟨RX9, "isNumber", "(II)Z"⟩
abbrev cX9_stands : ByteArray := prog_11_method_12_code
def yX9_stands : MethodName := ⟨RX9, "stands", "(I)I"⟩
abbrev cX9_engine : ByteArray := prog_11_method_13_code
def yX9_engine : MethodName := ⟨RX9, "engine", "(III)I"⟩
abbrev cX9_adjust : ByteArray := prog_11_method_14_code
def yX9_adjust : MethodName := ⟨RX9, "adjust", "(III)I"⟩
abbrev cX9_sicken : ByteArray := prog_11_method_15_code
def yX9_sicken : MethodName := ⟨RX9, "sicken", "(II)I"⟩
abbrev cX9_like : ByteArray := prog_11_method_16_code
def yX9_like : MethodName := ⟨RX9, "like", "(II)V"⟩
abbrev cX9_twin : ByteArray := prog_11_method_17_code
def yX9_twin : MethodName := ⟨RX9, "twin", "(II)I"⟩
abbrev cX9_clear : ByteArray := prog_11_method_18_code
def yX9_clear : MethodName := ⟨RX9, "clear", "(I)I"⟩
abbrev cX9_number : ByteArray := prog_11_method_19_code
def yX9_number : MethodName := ⟨RX9, "number", "(II)I"⟩
abbrev cX9_round : ByteArray := prog_11_method_20_code
def yX9_round : MethodName := ⟨RX9, "round", "(I)I"⟩
abbrev cX9_along : ByteArray := prog_11_method_21_code
def yX9_along : MethodName := ⟨RX9, "along", "(I)I"⟩
abbrev cX9_across : ByteArray := prog_11_method_22_code
def yX9_across : MethodName := ⟨RX9, "across", "(I)I"⟩
abbrev cX9_pistonAt : ByteArray := prog_11_method_23_code
def yX9_pistonAt : MethodName := ⟨RX9, "pistonAt", "(II)I"⟩
abbrev cX9_lateOf : ByteArray := prog_11_method_24_code
def yX9_lateOf : MethodName := ⟨RX9, "lateOf", "(I)I"⟩
abbrev cX9_leakOf : ByteArray := prog_11_method_25_code
def yX9_leakOf : MethodName := ⟨RX9, "leakOf", "(I)I"⟩
abbrev cX9_chokedOf : ByteArray := prog_11_method_26_code
def yX9_chokedOf : MethodName := ⟨RX9, "chokedOf", "(I)I"⟩
abbrev cX9_valveAt : ByteArray := prog_11_method_27_code
def yX9_valveAt : MethodName := ⟨RX9, "valveAt", "(III)I"⟩
abbrev cX9_openBy : ByteArray := prog_11_method_28_code
def yX9_openBy : MethodName := ⟨RX9, "openBy", "(IIII)I"⟩
abbrev cX9_openAt : ByteArray := prog_11_method_29_code
def yX9_openAt : MethodName := ⟨RX9, "openAt", "(IIIII)I"⟩
abbrev cX9_eventOf : ByteArray := prog_11_method_30_code
def yX9_eventOf : MethodName := ⟨RX9, "eventOf", "(IIII)I"⟩
abbrev cX9_isNotch : ByteArray := prog_11_method_31_code
def yX9_isNotch : MethodName := ⟨RX9, "isNotch", "(I)Z"⟩
abbrev cX9_piston : ByteArray := prog_11_method_32_code
def yX9_piston : MethodName := ⟨RX9, "piston", "(II)I"⟩
abbrev cX9_valve : ByteArray := prog_11_method_33_code
def yX9_valve : MethodName := ⟨RX9, "valve", "(III)I"⟩
abbrev cX9_open : ByteArray := prog_11_method_34_code
def yX9_open : MethodName := ⟨RX9, "open", "(IIIII)I"⟩
abbrev cX9_event : ByteArray := prog_11_method_35_code
def yX9_event : MethodName := ⟨RX9, "event", "(IIII)I"⟩
abbrev cX9_unlike : ByteArray := prog_11_method_36_code
def yX9_unlike : MethodName := ⟨RX9, "unlike", "(I)I"⟩
abbrev cX9_leadOf : ByteArray := prog_11_method_37_code
def yX9_leadOf : MethodName := ⟨RX9, "leadOf", "(I)I"⟩
abbrev cX9_valves : ByteArray := prog_11_method_38_code
def yX9_valves : MethodName := ⟨RX9, "valves", "(II)I"⟩
abbrev cX9_settle : ByteArray := prog_11_method_39_code
def yX9_settle : MethodName := ⟨RX9, "settle", "(I)I"⟩
abbrev cX9_setting : ByteArray := prog_11_method_40_code
def yX9_setting : MethodName := ⟨RX9, "setting", "(II)I"⟩
abbrev cX9_tune : ByteArray := prog_11_method_41_code
def yX9_tune : MethodName := ⟨RX9, "tune", "(I)I"⟩
abbrev cX9_room : ByteArray := prog_11_method_42_code
def yX9_room : MethodName := ⟨RX9, "room", "(III)I"⟩
abbrev cX9_draw : ByteArray := prog_11_method_43_code
def yX9_draw : MethodName := ⟨RX9, "draw", "(IIIII)V"⟩
abbrev cX9_isTurn : ByteArray := prog_11_method_44_code
def yX9_isTurn : MethodName := ⟨RX9, "isTurn", "(III)Z"⟩
abbrev cX9_card : ByteArray := prog_11_method_45_code
def yX9_card : MethodName := ⟨RX9, "card", "(IIIIII)I"⟩
abbrev cX9_look : ByteArray := prog_11_method_46_code
def yX9_look : MethodName := ⟨RX9, "look", "(IIIIII)I"⟩
abbrev cX9_workOf : ByteArray := prog_11_method_47_code
def yX9_workOf : MethodName := ⟨RX9, "workOf", "(IIII)I"⟩
abbrev cX9_drinkOf : ByteArray := prog_11_method_48_code
def yX9_drinkOf : MethodName := ⟨RX9, "drinkOf", "(IIII)I"⟩
abbrev cX9_work : ByteArray := prog_11_method_49_code
def yX9_work : MethodName := ⟨RX9, "work", "(IIIII)I"⟩
abbrev cX9_isCard : ByteArray := prog_11_method_50_code
def yX9_isCard : MethodName := ⟨RX9, "isCard", "(II)Z"⟩
abbrev cX9_find : ByteArray := prog_11_method_51_code
def yX9_find : MethodName := ⟨RX9, "find", "(IIIII)I"⟩
abbrev cX9_size : ByteArray := prog_11_method_52_code
def yX9_size : MethodName := ⟨RX9, "size", "(I)I"⟩
abbrev cX9_misfitOf : ByteArray := prog_11_method_53_code
def yX9_misfitOf : MethodName := ⟨RX9, "misfitOf", "(II)I"⟩
abbrev cX9_misfit : ByteArray := prog_11_method_54_code
def yX9_misfit : MethodName := ⟨RX9, "misfit", "(II)I"⟩
abbrev cX9_named : ByteArray := prog_11_method_55_code
def yX9_named : MethodName := ⟨RX9, "named", "(III)I"⟩
abbrev cX9_whose : ByteArray := prog_11_method_56_code
def yX9_whose : MethodName := ⟨RX9, "whose", "(IIII)I"⟩
abbrev cX9_next : ByteArray := prog_11_method_57_code
def yX9_next : MethodName := ⟨RX9, "next", "(IIII)I"⟩
abbrev cX9_run : ByteArray := prog_11_method_58_code
def yX9_run : MethodName := ⟨RX9, "run", "(IIIIII)I"⟩
abbrev cX9_plan : ByteArray := prog_11_method_59_code
def yX9_plan : MethodName := ⟨RX9, "plan", "(II)I"⟩
abbrev cX9_stoke : ByteArray := prog_11_method_60_code
def yX9_stoke : MethodName := ⟨RX9, "stoke", "(I)I"⟩
abbrev cX9_minute : ByteArray := prog_11_method_61_code
def yX9_minute : MethodName := ⟨RX9, "minute", "(III)I"⟩
abbrev cX9_fire : ByteArray := prog_11_method_62_code
def yX9_fire : MethodName := ⟨RX9, "fire", "(I)I"⟩
abbrev cX9_kindOf : ByteArray := prog_11_method_63_code
def yX9_kindOf : MethodName := ⟨RX9, "kindOf", "(I)I"⟩
abbrev cX9_isOf : ByteArray := prog_11_method_64_code
def yX9_isOf : MethodName := ⟨RX9, "isOf", "(II)Z"⟩
abbrev cX9_kind : ByteArray := prog_11_method_65_code
def yX9_kind : MethodName := ⟨RX9, "kind", "(I)I"⟩
abbrev cX9_is : ByteArray := prog_11_method_66_code
def yX9_is : MethodName := ⟨RX9, "is", "(II)I"⟩
abbrev cX9_as : ByteArray := prog_11_method_67_code
def yX9_as : MethodName := ⟨RX9, "as", "(II)I"⟩
abbrev cX9_began : ByteArray := prog_11_method_68_code
def yX9_began : MethodName := ⟨RX9, "began", "(I)V"⟩
abbrev cX9_sickWorth : ByteArray := prog_11_method_69_code
def yX9_sickWorth : MethodName := ⟨RX9, "sickWorth", "(II)I"⟩
abbrev cX9_marked : ByteArray := prog_11_method_70_code
def yX9_marked : MethodName := ⟨RX9, "marked", "(II)I"⟩
abbrev cX9_worth : ByteArray := prog_11_method_71_code
def yX9_worth : MethodName := ⟨RX9, "worth", "(II)I"⟩
abbrev cX9_ask : ByteArray := prog_11_method_72_code
def yX9_ask : MethodName := ⟨RX9, "ask", "(II)I"⟩
abbrev cX9_trace : ByteArray := prog_11_method_73_code
def yX9_trace : MethodName := ⟨RX9, "trace", "(I)I"⟩
abbrev cX9_count : ByteArray := prog_11_method_74_code
def yX9_count : MethodName := ⟨RX9, "count", "(I)I"⟩
abbrev cX9_status : ByteArray := prog_11_method_75_code
def yX9_status : MethodName := ⟨RX9, "status", "()I"⟩
def RJ9 : String := "java/lang/Math"
def TJ9 : u_T := fun k => match k with
  | _ => ("", "", "", false)
def tyJ9 : Nat → FieldType := fun k => match k with
  | _ => .int
abbrev wsJ90 : List Cond := u_ws RJ9 TJ9 0
theorem nmJ9 : ∀ a, a < 0 → ∀ b, b < 0 → a ≠ b → (TJ9 a).2.1 ≠ (TJ9 b).2.1 := by decide +kernel
theorem tyJ9_ok : ∀ k, k < 0 → parseFieldDescriptor (TJ9 k).2.2.1 = some (tyJ9 k) := by decide +kernel
abbrev cJ9_floorMod_7cf53 : ByteArray := prog_12_method_50_code
def yJ9_floorMod_7cf53 : MethodName := ⟨RJ9, "floorMod", "(II)I"⟩
abbrev cJ9_abs_0f7a4 : ByteArray := prog_12_method_59_code
def yJ9_abs_0f7a4 : MethodName := ⟨RJ9, "abs", "(I)I"⟩
abbrev cJ9_max_7cf53 : ByteArray := prog_12_method_65_code
def yJ9_max_7cf53 : MethodName := ⟨RJ9, "max", "(II)I"⟩
abbrev cJ9_min_7cf53 : ByteArray := prog_12_method_69_code
def yJ9_min_7cf53 : MethodName := ⟨RJ9, "min", "(II)I"⟩
def RJ10 : String := "java/lang/System"
def TJ10 : u_T := fun k => match k with
  | _ => ("", "", "", false)
def tyJ10 : Nat → FieldType := fun k => match k with
  | _ => .int
abbrev wsJ100 : List Cond := u_ws RJ10 TJ10 0
theorem nmJ10 : ∀ a, a < 0 → ∀ b, b < 0 → a ≠ b → (TJ10 a).2.1 ≠ (TJ10 b).2.1 := by decide +kernel
theorem tyJ10_ok : ∀ k, k < 0 → parseFieldDescriptor (TJ10 k).2.2.1 = some (tyJ10 k) := by decide +kernel
def RJ7 : String := "java/util/Arrays"
def TJ7 : u_T := fun k => match k with
  | _ => ("", "", "", false)
def tyJ7 : Nat → FieldType := fun k => match k with
  | _ => .int
abbrev wsJ70 : List Cond := u_ws RJ7 TJ7 0
theorem nmJ7 : ∀ a, a < 0 → ∀ b, b < 0 → a ≠ b → (TJ7 a).2.1 ≠ (TJ7 b).2.1 := by decide +kernel
theorem tyJ7_ok : ∀ k, k < 0 → parseFieldDescriptor (TJ7 k).2.2.1 = some (tyJ7 k) := by decide +kernel
abbrev cJ7_fill_53178 : ByteArray := prog_14_method_103_code
def yJ7_fill_53178 : MethodName := ⟨RJ7, "fill", "([II)V"⟩
def RL : String := "ValveShopLaw"
abbrev cL_law : ByteArray := code
def yL_law : MethodName := ⟨RL, "law", "([I)Z"⟩
end
section
/-! THE V-LAYER: heaps by places (logical addresses), one judgement xv_V over them, sound by the kit's rows -/
abbrev xv_cl : List vw_C := [(RX0, TX0, 3), (RX1, TX1, 6), (RX2, TX2, 4), (RX3, TX3, 4), (RX4, TX4, 3), (RX5, TX5, 7), (RX6, TX6, 7), (RX7, TX7, 4), (RX8, TX8, 13), (RX9, TX9, 33)]
abbrev xv_E : Type := (FieldType × vp_A) ⊕ (Nat × List Value)
abbrev xv_H : Type := Nat → xv_E
def xv_r (ad : Nat → Nat) (v : Value) : Value := match v with
  | .ref a => .ref (ad a)
  | w => w
def xv_a (ad : Nat → Nat) (a : vp_A) : vp_A := match a with
  | (n, .inr (.inr (.inr (.inr f)))) => (n, .inr (.inr (.inr (.inr (fun k => (f k).map ad)))))
  | w => w
def xv_c (ad : Nat → Nat) (cA : ClassId) (e : xv_E) : va_E := match e with
  | .inl q => .inl (cA, xv_a ad q.2)
  | .inr o => .inr (o.1, o.2.map (xv_r ad))
def xv_w (ad : Nat → Nat) (cA : Nat → ClassId) (h : xv_H) (n : Nat) : va_W := (List.range n).map fun i => (ad i, xv_c ad (cA i) (h i))
def xv_v (n : Nat) (v : Value) : Prop := match v with
  | .ref a => a < n ∨ 1000 ≤ a
  | _ => True
def xv_ve (n : Nat) (e : xv_E) : Prop := match e with
  | .inl (_, _, .inr (.inr (.inr (.inr f)))) => ∀ k b, f k = some b → b < n ∨ 1000 ≤ b
  | .inl _ => True
  | .inr o => ∀ v ∈ o.2, xv_v n v
def xv_t (U : State) (cA : Nat → ClassId) (h : xv_H) (n : Nat) : Prop := ∀ i, i < n → ∀ ty a, h i = .inl (ty, a) → ArrOfT U (cA i) ty ∧ va_RA U (cA i) ty
def xv_W (D : va_G) (A : Nat → Prop) (ad : Nat → Nat) (h : xv_H) (n : Nat) (U : State) (H : Heap) : Prop := n ≤ 1000 ∧ ∃ cA : Nat → ClassId, va_P D xv_cl (xv_w ad cA h n) H ∧ va_D A (xv_w ad cA h n) ∧ xv_t U cA h n ∧ ∀ i, i < n → xv_ve n (h i)
theorem xv_wget {ad : Nat → Nat} {cA : Nat → ClassId} {h : xv_H} {n i : Nat} (hi : i < n) : (xv_w ad cA h n)[i]? = some (ad i, xv_c ad (cA i) (h i)) := by
  simp [xv_w, hi]
theorem xv_wlt {ad : Nat → Nat} {cA : Nat → ClassId} {h : xv_H} {n i : Nat} {q : Nat × va_E} (hq : (xv_w ad cA h n)[i]? = some q) : i < n ∧ q = (ad i, xv_c ad (cA i) (h i)) := by
  by_cases hi : i < n
  · rw [xv_wget hi] at hq
    exact ⟨hi, (Option.some.inj hq).symm⟩
  · rw [List.getElem?_eq_none (by simp [xv_w]; omega)] at hq
    cases hq
theorem xv_wset {ad : Nat → Nat} {cA : Nat → ClassId} {h : xv_H} {n i : Nat} (e : xv_E) : (xv_w ad cA h n).set i (ad i, xv_c ad (cA i) e) = xv_w ad cA (va_up h i e) n := by
  apply List.ext_getElem?
  intro j
  by_cases hj : j < n
  · by_cases hi : j = i
    · subst hi
      rw [xv_wget hj, List.getElem?_set_self (by simp [xv_w]; exact hj)]
      simp [va_up]
    · rw [xv_wget hj, List.getElem?_set_ne (Ne.symm hi), xv_wget hj]
      simp [va_up, hi]
  · rw [List.getElem?_eq_none (by simp [xv_w]; omega), List.getElem?_eq_none (by simp [xv_w]; omega)]
theorem xv_wcong {ad ad' : Nat → Nat} {cA cA' : Nat → ClassId} {h h' : xv_H} {n : Nat} (e : ∀ i, i < n → ad i = ad' i ∧ xv_c ad (cA i) (h i) = xv_c ad' (cA' i) (h' i)) : xv_w ad cA h n = xv_w ad' cA' h' n := by
  apply List.ext_getElem?
  intro j
  by_cases hj : j < n
  · rw [xv_wget hj, xv_wget hj, (e j hj).1, (e j hj).2]
  · rw [List.getElem?_eq_none (by simp [xv_w]; omega), List.getElem?_eq_none (by simp [xv_w]; omega)]
theorem xv_rcat (ad : Nat → Nat) (v : Value) : (xv_r ad v).category = v.category := by cases v <;> rfl
theorem xv_rrf (ad : Nat → Nat) (r : Option Nat) : xv_r ad (va_rf r) = va_rf (r.map ad) := by cases r <;> rfl
theorem xv_rext {ad ad' : Nat → Nat} {n : Nat} (e : ∀ i, i < n ∨ 1000 ≤ i → ad' i = ad i) {v : Value} (hv : xv_v n v) : xv_r ad' v = xv_r ad v := by
  cases v with
  | ref a => show Value.ref (ad' a) = Value.ref (ad a); rw [e a hv]
  | _ => rfl
theorem xv_vmono {n n' : Nat} (h : n ≤ n') {v : Value} (hv : xv_v n v) : xv_v n' v := by
  cases v with
  | ref a =>
    rcases hv with h1 | h1
    · exact Or.inl (Nat.lt_of_lt_of_le h1 h)
    · exact Or.inr h1
  | _ => trivial
theorem xv_vemono {n n' : Nat} (h : n ≤ n') {e : xv_E} (hv : xv_ve n e) : xv_ve n' e := by
  match e, hv with
  | .inl (_, _, .inr (.inr (.inr (.inr f)))), hv => exact fun k b hb => (hv k b hb).elim (fun q => Or.inl (Nat.lt_of_lt_of_le q h)) Or.inr
  | .inl (_, _, .inl _), _ => trivial
  | .inl (_, _, .inr (.inl _)), _ => trivial
  | .inl (_, _, .inr (.inr (.inl _))), _ => trivial
  | .inl (_, _, .inr (.inr (.inr (.inl _)))), _ => trivial
  | .inr o, hv => exact fun v hm => xv_vmono h (hv v hm)
-- locals
def xv_get : List (Nat × Value) → Nat → Option Value
  | [], _ => none
  | (j, v) :: r, i => if j = i then some v else xv_get r i
def xv_set (l : List (Nat × Value)) (i : Nat) (v : Value) : List (Nat × Value) := (i, v) :: l.filter (fun q => !(q.1 == i) && !(q.1 + 1 == i && q.2.category == 2))
def xv_setL (l : List (Nat × Value)) (i : Nat) (v : Value) : List (Nat × Value) := (i, v) :: l.filter (fun q => !(q.1 == i) && (!(q.1 == i + 1) && !(q.1 + 1 == i && q.2.category == 2)))
def xv_lr (ad : Nat → Nat) (l : List (Nat × Value)) : List (Nat × Value) := l.map fun q => (q.1, xv_r ad q.2)
theorem xv_gm {l : List (Nat × Value)} {i : Nat} {v : Value} (h : xv_get l i = some v) : (i, v) ∈ l := by
  induction l with
  | nil => cases h
  | cons q l ih =>
    obtain ⟨j, w⟩ := q
    by_cases hj : j = i
    · rw [xv_get, if_pos hj] at h
      cases h
      rw [hj]
      exact List.mem_cons_self
    · rw [xv_get, if_neg hj] at h
      exact List.mem_cons_of_mem _ (ih h)
theorem xv_lrm {ad : Nat → Nat} {l : List (Nat × Value)} {i : Nat} {v : Value} (h : (i, v) ∈ l) : (i, xv_r ad v) ∈ xv_lr ad l := List.mem_map.mpr ⟨(i, v), h, rfl⟩
theorem xv_lrset (ad : Nat → Nat) (l : List (Nat × Value)) (i : Nat) (v : Value) : (i, xv_r ad v) :: (xv_lr ad l).filter (fun q => !(q.1 == i) && !(q.1 + 1 == i && q.2.category == 2)) = xv_lr ad (xv_set l i v) := by
  show _ = (i, xv_r ad v) :: xv_lr ad (l.filter _)
  congr 1
  unfold xv_lr
  rw [List.filter_map]
  congr 1
  apply List.filter_congr
  intro q _
  simp [xv_rcat]
theorem xv_lrsetL (ad : Nat → Nat) (l : List (Nat × Value)) (i : Nat) (v : Value) : (i, xv_r ad v) :: (xv_lr ad l).filter (fun q => !(q.1 == i) && (!(q.1 == i + 1) && !(q.1 + 1 == i && q.2.category == 2))) = xv_lr ad (xv_setL l i v) := by
  show _ = (i, xv_r ad v) :: xv_lr ad (l.filter _)
  congr 1
  unfold xv_lr
  rw [List.filter_map]
  congr 1
  apply List.filter_congr
  intro q _
  simp [xv_rcat]
theorem xv_lrext {ad ad' : Nat → Nat} {n : Nat} (e : ∀ i, i < n ∨ 1000 ≤ i → ad' i = ad i) {l : List (Nat × Value)} (hl : ∀ q ∈ l, xv_v n q.2) : xv_lr ad' l = xv_lr ad l := List.map_congr_left fun q hq => by rw [xv_rext e (hl q hq)]
theorem xv_srext {ad ad' : Nat → Nat} {n : Nat} (e : ∀ i, i < n ∨ 1000 ≤ i → ad' i = ad i) {l : List Value} (hl : ∀ q ∈ l, xv_v n q) : l.map (xv_r ad') = l.map (xv_r ad) := List.map_congr_left fun q hq => xv_rext e (hl q hq)
-- what is read, and never written: the statics' arrays, the script
def xv_rf : List (String × List Int32) := [("LEAST_NUMBER", [0, 10, 0, -20, 0, -20, 1, 20, 1, 1, 0]), ("MOST_NUMBER", [20, 200, 11, 20, 100, 50, 100, 200, 100, 100, 500]), ("LATE", [0, -1, -2, -3, 1, 2, 3, 0, 0, 0, 0, 0, 0]), ("LEAK", [0, 0, 0, 0, 0, 0, 0, 5, 10, 20, 0, 0, 0]), ("CHOKED", [0, 0, 0, 0, 0, 0, 0, 0, 0, 0, 20, 50, 100]), ("COSINES", [10000, 9914, 9659, 9239, 8660, 7934, 7071, 6088, 5000, 3827, 2588, 1305, 0, -1305, -2588, -3827, -5000, -6088, -7071, -7934, -8660, -9239, -9659, -9914, -10000, -9914, -9659, -9239, -8660, -7934, -7071, -6088, -5000, -3827, -2588, -1305, 0, 1305, 2588, 3827, 5000, 6088, 7071, 7934, 8660, 9239, 9659, 9914])]
def xv_ro (X : Nat × (Nat → Int32)) (j : Nat) : Option (Nat × (Nat → Int32)) := if j = 6 then some X else (xv_rf[j]?).map fun q => (q.2.length, fun k => q.2.getD k 0)
def xv_isn (w : Cond) : Bool := match w with
  | .methodLinkNest .. => true
  | .fieldLinkNest .. => true
  | .arrayOver _ => true
  | _ => false
def xv_nw : List Cond := lw_tbl.filter xv_isn
def xv_g : List Cond := lw_tbl.filter goodWord
def xv_R (X : Nat × (Nat → Int32)) (A : Nat → Prop) (ad : Nat → Nat) (U : State) (H : Heap) : Prop :=
  (∀ j q, xv_ro X j = some q → va_T .int (ad (1000 + j)) q.1 (fun k => .int (q.2 k)) A U H) ∧ (∀ j q, xv_rf[j]? = some q → va_Z "ValveShop" q.1 "[I" (.ref (ad (1000 + j))) A U H) ∧ ∀ w ∈ xv_nw, va_Nw w U
abbrev xv_M : Type := String × ByteArray × Nat × Bool × Option FieldType × Room
abbrev xv_P : Type := Option Value → xv_H → Nat → Prop
def xv_ret (cc : ByteArray) (ret : Option FieldType) (pc : Nat) (v : Option Value) : Prop := match v with
  | none => ret = none ∧ decode cc pc = .ok (.return_, 1)
  | some (.int x) => ∃ ty, ret = some ty ∧ narrow ty (.int x) = .int x ∧ decode cc pc = .ok (.ireturn, 1)
  | some (.long _) => ret = some .long ∧ decode cc pc = .ok (.lreturn, 1)
  | some (.ref _) => (∃ C, ret = some (.object C)) ∧ decode cc pc = .ok (.areturn, 1)
  | some .null => (∃ C, ret = some (.object C)) ∧ decode cc pc = .ok (.areturn, 1)
  | _ => False
section XV
variable (X : Nat × (Nat → Int32)) (M : xv_M) (Post : xv_P)
def xv_C (p : Program) (l : Launch) (e : Env) (s : State) (m : MethodId) (args : Array Value) (below : List Frame) (meth : Method) (c : Code) (D : va_G) (A : Nat → Prop) (ad0 : Nat → Nat) (n0 : Nat) (Qf : State → Prop) : Prop :=
  p.tables.exec = Jvm.exec ∧ c.code = M.2.1 ∧ c.maxLocals = M.2.2.1 ∧ s.vm.findClass M.1 = some m.cls ∧ (∀ w ∈ xv_g, w.before args s = true) ∧ (M.2.2.2.1 = true → meth.name = "<init>") ∧ va_K D xv_cl [] s ∧ (∀ q, s.heap.size ≤ q → A q) ∧ xv_R X A ad0 s s.heap ∧
  (∀ (v : Option Value) (ad : Nat → Nat) (H : Heap) (locs : List Loc) (cells slots : Nat) (ls : Array Slot) (pc : Nat) (h : xv_H) (n : Nat), xv_ret M.2.1 M.2.2.2.2.1 pc v → n0 ≤ n → (∀ i, i < n0 ∨ 1000 ≤ i → ad i = ad0 i) → cells ≤ M.2.2.2.2.2.cells → slots ≤ M.2.2.2.2.2.slots → xv_W D A ad h n s H → (∀ w, v = some w → xv_v n w) → va_S A s.heap H locs → Post v h n →
    W p l e M.2.2.2.2.2 s m args below meth c H locs cells slots Qf (F0 m pc ls (v.toList.map (xv_r ad))))
def xv_Q (s : State) (D : va_G) (A : Nat → Prop) (ad0 : Nat → Nat) (n0 : Nat) (ad : Nat → Nat) (H : Heap) (locs : List Loc) (ls : Array Slot) (lv : List (Nat × Value)) (st : List Value) (h : xv_H) (n : Nat) : Prop :=
  n0 ≤ n ∧ (∀ i, i < n0 ∨ 1000 ≤ i → ad i = ad0 i) ∧ xv_W D A ad h n s H ∧ va_S A s.heap H locs ∧ lv_has ls M.2.2.1 (xv_lr ad lv) ∧ (∀ q ∈ lv, xv_v n q.2) ∧ ∀ v ∈ st, xv_v n v
def xv_V (cells slots pc : Nat) (lv : List (Nat × Value)) (st : List Value) (h : xv_H) (n : Nat) : Prop :=
  ∀ (p : Program) (l : Launch) (e : Env) (s : State) (m : MethodId) (args : Array Value) (below : List Frame) (meth : Method) (c : Code) (D : va_G) (A : Nat → Prop) (ad0 : Nat → Nat) (n0 : Nat) (Qf : State → Prop), xv_C X M Post p l e s m args below meth c D A ad0 n0 Qf →
    ∀ (ad : Nat → Nat) (H : Heap) (locs : List Loc) (ls : Array Slot), xv_Q M s D A ad0 n0 ad H locs ls lv st h n → W p l e M.2.2.2.2.2 s m args below meth c H locs cells slots Qf (F0 m pc ls (st.map (xv_r ad)))
end XV
section XR
variable {X : Nat × (Nat → Int32)} {M : xv_M} {Post : xv_P} {cells slots pc q : Nat} {lv lv' : List (Nat × Value)} {st : List Value} {h : xv_H} {n : Nat}
theorem xv_step {st' : List Value} (k : xv_V X M Post cells slots q lv st' h n) (f : ∀ (p : Program) (l : Launch) (e : Env) (s : State) (m : MethodId) (args : Array Value) (below : List Frame) (meth : Method) (c : Code) (Qf : State → Prop) (H : Heap) (locs : List Loc) (ls : Array Slot) (ad : Nat → Nat), p.tables.exec = Jvm.exec → c.code = M.2.1 → c.maxLocals = M.2.2.1 → s.vm.findClass M.1 = some m.cls → (∀ w ∈ xv_g, w.before args s = true) → ls.size = M.2.2.1 → (∀ i v, xv_get lv i = some v → ls[i]? = some (.val (xv_r ad v))) →
      W p l e M.2.2.2.2.2 s m args below meth c H locs cells slots Qf (F0 m q ls (st'.map (xv_r ad))) → W p l e M.2.2.2.2.2 s m args below meth c H locs cells slots Qf (F0 m pc ls (st.map (xv_r ad))))
    (hv : (∀ x ∈ lv, xv_v n x.2) → (∀ v ∈ st, xv_v n v) → ∀ v ∈ st', xv_v n v) : xv_V X M Post cells slots pc lv st h n :=
  fun p l e s m args below meth c D A ad0 n0 Qf C ad H locs ls Q => f p l e s m args below meth c Qf H locs ls ad C.1 C.2.1 C.2.2.1 C.2.2.2.1 C.2.2.2.2.1 Q.2.2.2.2.1.1 (fun i v g => Q.2.2.2.2.1.2.2 (i, xv_r ad v) (xv_lrm (xv_gm g)))
    (k p l e s m args below meth c D A ad0 n0 Qf C ad H locs ls ⟨Q.1, Q.2.1, Q.2.2.1, Q.2.2.2.1, Q.2.2.2.2.1, Q.2.2.2.2.2.1, hv Q.2.2.2.2.2.1 Q.2.2.2.2.2.2⟩)
theorem xv_2 {c : Prop} {st1 st2 : List Value} {q2 : Nat} (f : ∀ (p : Program) (l : Launch) (e : Env) (s : State) (m : MethodId) (args : Array Value) (below : List Frame) (meth : Method) (c0 : Code) (Qf : State → Prop) (H : Heap) (locs : List Loc) (ls : Array Slot) (ad : Nat → Nat), p.tables.exec = Jvm.exec → c0.code = M.2.1 →
      (c → W p l e M.2.2.2.2.2 s m args below meth c0 H locs cells slots Qf (F0 m q ls (st1.map (xv_r ad)))) → (¬ c → W p l e M.2.2.2.2.2 s m args below meth c0 H locs cells slots Qf (F0 m q2 ls (st1.map (xv_r ad)))) → W p l e M.2.2.2.2.2 s m args below meth c0 H locs cells slots Qf (F0 m pc ls (st2.map (xv_r ad))))
    (hv : ∀ v ∈ st1, v ∈ st2) (k1 : c → xv_V X M Post cells slots q lv st1 h n) (k2 : ¬ c → xv_V X M Post cells slots q2 lv st1 h n) : xv_V X M Post cells slots pc lv st2 h n :=
  fun p l e s m args below meth c D A ad0 n0 Qf C ad H locs ls Q => f p l e s m args below meth c Qf H locs ls ad C.1 C.2.1
    (fun z => k1 z p l e s m args below meth c D A ad0 n0 Qf C ad H locs ls ⟨Q.1, Q.2.1, Q.2.2.1, Q.2.2.2.1, Q.2.2.2.2.1, Q.2.2.2.2.2.1, fun v hm => Q.2.2.2.2.2.2 v (hv v hm)⟩)
    (fun z => k2 z p l e s m args below meth c D A ad0 n0 Qf C ad H locs ls ⟨Q.1, Q.2.1, Q.2.2.1, Q.2.2.2.1, Q.2.2.2.2.1, Q.2.2.2.2.2.1, fun v hm => Q.2.2.2.2.2.2 v (hv v hm)⟩)
/-- fewer locals, in any order -/
theorem xv_weak (hl : ∀ x ∈ lv', xv_get lv x.1 = some x.2) (k : xv_V X M Post cells slots pc lv' st h n) : xv_V X M Post cells slots pc lv st h n :=
  fun p l e s m args below meth c D A ad0 n0 Qf C ad H locs ls Q => k p l e s m args below meth c D A ad0 n0 Qf C ad H locs ls ⟨Q.1, Q.2.1, Q.2.2.1, Q.2.2.2.1, ⟨Q.2.2.2.2.1.1, Q.2.2.2.2.1.2.1, fun x hx => by
    obtain ⟨y, hy, rfl⟩ := List.mem_map.mp hx
    exact Q.2.2.2.2.1.2.2 _ (xv_lrm (xv_gm (hl y hy)))⟩, fun x hx => Q.2.2.2.2.2.1 (x.1, x.2) (xv_gm (hl x hx)), Q.2.2.2.2.2.2⟩
theorem xv_sumc (ad : Nat → Nat) (l : List Value) : ((l.map (xv_r ad)).map fun v => v.category).sum = (l.map fun v => v.category).sum := by
  rw [List.map_map]
  exact congrArg List.sum (List.map_congr_left fun v _ => xv_rcat ad v)
theorem xv_vint {n : Nat} {x : Int32} : xv_v n (.int x) := trivial
theorem xv_vlong {n : Nat} {x : Int64} : xv_v n (.long x) := trivial
theorem xv_cons {n : Nat} {v : Value} {l : List Value} (h : xv_v n v) (hl : ∀ w ∈ l, xv_v n w) : ∀ w ∈ v :: l, xv_v n w := fun w hw => (List.mem_cons.mp hw).elim (fun e => e ▸ h) (hl w)
theorem xv_tl {n : Nat} {v : Value} {l : List Value} (hl : ∀ w ∈ v :: l, xv_v n w) : ∀ w ∈ l, xv_v n w := fun w hw => hl w (List.mem_cons_of_mem _ hw)
-- constants
theorem xi_iconst {i : Int} {x : Int32} (hd : decode M.2.1 pc = .ok (.iconst i, 1)) (hx : Int32.ofInt i = x) (hq : pc + 1 = q) (k : xv_V X M Post cells slots q lv (.int x :: st) h n) : xv_V X M Post cells slots pc lv st h n := by
  subst hq
  exact xv_step k (fun _ _ _ _ _ _ _ _ _ _ _ _ _ _ e b _ _ _ _ _ w => lv_iconst e b hd hx w) (fun _ z => xv_cons trivial z)
theorem xi_bipush {i : Int} {x : Int32} (hd : decode M.2.1 pc = .ok (.bipush i, 2)) (hx : (Int8.ofInt i).toInt32 = x) (hq : pc + 2 = q) (k : xv_V X M Post cells slots q lv (.int x :: st) h n) : xv_V X M Post cells slots pc lv st h n := by
  subst hq
  exact xv_step k (fun _ _ _ _ _ _ _ _ _ _ _ _ _ _ e b _ _ _ _ _ w => lv_bipush e b hd hx w) (fun _ z => xv_cons trivial z)
theorem xi_sipush {i : Int} {x : Int32} (hd : decode M.2.1 pc = .ok (.sipush i, 3)) (hx : (Int16.ofInt i).toInt32 = x) (hq : pc + 3 = q) (k : xv_V X M Post cells slots q lv (.int x :: st) h n) : xv_V X M Post cells slots pc lv st h n := by
  subst hq
  exact xv_step k (fun _ _ _ _ _ _ _ _ _ _ _ _ _ _ e b _ _ _ _ _ w => lv_sipush e b hd hx w) (fun _ z => xv_cons trivial z)
theorem xi_lconst {i : Fin 2} {x : Int64} (hd : decode M.2.1 pc = .ok (.lconst i, 1)) (hx : Int64.ofNat i = x) (hq : pc + 1 = q) (k : xv_V X M Post cells slots q lv (.long x :: st) h n) : xv_V X M Post cells slots pc lv st h n := by
  subst hq
  exact xv_step k (fun _ _ _ _ _ _ _ _ _ _ _ _ _ _ e b _ _ _ _ _ w => lv_lconst e b hd hx w) (fun _ z => xv_cons trivial z)
theorem xi_null (hd : decode M.2.1 pc = .ok (.aconst_null, 1)) (hq : pc + 1 = q) (k : xv_V X M Post cells slots q lv (.null :: st) h n) : xv_V X M Post cells slots pc lv st h n := by
  subst hq
  exact xv_step k (fun _ _ _ _ _ _ _ _ _ _ _ _ _ _ e b _ _ _ _ _ w => lv_null e b hd w) (fun _ z => xv_cons trivial z)
theorem xi_ldc {i : Nat} {x : Int32} (hd : decode M.2.1 pc = .ok (.ldc i, 2)) (hw : Cond.constant M.1 i x ∈ xv_g) (hq : pc + 2 = q) (k : xv_V X M Post cells slots q lv (.int x :: st) h n) : xv_V X M Post cells slots pc lv st h n := by
  subst hq
  exact xv_step k (fun _ _ _ _ _ _ _ _ _ _ _ _ _ _ e b _ o t _ _ w => lv_ldc e b o (t _ hw) hd w) (fun _ z => xv_cons trivial z)
theorem xi_ldcw {i : Nat} {x : Int32} (hd : decode M.2.1 pc = .ok (.ldc_w i, 3)) (hw : Cond.constant M.1 i x ∈ xv_g) (hq : pc + 3 = q) (k : xv_V X M Post cells slots q lv (.int x :: st) h n) : xv_V X M Post cells slots pc lv st h n := by
  subst hq
  exact xv_step k (fun _ _ _ _ _ _ _ _ _ _ _ _ _ _ e b _ o t _ _ w => lv_ldcw e b o (t _ hw) hd w) (fun _ z => xv_cons trivial z)
theorem xi_ldc2 {i : Nat} {x : Int64} (hd : decode M.2.1 pc = .ok (.ldc2_w i, 3)) (hw : Cond.constantLong M.1 i x ∈ xv_g) (hq : pc + 3 = q) (k : xv_V X M Post cells slots q lv (.long x :: st) h n) : xv_V X M Post cells slots pc lv st h n := by
  subst hq
  exact xv_step k (fun _ _ _ _ _ _ _ _ _ _ _ _ _ _ e b _ o t _ _ w => lv_ldc2 e b o (t _ hw) hd w) (fun _ z => xv_cons trivial z)
-- locals
theorem xi_iload_n {i : Fin 4} {x : Int32} (hd : decode M.2.1 pc = .ok (.iload_n i, 1)) (hl : xv_get lv i = some (.int x)) (hq : pc + 1 = q) (k : xv_V X M Post cells slots q lv (.int x :: st) h n) : xv_V X M Post cells slots pc lv st h n := by
  subst hq
  exact xv_step k (fun _ _ _ _ _ _ _ _ _ _ _ _ _ _ e b _ _ _ _ g w => lv_iload_n e b hd rfl (g _ _ hl) w) (fun _ z => xv_cons trivial z)
theorem xi_iload {i : Nat} {x : Int32} (hd : decode M.2.1 pc = .ok (.iload i, 2)) (hl : xv_get lv i = some (.int x)) (hq : pc + 2 = q) (k : xv_V X M Post cells slots q lv (.int x :: st) h n) : xv_V X M Post cells slots pc lv st h n := by
  subst hq
  exact xv_step k (fun _ _ _ _ _ _ _ _ _ _ _ _ _ _ e b _ _ _ _ g w => lv_iload e b hd (g _ _ hl) w) (fun _ z => xv_cons trivial z)
theorem xi_lload_n {i : Fin 4} {x : Int64} (hd : decode M.2.1 pc = .ok (.lload_n i, 1)) (hl : xv_get lv i = some (.long x)) (hq : pc + 1 = q) (k : xv_V X M Post cells slots q lv (.long x :: st) h n) : xv_V X M Post cells slots pc lv st h n := by
  subst hq
  exact xv_step k (fun _ _ _ _ _ _ _ _ _ _ _ _ _ _ e b _ _ _ _ g w => lv_lload_n e b hd rfl (g _ _ hl) w) (fun _ z => xv_cons trivial z)
theorem xi_lload {i : Nat} {x : Int64} (hd : decode M.2.1 pc = .ok (.lload i, 2)) (hl : xv_get lv i = some (.long x)) (hq : pc + 2 = q) (k : xv_V X M Post cells slots q lv (.long x :: st) h n) : xv_V X M Post cells slots pc lv st h n := by
  subst hq
  exact xv_step k (fun _ _ _ _ _ _ _ _ _ _ _ _ _ _ e b _ _ _ _ g w => lv_lload e b hd (g _ _ hl) w) (fun _ z => xv_cons trivial z)
theorem xi_aload_n {i : Fin 4} {a : Nat} (hd : decode M.2.1 pc = .ok (.aload_n i, 1)) (hl : xv_get lv i = some (.ref a)) (hq : pc + 1 = q) (k : xv_V X M Post cells slots q lv (.ref a :: st) h n) : xv_V X M Post cells slots pc lv st h n := by
  subst hq
  exact xv_step k (fun _ _ _ _ _ _ _ _ _ _ _ _ _ _ e b _ _ _ _ g w => lv_aload_n e b hd rfl (g _ _ hl) w) (fun y z => xv_cons (y _ (xv_gm hl)) z)
theorem xi_aload {i : Nat} {a : Nat} (hd : decode M.2.1 pc = .ok (.aload i, 2)) (hl : xv_get lv i = some (.ref a)) (hq : pc + 2 = q) (k : xv_V X M Post cells slots q lv (.ref a :: st) h n) : xv_V X M Post cells slots pc lv st h n := by
  subst hq
  exact xv_step k (fun _ _ _ _ _ _ _ _ _ _ _ _ _ _ e b _ _ _ _ g w => lv_aload e b hd (g _ _ hl) w) (fun y z => xv_cons (y _ (xv_gm hl)) z)
theorem xi_aload_nN {i : Fin 4} (hd : decode M.2.1 pc = .ok (.aload_n i, 1)) (hl : xv_get lv i = some .null) (hq : pc + 1 = q) (k : xv_V X M Post cells slots q lv (.null :: st) h n) : xv_V X M Post cells slots pc lv st h n := by
  subst hq
  exact xv_step k (fun _ _ _ _ _ _ _ _ _ _ _ _ _ _ e b _ _ _ _ g w => lv_aload_nN e b hd rfl (g _ _ hl) w) (fun _ z => xv_cons trivial z)
theorem xi_aloadN {i : Nat} (hd : decode M.2.1 pc = .ok (.aload i, 2)) (hl : xv_get lv i = some .null) (hq : pc + 2 = q) (k : xv_V X M Post cells slots q lv (.null :: st) h n) : xv_V X M Post cells slots pc lv st h n := by
  subst hq
  exact xv_step k (fun _ _ _ _ _ _ _ _ _ _ _ _ _ _ e b _ _ _ _ g w => lv_aloadN e b hd (g _ _ hl) w) (fun _ z => xv_cons trivial z)
theorem xv_vset {n i : Nat} {v : Value} {l : List (Nat × Value)} (hv : xv_v n v) (hl : ∀ q ∈ l, xv_v n q.2) : ∀ q ∈ xv_set l i v, xv_v n q.2 := fun q hq => (List.mem_cons.mp hq).elim (fun e => by rw [e]; exact hv) (fun h => hl q ((List.mem_filter.mp h).1))
theorem xv_vsetL {n i : Nat} {v : Value} {l : List (Nat × Value)} (hv : xv_v n v) (hl : ∀ q ∈ l, xv_v n q.2) : ∀ q ∈ xv_setL l i v, xv_v n q.2 := fun q hq => (List.mem_cons.mp hq).elim (fun e => by rw [e]; exact hv) (fun h => hl q ((List.mem_filter.mp h).1))
/-- a store into a local -/
theorem xv_stl {v : Value} {lv1 : List (Nat × Value)} (f : ∀ (p : Program) (l : Launch) (e : Env) (s : State) (m : MethodId) (args : Array Value) (below : List Frame) (meth : Method) (c : Code) (Qf : State → Prop) (H : Heap) (locs : List Loc) (ls : Array Slot) (ad : Nat → Nat), p.tables.exec = Jvm.exec → c.code = M.2.1 → lv_has ls M.2.2.1 (xv_lr ad lv) →
      (∀ ls' : Array Slot, lv_has ls' M.2.2.1 (xv_lr ad lv1) → W p l e M.2.2.2.2.2 s m args below meth c H locs cells slots Qf (F0 m q ls' (st.map (xv_r ad)))) → W p l e M.2.2.2.2.2 s m args below meth c H locs cells slots Qf (F0 m pc ls ((v :: st).map (xv_r ad))))
    (hv : ∀ n, xv_v n v → (∀ q ∈ lv, xv_v n q.2) → ∀ q ∈ lv1, xv_v n q.2) (k : xv_V X M Post cells slots q lv1 st h n) : xv_V X M Post cells slots pc lv (v :: st) h n :=
  fun p l e s m args below meth c D A ad0 n0 Qf C ad H locs ls Q => f p l e s m args below meth c Qf H locs ls ad C.1 C.2.1 Q.2.2.2.2.1 fun ls' hl' =>
    k p l e s m args below meth c D A ad0 n0 Qf C ad H locs ls' ⟨Q.1, Q.2.1, Q.2.2.1, Q.2.2.2.1, hl', hv n (Q.2.2.2.2.2.2 v List.mem_cons_self) Q.2.2.2.2.2.1, xv_tl Q.2.2.2.2.2.2⟩
theorem xi_istore_n {i : Fin 4} {x : Int32} (hd : decode M.2.1 pc = .ok (.istore_n i, 1)) (hi : (i : Nat) < M.2.2.1) (hq : pc + 1 = q) (k : xv_V X M Post cells slots q (xv_set lv i (.int x)) st h n) : xv_V X M Post cells slots pc lv (.int x :: st) h n := by
  subst hq
  exact xv_stl (fun _ _ _ _ _ _ _ _ _ _ _ _ _ ad e b g w => lv_istore_n e b hd rfl g hi (xv_lrset ad lv i (.int x)) w) (fun _ a b => xv_vset a b) k
theorem xi_istore {i : Nat} {x : Int32} (hd : decode M.2.1 pc = .ok (.istore i, 2)) (hi : i < M.2.2.1) (hq : pc + 2 = q) (k : xv_V X M Post cells slots q (xv_set lv i (.int x)) st h n) : xv_V X M Post cells slots pc lv (.int x :: st) h n := by
  subst hq
  exact xv_stl (fun _ _ _ _ _ _ _ _ _ _ _ _ _ ad e b g w => lv_istore e b hd g hi (xv_lrset ad lv i (.int x)) w) (fun _ a b => xv_vset a b) k
theorem xi_astore_n {i : Fin 4} {x : Nat} (hd : decode M.2.1 pc = .ok (.astore_n i, 1)) (hi : (i : Nat) < M.2.2.1) (hq : pc + 1 = q) (k : xv_V X M Post cells slots q (xv_set lv i (.ref x)) st h n) : xv_V X M Post cells slots pc lv (.ref x :: st) h n := by
  subst hq
  exact xv_stl (fun _ _ _ _ _ _ _ _ _ _ _ _ _ ad e b g w => lv_astore_n e b hd rfl g hi (xv_lrset ad lv i (.ref x)) w) (fun _ a b => xv_vset a b) k
theorem xi_astore {i : Nat} {x : Nat} (hd : decode M.2.1 pc = .ok (.astore i, 2)) (hi : i < M.2.2.1) (hq : pc + 2 = q) (k : xv_V X M Post cells slots q (xv_set lv i (.ref x)) st h n) : xv_V X M Post cells slots pc lv (.ref x :: st) h n := by
  subst hq
  exact xv_stl (fun _ _ _ _ _ _ _ _ _ _ _ _ _ ad e b g w => lv_astore e b hd g hi (xv_lrset ad lv i (.ref x)) w) (fun _ a b => xv_vset a b) k
theorem xi_astore_nN {i : Fin 4} (hd : decode M.2.1 pc = .ok (.astore_n i, 1)) (hi : (i : Nat) < M.2.2.1) (hq : pc + 1 = q) (k : xv_V X M Post cells slots q (xv_set lv i .null) st h n) : xv_V X M Post cells slots pc lv (.null :: st) h n := by
  subst hq
  exact xv_stl (fun _ _ _ _ _ _ _ _ _ _ _ _ _ ad e b g w => lv_astore_nN e b hd rfl g hi (xv_lrset ad lv i .null) w) (fun _ a b => xv_vset a b) k
theorem xi_astoreN {i : Nat} (hd : decode M.2.1 pc = .ok (.astore i, 2)) (hi : i < M.2.2.1) (hq : pc + 2 = q) (k : xv_V X M Post cells slots q (xv_set lv i .null) st h n) : xv_V X M Post cells slots pc lv (.null :: st) h n := by
  subst hq
  exact xv_stl (fun _ _ _ _ _ _ _ _ _ _ _ _ _ ad e b g w => lv_astoreN e b hd g hi (xv_lrset ad lv i .null) w) (fun _ a b => xv_vset a b) k
theorem xi_lstore_n {i : Fin 4} {x : Int64} (hd : decode M.2.1 pc = .ok (.lstore_n i, 1)) (hi : (i : Nat) + 1 < M.2.2.1) (hq : pc + 1 = q) (k : xv_V X M Post cells slots q (xv_setL lv i (.long x)) st h n) : xv_V X M Post cells slots pc lv (.long x :: st) h n := by
  subst hq
  exact xv_stl (fun _ _ _ _ _ _ _ _ _ _ _ _ _ ad e b g w => lv_lstore_n e b hd rfl g hi (xv_lrsetL ad lv i (.long x)) w) (fun _ a b => xv_vsetL a b) k
theorem xi_lstore {i : Nat} {x : Int64} (hd : decode M.2.1 pc = .ok (.lstore i, 2)) (hi : i + 1 < M.2.2.1) (hq : pc + 2 = q) (k : xv_V X M Post cells slots q (xv_setL lv i (.long x)) st h n) : xv_V X M Post cells slots pc lv (.long x :: st) h n := by
  subst hq
  exact xv_stl (fun _ _ _ _ _ _ _ _ _ _ _ _ _ ad e b g w => lv_lstore e b hd g hi (xv_lrsetL ad lv i (.long x)) w) (fun _ a b => xv_vsetL a b) k
theorem xi_iinc {i : Nat} {d : Int} {x y : Int32} (hd : decode M.2.1 pc = .ok (.iinc i d, 3)) (hl : xv_get lv i = some (.int x)) (hy : x + Int32.ofInt d = y) (hi : i < M.2.2.1) (hq : pc + 3 = q) (k : xv_V X M Post cells slots q (xv_set lv i (.int y)) st h n) : xv_V X M Post cells slots pc lv st h n := by
  subst hq
  intro p l e s m args below meth c D A ad0 n0 Qf C ad H locs ls Q
  obtain ⟨kk, hk⟩ := List.getElem?_of_mem (xv_lrm (ad := ad) (xv_gm hl))
  exact lv_iinc C.1 C.2.1 hd Q.2.2.2.2.1 hk hy hi (xv_lrset ad lv i (.int y)) fun ls' hl' => k p l e s m args below meth c D A ad0 n0 Qf C ad H locs ls' ⟨Q.1, Q.2.1, Q.2.2.1, Q.2.2.2.1, hl', xv_vset trivial Q.2.2.2.2.2.1, Q.2.2.2.2.2.2⟩
theorem xi_iadd {x y : Int32} (hd : decode M.2.1 pc = .ok (.iadd, 1)) (hq : pc + 1 = q) (k : xv_V X M Post cells slots q lv (.int (x + y) :: st) h n) : xv_V X M Post cells slots pc lv (.int y :: .int x :: st) h n := by
  subst hq
  exact xv_step k (fun _ _ _ _ _ _ _ _ _ _ _ _ _ _ e b _ _ _ _ _ w => lv_iadd e b hd w) (fun _ z => xv_cons trivial (xv_tl (xv_tl z)))
theorem xi_isub {x y : Int32} (hd : decode M.2.1 pc = .ok (.isub, 1)) (hq : pc + 1 = q) (k : xv_V X M Post cells slots q lv (.int (x - y) :: st) h n) : xv_V X M Post cells slots pc lv (.int y :: .int x :: st) h n := by
  subst hq
  exact xv_step k (fun _ _ _ _ _ _ _ _ _ _ _ _ _ _ e b _ _ _ _ _ w => lv_isub e b hd w) (fun _ z => xv_cons trivial (xv_tl (xv_tl z)))
theorem xi_imul {x y : Int32} (hd : decode M.2.1 pc = .ok (.imul, 1)) (hq : pc + 1 = q) (k : xv_V X M Post cells slots q lv (.int (x * y) :: st) h n) : xv_V X M Post cells slots pc lv (.int y :: .int x :: st) h n := by
  subst hq
  exact xv_step k (fun _ _ _ _ _ _ _ _ _ _ _ _ _ _ e b _ _ _ _ _ w => lv_imul e b hd w) (fun _ z => xv_cons trivial (xv_tl (xv_tl z)))
theorem xi_iand {x y : Int32} (hd : decode M.2.1 pc = .ok (.iand, 1)) (hq : pc + 1 = q) (k : xv_V X M Post cells slots q lv (.int (x &&& y) :: st) h n) : xv_V X M Post cells slots pc lv (.int y :: .int x :: st) h n := by
  subst hq
  exact xv_step k (fun _ _ _ _ _ _ _ _ _ _ _ _ _ _ e b _ _ _ _ _ w => lv_iand e b hd w) (fun _ z => xv_cons trivial (xv_tl (xv_tl z)))
theorem xi_idiv {x y : Int32} (hd : decode M.2.1 pc = .ok (.idiv, 1)) (hne : ¬ y = 0) (hq : pc + 1 = q) (k : xv_V X M Post cells slots q lv (.int (x / y) :: st) h n) : xv_V X M Post cells slots pc lv (.int y :: .int x :: st) h n := by
  subst hq
  exact xv_step k (fun _ _ _ _ _ _ _ _ _ _ _ _ _ _ e b _ _ _ _ _ w => lv_idiv e b hd hne w) (fun _ z => xv_cons trivial (xv_tl (xv_tl z)))
theorem xi_irem {x y : Int32} (hd : decode M.2.1 pc = .ok (.irem, 1)) (hne : ¬ y = 0) (hq : pc + 1 = q) (k : xv_V X M Post cells slots q lv (.int (x - x / y * y) :: st) h n) : xv_V X M Post cells slots pc lv (.int y :: .int x :: st) h n := by
  subst hq
  exact xv_step k (fun _ _ _ _ _ _ _ _ _ _ _ _ _ _ e b _ _ _ _ _ w => lv_irem e b hd hne w) (fun _ z => xv_cons trivial (xv_tl (xv_tl z)))
theorem xi_ladd {x y : Int64} (hd : decode M.2.1 pc = .ok (.ladd, 1)) (hq : pc + 1 = q) (k : xv_V X M Post cells slots q lv (.long (x + y) :: st) h n) : xv_V X M Post cells slots pc lv (.long y :: .long x :: st) h n := by
  subst hq
  exact xv_step k (fun _ _ _ _ _ _ _ _ _ _ _ _ _ _ e b _ _ _ _ _ w => lv_ladd e b hd w) (fun _ z => xv_cons trivial (xv_tl (xv_tl z)))
theorem xi_lsub {x y : Int64} (hd : decode M.2.1 pc = .ok (.lsub, 1)) (hq : pc + 1 = q) (k : xv_V X M Post cells slots q lv (.long (x - y) :: st) h n) : xv_V X M Post cells slots pc lv (.long y :: .long x :: st) h n := by
  subst hq
  exact xv_step k (fun _ _ _ _ _ _ _ _ _ _ _ _ _ _ e b _ _ _ _ _ w => lv_lsub e b hd w) (fun _ z => xv_cons trivial (xv_tl (xv_tl z)))
theorem xi_lmul {x y : Int64} (hd : decode M.2.1 pc = .ok (.lmul, 1)) (hq : pc + 1 = q) (k : xv_V X M Post cells slots q lv (.long (x * y) :: st) h n) : xv_V X M Post cells slots pc lv (.long y :: .long x :: st) h n := by
  subst hq
  exact xv_step k (fun _ _ _ _ _ _ _ _ _ _ _ _ _ _ e b _ _ _ _ _ w => lv_lmul e b hd w) (fun _ z => xv_cons trivial (xv_tl (xv_tl z)))
theorem xi_ldiv {x y : Int64} (hd : decode M.2.1 pc = .ok (.ldiv, 1)) (hne : ¬ y = 0) (hq : pc + 1 = q) (k : xv_V X M Post cells slots q lv (.long (x / y) :: st) h n) : xv_V X M Post cells slots pc lv (.long y :: .long x :: st) h n := by
  subst hq
  exact xv_step k (fun _ _ _ _ _ _ _ _ _ _ _ _ _ _ e b _ _ _ _ _ w => lv_ldiv e b hd hne w) (fun _ z => xv_cons trivial (xv_tl (xv_tl z)))
theorem xi_ineg {x : Int32} (hd : decode M.2.1 pc = .ok (.ineg, 1)) (hq : pc + 1 = q) (k : xv_V X M Post cells slots q lv (.int (-x) :: st) h n) : xv_V X M Post cells slots pc lv (.int x :: st) h n := by
  subst hq
  exact xv_step k (fun _ _ _ _ _ _ _ _ _ _ _ _ _ _ e b _ _ _ _ _ w => lv_ineg e b hd w) (fun _ z => xv_cons trivial (xv_tl z))
theorem xi_lcmp {x y : Int64} (hd : decode M.2.1 pc = .ok (.lcmp, 1)) (hq : pc + 1 = q) (k : xv_V X M Post cells slots q lv (.int (lg_cmp x y) :: st) h n) : xv_V X M Post cells slots pc lv (.long y :: .long x :: st) h n := by
  subst hq
  exact xv_step k (fun _ _ _ _ _ _ _ _ _ _ _ _ _ _ e b _ _ _ _ _ w => W.lcmp e b hd w) (fun _ z => xv_cons trivial (xv_tl (xv_tl z)))
theorem xi_i2l {x : Int32} (hd : decode M.2.1 pc = .ok (.i2l, 1)) (hq : pc + 1 = q) (k : xv_V X M Post cells slots q lv (.long (x.toInt64) :: st) h n) : xv_V X M Post cells slots pc lv (.int x :: st) h n := by
  subst hq
  exact xv_step k (fun _ _ _ _ _ _ _ _ _ _ _ _ _ _ e b _ _ _ _ _ w => lv_i2l e b hd rfl w) (fun _ z => xv_cons trivial (xv_tl z))
theorem xi_l2i {x : Int64} (hd : decode M.2.1 pc = .ok (.l2i, 1)) (hq : pc + 1 = q) (k : xv_V X M Post cells slots q lv (.int (x.toInt32) :: st) h n) : xv_V X M Post cells slots pc lv (.long x :: st) h n := by
  subst hq
  exact xv_step k (fun _ _ _ _ _ _ _ _ _ _ _ _ _ _ e b _ _ _ _ _ w => lv_l2i e b hd rfl w) (fun _ z => xv_cons trivial (xv_tl z))
theorem xi_i2b {x : Int32} (hd : decode M.2.1 pc = .ok (.i2b, 1)) (hq : pc + 1 = q) (k : xv_V X M Post cells slots q lv (.int (x.toInt8.toInt32) :: st) h n) : xv_V X M Post cells slots pc lv (.int x :: st) h n := by
  subst hq
  exact xv_step k (fun _ _ _ _ _ _ _ _ _ _ _ _ _ _ e b _ _ _ _ _ w => lv_i2b e b hd rfl w) (fun _ z => xv_cons trivial (xv_tl z))
theorem xi_i2s {x : Int32} (hd : decode M.2.1 pc = .ok (.i2s, 1)) (hq : pc + 1 = q) (k : xv_V X M Post cells slots q lv (.int (x.toInt16.toInt32) :: st) h n) : xv_V X M Post cells slots pc lv (.int x :: st) h n := by
  subst hq
  exact xv_step k (fun _ _ _ _ _ _ _ _ _ _ _ _ _ _ e b _ _ _ _ _ w => lv_i2s e b hd rfl w) (fun _ z => xv_cons trivial (xv_tl z))
theorem xi_dup {v : Value} (hd : decode M.2.1 pc = .ok (.dup, 1)) (hv : v.category = 1) (hq : pc + 1 = q) (k : xv_V X M Post cells slots q lv (v :: v :: st) h n) : xv_V X M Post cells slots pc lv (v :: st) h n := by
  subst hq
  exact xv_step k (fun _ _ _ _ _ _ _ _ _ _ _ _ _ ad e b _ _ _ _ _ w => lv_dup e b hd (by rw [xv_rcat]; exact hv) w) (fun _ z => xv_cons (z v List.mem_cons_self) z)
theorem xi_if_eq {x : Int32} {off : Int} {q2 : Nat} (hd : decode M.2.1 pc = .ok (.ifCond .eq off, 3)) (ht : (pc : Int) + off = (q2 : Int)) (hq : pc + 3 = q) (k1 : x = 0 → xv_V X M Post cells slots q2 lv st h n) (k2 : ¬ (x = 0) → xv_V X M Post cells slots q lv st h n) : xv_V X M Post cells slots pc lv (.int x :: st) h n := by
  subst hq
  exact xv_2 (fun _ _ _ _ _ _ _ _ _ _ _ _ _ _ e b w1 w2 => lv_if_eq e b hd ht w1 w2) (fun v hm => List.mem_cons_of_mem _ hm) k1 k2
theorem xi_icmp_eq {x y : Int32} {off : Int} {q2 : Nat} (hd : decode M.2.1 pc = .ok (.if_icmp .eq off, 3)) (ht : (pc : Int) + off = (q2 : Int)) (hq : pc + 3 = q) (k1 : x = y → xv_V X M Post cells slots q2 lv st h n) (k2 : ¬ (x = y) → xv_V X M Post cells slots q lv st h n) : xv_V X M Post cells slots pc lv (.int y :: .int x :: st) h n := by
  subst hq
  exact xv_2 (fun _ _ _ _ _ _ _ _ _ _ _ _ _ _ e b w1 w2 => lv_icmp_eq e b hd ht w1 w2) (fun v hm => List.mem_cons_of_mem _ (List.mem_cons_of_mem _ hm)) k1 k2
theorem xi_if_ne {x : Int32} {off : Int} {q2 : Nat} (hd : decode M.2.1 pc = .ok (.ifCond .ne off, 3)) (ht : (pc : Int) + off = (q2 : Int)) (hq : pc + 3 = q) (k1 : ¬ x = 0 → xv_V X M Post cells slots q2 lv st h n) (k2 : x = 0 → xv_V X M Post cells slots q lv st h n) : xv_V X M Post cells slots pc lv (.int x :: st) h n := by
  subst hq
  exact xv_2 (fun _ _ _ _ _ _ _ _ _ _ _ _ _ _ e b w1 w2 => lv_if_ne e b hd ht w1 (fun z => w2 fun y => y z)) (fun v hm => List.mem_cons_of_mem _ hm) k1 (fun z => k2 (Decidable.of_not_not z))
theorem xi_icmp_ne {x y : Int32} {off : Int} {q2 : Nat} (hd : decode M.2.1 pc = .ok (.if_icmp .ne off, 3)) (ht : (pc : Int) + off = (q2 : Int)) (hq : pc + 3 = q) (k1 : ¬ x = y → xv_V X M Post cells slots q2 lv st h n) (k2 : x = y → xv_V X M Post cells slots q lv st h n) : xv_V X M Post cells slots pc lv (.int y :: .int x :: st) h n := by
  subst hq
  exact xv_2 (fun _ _ _ _ _ _ _ _ _ _ _ _ _ _ e b w1 w2 => lv_icmp_ne e b hd ht w1 (fun z => w2 fun y => y z)) (fun v hm => List.mem_cons_of_mem _ (List.mem_cons_of_mem _ hm)) k1 (fun z => k2 (Decidable.of_not_not z))
theorem xi_if_lt {x : Int32} {off : Int} {q2 : Nat} (hd : decode M.2.1 pc = .ok (.ifCond .lt off, 3)) (ht : (pc : Int) + off = (q2 : Int)) (hq : pc + 3 = q) (k1 : x < 0 → xv_V X M Post cells slots q2 lv st h n) (k2 : ¬ (x < 0) → xv_V X M Post cells slots q lv st h n) : xv_V X M Post cells slots pc lv (.int x :: st) h n := by
  subst hq
  exact xv_2 (fun _ _ _ _ _ _ _ _ _ _ _ _ _ _ e b w1 w2 => lv_if_lt e b hd ht w1 w2) (fun v hm => List.mem_cons_of_mem _ hm) k1 k2
theorem xi_icmp_lt {x y : Int32} {off : Int} {q2 : Nat} (hd : decode M.2.1 pc = .ok (.if_icmp .lt off, 3)) (ht : (pc : Int) + off = (q2 : Int)) (hq : pc + 3 = q) (k1 : x < y → xv_V X M Post cells slots q2 lv st h n) (k2 : ¬ (x < y) → xv_V X M Post cells slots q lv st h n) : xv_V X M Post cells slots pc lv (.int y :: .int x :: st) h n := by
  subst hq
  exact xv_2 (fun _ _ _ _ _ _ _ _ _ _ _ _ _ _ e b w1 w2 => lv_icmp_lt e b hd ht w1 w2) (fun v hm => List.mem_cons_of_mem _ (List.mem_cons_of_mem _ hm)) k1 k2
theorem xi_if_ge {x : Int32} {off : Int} {q2 : Nat} (hd : decode M.2.1 pc = .ok (.ifCond .ge off, 3)) (ht : (pc : Int) + off = (q2 : Int)) (hq : pc + 3 = q) (k1 : 0 ≤ x → xv_V X M Post cells slots q2 lv st h n) (k2 : ¬ (0 ≤ x) → xv_V X M Post cells slots q lv st h n) : xv_V X M Post cells slots pc lv (.int x :: st) h n := by
  subst hq
  exact xv_2 (fun _ _ _ _ _ _ _ _ _ _ _ _ _ _ e b w1 w2 => lv_if_ge e b hd ht w1 w2) (fun v hm => List.mem_cons_of_mem _ hm) k1 k2
theorem xi_icmp_ge {x y : Int32} {off : Int} {q2 : Nat} (hd : decode M.2.1 pc = .ok (.if_icmp .ge off, 3)) (ht : (pc : Int) + off = (q2 : Int)) (hq : pc + 3 = q) (k1 : y ≤ x → xv_V X M Post cells slots q2 lv st h n) (k2 : ¬ (y ≤ x) → xv_V X M Post cells slots q lv st h n) : xv_V X M Post cells slots pc lv (.int y :: .int x :: st) h n := by
  subst hq
  exact xv_2 (fun _ _ _ _ _ _ _ _ _ _ _ _ _ _ e b w1 w2 => lv_icmp_ge e b hd ht w1 w2) (fun v hm => List.mem_cons_of_mem _ (List.mem_cons_of_mem _ hm)) k1 k2
theorem xi_if_gt {x : Int32} {off : Int} {q2 : Nat} (hd : decode M.2.1 pc = .ok (.ifCond .gt off, 3)) (ht : (pc : Int) + off = (q2 : Int)) (hq : pc + 3 = q) (k1 : 0 < x → xv_V X M Post cells slots q2 lv st h n) (k2 : ¬ (0 < x) → xv_V X M Post cells slots q lv st h n) : xv_V X M Post cells slots pc lv (.int x :: st) h n := by
  subst hq
  exact xv_2 (fun _ _ _ _ _ _ _ _ _ _ _ _ _ _ e b w1 w2 => lv_if_gt e b hd ht w1 w2) (fun v hm => List.mem_cons_of_mem _ hm) k1 k2
theorem xi_icmp_gt {x y : Int32} {off : Int} {q2 : Nat} (hd : decode M.2.1 pc = .ok (.if_icmp .gt off, 3)) (ht : (pc : Int) + off = (q2 : Int)) (hq : pc + 3 = q) (k1 : y < x → xv_V X M Post cells slots q2 lv st h n) (k2 : ¬ (y < x) → xv_V X M Post cells slots q lv st h n) : xv_V X M Post cells slots pc lv (.int y :: .int x :: st) h n := by
  subst hq
  exact xv_2 (fun _ _ _ _ _ _ _ _ _ _ _ _ _ _ e b w1 w2 => lv_icmp_gt e b hd ht w1 w2) (fun v hm => List.mem_cons_of_mem _ (List.mem_cons_of_mem _ hm)) k1 k2
theorem xi_if_le {x : Int32} {off : Int} {q2 : Nat} (hd : decode M.2.1 pc = .ok (.ifCond .le off, 3)) (ht : (pc : Int) + off = (q2 : Int)) (hq : pc + 3 = q) (k1 : x ≤ 0 → xv_V X M Post cells slots q2 lv st h n) (k2 : ¬ (x ≤ 0) → xv_V X M Post cells slots q lv st h n) : xv_V X M Post cells slots pc lv (.int x :: st) h n := by
  subst hq
  exact xv_2 (fun _ _ _ _ _ _ _ _ _ _ _ _ _ _ e b w1 w2 => lv_if_le e b hd ht w1 w2) (fun v hm => List.mem_cons_of_mem _ hm) k1 k2
theorem xi_icmp_le {x y : Int32} {off : Int} {q2 : Nat} (hd : decode M.2.1 pc = .ok (.if_icmp .le off, 3)) (ht : (pc : Int) + off = (q2 : Int)) (hq : pc + 3 = q) (k1 : x ≤ y → xv_V X M Post cells slots q2 lv st h n) (k2 : ¬ (x ≤ y) → xv_V X M Post cells slots q lv st h n) : xv_V X M Post cells slots pc lv (.int y :: .int x :: st) h n := by
  subst hq
  exact xv_2 (fun _ _ _ _ _ _ _ _ _ _ _ _ _ _ e b w1 w2 => lv_icmp_le e b hd ht w1 w2) (fun v hm => List.mem_cons_of_mem _ (List.mem_cons_of_mem _ hm)) k1 k2
theorem xi_goto {off : Int} (hd : decode M.2.1 pc = .ok (.goto off, 3)) (ht : (pc : Int) + off = (q : Int)) (k : xv_V X M Post cells slots q lv st h n) : xv_V X M Post cells slots pc lv st h n :=
  xv_step k (fun _ _ _ _ _ _ _ _ _ _ _ _ _ _ e b _ _ _ _ _ w => lv_goto e b hd ht w) (fun _ z => z)
theorem xi_ifnonnull_r {a : Nat} {off : Int} (hd : decode M.2.1 pc = .ok (.ifnonnull off, 3)) (ht : (pc : Int) + off = (q : Int)) (k : xv_V X M Post cells slots q lv st h n) : xv_V X M Post cells slots pc lv (.ref a :: st) h n := by
  exact xv_step k (fun _ _ _ _ _ _ _ _ _ _ _ _ _ _ e b _ _ _ _ _ w => lv_ifnonnull e b hd ht w) (fun _ z => xv_tl z)
theorem xi_ifnonnull_n {off : Int} (hd : decode M.2.1 pc = .ok (.ifnonnull off, 3)) (hq : pc + 3 = q) (k : xv_V X M Post cells slots q lv st h n) : xv_V X M Post cells slots pc lv (.null :: st) h n := by
  subst hq
  exact xv_step k (fun _ _ _ _ _ _ _ _ _ _ _ _ _ _ e b _ _ _ _ _ w => lv_ifnonnullN e b hd  w) (fun _ z => xv_tl z)
theorem xi_ifnull_r {a : Nat} {off : Int} (hd : decode M.2.1 pc = .ok (.ifnull off, 3)) (hq : pc + 3 = q) (k : xv_V X M Post cells slots q lv st h n) : xv_V X M Post cells slots pc lv (.ref a :: st) h n := by
  subst hq
  exact xv_step k (fun _ _ _ _ _ _ _ _ _ _ _ _ _ _ e b _ _ _ _ _ w => lv_ifnull e b hd  w) (fun _ z => xv_tl z)
theorem xi_ifnull_n {off : Int} (hd : decode M.2.1 pc = .ok (.ifnull off, 3)) (ht : (pc : Int) + off = (q : Int)) (k : xv_V X M Post cells slots q lv st h n) : xv_V X M Post cells slots pc lv (.null :: st) h n := by
  exact xv_step k (fun _ _ _ _ _ _ _ _ _ _ _ _ _ _ e b _ _ _ _ _ w => lv_ifnullN e b hd ht w) (fun _ z => xv_tl z)
theorem xi_tableIn {dflt lo hi : Int} {offs : Array Int} {len : Nat} {x : Int32} {off : Int} (hd : decode M.2.1 pc = .ok (.tableswitch dflt lo hi offs, len)) (h1 : ¬ x.toInt < lo) (h2 : ¬ hi < x.toInt) (ho : offs[(x.toInt - lo).toNat]? = some off) (ht : (pc : Int) + off = (q : Int)) (k : xv_V X M Post cells slots q lv st h n) : xv_V X M Post cells slots pc lv (.int x :: st) h n :=
  xv_step k (fun _ _ _ _ _ _ _ _ _ _ _ _ _ _ e b _ _ _ _ _ w => lv_tableIn e b hd h1 h2 ho ht w) (fun _ z => xv_tl z)
theorem xi_tableOut {dflt lo hi : Int} {offs : Array Int} {len : Nat} {x : Int32} (hd : decode M.2.1 pc = .ok (.tableswitch dflt lo hi offs, len)) (h1 : x.toInt < lo ∨ hi < x.toInt) (ht : (pc : Int) + dflt = (q : Int)) (k : xv_V X M Post cells slots q lv st h n) : xv_V X M Post cells slots pc lv (.int x :: st) h n :=
  xv_step k (fun _ _ _ _ _ _ _ _ _ _ _ _ _ _ e b _ _ _ _ _ w => lv_tableOut e b hd h1 ht w) (fun _ z => xv_tl z)
theorem xi_mmax {x y : Int32} {i : Nat} (hd : decode M.2.1 pc = .ok (.invokestatic i, 3)) (hw : Cond.methodLink M.1 i Lib.Math.max.name ∈ xv_g ∧ Cond.static Lib.Math.max.name ∈ xv_g ∧ Cond.initialized "java/lang/Math" ∈ xv_g ∧ Cond.code Lib.Math.max.name Lib.Math.max.code 2 (some .int) ∈ xv_g) (hf : 1 ≤ M.2.2.2.2.2.frames) (hlo : (st.map fun v => v.category).sum + 13 ≤ M.2.2.2.2.2.locals) (hc : cells ≤ M.2.2.2.2.2.cells) (hs : slots ≤ M.2.2.2.2.2.slots) (hq : pc + 3 = q) (k : xv_V X M Post cells slots q lv (.int ((if x < y then y else x)) :: st) h n) : xv_V X M Post cells slots pc lv (.int y :: .int x :: st) h n := by
  subst hq
  exact xv_step k (fun _ _ _ _ _ _ _ _ _ _ _ _ _ ad e b ml o t z _ w => va_mmax e b (ml.trans z.symm) o (t _ hw.1) (t _ hw.2.1) (t _ hw.2.2.1) (t _ hw.2.2.2) hf (by rw [xv_sumc]; exact hlo) hc hs hd w) (fun _ z => xv_cons trivial (xv_tl (xv_tl z)))
theorem xi_mmin {x y : Int32} {i : Nat} (hd : decode M.2.1 pc = .ok (.invokestatic i, 3)) (hw : Cond.methodLink M.1 i Lib.Math.min.name ∈ xv_g ∧ Cond.static Lib.Math.min.name ∈ xv_g ∧ Cond.initialized "java/lang/Math" ∈ xv_g ∧ Cond.code Lib.Math.min.name Lib.Math.min.code 2 (some .int) ∈ xv_g) (hf : 1 ≤ M.2.2.2.2.2.frames) (hlo : (st.map fun v => v.category).sum + 13 ≤ M.2.2.2.2.2.locals) (hc : cells ≤ M.2.2.2.2.2.cells) (hs : slots ≤ M.2.2.2.2.2.slots) (hq : pc + 3 = q) (k : xv_V X M Post cells slots q lv (.int ((if y < x then y else x)) :: st) h n) : xv_V X M Post cells slots pc lv (.int y :: .int x :: st) h n := by
  subst hq
  exact xv_step k (fun _ _ _ _ _ _ _ _ _ _ _ _ _ ad e b ml o t z _ w => va_mmin e b (ml.trans z.symm) o (t _ hw.1) (t _ hw.2.1) (t _ hw.2.2.1) (t _ hw.2.2.2) hf (by rw [xv_sumc]; exact hlo) hc hs hd w) (fun _ z => xv_cons trivial (xv_tl (xv_tl z)))
theorem xi_mabs {x : Int32} {i : Nat} (hd : decode M.2.1 pc = .ok (.invokestatic i, 3)) (hw : Cond.methodLink M.1 i Lib.Math.abs.name ∈ xv_g ∧ Cond.static Lib.Math.abs.name ∈ xv_g ∧ Cond.initialized "java/lang/Math" ∈ xv_g ∧ Cond.code Lib.Math.abs.name Lib.Math.abs.code 1 (some .int) ∈ xv_g) (hf : 1 ≤ M.2.2.2.2.2.frames) (hlo : (st.map fun v => v.category).sum + 13 ≤ M.2.2.2.2.2.locals) (hc : cells ≤ M.2.2.2.2.2.cells) (hs : slots ≤ M.2.2.2.2.2.slots) (hq : pc + 3 = q) (k : xv_V X M Post cells slots q lv (.int ((if 0 ≤ x then x else 0 - x)) :: st) h n) : xv_V X M Post cells slots pc lv (.int x :: st) h n := by
  subst hq
  exact xv_step k (fun _ _ _ _ _ _ _ _ _ _ _ _ _ ad e b ml o t z _ w => va_mabs e b (ml.trans z.symm) o (t _ hw.1) (t _ hw.2.1) (t _ hw.2.2.1) (t _ hw.2.2.2) hf (by rw [xv_sumc]; exact hlo) hc hs hd w) (fun _ z => xv_cons trivial (xv_tl z))
end XR
section XH
variable {X : Nat × (Nat → Int32)} {M : xv_M} {Post : xv_P} {cells slots pc q : Nat} {lv lv' : List (Nat × Value)} {st : List Value} {h : xv_H} {n : Nat} {a : Nat}
theorem xv_cext {ad ad' : Nat → Nat} {n : Nat} (e : ∀ i, i < n ∨ 1000 ≤ i → ad' i = ad i) {c : ClassId} {x : xv_E} (hx : xv_ve n x) : xv_c ad' c x = xv_c ad c x := by
  match x, hx with
  | .inl (ty, m, .inr (.inr (.inr (.inr f)))), hx =>
    show Sum.inl (c, m, Sum.inr (Sum.inr (Sum.inr (Sum.inr (fun k => (f k).map ad'))))) = Sum.inl (c, m, Sum.inr (Sum.inr (Sum.inr (Sum.inr (fun k => (f k).map ad)))))
    have : (fun k => (f k).map ad') = fun k => (f k).map ad := by
      funext k
      cases hk : f k with
      | none => rfl
      | some b => show some (ad' b) = some (ad b); rw [e b (hx k b hk)]
    rw [this]
  | .inl (_, _, .inl _), _ => rfl
  | .inl (_, _, .inr (.inl _)), _ => rfl
  | .inl (_, _, .inr (.inr (.inl _))), _ => rfl
  | .inl (_, _, .inr (.inr (.inr (.inl _)))), _ => rfl
  | .inr o, hx =>
    show Sum.inr (o.1, o.2.map (xv_r ad')) = Sum.inr (o.1, o.2.map (xv_r ad))
    rw [xv_srext e hx]
/-- a world, one cell of it written -/
theorem xv_Wup {D : va_G} {A : Nat → Prop} {ad : Nat → Nat} {s : State} {H1 : Heap} {cA : Nat → ClassId} (hn : n ≤ 1000) (ht : xv_t s cA h n) (hv : ∀ i, i < n → xv_ve n (h i)) (e : xv_E)
    (hP : va_P D xv_cl ((xv_w ad cA h n).set a (ad a, xv_c ad (cA a) e)) H1) (hD : va_D A ((xv_w ad cA h n).set a (ad a, xv_c ad (cA a) e))) (ht' : ∀ ty x, e = .inl (ty, x) → ArrOfT s (cA a) ty ∧ va_RA s (cA a) ty) (hve : xv_ve n e) : xv_W D A ad (va_up h a e) n s H1 := by
  rw [xv_wset] at hP hD
  refine ⟨hn, cA, hP, hD, fun i hi ty x hx => ?_, fun i hi => ?_⟩
  · by_cases he : i = a
    · subst he
      rw [va_up_self] at hx
      exact ht' ty x hx
    · rw [va_up_ne _ _ he] at hx
      exact ht i hi ty x hx
  · by_cases he : i = a
    · subst he
      rw [va_up_self]
      exact hve
    · rw [va_up_ne _ _ he]
      exact hv i hi
def xv_fl (own : String) (i ci k : Nat) (fin : Bool) (ty : FieldType) : Prop := ∃ (C : String) (T : u_T) (N : Nat) (ty0 : Nat → FieldType), xv_cl[ci]? = some (C, T, N) ∧ (∀ w ∈ u_ws C T N, w ∈ xv_g) ∧ k < N ∧ Cond.fieldLink own i C (T k).2.1 (T k).2.2.1 ∈ xv_g ∧ (T k).1 = C ∧ (T k).2.2.2 = fin ∧ parseFieldDescriptor (T k).2.2.1 = some ty ∧
  (∀ k, k < N → parseFieldDescriptor (T k).2.2.1 = some (ty0 k)) ∧ ∀ a, a < N → ∀ b, b < N → a ≠ b → (T a).2.1 ≠ (T b).2.1
theorem xi_getf {i ci k : Nat} {fin : Bool} {ty : FieldType} {fs : List Value} {v : Value} (hd : decode M.2.1 pc = .ok (.getfield i, 3)) (fl : xv_fl M.1 i ci k fin ty) (hh : a < n ∧ h a = .inr (ci, fs)) (hv : fs[k]? = some v) (hq : pc + 3 = q) (kk : xv_V X M Post cells slots q lv (v :: st) h n) : xv_V X M Post cells slots pc lv (.ref a :: st) h n := by
  subst hq
  intro p l e s m args below meth c D A ad0 n0 Qf C ad H locs ls Q
  obtain ⟨CC, T, N, ty0, hc, hin, hk, hlink, hC, -⟩ := fl
  obtain ⟨hn, cA, hP, hD, ht, hve⟩ := Q.2.2.1
  have he : (xv_w ad cA h n)[a]? = some (ad a, .inr (ci, fs.map (xv_r ad))) := by rw [xv_wget hh.1, hh.2]; rfl
  refine va_get C.1 C.2.1 C.2.2.2.2.1 hin C.2.2.2.1 C.2.2.2.2.2.2.1 hP a he hc k hk (C.2.2.2.2.1 _ hlink) (fun x hx => by rw [← hC]; exact hx) (v := xv_r ad v) (by rw [List.getElem?_map, hv]; rfl) hd ?_
  have hvv : xv_v n v := by
    have := hve a hh.1
    rw [hh.2] at this
    exact this v (List.mem_of_getElem? hv)
  exact kk p l e s m args below meth c D A ad0 n0 Qf C ad H locs ls ⟨Q.1, Q.2.1, Q.2.2.1, Q.2.2.2.1, Q.2.2.2.2.1, Q.2.2.2.2.2.1, xv_cons hvv (xv_tl Q.2.2.2.2.2.2)⟩
theorem xi_putf {i ci k : Nat} {fin : Bool} {ty : FieldType} {fs : List Value} {v : Value} (hd : decode M.2.1 pc = .ok (.putfield i, 3)) (fl : xv_fl M.1 i ci k fin ty) (hh : a < n ∧ h a = .inr (ci, fs)) (hfin : fin = false ∨ (M.2.2.2.1 = true ∧ ∀ q, xv_cl[ci]? = some q → q.1 = M.1)) (hn : ∀ ad, narrow ty (xv_r ad v) = xv_r ad v) (hf : ∀ ad, fits ty (xv_r ad v) = true) (hl : k < fs.length) (hq : pc + 3 = q) (kk : xv_V X M Post cells slots q lv st (va_up h a (.inr (ci, fs.set k v))) n) : xv_V X M Post cells slots pc lv (v :: .ref a :: st) h n := by
  subst hq
  intro p l e s m args below meth c D A ad0 n0 Qf C ad H locs ls Q
  obtain ⟨CC, T, N, ty0, hc, hin, hk, hlink, hC, hfi, hty, hty0, hnm⟩ := fl
  obtain ⟨hn1, cA, hP, hD, ht, hve⟩ := Q.2.2.1
  have he : (xv_w ad cA h n)[a]? = some (ad a, .inr (ci, fs.map (xv_r ad))) := by rw [xv_wget hh.1, hh.2]; rfl
  have hvv : ∀ w ∈ fs.set k v, xv_v n w := fun w hw => by
    rcases List.mem_or_eq_of_mem_set hw with h1 | h1
    · have := hve a hh.1
      rw [hh.2] at this
      exact this w h1
    · rw [h1]; exact Q.2.2.2.2.2.2 v List.mem_cons_self
  have go : ∀ (H1 : Heap) (locs1 : List Loc), va_P D xv_cl ((xv_w ad cA h n).set a (ad a, .inr (ci, (fs.map (xv_r ad)).set k (xv_r ad v)))) H1 → va_D A ((xv_w ad cA h n).set a (ad a, .inr (ci, (fs.map (xv_r ad)).set k (xv_r ad v)))) → va_S A s.heap H1 locs1 → W p l e M.2.2.2.2.2 s m args below meth c H1 locs1 cells slots Qf (F0 m (pc + 3) ls (st.map (xv_r ad))) := by
    intro H1 locs1 hP1 hD1 hS1
    rw [← List.map_set] at hP1 hD1
    exact kk p l e s m args below meth c D A ad0 n0 Qf C ad H1 locs1 ls ⟨Q.1, Q.2.1, xv_Wup hn1 ht hve (.inr (ci, fs.set k v)) hP1 hD1 (fun _ _ h => by cases h) hvv, hS1, Q.2.2.2.2.1, Q.2.2.2.2.2.1, xv_tl (xv_tl Q.2.2.2.2.2.2)⟩
  rcases hfin with h0 | ⟨h0, h1⟩
  · exact va_put C.1 C.2.1 C.2.2.2.2.1 hin ty0 hty0 hnm C.2.2.2.1 C.2.2.2.2.2.2.1 hP hD Q.2.2.2.1 a he hc k hk (C.2.2.2.2.1 _ hlink) (fun x hx => by rw [← hC]; exact hx) (hfi.trans h0) hty (hn ad) (hf ad) (by rw [List.length_map]; exact hl) hd go
  · cases hfb : (T k).2.2.2 with
    | false => exact va_put C.1 C.2.1 C.2.2.2.2.1 hin ty0 hty0 hnm C.2.2.2.1 C.2.2.2.2.2.2.1 hP hD Q.2.2.2.1 a he hc k hk (C.2.2.2.2.1 _ hlink) (fun x hx => by rw [← hC]; exact hx) hfb hty (hn ad) (hf ad) (by rw [List.length_map]; exact hl) hd go
    | true => exact va_putF C.1 C.2.1 C.2.2.2.2.1 hin ty0 hty0 hnm C.2.2.2.1 C.2.2.2.2.2.2.1 hP hD Q.2.2.2.1 a he hc k hk (C.2.2.2.2.1 _ hlink) (fun x hx => by rw [← hC]; exact hx) hfb (C.2.2.2.2.2.1 h0) (hC.trans (h1 _ hc)) hty (hn ad) (hf ad) (by rw [List.length_map]; exact hl) hd go
theorem xi_iald {m0 : Nat} {f : Nat → Int32} {i : Int32} (hd : decode M.2.1 pc = .ok (.iaload, 1)) (hh : a < n ∧ h a = .inl (.int, m0, .inl f)) (hi : vp_in i m0) (hq : pc + 1 = q) (kk : xv_V X M Post cells slots q lv (.int (f i.toNatClampNeg) :: st) h n) : xv_V X M Post cells slots pc lv (.int i :: .ref a :: st) h n := by
  subst hq
  intro p l e s m args below meth c D A ad0 n0 Qf C ad H locs ls Q
  obtain ⟨hn, cA, hP, hD, ht, hve⟩ := Q.2.2.1
  have he : (xv_w ad cA h n)[a]? = some (ad a, .inl (cA a, m0, .inl f)) := by rw [xv_wget hh.1, hh.2]; rfl
  have hK : va_K D xv_cl [(cA a, .int)] s := ⟨C.2.2.2.2.2.2.1.1, fun k w hk => by
    match k, hk with
    | 0, hk => cases hk; exact ht a hh.1 _ _ hh.2
    | k + 1, hk => simp at hk⟩
  exact va_iald C.1 C.2.1 hK hP a 0 he rfl hi hd (kk p l e s m args below meth c D A ad0 n0 Qf C ad H locs ls ⟨Q.1, Q.2.1, Q.2.2.1, Q.2.2.2.1, Q.2.2.2.2.1, Q.2.2.2.2.2.1, xv_cons trivial (xv_tl (xv_tl Q.2.2.2.2.2.2))⟩)
theorem xi_zald {m0 : Nat} {f : Nat → Int32} {i : Int32} (hd : decode M.2.1 pc = .ok (.baload, 1)) (hh : a < n ∧ h a = .inl (.boolean, m0, .inl f)) (hi : vp_in i m0) (hq : pc + 1 = q) (kk : xv_V X M Post cells slots q lv (.int (f i.toNatClampNeg) :: st) h n) : xv_V X M Post cells slots pc lv (.int i :: .ref a :: st) h n := by
  subst hq
  intro p l e s m args below meth c D A ad0 n0 Qf C ad H locs ls Q
  obtain ⟨hn, cA, hP, hD, ht, hve⟩ := Q.2.2.1
  have he : (xv_w ad cA h n)[a]? = some (ad a, .inl (cA a, m0, .inl f)) := by rw [xv_wget hh.1, hh.2]; rfl
  have hK : va_K D xv_cl [(cA a, .boolean)] s := ⟨C.2.2.2.2.2.2.1.1, fun k w hk => by
    match k, hk with
    | 0, hk => cases hk; exact ht a hh.1 _ _ hh.2
    | k + 1, hk => simp at hk⟩
  exact va_zald C.1 C.2.1 hK hP a 0 he rfl hi hd (kk p l e s m args below meth c D A ad0 n0 Qf C ad H locs ls ⟨Q.1, Q.2.1, Q.2.2.1, Q.2.2.2.1, Q.2.2.2.2.1, Q.2.2.2.2.2.1, xv_cons trivial (xv_tl (xv_tl Q.2.2.2.2.2.2))⟩)
theorem xi_iast {m0 : Nat} {f : Nat → Int32} {i x : Int32} (hd : decode M.2.1 pc = .ok (.iastore, 1)) (hh : a < n ∧ h a = .inl (.int, m0, .inl f)) (hi : vp_in i m0) (hq : pc + 1 = q) (kk : xv_V X M Post cells slots q lv st (va_up h a (.inl (.int, m0, .inl (upd f i.toNatClampNeg x)))) n) : xv_V X M Post cells slots pc lv (.int x :: .int i :: .ref a :: st) h n := by
  subst hq
  intro p l e s m args below meth c D A ad0 n0 Qf C ad H locs ls Q
  obtain ⟨hn, cA, hP, hD, ht, hve⟩ := Q.2.2.1
  have he : (xv_w ad cA h n)[a]? = some (ad a, .inl (cA a, m0, .inl f)) := by rw [xv_wget hh.1, hh.2]; rfl
  have hK : va_K D xv_cl [(cA a, .int)] s := ⟨C.2.2.2.2.2.2.1.1, fun k w hk => by
    match k, hk with
    | 0, hk => cases hk; exact ht a hh.1 _ _ hh.2
    | k + 1, hk => simp at hk⟩
  exact va_iast C.1 C.2.1 hK hP hD Q.2.2.2.1 a 0 he rfl hi hd fun H1 locs1 hP1 hD1 hS1 => kk p l e s m args below meth c D A ad0 n0 Qf C ad H1 locs1 ls ⟨Q.1, Q.2.1, xv_Wup hn ht hve (.inl (.int, m0, .inl (upd f i.toNatClampNeg x))) hP1 hD1 (fun ty y e => by cases e; exact ht a hh.1 _ _ hh.2) trivial, hS1, Q.2.2.2.2.1, Q.2.2.2.2.2.1, xv_tl (xv_tl (xv_tl Q.2.2.2.2.2.2))⟩
theorem xi_zast {m0 : Nat} {f : Nat → Int32} {i x : Int32} (hd : decode M.2.1 pc = .ok (.bastore, 1)) (hh : a < n ∧ h a = .inl (.boolean, m0, .inl f)) (hi : vp_in i m0) (hx : vp_nar .boolean x = x) (hq : pc + 1 = q) (kk : xv_V X M Post cells slots q lv st (va_up h a (.inl (.boolean, m0, .inl (upd f i.toNatClampNeg x)))) n) : xv_V X M Post cells slots pc lv (.int x :: .int i :: .ref a :: st) h n := by
  subst hq
  intro p l e s m args below meth c D A ad0 n0 Qf C ad H locs ls Q
  obtain ⟨hn, cA, hP, hD, ht, hve⟩ := Q.2.2.1
  have he : (xv_w ad cA h n)[a]? = some (ad a, .inl (cA a, m0, .inl f)) := by rw [xv_wget hh.1, hh.2]; rfl
  have hK : va_K D xv_cl [(cA a, .boolean)] s := ⟨C.2.2.2.2.2.2.1.1, fun k w hk => by
    match k, hk with
    | 0, hk => cases hk; exact ht a hh.1 _ _ hh.2
    | k + 1, hk => simp at hk⟩
  exact va_zast C.1 C.2.1 hK hP hD Q.2.2.2.1 a 0 he rfl hi hd fun H1 locs1 hP1 hD1 hS1 => kk p l e s m args below meth c D A ad0 n0 Qf C ad H1 locs1 ls ⟨Q.1, Q.2.1, xv_Wup hn ht hve (.inl (.boolean, m0, .inl (upd f i.toNatClampNeg x))) (by rw [hx] at hP1; exact hP1) (by rw [hx] at hD1; exact hD1) (fun ty y e => by cases e; exact ht a hh.1 _ _ hh.2) trivial, hS1, Q.2.2.2.2.1, Q.2.2.2.2.2.1, xv_tl (xv_tl (xv_tl Q.2.2.2.2.2.2))⟩
theorem xi_aald {ty : FieldType} {m0 : Nat} {f : Nat → Option Nat} {i : Int32} {v : Value} (hd : decode M.2.1 pc = .ok (.aaload, 1)) (hh : a < n ∧ h a = .inl (ty, m0, .inr (.inr (.inr (.inr f))))) (hty : ty.isReference = true) (hi : vp_in i m0) (hv : va_rf (f i.toNatClampNeg) = v) (hq : pc + 1 = q) (kk : xv_V X M Post cells slots q lv (v :: st) h n) : xv_V X M Post cells slots pc lv (.int i :: .ref a :: st) h n := by
  subst hq
  subst hv
  intro p l e s m args below meth c D A ad0 n0 Qf C ad H locs ls Q
  obtain ⟨hn, cA, hP, hD, ht, hve⟩ := Q.2.2.1
  have he : (xv_w ad cA h n)[a]? = some (ad a, .inl (cA a, m0, .inr (.inr (.inr (.inr (fun k => (f k).map ad)))))) := by rw [xv_wget hh.1, hh.2]; rfl
  have hlt : i.toNatClampNeg < m0 := Nat.not_le.mp fun z => hi (Or.inr z)
  have hvv : xv_v n (va_rf (f i.toNatClampNeg)) := by
    have := hve a hh.1
    rw [hh.2] at this
    cases hfi : f i.toNatClampNeg with
    | none => trivial
    | some b => exact this _ b hfi
  refine W.aald (v := xv_r ad (va_rf (f i.toNatClampNeg))) (ty := ty) C.1 C.2.1 (hP a _ he) ((ht a hh.1 _ _ hh.2).1 m0 (fun j => va_rf ((f j).map ad))) hty (fun z => by cases z) (by show ¬ (i < 0 ∨ (arrV _ _ _).slots.size ≤ _); rw [arrV_size]; exact hi) (by show (arrV _ _ _).slots[_]? = _; rw [arrV_read _ _ hlt, xv_rrf]) rfl rfl hd ?_
  exact kk p l e s m args below meth c D A ad0 n0 Qf C ad H locs ls ⟨Q.1, Q.2.1, Q.2.2.1, Q.2.2.2.1, Q.2.2.2.2.1, Q.2.2.2.2.2.1, xv_cons hvv (xv_tl (xv_tl Q.2.2.2.2.2.2))⟩
theorem xi_aast {m0 b ci : Nat} {CC : String} {T : u_T} {N : Nat} {vs : List Value} {f : Nat → Option Nat} {i : Int32} (hd : decode M.2.1 pc = .ok (.aastore, 1)) (hc : xv_cl[ci]? = some (CC, T, N)) (hh : a < n ∧ h a = .inl (.object CC, m0, .inr (.inr (.inr (.inr f))))) (hb : b < n ∧ h b = .inr (ci, vs)) (hi : vp_in i m0) (hq : pc + 1 = q) (kk : xv_V X M Post cells slots q lv st (va_up h a (.inl (.object CC, m0, .inr (.inr (.inr (.inr (va_up f i.toNatClampNeg (some b)))))))) n) : xv_V X M Post cells slots pc lv (.ref b :: .int i :: .ref a :: st) h n := by
  subst hq
  intro p l e s m args below meth c D A ad0 n0 Qf C ad H locs ls Q
  obtain ⟨hn, cA, hP, hD, ht, hve⟩ := Q.2.2.1
  have he : (xv_w ad cA h n)[a]? = some (ad a, .inl (cA a, m0, .inr (.inr (.inr (.inr (fun k => (f k).map ad)))))) := by rw [xv_wget hh.1, hh.2]; rfl
  have hb2 : (xv_w ad cA h n)[b]? = some (ad b, .inr (ci, vs.map (xv_r ad))) := by rw [xv_wget hb.1, hb.2]; rfl
  have hK : va_K D xv_cl [(cA a, .object CC)] s := ⟨C.2.2.2.2.2.2.1.1, fun k w hk => by
    match k, hk with
    | 0, hk => cases hk; exact ht a hh.1 _ _ hh.2
    | k + 1, hk => simp at hk⟩
  have heq : (va_up (fun k => (f k).map ad) i.toNatClampNeg (some (ad b))) = fun k => ((va_up f i.toNatClampNeg (some b)) k).map ad := by
    funext k
    by_cases hk : k = i.toNatClampNeg
    · simp [va_up, hk]
    · simp [va_up, hk]
  refine va_astq C.1 C.2.1 hK hP hD Q.2.2.2.1 a 0 b ci (r := (CC, T, N)) he rfl hb2 hc hi hd fun H1 locs1 hP1 hD1 hS1 => ?_
  rw [heq] at hP1 hD1
  exact kk p l e s m args below meth c D A ad0 n0 Qf C ad H1 locs1 ls ⟨Q.1, Q.2.1, xv_Wup hn ht hve (.inl (.object CC, m0, .inr (.inr (.inr (.inr (va_up f i.toNatClampNeg (some b))))))) hP1 hD1 (fun ty y e => by cases e; exact ht a hh.1 _ _ hh.2) (fun k z hz => by
    by_cases hk : k = i.toNatClampNeg
    · rw [hk, va_up_self] at hz
      cases hz
      exact Or.inl hb.1
    · rw [va_up_ne _ _ hk] at hz
      have := hve a hh.1
      rw [hh.2] at this
      exact this k z hz), hS1, Q.2.2.2.2.1, Q.2.2.2.2.2.1, xv_tl (xv_tl (xv_tl Q.2.2.2.2.2.2))⟩
theorem xi_alen {ty : FieldType} {x : vp_A} {v : Int32} (hd : decode M.2.1 pc = .ok (.arraylength, 1)) (hh : a < n ∧ h a = .inl (ty, x)) (hv : Int32.ofNat x.1 = v) (hq : pc + 1 = q) (kk : xv_V X M Post cells slots q lv (.int v :: st) h n) : xv_V X M Post cells slots pc lv (.ref a :: st) h n := by
  subst hq
  intro p l e s m args below meth c D A ad0 n0 Qf C ad H locs ls Q
  obtain ⟨hn, cA, hP, hD, ht, hve⟩ := Q.2.2.1
  have he : (xv_w ad cA h n)[a]? = some (ad a, .inl (cA a, xv_a ad x)) := by rw [xv_wget hh.1, hh.2]; rfl
  have h1 : (xv_a ad x).1 = x.1 := by
    match x with
    | (_, .inr (.inr (.inr (.inr f)))) => rfl
    | (_, .inl _) => rfl
    | (_, .inr (.inl _)) => rfl
    | (_, .inr (.inr (.inl _))) => rfl
    | (_, .inr (.inr (.inr (.inl _)))) => rfl
  have hK : va_K D xv_cl [(cA a, ty)] s := ⟨C.2.2.2.2.2.2.1.1, fun k w hk => by
    match k, hk with
    | 0, hk => cases hk; exact ht a hh.1 _ _ hh.2
    | k + 1, hk => simp at hk⟩
  exact va_alen C.1 C.2.1 hK hP a 0 he rfl (by rw [h1]; exact hv) hd (kk p l e s m args below meth c D A ad0 n0 Qf C ad H locs ls ⟨Q.1, Q.2.1, Q.2.2.1, Q.2.2.2.1, Q.2.2.2.2.1, Q.2.2.2.2.2.1, xv_cons trivial (xv_tl Q.2.2.2.2.2.2)⟩)
-- what is read alone
theorem xi_gets {i j : Nat} {w : String × List Int32} (hd : decode M.2.1 pc = .ok (.getstatic i, 3)) (hj : xv_rf[j]? = some w) (hw : Cond.fieldLink M.1 i "ValveShop" w.1 "[I" ∈ xv_g ∨ Cond.fieldLinkNest M.1 i "ValveShop" w.1 "[I" "ValveShop" ∈ xv_nw) (hq : pc + 3 = q) (kk : xv_V X M Post cells slots q lv (.ref (1000 + j) :: st) h n) : xv_V X M Post cells slots pc lv st h n := by
  subst hq
  intro p l e s m args below meth c D A ad0 n0 Qf C ad H locs ls Q
  have hz := C.2.2.2.2.2.2.2.2.1.2.1 j w hj
  rw [← Q.2.1 (1000 + j) (Or.inr (Nat.le_add_right _ _))] at hz
  have hk := kk p l e s m args below meth c D A ad0 n0 Qf C ad H locs ls ⟨Q.1, Q.2.1, Q.2.2.1, Q.2.2.2.1, Q.2.2.2.2.1, Q.2.2.2.2.2.1, xv_cons (Or.inr (Nat.le_add_right _ _)) Q.2.2.2.2.2.2⟩
  rcases hw with hw | hw
  · exact va_gets C.1 C.2.1 hz Q.2.2.2.1 C.2.2.2.1 (C.2.2.2.2.1 _ hw) (fun _ h9 => h9) hd hk
  · exact va_getsN C.1 C.2.1 hz Q.2.2.2.1 C.2.2.2.1 (va_Nw.use rfl (C.2.2.2.2.2.2.2.2.1.2.2 _ hw)) (fun _ h9 => h9) hd hk
theorem xi_roald {j : Nat} {w : Nat × (Nat → Int32)} {i x : Int32} (hd : decode M.2.1 pc = .ok (.iaload, 1)) (hj : xv_ro X j = some w) (hi : vp_in i w.1) (hx : w.2 i.toNatClampNeg = x) (hq : pc + 1 = q) (kk : xv_V X M Post cells slots q lv (.int x :: st) h n) : xv_V X M Post cells slots pc lv (.int i :: .ref (1000 + j) :: st) h n := by
  subst hq
  subst hx
  intro p l e s m args below meth c D A ad0 n0 Qf C ad H locs ls Q
  have hz := C.2.2.2.2.2.2.2.2.1.1 j w hj
  rw [← Q.2.1 (1000 + j) (Or.inr (Nat.le_add_right _ _))] at hz
  exact va_ti C.1 C.2.1 hz Q.2.2.2.1 hi rfl hd (kk p l e s m args below meth c D A ad0 n0 Qf C ad H locs ls ⟨Q.1, Q.2.1, Q.2.2.1, Q.2.2.2.1, Q.2.2.2.2.1, Q.2.2.2.2.2.1, xv_cons trivial (xv_tl (xv_tl Q.2.2.2.2.2.2))⟩)
theorem xi_rolen {j : Nat} {w : Nat × (Nat → Int32)} {x : Int32} (hd : decode M.2.1 pc = .ok (.arraylength, 1)) (hj : xv_ro X j = some w) (hx : Int32.ofNat w.1 = x) (hq : pc + 1 = q) (kk : xv_V X M Post cells slots q lv (.int x :: st) h n) : xv_V X M Post cells slots pc lv (.ref (1000 + j) :: st) h n := by
  subst hq
  intro p l e s m args below meth c D A ad0 n0 Qf C ad H locs ls Q
  have hz := C.2.2.2.2.2.2.2.2.1.1 j w hj
  rw [← Q.2.1 (1000 + j) (Or.inr (Nat.le_add_right _ _))] at hz
  exact va_tlen C.1 C.2.1 hz Q.2.2.2.1 hx hd (kk p l e s m args below meth c D A ad0 n0 Qf C ad H locs ls ⟨Q.1, Q.2.1, Q.2.2.1, Q.2.2.2.1, Q.2.2.2.2.1, Q.2.2.2.2.2.1, xv_cons trivial (xv_tl Q.2.2.2.2.2.2)⟩)
theorem xi_copy {i a0 n0' n1' : Nat} {f g : Nat → Int32} {sp dp k : Int32} (hd : decode M.2.1 pc = .ok (.invokestatic i, 3)) (hw : Cond.methodLink M.1 i arraycopyName ∈ xv_g ∧ Cond.native arraycopyName ∈ xv_g ∧ Cond.static arraycopyName ∈ xv_g ∧ Cond.initialized "java/lang/System" ∈ xv_g) (hf : 1 ≤ M.2.2.2.2.2.frames) (hlo : (st.map fun v => v.category).sum + (nativeFrameWords "java/lang/System" "arraycopy" 5 + 11) ≤ M.2.2.2.2.2.locals)
    (h0 : a0 < n ∧ h a0 = .inl (.int, n0', .inl f)) (h1 : a < n ∧ h a = .inl (.int, n1', .inl g)) (g1 : ¬ sp < 0) (g2 : ¬ dp < 0) (g3 : ¬ k < 0) (g4 : sp.toNatClampNeg + k.toNatClampNeg ≤ n0') (g5 : dp.toNatClampNeg + k.toNatClampNeg ≤ n1') (hq : pc + 3 = q)
    (kk : xv_V X M Post cells slots q lv st (va_up h a (.inl (.int, n1', .inl (va_cpy f g sp.toNatClampNeg dp.toNatClampNeg k.toNatClampNeg)))) n) : xv_V X M Post cells slots pc lv (.int k :: .int dp :: .ref a :: .int sp :: .ref a0 :: st) h n := by
  subst hq
  intro p l e s m args below meth c D A ad0 n0 Qf C ad H locs ls Q
  obtain ⟨hn, cA, hP, hD, ht, hve⟩ := Q.2.2.1
  have he0 : (xv_w ad cA h n)[a0]? = some (ad a0, .inl (cA a0, n0', .inl f)) := by rw [xv_wget h0.1, h0.2]; rfl
  have he1 : (xv_w ad cA h n)[a]? = some (ad a, .inl (cA a, n1', .inl g)) := by rw [xv_wget h1.1, h1.2]; rfl
  have hK : va_K D xv_cl [(cA a0, .int), (cA a, .int)] s := ⟨C.2.2.2.2.2.2.1.1, fun k w hk => by
    match k, hk with
    | 0, hk => cases hk; exact ht a0 h0.1 _ _ h0.2
    | 1, hk => cases hk; exact ht a h1.1 _ _ h1.2
    | k + 2, hk => simp at hk⟩
  exact va_copyi C.1 C.2.1 (C.2.2.1.trans Q.2.2.2.2.1.1.symm) C.2.2.2.1 (C.2.2.2.2.1 _ hw.1) (C.2.2.2.2.1 _ hw.2.1) (C.2.2.2.2.1 _ hw.2.2.1) (C.2.2.2.2.1 _ hw.2.2.2) hK hP hD Q.2.2.2.1 a0 a 0 1 he0 he1 rfl rfl rfl g1 g2 g3 g4 g5 (fun _ _ => rfl) hf (by rw [xv_sumc]; exact hlo) hd fun H1 locs1 hP1 hD1 hS1 =>
    kk p l e s m args below meth c D A ad0 n0 Qf C ad H1 locs1 ls ⟨Q.1, Q.2.1, xv_Wup hn ht hve (.inl (.int, n1', .inl (va_cpy f g sp.toNatClampNeg dp.toNatClampNeg k.toNatClampNeg))) hP1 hD1 (fun ty y e => by cases e; exact ht a h1.1 _ _ h1.2) trivial, hS1, Q.2.2.2.2.1, Q.2.2.2.2.2.1, xv_tl (xv_tl (xv_tl (xv_tl (xv_tl Q.2.2.2.2.2.2))))⟩
-- ends
theorem xi_ret {v : Value} (hr : xv_ret M.2.1 M.2.2.2.2.1 pc (some v)) (hc : cells ≤ M.2.2.2.2.2.cells) (hs : slots ≤ M.2.2.2.2.2.slots) (hp : Post (some v) h n) : xv_V X M Post cells slots pc lv [v] h n :=
  fun p l e s m args below meth c D A ad0 n0 Qf C ad H locs ls Q => C.2.2.2.2.2.2.2.2.2 (some v) ad H locs cells slots ls pc h n hr Q.1 Q.2.1 hc hs Q.2.2.1 (fun w hw => by cases hw; exact Q.2.2.2.2.2.2 v List.mem_cons_self) Q.2.2.2.1 hp
theorem xi_vret (hr : xv_ret M.2.1 M.2.2.2.2.1 pc none) (hc : cells ≤ M.2.2.2.2.2.cells) (hs : slots ≤ M.2.2.2.2.2.slots) (hp : Post none h n) : xv_V X M Post cells slots pc lv [] h n :=
  fun p l e s m args below meth c D A ad0 n0 Qf C ad H locs ls Q => C.2.2.2.2.2.2.2.2.2 none ad H locs cells slots ls pc h n hr Q.1 Q.2.1 hc hs Q.2.2.1 (fun w hw => by cases hw) Q.2.2.2.1 hp
end XH
end
section
section XA
variable {X : Nat × (Nat → Int32)} {M : xv_M} {Post : xv_P} {cells slots pc q : Nat} {lv lv' : List (Nat × Value)} {st : List Value} {h : xv_H} {n : Nat} {a : Nat}
/-- a world, one cell more -/
theorem xv_Wnew {D : va_G} {A : Nat → Prop} {ad : Nat → Nat} {s : State} {H1 : Heap} {cA : Nat → ClassId} {qa : Nat} {cy : ClassId} (hn : n < 1000) (ht : xv_t s cA h n) (hv : ∀ i, i < n → xv_ve n (h i)) (e : xv_E)
    (hP : va_P D xv_cl (xv_w ad cA h n ++ [(qa, xv_c ad cy e)]) H1) (hD : va_D A (xv_w ad cA h n ++ [(qa, xv_c ad cy e)])) (ht' : ∀ ty x, e = .inl (ty, x) → ArrOfT s cy ty ∧ va_RA s cy ty) (hve : xv_ve n e) : (∀ i, i < n ∨ 1000 ≤ i → va_up ad n qa i = ad i) ∧ xv_W D A (va_up ad n qa) (va_up h n e) (n + 1) s H1 := by
  have hx : ∀ i, i < n ∨ 1000 ≤ i → va_up ad n qa i = ad i := fun i hi => va_up_ne _ _ (by omega)
  have hw : xv_w ad cA h n ++ [(qa, xv_c ad cy e)] = xv_w (va_up ad n qa) (va_up cA n cy) (va_up h n e) (n + 1) := by
    show _ = (List.range (n + 1)).map _
    rw [List.range_succ, List.map_append]
    congr 1
    · apply List.map_congr_left
      intro i hi
      have hi := List.mem_range.mp hi
      rw [hx i (Or.inl hi), va_up_ne cA _ (by omega), va_up_ne h _ (by omega), xv_cext hx (hv i hi)]
    · show [(qa, xv_c ad cy e)] = [(va_up ad n qa n, xv_c (va_up ad n qa) (va_up cA n cy n) (va_up h n e n))]
      rw [va_up_self, va_up_self, va_up_self, xv_cext hx hve]
  rw [hw] at hP hD
  refine ⟨hx, by omega, va_up cA n cy, hP, hD, fun i hi ty x he => ?_, fun i hi => ?_⟩
  · by_cases hin : i = n
    · subst hin
      rw [va_up_self] at he ⊢
      exact ht' ty x he
    · rw [va_up_ne _ _ hin] at he ⊢
      exact ht i (by omega) ty x he
  · by_cases hin : i = n
    · subst hin
      rw [va_up_self]
      exact xv_vemono (Nat.le_succ _) hve
    · rw [va_up_ne _ _ hin]
      exact xv_vemono (Nat.le_succ _) (hv i (by omega))
/-- the state of a frame, behind a making -/
theorem xv_Qnew {s : State} {D : va_G} {A : Nat → Prop} {ad0 : Nat → Nat} {n0 : Nat} {ad ad' : Nat → Nat} {H H1 : Heap} {locs locs1 : List Loc} {ls : Array Slot} {st' : List Value} {h' : xv_H} {n' : Nat} (Q : xv_Q M s D A ad0 n0 ad H locs ls lv st h n) (hn : n ≤ n') (hx : ∀ i, i < n ∨ 1000 ≤ i → ad' i = ad i) (hW : xv_W D A ad' h' n' s H1) (hS : va_S A s.heap H1 locs1) (hst : ∀ v ∈ st', xv_v n' v) : xv_Q M s D A ad0 n0 ad' H1 locs1 ls lv st' h' n' := by
  refine ⟨Nat.le_trans Q.1 hn, fun i hi => ?_, hW, hS, ?_, fun x hx => xv_vmono hn (Q.2.2.2.2.2.1 x hx), hst⟩
  · rw [hx i (hi.elim (fun z => Or.inl (Nat.lt_of_lt_of_le z Q.1)) Or.inr), Q.2.1 i hi]
  · rw [xv_lrext hx Q.2.2.2.2.2.1]
    exact Q.2.2.2.2.1
theorem xi_new {i ci N : Nat} {CC : String} {T : u_T} {ty0 : Nat → FieldType} {fs : List Value} (hd : decode M.2.1 pc = .ok (.new i, 3)) (hc : xv_cl[ci]? = some (CC, T, N)) (hin : ∀ w ∈ u_ws CC T N, w ∈ xv_g) (hty : ∀ k, k < N → parseFieldDescriptor (T k).2.2.1 = some (ty0 k)) (hw : Cond.classLink M.1 i CC ∈ xv_g ∧ Cond.instantiable CC N ∈ xv_g ∧ Cond.initialized CC ∈ xv_g) (hfs : ∀ j, j < N → defaultValue (ty0 j) = vp_V fs j) (hall : ∀ v ∈ fs, v = .null ∨ v = .int 0 ∨ v = .long 0) (hn : n < 1000) (hcl : cells + 1 ≤ M.2.2.2.2.2.cells) (hsl : slots + N ≤ M.2.2.2.2.2.slots) (hq : pc + 3 = q)
    (kk : xv_V X M Post (cells + 1) (slots + N) q lv (.ref n :: st) (va_up h n (.inr (ci, fs))) (n + 1)) : xv_V X M Post cells slots pc lv st h n := by
  subst hq
  intro p l e s m args below meth c D A ad0 n0 Qf C ad H locs ls Q
  obtain ⟨hn1, cA, hP, hD, ht, hve⟩ := Q.2.2.1
  refine va_new C.1 C.2.1 C.2.2.2.2.1 hin ty0 hty C.2.2.2.1 (C.2.2.2.2.1 _ hw.1) (C.2.2.2.2.1 _ hw.2.1) (C.2.2.2.2.1 _ hw.2.2) C.2.2.2.2.2.2.1 hP hD Q.2.2.2.1 C.2.2.2.2.2.2.2.1 hc hfs hcl hsl hd fun qa H1 hP1 hD1 hS1 => ?_
  have hfr : fs.map (xv_r ad) = fs := by
    conv => rhs; rw [← List.map_id fs]
    refine List.map_congr_left fun v hv => ?_
    rcases hall v hv with rfl | rfl | rfl <;> rfl
  have hv0 : xv_ve n (.inr (ci, fs)) := fun v hv => by rcases hall v hv with rfl | rfl | rfl <;> trivial
  obtain ⟨hx, hW⟩ := xv_Wnew (cy := 0) (ad := ad) hn ht hve (.inr (ci, fs)) (by show va_P _ _ (_ ++ [(qa, Sum.inr (ci, fs.map (xv_r ad)))]) _; rw [hfr]; exact hP1) (by show va_D _ (_ ++ [(qa, Sum.inr (ci, fs.map (xv_r ad)))]); rw [hfr]; exact hD1) (fun _ _ h => by cases h) hv0
  have hk := kk p l e s m args below meth c D A ad0 n0 Qf C _ H1 locs ls (xv_Qnew Q (Nat.le_succ n) hx hW hS1 (xv_cons (Or.inl (Nat.lt_succ_self n)) (fun w hw => xv_vmono (Nat.le_succ n) (Q.2.2.2.2.2.2 w hw))))
  rw [List.map_cons, xv_srext hx Q.2.2.2.2.2.2, show xv_r (va_up ad n qa) (.ref n) = .ref qa from congrArg Value.ref (va_up_self ad n qa)] at hk
  exact hk
theorem xi_newa {at_ : ArrayType} {ty : FieldType} {k : Int32} {N : Nat} (hd : decode M.2.1 pc = .ok (.newarray at_, 2)) (hty : newarray.typeOf at_ = ty) (hw : Cond.arrayClass ty ∈ xv_g) (ha : ∀ cA : ClassId, vp_cell cA (N, .inl (fun _ => 0)) = arrV cA N (fun _ => defaultValue ty)) (hk0 : ¬ k < 0) (hN : k.toNatClampNeg = N) (hb : N * componentBytes ty ≤ 536870912) (hn : n < 1000) (hcl : cells + 1 ≤ M.2.2.2.2.2.cells) (hsl : slots + N ≤ M.2.2.2.2.2.slots) (hq : pc + 2 = q)
    (kk : xv_V X M Post (cells + 1) (slots + N) q lv (.ref n :: st) (va_up h n (.inl (ty, N, .inl (fun _ => 0)))) (n + 1)) : xv_V X M Post cells slots pc lv (.int k :: st) h n := by
  subst hq
  intro p l e s m args below meth c D A ad0 n0 Qf C ad H locs ls Q
  obtain ⟨hn1, cA, hP, hD, ht, hve⟩ := Q.2.2.1
  refine va_newa C.1 C.2.1 (atype := at_) (by rw [hty]; exact C.2.2.2.2.1 _ hw) hty C.2.2.2.2.2.2.1 hP hD Q.2.2.2.1 C.2.2.2.2.2.2.2.1 ha hk0 hN hb hcl hsl hd fun qa cy H1 hK1 hP1 hD1 hS1 => ?_
  have hcy : ArrOfT s cy ty ∧ va_RA s cy ty := hK1.2 0 _ rfl
  obtain ⟨hx, hW⟩ := xv_Wnew (cy := cy) (ad := ad) hn ht hve (.inl (ty, N, .inl (fun _ => 0))) hP1 hD1 (fun _ _ h => by cases h; exact hcy) trivial
  have hk := kk p l e s m args below meth c D A ad0 n0 Qf C _ H1 locs ls (xv_Qnew Q (Nat.le_succ n) hx hW hS1 (xv_cons (Or.inl (Nat.lt_succ_self n)) (fun w hw => xv_vmono (Nat.le_succ n) (xv_tl Q.2.2.2.2.2.2 w hw))))
  rw [List.map_cons, xv_srext hx (xv_tl Q.2.2.2.2.2.2), show xv_r (va_up ad n qa) (.ref n) = .ref qa from congrArg Value.ref (va_up_self ad n qa)] at hk
  exact hk
theorem xi_anewa {i : Nat} {CC : String} {k : Int32} {N : Nat} (hd : decode M.2.1 pc = .ok (.anewarray i, 3)) (hw : Cond.classLink M.1 i CC ∈ xv_g) (hov : Cond.arrayOver (.object CC) ∈ xv_nw) (hk0 : ¬ k < 0) (hN : k.toNatClampNeg = N) (hb : N * 4 ≤ 536870912) (hn : n < 1000) (hcl : cells + 1 ≤ M.2.2.2.2.2.cells) (hsl : slots + N ≤ M.2.2.2.2.2.slots) (hq : pc + 3 = q)
    (kk : xv_V X M Post (cells + 1) (slots + N) q lv (.ref n :: st) (va_up h n (.inl (.object CC, N, .inr (.inr (.inr (.inr (fun _ => none))))))) (n + 1)) : xv_V X M Post cells slots pc lv (.int k :: st) h n := by
  subst hq
  intro p l e s m args below meth c D A ad0 n0 Qf C ad H locs ls Q
  obtain ⟨hn1, cA, hP, hD, ht, hve⟩ := Q.2.2.1
  refine va_newq C.1 C.2.1 C.2.2.2.1 (C.2.2.2.2.1 _ hw) (va_AO.of (C.2.2.2.2.2.2.2.2.1.2.2 _ hov)) C.2.2.2.2.2.2.1 hP hD Q.2.2.2.1 C.2.2.2.2.2.2.2.1 hk0 hN hb hcl hsl hd fun qa cy H1 hK1 hP1 hD1 hS1 => ?_
  have hcy : ArrOfT s cy (.object CC) ∧ va_RA s cy (.object CC) := hK1.2 0 _ rfl
  obtain ⟨hx, hW⟩ := xv_Wnew (cy := cy) (ad := ad) hn ht hve (.inl (.object CC, N, .inr (.inr (.inr (.inr (fun _ => none)))))) hP1 hD1 (fun _ _ h => by cases h; exact hcy) (fun _ _ h => by cases h)
  have hk := kk p l e s m args below meth c D A ad0 n0 Qf C _ H1 locs ls (xv_Qnew Q (Nat.le_succ n) hx hW hS1 (xv_cons (Or.inl (Nat.lt_succ_self n)) (fun w hw => xv_vmono (Nat.le_succ n) (xv_tl Q.2.2.2.2.2.2 w hw))))
  rw [List.map_cons, xv_srext hx (xv_tl Q.2.2.2.2.2.2), show xv_r (va_up ad n qa) (.ref n) = .ref qa from congrArg Value.ref (va_up_self ad n qa)] at hk
  exact hk
theorem xi_objInit {i : Nat} (hd : decode M.2.1 pc = .ok (.invokespecial i, 3)) (hw : Cond.methodLink M.1 i Lib.objectInit ∈ xv_g ∧ Cond.instanceMethod Lib.objectInit ∈ xv_g ∧ Cond.code Lib.objectInit ⟨#[0xb1]⟩ 1 none ∈ xv_g) (hf : 1 ≤ M.2.2.2.2.2.frames) (hlo : (st.map fun v => v.category).sum + 12 ≤ M.2.2.2.2.2.locals) (hq : pc + 3 = q) (kk : xv_V X M Post cells slots q lv st h n) : xv_V X M Post cells slots pc lv (.ref a :: st) h n := by
  subst hq
  refine xv_step kk (fun p l e s m args below meth c Qf H locs ls ad hx hb hml ho ht hz _ w => ?_) (fun _ z => xv_tl z)
  exact W.objInit hx hb ho (ht _ hw.1) (ht _ hw.2.1) (ht _ hw.2.2) rfl (hz.trans hml.symm) (a := ad a) (rest := st.map (xv_r ad)) rfl hd hf (by rw [xv_sumc]; show 2 * 0 + _ + 12 ≤ _; omega) w
end XA
end
section
def va_AOA (ty : FieldType) (U : State) : Prop := (Cond.arrayOver (.array ty)).before #[] U = true
theorem va_AOA.use {ty : FieldType} {A : Array Value} {U : State} (h : va_AOA ty U) : (Cond.arrayOver (.array ty)).before A U = true := h
/-! ===== BEGIN new T[n][m]: the outer array a place, the inner ones among the pooled ===== -/
/-- f, but v at every address of l -/
def vr_up {α : Type} (f : Nat → α) (l : List Nat) (v : α) : Nat → α := fun a => if a ∈ l then v else f a
theorem vr_up_in {α : Type} {f : Nat → α} {l : List Nat} {v : α} {a : Nat} (h : a ∈ l) : vr_up f l v a = v := if_pos h
theorem vr_up_ne {α : Type} {f : Nat → α} {l : List Nat} {v : α} {a : Nat} (h : a ∉ l) : vr_up f l v a = f a := if_neg h
theorem vr_rows {L l : List Nat} {f : Nat → va_E} {e : va_E} (h : ∀ a, a ∈ l → a ∉ L) : va_pl L f ++ l.map (fun a => (a, e)) = va_pl (L ++ l) (vr_up f l e) := by
  unfold va_pl
  rw [List.map_append]
  congr 1
  · apply List.map_congr_left
    intro a ha
    rw [vr_up_ne (fun q => h a q ha)]
  · apply List.map_congr_left
    intro a ha
    rw [vr_up_in ha]
theorem vr_lay {X rows : va_W} {x : Nat × va_E} {pl : va_W} {D : va_G} {cl : List vw_C} {H : Heap} (hP : va_P D cl (((X ++ pl) ++ [x]) ++ rows) H) : va_P D cl ((X ++ [x]) ++ (pl ++ rows)) H := by
  rw [List.append_assoc (X ++ pl)] at hP
  have h := va_P.swap hP
  rw [← List.append_assoc X] at h
  have h2 := va_P.swap h
  rw [List.append_assoc (X ++ [x])] at h2
  exact h2
theorem vr_layD {X rows : va_W} {x : Nat × va_E} {pl : va_W} {A : Nat → Prop} (hD : va_D A (((X ++ pl) ++ [x]) ++ rows)) : va_D A ((X ++ [x]) ++ (pl ++ rows)) := by
  rw [List.append_assoc (X ++ pl)] at hD
  have h := va_D.swap hD
  rw [← List.append_assoc X] at h
  have h2 := va_D.swap h
  rw [List.append_assoc (X ++ [x])] at h2
  exact h2
theorem vr_outer (c : ClassId) (N h0 : Nat) : ∀ i : Nat, Jvm.Free.Multi.outerC c N h0 i = arrV c N (fun j => va_rf (if j < i then some (h0 + 1 + j) else none))
  | 0 => by
    show ({ cls := c, slots := Array.replicate N .null, vm := .none } : Cell) = _
    rw [arrV_new]
    refine congrArg (arrV c N) (funext fun j => ?_)
    simp [va_rf]
  | i + 1 => by
    show (Jvm.Free.Multi.outerC c N h0 i).setSlot i (.ref (h0 + 1 + i)) = _
    rw [vr_outer c N h0 i, arrV_store]
    refine congrArg (arrV c N) (funext fun j => ?_)
    by_cases e : j = i
    · subst e
      simp [updV, va_rf]
    · by_cases h : j < i
      · simp [updV, e, h, Nat.lt_succ_of_lt h]
      · simp [updV, e, h, show ¬ j < i + 1 by omega]
section VGM
variable {p : Program} {l : Launch} {e : Env} {R : Room} {s : State} {m : MethodId} {args : Array Value} {below : List Frame} {meth : Method} {c : Code} {H : Heap} {locs : List Loc} {cells slots : Nat} {Q : State → Prop}
variable {cc : ByteArray} {pc : Nat} {ls : Array Slot} {rest : List Value} {D : va_G} {cl : List vw_C} {A : Nat → Prop} {a : Nat} {tys : List (ClassId × FieldType)} {ws : va_W} {H0 : Heap}
theorem va_mna {X : va_W} {L : List Nat} {f : Nat → va_E} {cc : ByteArray} (hexec : p.tables.exec = Jvm.exec) (hb : c.code = cc) {own : String} {index : Nat} {ty : FieldType} {cy : ClassId} (hown : s.vm.findClass own = some m.cls) (hclink : (Cond.classLink own index ("[" ++ (FieldType.array ty).toString)).before args s = true) (hover : va_AOA ty s) (harr : (Cond.arrayClass ty).before args s = true) (hcy : s.vm.findClass (FieldType.array ty).toString = some cy)
    (hK : va_K D cl tys s) (hP : va_P D cl (X ++ va_pl L f) H) (hD : va_D A (X ++ va_pl L f)) (hS : va_S A H0 H locs) (hA : ∀ q, H0.size ≤ q → A q) {n k : Int32} {N' K' : Nat} {z : vp_A} (hn : ¬ n < 0) (hk : ¬ k < 0) (hN : n.toNatClampNeg = N') (hM : k.toNatClampNeg = K')
    (hb1 : N' * 4 ≤ 536870912) (hb2 : K' * componentBytes ty ≤ 536870912) (hb3 : K' ≤ 536870912) (hdf : fits ty (defaultValue ty) = true) (hdd : (defaultValue ty).isDefault = true) (hcells : cells + (1 + N') ≤ R.cells) (hslots : slots + (N' + N' * K') ≤ R.slots) (hz : ∀ c : ClassId, Jvm.Free.Multi.innerC c K' (defaultValue ty) = vp_cell c z) (hdg : decode cc pc = .ok (.multianewarray index 2, 4))
    (kk : ∀ (q : Nat) (r : Nat → Nat) (cA : ClassId) (H1 : Heap), (∀ i j : Nat, i < N' → j < N' → r i = r j → i = j) → (∀ i : Nat, i < N' → r i ∉ L) → va_K D cl (tys ++ [(cA, .array ty)]) s →
      va_P D cl ((X ++ [(q, .inl (cA, N', .inr (.inr (.inr (.inr (fun i => if i < N' then some (r i) else none))))))]) ++ va_pl (L ++ (List.range N').map r) (vr_up f ((List.range N').map r) (.inl (cy, z)))) H1 → va_D A ((X ++ [(q, .inl (cA, N', .inr (.inr (.inr (.inr (fun i => if i < N' then some (r i) else none))))))]) ++ va_pl (L ++ (List.range N').map r) (vr_up f ((List.range N').map r) (.inl (cy, z)))) → va_S A H0 H1 locs →
      W p l e R s m args below meth c H1 locs (cells + 1 + N') (slots + N' + N' * K') Q (F0 m (pc + 4) ls (.ref q :: rest))) : W p l e R s m args below meth c H locs cells slots Q (F0 m pc ls (.int k :: .int n :: rest)) := by
  subst hN
  subst hM
  intro T hT Xs
  obtain ⟨vm₁, cA, comp, -, fA, fC, hO, -, X', step⟩ := Xs.multianewarray2F hexec hown hclink (va_AOA.use hover) harr (g := F0 m pc ls (.int k :: .int n :: rest)) rfl (by rw [hb]; exact hdg) rfl hn hk hb1 hb2 hb3 hdf hdd hcells hslots
  have ec : some cy = some comp := hcy.symm.trans fC
  cases ec
  generalize hF : Jvm.Free.Multi.fill (T.setVm vm₁) cA cy n.toNatClampNeg k.toNatClampNeg (defaultValue ty) n.toNatClampNeg = F at X' step
  have hTh : (T.setVm vm₁).heap = H := hT
  obtain ⟨f1, f2, -, -⟩ := Jvm.Free.Multi.fill_facts (T.setVm vm₁) cA cy n.toNatClampNeg k.toNatClampNeg (defaultValue ty) n.toNatClampNeg
  rw [hF, hTh] at f1 f2
  have hold : ∀ x : Nat, x < H.size → F.heap[x]? = H[x]? := fun x hx => by
    have := Jvm.Free.Multi.fill_old (T.setVm vm₁) cA cy n.toNatClampNeg k.toNatClampNeg (defaultValue ty) (a := x) (by rw [hTh]; exact hx) n.toNatClampNeg
    rw [hF, hTh] at this
    exact this
  have hrow : ∀ j : Nat, j < n.toNatClampNeg → F.heap[H.size + 1 + j]? = some (vp_cell cy z) := fun j hj => by
    have := Jvm.Free.Multi.fill_inner (T.setVm vm₁) cA cy n.toNatClampNeg k.toNatClampNeg (defaultValue ty) n.toNatClampNeg j hj
    rw [hF, hTh, hz] at this
    exact this
  have hout : Jvm.Free.Multi.outerC cA n.toNatClampNeg H.size n.toNatClampNeg = vp_cell cA (n.toNatClampNeg, .inr (.inr (.inr (.inr (fun i => if i < n.toNatClampNeg then some (H.size + 1 + i) else none))))) := by
    rw [vp_cell_q]
    exact vr_outer cA n.toNatClampNeg H.size n.toNatClampNeg
  rw [hout] at f2
  have hlt : ∀ a, a ∈ L → a < H.size := fun a ha => by
    obtain ⟨k9, hk9⟩ := va_pl_get (X := X) (f := f) ha
    exact (hP k9 _ hk9).lt
  have hnl : ∀ i : Nat, i < n.toNatClampNeg → H.size + 1 + i ∉ L := fun i _ h => by
    have := hlt _ h
    omega
  have hnm : ∀ a, a ∈ (List.range n.toNatClampNeg).map (fun i => H.size + 1 + i) → a ∉ L := fun a ha h => by
    obtain ⟨i, -, rfl⟩ := List.mem_map.mp ha
    have := hlt _ h
    omega
  have hP0 : va_P D cl (X ++ va_pl L f) F.heap := hP.kept (fun k9 x hx => hold x.1 ((hP k9 x hx).lt))
  have hP1 : va_P D cl ((X ++ va_pl L f) ++ [(H.size, .inl (cA, n.toNatClampNeg, .inr (.inr (.inr (.inr (fun i => if i < n.toNatClampNeg then some (H.size + 1 + i) else none))))))]) F.heap := hP0.app (fun k9 x hx => by
    have h0 : k9 < 1 := (List.getElem?_eq_some_iff.mp hx).1
    rw [show k9 = 0 by omega] at hx
    cases hx
    exact f2)
  have hP2 : va_P D cl (((X ++ va_pl L f) ++ [(H.size, .inl (cA, n.toNatClampNeg, .inr (.inr (.inr (.inr (fun i => if i < n.toNatClampNeg then some (H.size + 1 + i) else none))))))]) ++ ((List.range n.toNatClampNeg).map (fun i => H.size + 1 + i)).map (fun a => (a, .inl (cy, z)))) F.heap := hP1.app (fun k9 x hx => by
    obtain ⟨a, ha, rfl⟩ := List.mem_map.mp (List.mem_of_getElem? hx)
    obtain ⟨i, hi, rfl⟩ := List.mem_map.mp ha
    exact hrow i (List.mem_range.mp hi))
  have hD2 : va_D A (((X ++ va_pl L f) ++ [(H.size, .inl (cA, n.toNatClampNeg, .inr (.inr (.inr (.inr (fun i => if i < n.toNatClampNeg then some (H.size + 1 + i) else none))))))]) ++ ((List.range n.toNatClampNeg).map (fun i => H.size + 1 + i)).map (fun a => (a, .inl (cy, z)))) := by
    have hD1 := hD.push (e := .inl (cA, n.toNatClampNeg, .inr (.inr (.inr (.inr (fun i => if i < n.toNatClampNeg then some (H.size + 1 + i) else none)))))) hP rfl (hA _ hS.1)
    generalize hW1 : (X ++ va_pl L f) ++ [(H.size, .inl (cA, n.toNatClampNeg, .inr (.inr (.inr (.inr (fun i => if i < n.toNatClampNeg then some (H.size + 1 + i) else none))))))] = W1 at hD1 hP1 ⊢
    have hle : ∀ (k9 : Nat) (x : Nat × va_E), W1[k9]? = some x → x.1 ≤ H.size := fun k9 x hx => by
      rw [← hW1] at hx
      by_cases hl : k9 < (X ++ va_pl L f).length
      · rw [List.getElem?_append_left hl] at hx
        exact Nat.le_of_lt ((hP k9 x hx).lt)
      · rw [List.getElem?_append_right (by omega)] at hx
        have h0 : k9 - (X ++ va_pl L f).length < 1 := (List.getElem?_eq_some_iff.mp hx).1
        rw [show k9 - (X ++ va_pl L f).length = 0 by omega] at hx
        cases hx
        exact Nat.le_refl _
    have hr : ∀ (k9 : Nat) (x : Nat × va_E), (((List.range n.toNatClampNeg).map (fun i => H.size + 1 + i)).map (fun a => ((a, .inl (cy, z)) : Nat × va_E)))[k9]? = some x → x.1 = H.size + 1 + k9 := fun k9 x hx => by
      rw [List.getElem?_map, List.getElem?_map] at hx
      by_cases h9 : k9 < n.toNatClampNeg
      · rw [List.getElem?_range h9] at hx
        cases hx
        rfl
      · have hn0 : (List.range n.toNatClampNeg)[k9]? = none := List.getElem?_eq_none (by rw [List.length_range]; omega)
        rw [hn0] at hx
        cases hx
    refine ⟨fun i j x y hi hj hxy => ?_, fun k9 x hx => ?_⟩
    · by_cases h1 : i < W1.length <;> by_cases h2 : j < W1.length
      · rw [List.getElem?_append_left h1] at hi
        rw [List.getElem?_append_left h2] at hj
        exact hD1.1 i j x y hi hj hxy
      · rw [List.getElem?_append_left h1] at hi
        rw [List.getElem?_append_right (by omega)] at hj
        have := hle _ _ hi
        have := hr _ _ hj
        omega
      · rw [List.getElem?_append_right (by omega)] at hi
        rw [List.getElem?_append_left h2] at hj
        have := hle _ _ hj
        have := hr _ _ hi
        omega
      · rw [List.getElem?_append_right (by omega)] at hi hj
        have := hr _ _ hi
        have := hr _ _ hj
        omega
    · by_cases h1 : k9 < W1.length
      · rw [List.getElem?_append_left h1] at hx
        exact hD1.2 k9 x hx
      · rw [List.getElem?_append_right (by omega)] at hx
        have := hr _ _ hx
        exact hA _ (by have := hS.1; omega)
  have hAr : ArrOfT s cA (.array ty) := fun N9 z9 => by
    obtain ⟨-, k9, hk9, cm9, hkk9⟩ := (hO 0 0 0).1
    exact ⟨(fun q hq => by cases hq), k9, hk9, cm9, hkk9⟩
  have hK2 : va_K D cl (tys ++ [(cA, .array ty)]) s := ⟨hK.1, fun k9 x hx => by
    by_cases hl : k9 < tys.length
    · rw [List.getElem?_append_left hl] at hx
      exact hK.2 k9 x hx
    · rw [List.getElem?_append_right (by omega)] at hx
      have h0 : k9 - tys.length < 1 := (List.getElem?_eq_some_iff.mp hx).1
      rw [show k9 - tys.length = 0 by omega] at hx
      cases hx
      exact ⟨hAr, fA⟩⟩
  obtain ⟨t, a1, b1⟩ := kk H.size (fun i => H.size + 1 + i) cA F.heap (fun i j _ _ h => by have h9 : H.size + 1 + i = H.size + 1 + j := h; omega) hnl hK2 (by rw [← vr_rows hnm]; exact vr_lay hP2) (by rw [← vr_rows hnm]; exact vr_layD hD2) ⟨by rw [f1]; have := hS.1; omega, fun x h1 h2 => (hold x (Nat.lt_of_lt_of_le h1 hS.1)).trans (hS.2.1 x h1 h2), hS.2.2⟩ F rfl X'
  refine ⟨t, step t ?_, b1⟩
  have e : T.heap.size = H.size := by rw [hT]
  rw [e]
  exact a1
end VGM
/-! ===== END ===== -/
end
section
section XM
variable {X : Nat × (Nat → Int32)} {M : xv_M} {Post : xv_P} {cells slots pc q : Nat} {lv lv' : List (Nat × Value)} {st : List Value} {h : xv_H} {n : Nat} {a : Nat}
/-- the heap behind new int[N][K]: the outer array at n, its rows behind it -/
def xv_mh (h : xv_H) (n N K : Nat) : xv_H := fun j => if j = n then .inl (.array .int, N, .inr (.inr (.inr (.inr (fun k => if k < N then some (n + 1 + k) else none))))) else if n < j ∧ j ≤ n + N then .inl (.int, K, .inl (fun _ => 0)) else h j
def xv_ma (ad : Nat → Nat) (n N q0 : Nat) (r : Nat → Nat) : Nat → Nat := fun j => if j = n then q0 else if n < j ∧ j ≤ n + N then r (j - n - 1) else ad j
theorem xv_mlist {ad : Nat → Nat} {cA : Nat → ClassId} {h : xv_H} {n N K q0 : Nat} {r : Nat → Nat} {cO cy : ClassId} {f : Nat → va_E} (hv : ∀ i, i < n → xv_ve n (h i)) (hn : n + 1 + N ≤ 1000) :
    (xv_w ad cA h n ++ [(q0, .inl (cO, N, .inr (.inr (.inr (.inr (fun i => if i < N then some (r i) else none))))))]) ++ va_pl ([] ++ (List.range N).map r) (vr_up f ((List.range N).map r) (.inl (cy, K, .inl (fun _ => 0)))) = xv_w (xv_ma ad n N q0 r) (fun j => if j = n then cO else if n < j then cy else cA j) (xv_mh h n N K) (n + 1 + N) := by
  have hx : ∀ i, i < n ∨ 1000 ≤ i → xv_ma ad n N q0 r i = ad i := fun i hi => by
    unfold xv_ma
    rw [if_neg (by omega), if_neg (by omega)]
  show _ = (List.range (n + 1 + N)).map _
  rw [List.range_add, List.map_append, List.range_succ, List.map_append]
  congr 1
  · congr 1
    · apply List.map_congr_left
      intro i hi
      have hi := List.mem_range.mp hi
      show (ad i, xv_c ad (cA i) (h i)) = (xv_ma ad n N q0 r i, xv_c (xv_ma ad n N q0 r) (if i = n then cO else if n < i then cy else cA i) (xv_mh h n N K i))
      rw [hx i (Or.inl hi), if_neg (by omega), if_neg (by omega), show xv_mh h n N K i = h i by unfold xv_mh; rw [if_neg (by omega), if_neg (by omega)], xv_cext hx (hv i hi)]
    · show [(q0, _)] = [(xv_ma ad n N q0 r n, xv_c (xv_ma ad n N q0 r) (if n = n then cO else if n < n then cy else cA n) (xv_mh h n N K n))]
      rw [if_pos rfl, show xv_ma ad n N q0 r n = q0 by unfold xv_ma; rw [if_pos rfl], show xv_mh h n N K n = .inl (.array .int, N, .inr (.inr (.inr (.inr (fun k => if k < N then some (n + 1 + k) else none))))) by unfold xv_mh; rw [if_pos rfl]]
      show [(q0, _)] = [(q0, Sum.inl (cO, N, Sum.inr (Sum.inr (Sum.inr (Sum.inr (fun k => (if k < N then some (n + 1 + k) else none).map (xv_ma ad n N q0 r)))))))]
      have : (fun i => if i < N then some (r i) else none) = fun k => (if k < N then some (n + 1 + k) else none).map (xv_ma ad n N q0 r) := by
        funext k
        by_cases hk : k < N
        · rw [if_pos hk, if_pos hk]
          show some (r k) = some (xv_ma ad n N q0 r (n + 1 + k))
          unfold xv_ma
          rw [if_neg (by omega), if_pos (by omega), show n + 1 + k - n - 1 = k by omega]
        · rw [if_neg hk, if_neg hk]
          rfl
      rw [this]
  · rw [List.nil_append]
    show List.map (fun a => (a, vr_up f ((List.range N).map r) (.inl (cy, K, .inl (fun _ => 0))) a)) ((List.range N).map r) = _
    rw [List.map_map, List.map_map]
    apply List.map_congr_left
    intro k hk
    have hk2 := List.mem_range.mp hk
    show (r k, vr_up f ((List.range N).map r) (.inl (cy, K, .inl (fun _ => 0))) (r k)) = (xv_ma ad n N q0 r (n + 1 + k), xv_c (xv_ma ad n N q0 r) (if n + 1 + k = n then cO else if n < n + 1 + k then cy else cA (n + 1 + k)) (xv_mh h n N K (n + 1 + k)))
    rw [vr_up_in (List.mem_map.mpr ⟨k, hk, rfl⟩), if_neg (by omega), if_pos (by omega), show xv_ma ad n N q0 r (n + 1 + k) = r k by unfold xv_ma; rw [if_neg (by omega), if_pos (by omega), show n + 1 + k - n - 1 = k by omega], show xv_mh h n N K (n + 1 + k) = .inl (.int, K, .inl (fun _ => 0)) by unfold xv_mh; rw [if_neg (by omega), if_pos (by omega)]]
    rfl
theorem xi_mna {i : Nat} {k nn : Int32} {N K : Nat} (hd : decode M.2.1 pc = .ok (.multianewarray i 2, 4)) (hw : Cond.classLink M.1 i ("[" ++ (FieldType.array .int).toString) ∈ xv_g ∧ Cond.arrayClass .int ∈ xv_g) (hov : Cond.arrayOver (.array .int) ∈ xv_nw) (hn0 : ¬ nn < 0) (hk0 : ¬ k < 0) (hN : nn.toNatClampNeg = N) (hK' : k.toNatClampNeg = K) (hb1 : N * 4 ≤ 536870912) (hb2 : K * componentBytes .int ≤ 536870912) (hb3 : K ≤ 536870912) (hn : n + 1 + N ≤ 1000) (hcl : cells + (1 + N) ≤ M.2.2.2.2.2.cells) (hsl : slots + (N + N * K) ≤ M.2.2.2.2.2.slots) (hq : pc + 4 = q)
    (kk : xv_V X M Post (cells + 1 + N) (slots + N + N * K) q lv (.ref n :: st) (xv_mh h n N K) (n + 1 + N)) : xv_V X M Post cells slots pc lv (.int k :: .int nn :: st) h n := by
  subst hq
  intro p l e s m args below meth c D A ad0 n0 Qf C ad H locs ls Q
  obtain ⟨hn1, cA, hP, hD, ht, hve⟩ := Q.2.2.1
  obtain ⟨cy, f1, f2⟩ : ∃ cy, ArrOfT s cy .int ∧ s.vm.findClass (FieldType.array .int).toString = some cy := by
    obtain ⟨cA, kA, comp, hfind, hk, hkind⟩ := Cond.arrayClass_spec (C.2.2.2.2.1 _ hw.2)
    exact ⟨cA, fun N z => ⟨(fun k h => by cases h), kA, hk, comp, hkind⟩, hfind⟩
  refine va_mna (X := xv_w ad cA h n) (L := []) (f := fun _ => .inr (0, [])) (z := (K, .inl (fun _ => 0))) C.1 C.2.1 C.2.2.2.1 (C.2.2.2.2.1 _ hw.1) (C.2.2.2.2.2.2.2.2.1.2.2 _ hov) (C.2.2.2.2.1 _ hw.2) f2 C.2.2.2.2.2.2.1 (by rw [show va_pl [] (fun _ => (.inr (0, []) : va_E)) = [] from rfl, List.append_nil]; exact hP) (by rw [show va_pl [] (fun _ => (.inr (0, []) : va_E)) = [] from rfl, List.append_nil]; exact hD) Q.2.2.2.1 C.2.2.2.2.2.2.2.1 hn0 hk0 hN hK' hb1 hb2 hb3 rfl rfl hcl hsl (fun cc => by show ({ cls := cc, slots := Array.replicate K (defaultValue .int), vm := .none } : Cell) = arrV cc K (fun _ => .int 0); rw [← arrV_new]; rfl) hd fun qa r cO H1 hr hr2 hK1 hP1 hD1 hS1 => ?_
  have hcO : ArrOfT s cO (.array .int) ∧ va_RA s cO (.array .int) := hK1.2 0 _ rfl
  rw [xv_mlist hve hn] at hP1 hD1
  have hx : ∀ i, i < n ∨ 1000 ≤ i → xv_ma ad n N qa r i = ad i := fun i hi => by
    unfold xv_ma
    rw [if_neg (by omega), if_neg (by omega)]
  have hW : xv_W D A (xv_ma ad n N qa r) (xv_mh h n N K) (n + 1 + N) s H1 := by
    refine ⟨hn, _, hP1, hD1, fun i hi ty x he => ?_, fun i hi => ?_⟩
    · show ArrOfT s (if i = n then cO else if n < i then cy else cA i) ty ∧ va_RA s (if i = n then cO else if n < i then cy else cA i) ty
      unfold xv_mh at he
      by_cases h1 : i = n
      · rw [if_pos h1] at he ⊢
        cases he
        exact hcO
      · rw [if_neg h1] at he ⊢
        by_cases h2 : n < i
        · rw [if_pos (by omega)] at he
          rw [if_pos h2]
          cases he
          exact ⟨f1, f2⟩
        · rw [if_neg (by omega)] at he
          rw [if_neg h2]
          exact ht i (by omega) ty x he
    · unfold xv_mh
      by_cases h1 : i = n
      · rw [if_pos h1]
        intro k b hb
        have hb : (if k < N then some (n + 1 + k) else none) = some b := hb
        by_cases hk : k < N
        · rw [if_pos hk] at hb
          cases hb
          left
          omega
        · rw [if_neg hk] at hb
          cases hb
      · rw [if_neg h1]
        by_cases h2 : n < i
        · rw [if_pos (by omega)]
          trivial
        · rw [if_neg (by omega)]
          exact xv_vemono (by omega) (hve i (by omega))
  have hk := kk p l e s m args below meth c D A ad0 n0 Qf C _ H1 locs ls (xv_Qnew Q (by omega) hx hW hS1 (xv_cons (Or.inl (show n < n + 1 + N by omega)) (fun w hw => xv_vmono (by omega) (xv_tl (xv_tl Q.2.2.2.2.2.2) w hw))))
  rw [List.map_cons, xv_srext hx (xv_tl (xv_tl Q.2.2.2.2.2.2)), show xv_r (xv_ma ad n N qa r) (.ref n) = .ref qa from congrArg Value.ref (by unfold xv_ma; rw [if_pos rfl])] at hk
  exact hk
end XM
end
section
section XK
variable {X : Nat × (Nat → Int32)} {M : xv_M} {Post : xv_P} {cells slots pc q : Nat} {lv lv' : List (Nat × Value)} {st : List Value} {h : xv_H} {n : Nat} {a : Nat}
theorem xv_aom {ty : FieldType} {u U : State} (hvm : u.vm.Alike U.vm) (h : va_Nw (.arrayOver ty) u) : va_Nw (.arrayOver ty) U := by
  have hf : ∀ s : String, U.vm.findClass s = u.vm.findClass s := fun s => by rw [hvm.findClass]
  unfold va_Nw Cond.before Cond.holds at h ⊢
  simp only [Cond.value, beq_iff_eq, Option.bind_eq_some_iff, Option.map_eq_some_iff] at h ⊢
  obtain ⟨comp, h1, c, h2, k, h3, h4⟩ := h
  have hi := (va_idx_bare U.vm comp).symm.trans ((congrArg (fun vm : Vm => vm.classes.findIdx? _) (show U.vm.bare = u.vm.bare by first | rw [hvm.bare_eq] | rw [← hvm.bare_eq])).trans (va_idx_bare u.vm comp))
  obtain ⟨k', hk', he⟩ := hvm.2.2 _ _ h3
  have hkd : k'.kind = k.kind := by rw [he]
  refine ⟨comp, ?_, c, hi.trans h2, k', hk', ?_⟩
  · cases ty <;> first | exact h1 | exact (hf _).trans h1
  · rw [hkd, hf]
    exact h4
theorem xv_nwm {u U : State} (hW : u.WarmedH U.vm) (h : ∀ w ∈ xv_nw, va_Nw w u) : ∀ w ∈ xv_nw, va_Nw w U := by
  intro w hw
  have h0 := h w hw
  have h1 := (List.mem_filter.mp hw).2
  match w, h0, h1 with
  | .methodLinkNest _ _ _ _, h0, _ => exact va_Nw.warmM hW h0
  | .fieldLinkNest _ _ _ _ _ _, h0, _ => exact va_Nw.warmF hW h0
  | .arrayOver _, h0, _ => exact xv_aom hW.alike h0
theorem xv_nwv {u U : State} (hv : u.vm = U.vm) (h : ∀ w ∈ xv_nw, va_Nw w u) : ∀ w ∈ xv_nw, va_Nw w U := by
  intro w hw
  have h0 := h w hw
  have h1 := (List.mem_filter.mp hw).2
  match w, h0, h1 with
  | .methodLinkNest _ _ _ _, h0, _ => exact va_tabs rfl hv h0
  | .fieldLinkNest _ _ _ _ _ _, h0, _ => exact va_tabs rfl hv h0
  | .arrayOver _, h0, _ => exact xv_aom (by rw [hv]; exact Vm.Alike.refl _) h0
theorem xv_Wm {D : va_G} {A : Nat → Prop} {ad : Nat → Nat} {h : xv_H} {n : Nat} {u U : State} {H : Heap} (hvm : u.vm.Alike U.vm) (hW : xv_W D A ad h n u H) : xv_W D A ad h n U H := by
  obtain ⟨h0, cA, h1, h2, h3, h4⟩ := hW
  exact ⟨h0, cA, h1, h2, fun i hi ty x he => ⟨arrOfT_moved hvm (h3 i hi ty x he).1, (h3 i hi ty x he).2.moved hvm⟩, h4⟩
def xv_A (ad : Nat → Nat) (n sz : Nat) : Nat → Prop := fun q => (∃ i, i < n ∧ q = ad i) ∨ sz ≤ q
def xv_Pc (X : Nat × (Nat → Int32)) (D : va_G) (ad : Nat → Nat) (as : List Value) (h : xv_H) (n sz : Nat) : Array Value → State → Prop := fun v U => v = (as.map (xv_r ad)).toArray ∧ U.heap.size = sz ∧ xv_W D (xv_A ad n sz) ad h n U U.heap ∧ va_K D xv_cl [] U ∧ xv_R X (xv_A ad n sz) ad U U.heap ∧ ∀ w ∈ as, xv_v n w
def xv_Qc (D : va_G) (ad : Nat → Nat) (n sz : Nat) (Post : xv_P) : Array Value → State → Outcome → State → Prop := fun _ s o t => (∃ (v : Option Value) (ad' : Nat → Nat) (h' : xv_H) (n' : Nat), o = .returned (v.map (xv_r ad')) ∧ n ≤ n' ∧ (∀ i, i < n ∨ 1000 ≤ i → ad' i = ad i) ∧ xv_W D (xv_A ad n sz) ad' h' n' t t.heap ∧ (∀ w, v = some w → xv_v n' w) ∧ Post v h' n') ∧ va_F (xv_A ad n sz) s t
/-- a method's contract -/
def xv_K (y : MethodName) (M : xv_M) (Pre : List Value → xv_H → Nat → xv_P → Prop) : Prop := ∀ (l : Launch) (X : Nat × (Nat → Int32)) (D : va_G) (ad : Nat → Nat) (as : List Value) (h : xv_H) (n sz : Nat) (Post : xv_P), Pre as h n Post →
  Met l y (Cond.code y M.2.1 M.2.2.1 M.2.2.2.2.1 :: xv_g) M.2.2.2.2.2 (xv_Pc X D ad as h n sz) (xv_Qc D ad n sz Post) M.2.2.2.2.2.cells M.2.2.2.2.2.slots (xv_A ad n sz)
theorem xv_slr (ad : Nat → Nat) (as : List Value) : (lg_sl (as.map (xv_r ad))).length = (lg_sl as).length := by
  induction as with
  | nil => rfl
  | cons v as ih =>
    show (List.flatMap _ (_ :: _)).length = (List.flatMap _ (_ :: _)).length
    rw [List.flatMap_cons, List.flatMap_cons, List.length_append, List.length_append]
    congr 1
    rw [xv_rcat]
    by_cases hc : v.category = 2
    · rw [if_pos hc, if_pos hc]
      rfl
    · rw [if_neg hc, if_neg hc]
      rfl
theorem xv_argr (ad : Nat → Nat) : ∀ (as : List Value) (i : Nat), lv_args i (as.map (xv_r ad)) = xv_lr ad (lv_args i as)
  | [], _ => rfl
  | v :: as, i => by
    show (i, xv_r ad v) :: lv_args (if (xv_r ad v).category = 2 then i + 2 else i + 1) (as.map (xv_r ad)) = (i, xv_r ad v) :: xv_lr ad (lv_args (if v.category = 2 then i + 2 else i + 1) as)
    rw [xv_rcat, xv_argr ad as]
theorem xv_argv {n : Nat} : ∀ (as : List Value) (i : Nat), (∀ w ∈ as, xv_v n w) → ∀ q ∈ lv_args i as, xv_v n q.2
  | [], _, _, q, hq => by cases hq
  | v :: as, i, h, q, hq => by
    rcases List.mem_cons.mp hq with e | e
    · rw [e]; exact h v List.mem_cons_self
    · exact xv_argv as _ (xv_tl h) q e
theorem xv_entry {y : MethodName} {Pre : List Value → xv_H → Nat → xv_P → Prop} (hy : plainName y.cls = true) (hc : y.cls = M.1) (hini : M.2.2.2.1 = true → y.name = "<init>") (body : ∀ (X : Nat × (Nat → Int32)) (as : List Value) (h : xv_H) (n : Nat) (Post : xv_P), Pre as h n Post → (lg_sl as).length ≤ M.2.2.1 ∧ xv_V X M Post 0 0 0 (lv_args 0 as) [] h n) : xv_K y M Pre := by
  intro l X D ad as h n sz Post hpre
  obtain ⟨hlen, hV⟩ := body X as h n Post hpre
  refine Met.ofW (cc := M.2.1) (maxL := M.2.2.1) (ret := M.2.2.2.2.1) hy rfl ?_
  intro p e s m args below meth c s₁ B hml hv
  obtain ⟨rfl, hsz, hW, hK, hR, hva⟩ := hv
  subst hsz
  have hlocks := B.notSynchronized
  have hx := B.exec
  have hb := B.bytes
  have hr := B.returns
  have hts := atoms_spec (ws := Cond.code y M.2.1 M.2.2.1 M.2.2.2.2.1 :: xv_g) B.pre
  have hown : s.vm.findClass M.1 = some m.cls := by rw [← hc]; exact findClass_of_methodNamed B.named
  have hnm : meth.name = y.name := (name_of_methodNamed B.named B.method).1
  have hl := lv_entry (as.map (xv_r ad)) (n := M.2.2.1) (by rw [xv_slr]; exact hlen)
  rw [lg_entry_eq]
  generalize (lg_sl (as.map (xv_r ad)) ++ List.replicate (M.2.2.1 - (lg_sl (as.map (xv_r ad))).length) Slot.unset).toArray = ls at hl ⊢
  rw [xv_argr] at hl
  refine hV p l e s m _ below meth c D (xv_A ad n s.heap.size) ad n (MQ below (xv_Qc D ad n s.heap.size Post) _ s M.2.2.2.2.2.cells M.2.2.2.2.2.slots (xv_A ad n s.heap.size)) ⟨hx, hb, hml, hown, fun w hw => hts w (List.mem_cons_of_mem _ hw), fun hi => by rw [hnm]; exact hini hi, hK, fun q hq => Or.inr hq, hR, ?_⟩ ad s.heap [] ls ⟨Nat.le_refl _, fun _ _ => rfl, hW, va_S.rf, hl, xv_argv as 0 hva, fun v hv => by cases hv⟩
  intro v ad1 H locs cells slots ls1 pc h1 n1 hret hn1 hext hcl hsl hW1 hvv hS1 hpost
  refine W.widen hcl hsl ?_
  have fin : ∀ t : State, t.heap = H → s.WarmedH t.vm → xv_Qc D ad n s.heap.size Post (as.map (xv_r ad)).toArray s (.returned (v.map (xv_r ad1))) t := fun t ht hwt => ⟨⟨v, ad1, h1, n1, rfl, hn1, hext, by rw [ht]; exact xv_Wm hwt.alike hW1, hvv, hpost⟩, hS1.F ht⟩
  match v, hret, fin with
  | none, hret, fin => exact W.vret hx hb (hr.trans hret.1) fin hS1.2.2 hret.2
  | some (.int x), hret, fin =>
    obtain ⟨ty, h1, h2, h3⟩ := hret
    exact W.zret (v := x) hx hb (hr.trans h1) h2 fin hS1.2.2 h3
  | some (.long x), hret, fin => exact W.lret (v := x) hx hb (hr.trans hret.1) fin hS1.2.2 hret.2
  | some (.ref x), hret, fin =>
    obtain ⟨⟨C, h1⟩, h2⟩ := hret
    exact W.aret (v := .ref (ad1 x)) hx hb (hr.trans h1) (Or.inl ⟨_, rfl⟩) (Or.inr ⟨_, rfl⟩) fin hS1.2.2 h2
  | some .null, hret, fin =>
    obtain ⟨⟨C, h1⟩, h2⟩ := hret
    exact W.aret (v := .null) hx hb (hr.trans h1) (Or.inl ⟨_, rfl⟩) (Or.inl rfl) fin hS1.2.2 h2
/-- what a call needs of its caller's state, for the callee's start -/
theorem xv_pre {p : Program} {l : Launch} {e : Env} {s : State} {m : MethodId} {args : Array Value} {below : List Frame} {meth : Method} {c : Code} {D : va_G} {A : Nat → Prop} {ad0 : Nat → Nat} {n0 : Nat} {Qf : State → Prop} {ad : Nat → Nat} {H : Heap} {locs : List Loc} {ls : Array Slot} (C : xv_C X M Post p l e s m args below meth c D A ad0 n0 Qf) (Q : xv_Q M s D A ad0 n0 ad H locs ls lv st h n) {as : List Value} (has : ∀ w ∈ as, xv_v n w) :
    (∀ q, xv_A ad n H.size q → A q) ∧ FrameBlind (xv_Pc X D ad as h n H.size) ∧ ∀ U : State, U.heap = H → s.WarmedH U.vm → xv_Pc X D ad as h n H.size (as.map (xv_r ad)).toArray U := by
  obtain ⟨hn1, cA, hP, hD, ht, hve⟩ := Q.2.2.1
  have hAA : ∀ q, xv_A ad n H.size q → A q := fun q hq => by
    rcases hq with ⟨i, hi, rfl⟩ | hq
    · exact hD.2 i _ (xv_wget hi)
    · exact C.2.2.2.2.2.2.2.1 q (Nat.le_trans Q.2.2.2.1.1 hq)
  refine ⟨hAA, ?_, ?_⟩
  · rintro a U g mk ⟨q0, q1, q2, q3, q4, q5⟩
    refine ⟨q0, q1, xv_Wm (u := U) (U := U.calling g mk a) (Vm.Alike.refl U.vm) q2, va_K.moved (u := U) (U := U.calling g mk a) (Vm.Alike.refl U.vm) q3, ⟨fun j q hq => va_T.moved (u := U) (U := U.calling g mk a) (Vm.Alike.refl U.vm) (q4.1 j q hq), fun j q hq => va_Z.moved (u := U) (U := U.calling g mk a) (Vm.Alike.refl U.vm) (q4.2.1 j q hq), xv_nwv (u := U) (U := U.calling g mk a) rfl q4.2.2⟩, q5⟩
  · intro U hU hWU
    have hR := C.2.2.2.2.2.2.2.2.1
    have hadj : ∀ j, ad (1000 + j) = ad0 (1000 + j) := fun j => Q.2.1 _ (Or.inr (Nat.le_add_right _ _))
    refine ⟨rfl, by rw [hU], ?_, va_K.moved hWU.alike C.2.2.2.2.2.2.1, ⟨fun j q hq => ?_, fun j q hq => ?_, xv_nwm hWU hR.2.2⟩, has⟩
    · rw [hU]
      refine xv_Wm hWU.alike ⟨hn1, cA, hP, ⟨hD.1, fun k q hk => ?_⟩, ht, hve⟩
      obtain ⟨hk1, rfl⟩ := xv_wlt hk
      exact Or.inl ⟨k, hk1, rfl⟩
    · rw [hU, hadj]
      exact ((va_T.kept (hR.1 j q hq) (fun a h1 h2 => Q.2.2.2.1.2.1 a h1 h2)).narrow hAA).moved hWU.alike
    · rw [hU, hadj]
      exact ((va_Z.kept (hR.2.1 j q hq) (fun a h1 h2 => Q.2.2.2.1.2.1 a h1 h2)).narrow hAA).moved hWU.alike
abbrev xv_pu (v : Option Value) (st : List Value) : List Value := match v with
  | some w => w :: st
  | none => st
/-- behind a call -/
theorem xv_back {p : Program} {l : Launch} {e : Env} {s : State} {m : MethodId} {args : Array Value} {below : List Frame} {meth : Method} {c : Code} {D : va_G} {A : Nat → Prop} {ad0 : Nat → Nat} {n0 : Nat} {Qf : State → Prop} {ad : Nat → Nat} {H : Heap} {locs : List Loc} {ls : Array Slot} {st0 : List Value} {mc ms : Nat} {aa : Array Value} (C : xv_C X M Post p l e s m args below meth c D A ad0 n0 Qf) (Q : xv_Q M s D A ad0 n0 ad H locs ls lv st h n) (hAA : ∀ q, xv_A ad n H.size q → A q)
    (hr : va_Run p l e M.2.2.2.2.2 s m args below meth c H locs cells slots mc ms (F0 m pc ls st0) (st.map (xv_r ad)) (xv_Qc D ad n H.size (fun v h' n' => xv_V X M Post (cells + mc) (slots + ms) (pc + 3) lv (xv_pu v st) h' n') aa) (xv_A ad n H.size)) : W p l e M.2.2.2.2.2 s m args below meth c H locs cells slots Qf (F0 m pc ls st0) := by
  intro T hT Xs
  obtain ⟨v, st₀, t, T', L, h0, X', hL, e1, e2, ⟨⟨w, ad', h', n', hv, hn', hext, hW', hvv, hk⟩, hz, hkp⟩, stp⟩ := hr T hT Xs
  cases hv
  rw [h0] at hz hkp
  have hS' : va_S A s.heap T'.heap (locs ++ L) := ⟨Nat.le_trans Q.2.2.2.1.1 (by rw [e1]; exact hz), fun q h1 h2 => by rw [e1, hkp q (Nat.lt_of_lt_of_le h1 Q.2.2.2.1.1) (fun z => h2 (hAA q z))]; exact Q.2.2.2.1.2.1 q h1 h2, fun q hq => by
      rcases List.mem_append.mp hq with h | h
      · exact Q.2.2.2.1.2.2 q h
      · exact hAA _ (hL q h)⟩
  have hal : t.vm.Alike s.vm := by rw [← e2]; exact X'.warmed.alike.symm
  have hW'' : xv_W D A ad' h' n' s T'.heap := by
    rw [e1]
    obtain ⟨g0, cA, g1, g2, g3, g4⟩ := xv_Wm hal hW'
    exact ⟨g0, cA, g1, ⟨g2.1, fun k q hk => hAA _ (g2.2 k q hk)⟩, g3, g4⟩
  have hst : ∀ v ∈ xv_pu w st, xv_v n' v := by
    cases w with
    | none => exact fun v hv => xv_vmono hn' (Q.2.2.2.2.2.2 v hv)
    | some w => exact xv_cons (hvv w rfl) (fun v hv => xv_vmono hn' (Q.2.2.2.2.2.2 v hv))
  have hfin := hk p l e s m args below meth c D A ad0 n0 Qf C ad' T'.heap (locs ++ L) ls (xv_Qnew Q hn' hext hW'' hS' hst)
  have hl : (xv_pu w st).map (xv_r ad') = (w.map (xv_r ad')).toList ++ st.map (xv_r ad) := by
    cases w with
    | none => exact xv_srext hext Q.2.2.2.2.2.2
    | some w => show xv_r ad' w :: st.map (xv_r ad') = _; rw [xv_srext hext Q.2.2.2.2.2.2]; rfl
  rw [hl] at hfin
  obtain ⟨t2, a1, b1⟩ := hfin T' rfl X'
  exact ⟨t2, stp t2 a1, b1⟩
/-- how the callee's room fits the caller's -/
def xv_fit (R R' : Room) (maxL : Nat) : Prop := R'.frames + 1 ≤ R.frames ∧ 8 + (maxL + 11) + R'.locals ≤ R.locals
def xv_lV (own : String) (i : Nat) (y : MethodName) (M' : xv_M) (k : Nat) : Prop := Cond.methodLink own i y ∈ xv_g ∧ Cond.instanceMethod y ∈ xv_g ∧ Cond.selects M'.1 y y ∈ xv_g ∧ Cond.initialized M'.1 ∈ xv_g ∧ Cond.code y M'.2.1 M'.2.2.1 M'.2.2.2.2.1 ∈ xv_g ∧
  y.cls = M'.1 ∧ y.cls ≠ "java/lang/invoke/MethodHandle" ∧ y.cls ≠ "java/lang/invoke/VarHandle" ∧ (parseMethodDescriptor y.desc).map (fun d => d.parameters.length) = some k
def xv_lS (own : String) (i : Nat) (y : MethodName) (M' : xv_M) (k : Nat) : Prop := (Cond.methodLink own i y ∈ xv_g ∨ Cond.methodLinkNest own i y "ValveShop" ∈ xv_nw) ∧ Cond.static y ∈ xv_g ∧ Cond.initialized y.cls ∈ xv_g ∧ Cond.code y M'.2.1 M'.2.2.1 M'.2.2.2.2.1 ∈ xv_g ∧
  y.cls ≠ "java/lang/invoke/MethodHandle" ∧ y.cls ≠ "java/lang/invoke/VarHandle" ∧ (parseMethodDescriptor y.desc).map (fun d => d.parameters.length) = some k
def xv_lI (own : String) (i : Nat) (y : MethodName) (M' : xv_M) (k : Nat) : Prop := (Cond.methodLink own i y ∈ xv_g ∨ Cond.methodLinkNest own i y "ValveShop" ∈ xv_nw) ∧ Cond.instanceMethod y ∈ xv_g ∧ Cond.initialized y.cls ∈ xv_g ∧ Cond.code y M'.2.1 M'.2.2.1 none ∈ xv_g ∧ M'.2.2.2.2.1 = none ∧ y.name = "<init>" ∧
  y.cls ≠ "java/lang/invoke/MethodHandle" ∧ y.cls ≠ "java/lang/invoke/VarHandle" ∧ (parseMethodDescriptor y.desc).map (fun d => d.parameters.length) = some k
theorem xv_good {y : MethodName} {cc : ByteArray} {k : Nat} {ret : Option FieldType} (h : Cond.code y cc k ret ∈ xv_g) : GoodIn xv_g (Cond.code y cc k ret :: xv_g) := fun w hw => by
  have hm : w ∈ xv_g := (List.mem_cons.mp hw).elim (fun e => e ▸ h) id
  exact ⟨hm, good_of_word (List.mem_filter.mp hm).2⟩
theorem xv_callV {i ci : Nat} {fs : List Value} {y : MethodName} {M' : xv_M} {Pre : List Value → xv_H → Nat → xv_P → Prop} {as st0 : List Value} (hK : xv_K y M' Pre) (hL : xv_lV M.1 i y M' as.length) (hd : decode M.2.1 pc = .ok (.invokevirtual i, 3)) (hst0 : st0 = as.reverse ++ .ref a :: st) (hh : a < n ∧ h a = .inr (ci, fs)) (hci : (xv_cl[ci]?).map (·.1) = some M'.1) (hfit : xv_fit M.2.2.2.2.2 M'.2.2.2.2.2 M'.2.2.1) (hcat : (st.map fun v => v.category).sum ≤ 8) (hcl : cells + M'.2.2.2.2.2.cells ≤ M.2.2.2.2.2.cells) (hsl : slots + M'.2.2.2.2.2.slots ≤ M.2.2.2.2.2.slots) (hq : pc + 3 = q)
    (hpre : Pre (.ref a :: as) h n (fun v h' n' => xv_V X M Post (cells + M'.2.2.2.2.2.cells) (slots + M'.2.2.2.2.2.slots) q lv (xv_pu v st) h' n')) : xv_V X M Post cells slots pc lv st0 h n := by
  subst hq
  subst hst0
  intro p l e s m args below meth c D A ad0 n0 Qf C ad H locs ls Q
  have Q2 : xv_Q M s D A ad0 n0 ad H locs ls lv st h n := ⟨Q.1, Q.2.1, Q.2.2.1, Q.2.2.2.1, Q.2.2.2.2.1, Q.2.2.2.2.2.1, fun v hv => Q.2.2.2.2.2.2 v (List.mem_append_right _ (List.mem_cons_of_mem _ hv))⟩
  obtain ⟨hAA, hfb, hpc⟩ := xv_pre C Q2 (as := .ref a :: as) (fun v hv => (List.mem_cons.mp hv).elim (fun e => by rw [e]; exact Or.inl hh.1) (fun hm => Q.2.2.2.2.2.2 v (List.mem_append_left _ (List.mem_reverse.mpr hm))))
  obtain ⟨hn1, cA, hP, hD, ht, hve⟩ := Q.2.2.1
  have he : (xv_w ad cA h n)[a]? = some (ad a, .inr (ci, fs.map (xv_r ad))) := by rw [xv_wget hh.1, hh.2]; rfl
  obtain ⟨qc, hqc, hqc1⟩ := Option.map_eq_some_iff.mp hci
  obtain ⟨l1, l2, l3, l4, l5, l6⟩ := hL
  refine xv_back (aa := (Value.ref (ad a) :: as.map (xv_r ad)).toArray) C Q2 hAA (va_runV (As := as.map (xv_r ad)) (b := ad a) (C := M'.1) ⟨C.1, C.2.1, C.2.2.1, C.2.2.2.1, C.2.2.2.2.1⟩ (hK l X D ad (.ref a :: as) h n H.size _ hpre) (cwV as.length C.2.2.2.2.1 (fun w hw => ?_) rfl rfl rfl l6 hfit) ⟨hfb, by rw [← hqc1]; exact va_recv C.2.2.2.2.2.2.1 hP hqc he, hpc⟩ rfl (by rw [List.length_map]) Q.2.2.2.2.1.1 (by rw [List.map_append, List.map_reverse]; rfl) (lv_room (by rw [xv_sumc]; exact hcat)) hd ⟨hcl, hsl⟩)
  rcases List.mem_append.mp hw with hw | hw
  · have hw2 : w ∈ xv_g := by
      rcases List.mem_cons.mp hw with rfl | hw
      · exact l1
      rcases List.mem_cons.mp hw with rfl | hw
      · exact l2
      rcases List.mem_cons.mp hw with rfl | hw
      · exact l3
      rcases List.mem_cons.mp hw with rfl | hw
      · exact l4
      cases hw
    exact ⟨hw2, good_of_word (List.mem_filter.mp hw2).2⟩
  · exact xv_good l5 w hw
theorem xv_callS {i : Nat} {y : MethodName} {M' : xv_M} {Pre : List Value → xv_H → Nat → xv_P → Prop} {as st0 : List Value} (hK : xv_K y M' Pre) (hL : xv_lS M.1 i y M' as.length) (hd : decode M.2.1 pc = .ok (.invokestatic i, 3)) (hst0 : st0 = as.reverse ++ st) (hfit : xv_fit M.2.2.2.2.2 M'.2.2.2.2.2 M'.2.2.1) (hcat : (st.map fun v => v.category).sum ≤ 8) (hcl : cells + M'.2.2.2.2.2.cells ≤ M.2.2.2.2.2.cells) (hsl : slots + M'.2.2.2.2.2.slots ≤ M.2.2.2.2.2.slots) (hq : pc + 3 = q)
    (hpre : Pre as h n (fun v h' n' => xv_V X M Post (cells + M'.2.2.2.2.2.cells) (slots + M'.2.2.2.2.2.slots) q lv (xv_pu v st) h' n')) : xv_V X M Post cells slots pc lv st0 h n := by
  subst hq
  subst hst0
  intro p l e s m args below meth c D A ad0 n0 Qf C ad H locs ls Q
  have Q2 : xv_Q M s D A ad0 n0 ad H locs ls lv st h n := ⟨Q.1, Q.2.1, Q.2.2.1, Q.2.2.2.1, Q.2.2.2.2.1, Q.2.2.2.2.2.1, fun v hv => Q.2.2.2.2.2.2 v (List.mem_append_right _ hv)⟩
  obtain ⟨hAA, hfb, hpc⟩ := xv_pre C Q2 (as := as) (fun v hm => Q.2.2.2.2.2.2 v (List.mem_append_left _ (List.mem_reverse.mpr hm)))
  obtain ⟨l1, l2, l3, l4, l5⟩ := hL
  rcases l1 with l1 | l1
  · refine xv_back (aa := (as.map (xv_r ad)).toArray) C Q2 hAA (va_runS (As := as.map (xv_r ad)) ⟨C.1, C.2.1, C.2.2.1, C.2.2.2.1, C.2.2.2.2.1⟩ (hK l X D ad as h n H.size _ hpre) (va_cwS as.length C.2.2.2.2.1 (fun w hw => ?_) rfl rfl rfl l5 hfit) ⟨hfb, hpc⟩ rfl (by rw [List.length_map]) Q.2.2.2.2.1.1 (by rw [List.map_append, List.map_reverse]) (lv_room (by rw [xv_sumc]; exact hcat)) hd ⟨hcl, hsl⟩)
    rcases List.mem_append.mp hw with hw | hw
    · have hw2 : w ∈ xv_g := by
        rcases List.mem_cons.mp hw with rfl | hw
        · exact l1
        rcases List.mem_cons.mp hw with rfl | hw
        · exact l2
        rcases List.mem_cons.mp hw with rfl | hw
        · exact l3
        cases hw
      exact ⟨hw2, good_of_word (List.mem_filter.mp hw2).2⟩
    · exact xv_good l4 w hw
  · exact xv_back (aa := (as.map (xv_r ad)).toArray) C Q2 hAA (va_runSN (As := as.map (xv_r ad)) (host := "ValveShop") ⟨C.1, C.2.1, C.2.2.1, C.2.2.2.1, C.2.2.2.2.1⟩ (hK l X D ad as h n H.size _ hpre) ⟨va_cnB as.length C.2.2.2.2.1 (xv_good l4) rfl rfl rfl (C.2.2.2.2.2.2.2.2.1.2.2 _ l1) (C.2.2.2.2.1 _ l3) l5 hfit, C.2.2.2.2.1 _ l2, trivial⟩ ⟨hfb, hpc⟩ rfl (by rw [List.length_map]) Q.2.2.2.2.1.1 (by rw [List.map_append, List.map_reverse]) (lv_room (by rw [xv_sumc]; exact hcat)) hd ⟨hcl, hsl⟩)
theorem xv_callI {i : Nat} {y : MethodName} {M' : xv_M} {Pre : List Value → xv_H → Nat → xv_P → Prop} {as st0 : List Value} (hK : xv_K y M' Pre) (hL : xv_lI M.1 i y M' as.length) (hd : decode M.2.1 pc = .ok (.invokespecial i, 3)) (hst0 : st0 = as.reverse ++ .ref a :: st) (hfit : xv_fit M.2.2.2.2.2 M'.2.2.2.2.2 M'.2.2.1) (hcat : (st.map fun v => v.category).sum ≤ 8) (hcl : cells + M'.2.2.2.2.2.cells ≤ M.2.2.2.2.2.cells) (hsl : slots + M'.2.2.2.2.2.slots ≤ M.2.2.2.2.2.slots) (hq : pc + 3 = q)
    (hpre : Pre (.ref a :: as) h n (fun v h' n' => xv_V X M Post (cells + M'.2.2.2.2.2.cells) (slots + M'.2.2.2.2.2.slots) q lv (xv_pu v st) h' n')) : xv_V X M Post cells slots pc lv st0 h n := by
  subst hq
  subst hst0
  intro p l e s m args below meth c D A ad0 n0 Qf C ad H locs ls Q
  have Q2 : xv_Q M s D A ad0 n0 ad H locs ls lv st h n := ⟨Q.1, Q.2.1, Q.2.2.1, Q.2.2.2.1, Q.2.2.2.2.1, Q.2.2.2.2.2.1, fun v hv => Q.2.2.2.2.2.2 v (List.mem_append_right _ (List.mem_cons_of_mem _ hv))⟩
  obtain ⟨hAA, hfb, hpc⟩ := xv_pre C Q2 (as := .ref a :: as) (fun v hv => (List.mem_cons.mp hv).elim (fun e => by rw [e]; exact Q.2.2.2.2.2.2 _ (List.mem_append_right _ List.mem_cons_self)) (fun hm => Q.2.2.2.2.2.2 v (List.mem_append_left _ (List.mem_reverse.mpr hm))))
  obtain ⟨l1, l2, l3, l4, l7, l8, l5⟩ := hL
  have hKK := hK l X D ad (.ref a :: as) h n H.size _ hpre
  rw [l7] at hKK
  rcases l1 with l1 | l1
  · exact xv_back (aa := (Value.ref (ad a) :: as.map (xv_r ad)).toArray) C Q2 hAA (va_runI (As := as.map (xv_r ad)) (b := ad a) ⟨C.1, C.2.1, C.2.2.1, C.2.2.2.1, C.2.2.2.2.1⟩ hKK (cwI as.length C.2.2.2.2.1 (xv_good l4) rfl rfl rfl (C.2.2.2.2.1 _ l3) (C.2.2.2.2.1 _ l1) (C.2.2.2.2.1 _ l2) l8 l5 hfit) ⟨hfb, hpc⟩ rfl (by rw [List.length_map]) Q.2.2.2.2.1.1 (by rw [List.map_append, List.map_reverse]; rfl) (lv_room (by rw [xv_sumc]; exact hcat)) hd ⟨hcl, hsl⟩)
  · exact xv_back (aa := (Value.ref (ad a) :: as.map (xv_r ad)).toArray) C Q2 hAA (va_runIN (As := as.map (xv_r ad)) (b := ad a) (host := "ValveShop") ⟨C.1, C.2.1, C.2.2.1, C.2.2.2.1, C.2.2.2.2.1⟩ hKK ⟨va_cnB as.length C.2.2.2.2.1 (xv_good l4) rfl rfl rfl (C.2.2.2.2.2.2.2.2.1.2.2 _ l1) (C.2.2.2.2.1 _ l3) l5 hfit, l8, C.2.2.2.2.1 _ l2⟩ ⟨hfb, hpc⟩ rfl (by rw [List.length_map]) Q.2.2.2.2.1.1 (by rw [List.map_append, List.map_reverse]; rfl) (lv_room (by rw [xv_sumc]; exact hcat)) hd ⟨hcl, hsl⟩)
end XK
end
section
theorem xv_in {w : Cond} (h : w ∈ lw_tbl) (hg : goodWord w = true) : w ∈ xv_g := List.mem_filter.mpr ⟨h, hg⟩
theorem xv_inN {w : Cond} (h : w ∈ lw_tbl) (hg : xv_isn w = true) : w ∈ xv_nw := List.mem_filter.mpr ⟨h, hg⟩
theorem xv_t0 {w : Cond} (i : Nat) (h : (k2_sels lw_privs)[i]? = some w) : w ∈ lw_tbl := List.mem_append_left _ (List.mem_of_getElem? h)
theorem xv_t1 {w : Cond} (i : Nat) (h : tables_1_1[i]? = some w) : w ∈ lw_tbl := List.mem_append_right _ (List.mem_append_left _ (List.mem_of_getElem? h))
theorem xv_t2 {w : Cond} (i : Nat) (h : tables_1_2[i]? = some w) : w ∈ lw_tbl := List.mem_append_right _ (List.mem_append_right _ (List.mem_append_left _ (List.mem_of_getElem? h)))
theorem xv_t3 {w : Cond} (i : Nat) (h : tables_1_3[i]? = some w) : w ∈ lw_tbl := List.mem_append_right _ (List.mem_append_right _ (List.mem_append_right _ (List.mem_append_left _ (List.mem_of_getElem? h))))
theorem xv_t4 {w : Cond} (i : Nat) (h : tables_1_4[i]? = some w) : w ∈ lw_tbl := List.mem_append_right _ (List.mem_append_right _ (List.mem_append_right _ (List.mem_append_right _ (List.mem_append_left _ (List.mem_of_getElem? h)))))
theorem xv_t5 {w : Cond} (i : Nat) (h : tables_1_5[i]? = some w) : w ∈ lw_tbl := List.mem_append_right _ (List.mem_append_right _ (List.mem_append_right _ (List.mem_append_right _ (List.mem_append_right _ (List.mem_append_left _ (List.mem_of_getElem? h))))))
theorem xv_t6 {w : Cond} (i : Nat) (h : tables_1_6[i]? = some w) : w ∈ lw_tbl := List.mem_append_right _ (List.mem_append_right _ (List.mem_append_right _ (List.mem_append_right _ (List.mem_append_right _ (List.mem_append_right _ (List.mem_of_getElem? h))))))
theorem xv_inC {C : String} {T : u_T} {N : Nat} (ps : List Nat) (hp : u_ws C T N = ps.filterMap (fun i => lw_tbl[i]?)) (hg : (u_ws C T N).all goodWord = true) : ∀ w ∈ u_ws C T N, w ∈ xv_g := fun w hw => List.mem_filter.mpr ⟨by
  rw [hp] at hw
  obtain ⟨i, -, hi⟩ := List.mem_filterMap.mp hw
  exact List.mem_of_getElem? hi, List.all_eq_true.mp hg w hw⟩
theorem cw_X0 : ∀ w ∈ u_ws RX0 TX0 3, w ∈ xv_g := xv_inC [95, 97, 99] (by decide +kernel) (by decide +kernel)
theorem cw_X1 : ∀ w ∈ u_ws RX1 TX1 6, w ∈ xv_g := xv_inC [245, 247, 249, 251, 253, 255] (by decide +kernel) (by decide +kernel)
theorem cw_X2 : ∀ w ∈ u_ws RX2 TX2 4, w ∈ xv_g := xv_inC [115, 117, 119, 121] (by decide +kernel) (by decide +kernel)
theorem cw_X3 : ∀ w ∈ u_ws RX3 TX3 4, w ∈ xv_g := xv_inC [139, 141, 143, 145] (by decide +kernel) (by decide +kernel)
theorem cw_X4 : ∀ w ∈ u_ws RX4 TX4 3, w ∈ xv_g := xv_inC [193, 195, 197] (by decide +kernel) (by decide +kernel)
theorem cw_X5 : ∀ w ∈ u_ws RX5 TX5 7, w ∈ xv_g := xv_inC [167, 169, 171, 173, 175, 177, 179] (by decide +kernel) (by decide +kernel)
theorem cw_X6 : ∀ w ∈ u_ws RX6 TX6 7, w ∈ xv_g := xv_inC [216, 218, 220, 222, 224, 226, 228] (by decide +kernel) (by decide +kernel)
theorem cw_X7 : ∀ w ∈ u_ws RX7 TX7 4, w ∈ xv_g := xv_inC [271, 273, 275, 277] (by decide +kernel) (by decide +kernel)
theorem cw_X8 : ∀ w ∈ u_ws RX8 TX8 13, w ∈ xv_g := xv_inC [293, 295, 297, 299, 301, 303, 305, 307, 309, 311, 313, 315, 317] (by decide +kernel) (by decide +kernel)
theorem cw_X9 : ∀ w ∈ u_ws RX9 TX9 33, w ∈ xv_g := xv_inC [892, 894, 896, 898, 900, 902, 904, 906, 908, 910, 912, 914, 916, 918, 920, 922, 924, 926, 928, 930, 932, 934, 936, 938, 940, 942, 944, 946, 948, 950, 952, 954, 956] (by decide +kernel) (by decide +kernel)
abbrev mX0_init : xv_M := (RX0, cX0_init, 1, true, none, { frames := 1, cells := 1, slots := 11, locals := 45 })
abbrev mX0_build : xv_M := (RX0, cX0_build, 4, false, none, { frames := 2, cells := 0, slots := 0, locals := 90 })
abbrev mX0_resemble : xv_M := (RX0, cX0_resemble, 2, false, none, { frames := 1, cells := 0, slots := 0, locals := 45 })
abbrev mX0_late : xv_M := (RX0, cX0_late, 1, false, (some .int), { frames := 0, cells := 0, slots := 0, locals := 0 })
abbrev mX0_leak : xv_M := (RX0, cX0_leak, 1, false, (some .int), { frames := 0, cells := 0, slots := 0, locals := 0 })
abbrev mX0_choke : xv_M := (RX0, cX0_choke, 1, false, (some .int), { frames := 0, cells := 0, slots := 0, locals := 0 })
abbrev mX0_stroke : xv_M := (RX0, cX0_stroke, 5, false, (some .int), { frames := 1, cells := 0, slots := 0, locals := 45 })
abbrev mX0_swing : xv_M := (RX0, cX0_swing, 6, false, (some .int), { frames := 1, cells := 0, slots := 0, locals := 45 })
abbrev mX0_hanging : xv_M := (RX0, cX0_hanging, 2, false, (some .int), { frames := 0, cells := 0, slots := 0, locals := 0 })
abbrev mX0_travel : xv_M := (RX0, cX0_travel, 3, false, (some .int), { frames := 2, cells := 0, slots := 0, locals := 90 })
abbrev mX0_opening : xv_M := (RX0, cX0_opening, 5, false, (some .int), { frames := 1, cells := 0, slots := 0, locals := 45 })
abbrev mX0_lead : xv_M := (RX0, cX0_lead, 1, false, (some .int), { frames := 3, cells := 0, slots := 0, locals := 135 })
abbrev mX1_init : xv_M := (RX1, cX1_init, 1, true, none, { frames := 1, cells := 0, slots := 0, locals := 45 })
abbrev mX1_burn : xv_M := (RX1, cX1_burn, 2, false, none, { frames := 1, cells := 0, slots := 0, locals := 45 })
abbrev mX1_give : xv_M := (RX1, cX1_give, 3, false, none, { frames := 1, cells := 0, slots := 0, locals := 45 })
abbrev mX1_blow : xv_M := (RX1, cX1_blow, 2, false, none, { frames := 1, cells := 0, slots := 0, locals := 45 })
abbrev mX1_told : xv_M := (RX1, cX1_told, 2, false, (some .int), { frames := 0, cells := 0, slots := 0, locals := 0 })
abbrev mX2_init : xv_M := (RX2, cX2_init, 1, true, none, { frames := 1, cells := 1, slots := 48, locals := 45 })
abbrev mX2_take : xv_M := (RX2, cX2_take, 4, false, none, { frames := 2, cells := 0, slots := 0, locals := 90 })
abbrev mX2_readable : xv_M := (RX2, cX2_readable, 3, false, (some .int), { frames := 0, cells := 0, slots := 0, locals := 0 })
abbrev mX2_apart : xv_M := (RX2, cX2_apart, 4, false, (some .int), { frames := 1, cells := 0, slots := 0, locals := 45 })
abbrev mX3_init : xv_M := (RX3, cX3_init, 1, true, none, { frames := 1, cells := 8, slots := 343, locals := 45 })
abbrev mX3_firstEvent : xv_M := (RX3, cX3_firstEvent, 5, false, (some .int), { frames := 3, cells := 0, slots := 0, locals := 135 })
abbrev mX3_unlike : xv_M := (RX3, cX3_unlike, 2, false, (some .int), { frames := 4, cells := 0, slots := 0, locals := 180 })
abbrev mX3_seekSetting : xv_M := (RX3, cX3_seekSetting, 6, false, none, { frames := 4, cells := 0, slots := 0, locals := 180 })
abbrev mX3_fillSwings : xv_M := (RX3, cX3_fillSwings, 3, false, none, { frames := 3, cells := 0, slots := 0, locals := 135 })
abbrev mX3_fillSwing : xv_M := (RX3, cX3_fillSwing, 5, false, none, { frames := 2, cells := 0, slots := 0, locals := 90 })
abbrev mX3_unlikeBelow : xv_M := (RX3, cX3_unlikeBelow, 7, false, (some .int), { frames := 3, cells := 0, slots := 0, locals := 135 })
abbrev mX3_offHalfTurn : xv_M := (RX3, cX3_offHalfTurn, 3, false, (some .int), { frames := 1, cells := 0, slots := 0, locals := 45 })
abbrev mX3_firstEventOn : xv_M := (RX3, cX3_firstEventOn, 12, false, (some .int), { frames := 2, cells := 0, slots := 0, locals := 90 })
abbrev mX4_init : xv_M := (RX4, cX4_init, 1, true, none, { frames := 1, cells := 1, slots := 13, locals := 45 })
abbrev mX4_misfitBy : xv_M := (RX4, cX4_misfitBy, 5, false, (some .int), { frames := 4, cells := 0, slots := 0, locals := 180 })
abbrev mX4_seek : xv_M := (RX4, cX4_seek, 5, false, none, { frames := 5, cells := 0, slots := 0, locals := 225 })
abbrev mX4_doubt : xv_M := (RX4, cX4_doubt, 4, false, (some .int), { frames := 0, cells := 0, slots := 0, locals := 0 })
abbrev mX5_init : xv_M := (RX5, cX5_init, 1, true, none, { frames := 1, cells := 4, slots := 192, locals := 45 })
abbrev mX5_draw : xv_M := (RX5, cX5_draw, 16, false, none, { frames := 3, cells := 0, slots := 0, locals := 135 })
abbrev mX5_measure : xv_M := (RX5, cX5_measure, 10, false, none, { frames := 4, cells := 0, slots := 0, locals := 180 })
abbrev mX5_mean : xv_M := (RX5, cX5_mean, 3, false, (some .int), { frames := 0, cells := 0, slots := 0, locals := 0 })
abbrev mX5_peak : xv_M := (RX5, cX5_peak, 3, false, (some .int), { frames := 1, cells := 0, slots := 0, locals := 45 })
abbrev mX5_loop : xv_M := (RX5, cX5_loop, 3, false, (some .int), { frames := 0, cells := 0, slots := 0, locals := 0 })
abbrev mX5_prepare : xv_M := (RX5, cX5_prepare, 8, false, none, { frames := 2, cells := 0, slots := 0, locals := 90 })
abbrev mX5_pushed : xv_M := (RX5, cX5_pushed, 5, false, (some .long), { frames := 0, cells := 0, slots := 0, locals := 0 })
abbrev mX6_init : xv_M := (RX6, cX6_init, 1, true, none, { frames := 1, cells := 16, slots := 11140, locals := 45 })
abbrev mX6_takesRoad : xv_M := (RX6, cX6_takesRoad, 6, false, (some .boolean), { frames := 2, cells := 0, slots := 0, locals := 90 })
abbrev mX6_tryOut : xv_M := (RX6, cX6_tryOut, 5, false, none, { frames := 5, cells := 0, slots := 0, locals := 225 })
abbrev mX6_choose : xv_M := (RX6, cX6_choose, 5, false, (some .int), { frames := 3, cells := 0, slots := 0, locals := 135 })
abbrev mX6_weigh : xv_M := (RX6, cX6_weigh, 9, false, none, { frames := 2, cells := 0, slots := 0, locals := 90 })
abbrev mX6_keepBest : xv_M := (RX6, cX6_keepBest, 6, false, (some .int), { frames := 2, cells := 0, slots := 0, locals := 90 })
abbrev mX6_lasting : xv_M := (RX6, cX6_lasting, 7, false, (some .int), { frames := 1, cells := 0, slots := 0, locals := 45 })
abbrev mX6_burning : xv_M := (RX6, cX6_burning, 3, false, (some .int), { frames := 0, cells := 0, slots := 0, locals := 0 })
abbrev mX6_notchOf : xv_M := (RX6, cX6_notchOf, 1, false, (some .int), { frames := 0, cells := 0, slots := 0, locals := 0 })
abbrev mX6_regulatorOf : xv_M := (RX6, cX6_regulatorOf, 1, false, (some .int), { frames := 0, cells := 0, slots := 0, locals := 0 })
abbrev mX7_init : xv_M := (RX7, cX7_init, 1, true, none, { frames := 1, cells := 1, slots := 60, locals := 45 })
abbrev mX7_begin : xv_M := (RX7, cX7_begin, 3, false, none, { frames := 1, cells := 0, slots := 0, locals := 45 })
abbrev mX7_has : xv_M := (RX7, cX7_has, 3, false, (some .boolean), { frames := 0, cells := 0, slots := 0, locals := 0 })
abbrev mX7_read : xv_M := (RX7, cX7_read, 2, false, (some .int), { frames := 1, cells := 0, slots := 0, locals := 45 })
abbrev mX7_write : xv_M := (RX7, cX7_write, 3, false, (some .int), { frames := 1, cells := 0, slots := 0, locals := 45 })
abbrev mX7_holdsWithin : xv_M := (RX7, cX7_holdsWithin, 6, false, (some .boolean), { frames := 2, cells := 0, slots := 0, locals := 90 })
abbrev mX8_init : xv_M := (RX8, cX8_init, 2, true, none, { frames := 2, cells := 82, slots := 12725, locals := 90 })
abbrev mX8_sheet : xv_M := (RX8, cX8_sheet, 4, false, (some .int), { frames := 2, cells := 0, slots := 0, locals := 90 })
abbrev mX8_set : xv_M := (RX8, cX8_set, 5, false, (some .int), { frames := 2, cells := 0, slots := 0, locals := 90 })
abbrev mX8_copy : xv_M := (RX8, cX8_copy, 8, false, (some .int), { frames := 2, cells := 0, slots := 0, locals := 90 })
abbrev mX8_drop : xv_M := (RX8, cX8_drop, 3, false, (some .int), { frames := 2, cells := 0, slots := 0, locals := 90 })
abbrev mX8_engine : xv_M := (RX8, cX8_engine, 6, false, (some .int), { frames := 3, cells := 0, slots := 0, locals := 135 })
abbrev mX8_adjust : xv_M := (RX8, cX8_adjust, 6, false, (some .int), { frames := 3, cells := 0, slots := 0, locals := 135 })
abbrev mX8_sicken : xv_M := (RX8, cX8_sicken, 5, false, (some .int), { frames := 3, cells := 0, slots := 0, locals := 135 })
abbrev mX8_twin : xv_M := (RX8, cX8_twin, 4, false, (some .int), { frames := 3, cells := 0, slots := 0, locals := 135 })
abbrev mX8_clear : xv_M := (RX8, cX8_clear, 3, false, (some .int), { frames := 3, cells := 0, slots := 0, locals := 135 })
abbrev mX8_number : xv_M := (RX8, cX8_number, 4, false, (some .int), { frames := 3, cells := 0, slots := 0, locals := 135 })
abbrev mX8_piston : xv_M := (RX8, cX8_piston, 4, false, (some .int), { frames := 3, cells := 0, slots := 0, locals := 135 })
abbrev mX8_valve : xv_M := (RX8, cX8_valve, 5, false, (some .int), { frames := 3, cells := 0, slots := 0, locals := 135 })
abbrev mX8_open : xv_M := (RX8, cX8_open, 7, false, (some .int), { frames := 3, cells := 0, slots := 0, locals := 135 })
abbrev mX8_event : xv_M := (RX8, cX8_event, 6, false, (some .int), { frames := 4, cells := 0, slots := 0, locals := 180 })
abbrev mX8_valves : xv_M := (RX8, cX8_valves, 4, false, (some .int), { frames := 5, cells := 0, slots := 0, locals := 225 })
abbrev mX8_setting : xv_M := (RX8, cX8_setting, 4, false, (some .int), { frames := 5, cells := 0, slots := 0, locals := 225 })
abbrev mX8_tune : xv_M := (RX8, cX8_tune, 4, false, (some .int), { frames := 5, cells := 0, slots := 0, locals := 225 })
abbrev mX8_card : xv_M := (RX8, cX8_card, 8, false, (some .int), { frames := 4, cells := 0, slots := 0, locals := 180 })
abbrev mX8_look : xv_M := (RX8, cX8_look, 8, false, (some .int), { frames := 4, cells := 0, slots := 0, locals := 180 })
abbrev mX8_work : xv_M := (RX8, cX8_work, 7, false, (some .int), { frames := 5, cells := 0, slots := 0, locals := 225 })
abbrev mX8_find : xv_M := (RX8, cX8_find, 8, false, (some .int), { frames := 3, cells := 0, slots := 0, locals := 135 })
abbrev mX8_misfit : xv_M := (RX8, cX8_misfit, 5, false, (some .int), { frames := 5, cells := 0, slots := 0, locals := 225 })
abbrev mX8_named : xv_M := (RX8, cX8_named, 6, false, (some .int), { frames := 6, cells := 0, slots := 0, locals := 270 })
abbrev mX8_whose : xv_M := (RX8, cX8_whose, 6, false, (some .int), { frames := 5, cells := 0, slots := 0, locals := 225 })
abbrev mX8_next : xv_M := (RX8, cX8_next, 6, false, (some .int), { frames := 5, cells := 0, slots := 0, locals := 225 })
abbrev mX8_run : xv_M := (RX8, cX8_run, 9, false, (some .int), { frames := 6, cells := 0, slots := 0, locals := 270 })
abbrev mX8_plan : xv_M := (RX8, cX8_plan, 3, false, (some .int), { frames := 1, cells := 0, slots := 0, locals := 45 })
abbrev mX8_stoke : xv_M := (RX8, cX8_stoke, 2, false, (some .int), { frames := 1, cells := 0, slots := 0, locals := 45 })
abbrev mX8_minute : xv_M := (RX8, cX8_minute, 5, false, (some .int), { frames := 5, cells := 0, slots := 0, locals := 225 })
abbrev mX8_fire : xv_M := (RX8, cX8_fire, 2, false, (some .int), { frames := 1, cells := 0, slots := 0, locals := 45 })
abbrev mX8_kind : xv_M := (RX8, cX8_kind, 3, false, (some .int), { frames := 6, cells := 0, slots := 0, locals := 270 })
abbrev mX8_is : xv_M := (RX8, cX8_is, 4, false, (some .int), { frames := 6, cells := 0, slots := 0, locals := 270 })
abbrev mX8_as : xv_M := (RX8, cX8_as, 4, false, (some .int), { frames := 6, cells := 0, slots := 0, locals := 270 })
abbrev mX8_ask : xv_M := (RX8, cX8_ask, 5, false, (some .int), { frames := 8, cells := 0, slots := 0, locals := 360 })
abbrev mX8_trace : xv_M := (RX8, cX8_trace, 2, false, (some .int), { frames := 1, cells := 0, slots := 0, locals := 45 })
abbrev mX8_count : xv_M := (RX8, cX8_count, 2, false, (some .int), { frames := 7, cells := 0, slots := 0, locals := 315 })
abbrev mX8_status : xv_M := (RX8, cX8_status, 1, false, (some .int), { frames := 0, cells := 0, slots := 0, locals := 0 })
abbrev mX8_within : xv_M := (RX8, cX8_within, 3, false, (some .boolean), { frames := 0, cells := 0, slots := 0, locals := 0 })
abbrev mX8_isPlace : xv_M := (RX8, cX8_isPlace, 1, false, (some .boolean), { frames := 1, cells := 0, slots := 0, locals := 45 })
abbrev mX8_isNumber : xv_M := (RX8, cX8_isNumber, 2, false, (some .boolean), { frames := 1, cells := 0, slots := 0, locals := 45 })
abbrev mX8_isSickness : xv_M := (RX8, cX8_isSickness, 1, false, (some .boolean), { frames := 1, cells := 0, slots := 0, locals := 45 })
abbrev mX8_isNotch : xv_M := (RX8, cX8_isNotch, 1, false, (some .boolean), { frames := 1, cells := 0, slots := 0, locals := 45 })
abbrev mX8_isEnd : xv_M := (RX8, cX8_isEnd, 1, false, (some .boolean), { frames := 1, cells := 0, slots := 0, locals := 45 })
abbrev mX8_isTurned : xv_M := (RX8, cX8_isTurned, 1, false, (some .boolean), { frames := 1, cells := 0, slots := 0, locals := 45 })
abbrev mX8_isBoiler : xv_M := (RX8, cX8_isBoiler, 1, false, (some .boolean), { frames := 1, cells := 0, slots := 0, locals := 45 })
abbrev mX8_isRegulator : xv_M := (RX8, cX8_isRegulator, 1, false, (some .boolean), { frames := 1, cells := 0, slots := 0, locals := 45 })
abbrev mX8_found : xv_M := (RX8, cX8_found, 2, false, (some .int), { frames := 0, cells := 0, slots := 0, locals := 0 })
abbrev mX8_answered : xv_M := (RX8, cX8_answered, 2, false, (some .int), { frames := 0, cells := 0, slots := 0, locals := 0 })
abbrev mX8_sheetAt : xv_M := (RX8, cX8_sheetAt, 3, false, (some (.object "ValveShop$Sheet")), { frames := 1, cells := 0, slots := 0, locals := 45 })
abbrev mX8_engineAt : xv_M := (RX8, cX8_engineAt, 3, false, (some (.object "ValveShop$Engine")), { frames := 2, cells := 0, slots := 0, locals := 90 })
abbrev mX8_cosine : xv_M := (RX8, cX8_cosine, 2, false, (some .int), { frames := 0, cells := 0, slots := 0, locals := 0 })
abbrev mX8_share : xv_M := (RX8, cX8_share, 3, false, (some .int), { frames := 0, cells := 0, slots := 0, locals := 0 })
abbrev mX8_nearest : xv_M := (RX8, cX8_nearest, 10, false, (some .int), { frames := 4, cells := 0, slots := 0, locals := 180 })
abbrev mX8_farthestApart : xv_M := (RX8, cX8_farthestApart, 8, false, (some .int), { frames := 4, cells := 0, slots := 0, locals := 180 })
abbrev mX8_toldKind : xv_M := (RX8, cX8_toldKind, 2, false, (some .int), { frames := 5, cells := 0, slots := 0, locals := 225 })
abbrev mX8_belongs : xv_M := (RX8, cX8_belongs, 2, false, (some .boolean), { frames := 0, cells := 0, slots := 0, locals := 0 })
abbrev mX8_askWorth : xv_M := (RX8, cX8_askWorth, 3, false, (some .int), { frames := 5, cells := 0, slots := 0, locals := 225 })
abbrev mX8_worthOfAny : xv_M := (RX8, cX8_worthOfAny, 2, false, (some .int), { frames := 2, cells := 0, slots := 0, locals := 90 })
abbrev mX8_worthOfSound : xv_M := (RX8, cX8_worthOfSound, 2, false, (some .int), { frames := 4, cells := 0, slots := 0, locals := 180 })
abbrev mX8_worthOfSick : xv_M := (RX8, cX8_worthOfSick, 2, false, (some .int), { frames := 3, cells := 0, slots := 0, locals := 135 })
abbrev mX8_askMark : xv_M := (RX8, cX8_askMark, 3, false, (some .int), { frames := 7, cells := 0, slots := 0, locals := 315 })
abbrev mX8_markOfAny : xv_M := (RX8, cX8_markOfAny, 2, false, (some .int), { frames := 2, cells := 0, slots := 0, locals := 90 })
abbrev mX8_markOfEven : xv_M := (RX8, cX8_markOfEven, 2, false, (some .int), { frames := 3, cells := 0, slots := 0, locals := 135 })
abbrev mX8_markOfSick : xv_M := (RX8, cX8_markOfSick, 3, false, (some .int), { frames := 6, cells := 0, slots := 0, locals := 270 })
abbrev mX8_leave : xv_M := (RX8, cX8_leave, 2, false, none, { frames := 1, cells := 0, slots := 0, locals := 45 })
abbrev mX8_countSheets : xv_M := (RX8, cX8_countSheets, 3, false, (some .int), { frames := 2, cells := 0, slots := 0, locals := 90 })
abbrev mX8_countEngines : xv_M := (RX8, cX8_countEngines, 5, false, (some .int), { frames := 6, cells := 0, slots := 0, locals := 270 })
abbrev mX8_countFoundCards : xv_M := (RX8, cX8_countFoundCards, 3, false, (some .int), { frames := 0, cells := 0, slots := 0, locals := 0 })
abbrev mX9_init : xv_M := (RX9, cX9_init, 1, true, none, { frames := 1, cells := 20, slots := 12552, locals := 45 })
abbrev mX9_in : xv_M := (RX9, cX9_in, 6, false, (some .boolean), { frames := 0, cells := 0, slots := 0, locals := 0 })
abbrev mX9_found : xv_M := (RX9, cX9_found, 2, false, (some .int), { frames := 0, cells := 0, slots := 0, locals := 0 })
abbrev mX9_isSheet : xv_M := (RX9, cX9_isSheet, 1, false, (some .boolean), { frames := 1, cells := 0, slots := 0, locals := 45 })
abbrev mX9_sheet : xv_M := (RX9, cX9_sheet, 5, false, (some .int), { frames := 2, cells := 0, slots := 0, locals := 90 })
abbrev mX9_set : xv_M := (RX9, cX9_set, 4, false, (some .int), { frames := 2, cells := 0, slots := 0, locals := 90 })
abbrev mX9_copy : xv_M := (RX9, cX9_copy, 9, false, (some .int), { frames := 2, cells := 0, slots := 0, locals := 90 })
abbrev mX9_drop : xv_M := (RX9, cX9_drop, 2, false, (some .int), { frames := 2, cells := 0, slots := 0, locals := 90 })
abbrev mX9_isPlace : xv_M := (RX9, cX9_isPlace, 1, false, (some .boolean), { frames := 1, cells := 0, slots := 0, locals := 45 })
abbrev mX9_isNumber : xv_M := (RX9, cX9_isNumber, 2, false, (some .boolean), { frames := 1, cells := 0, slots := 0, locals := 45 })
abbrev mX9_stands : xv_M := (RX9, cX9_stands, 2, false, (some .int), { frames := 1, cells := 0, slots := 0, locals := 45 })
abbrev mX9_engine : xv_M := (RX9, cX9_engine, 5, false, (some .int), { frames := 2, cells := 0, slots := 0, locals := 90 })
abbrev mX9_adjust : xv_M := (RX9, cX9_adjust, 6, false, (some .int), { frames := 2, cells := 0, slots := 0, locals := 90 })
abbrev mX9_sicken : xv_M := (RX9, cX9_sicken, 5, false, (some .int), { frames := 2, cells := 0, slots := 0, locals := 90 })
abbrev mX9_like : xv_M := (RX9, cX9_like, 4, false, none, { frames := 0, cells := 0, slots := 0, locals := 0 })
abbrev mX9_twin : xv_M := (RX9, cX9_twin, 4, false, (some .int), { frames := 2, cells := 0, slots := 0, locals := 90 })
abbrev mX9_clear : xv_M := (RX9, cX9_clear, 3, false, (some .int), { frames := 2, cells := 0, slots := 0, locals := 90 })
abbrev mX9_number : xv_M := (RX9, cX9_number, 4, false, (some .int), { frames := 2, cells := 0, slots := 0, locals := 90 })
abbrev mX9_round : xv_M := (RX9, cX9_round, 2, false, (some .int), { frames := 0, cells := 0, slots := 0, locals := 0 })
abbrev mX9_along : xv_M := (RX9, cX9_along, 3, false, (some .int), { frames := 1, cells := 0, slots := 0, locals := 45 })
abbrev mX9_across : xv_M := (RX9, cX9_across, 2, false, (some .int), { frames := 2, cells := 0, slots := 0, locals := 90 })
abbrev mX9_pistonAt : xv_M := (RX9, cX9_pistonAt, 4, false, (some .int), { frames := 3, cells := 0, slots := 0, locals := 135 })
abbrev mX9_lateOf : xv_M := (RX9, cX9_lateOf, 1, false, (some .int), { frames := 0, cells := 0, slots := 0, locals := 0 })
abbrev mX9_leakOf : xv_M := (RX9, cX9_leakOf, 1, false, (some .int), { frames := 0, cells := 0, slots := 0, locals := 0 })
abbrev mX9_chokedOf : xv_M := (RX9, cX9_chokedOf, 1, false, (some .int), { frames := 0, cells := 0, slots := 0, locals := 0 })
abbrev mX9_valveAt : xv_M := (RX9, cX9_valveAt, 7, false, (some .int), { frames := 3, cells := 0, slots := 0, locals := 135 })
abbrev mX9_openBy : xv_M := (RX9, cX9_openBy, 8, false, (some .int), { frames := 0, cells := 0, slots := 0, locals := 0 })
abbrev mX9_openAt : xv_M := (RX9, cX9_openAt, 6, false, (some .int), { frames := 4, cells := 0, slots := 0, locals := 180 })
abbrev mX9_eventOf : xv_M := (RX9, cX9_eventOf, 9, false, (some .int), { frames := 5, cells := 0, slots := 0, locals := 225 })
abbrev mX9_isNotch : xv_M := (RX9, cX9_isNotch, 1, false, (some .boolean), { frames := 1, cells := 0, slots := 0, locals := 45 })
abbrev mX9_piston : xv_M := (RX9, cX9_piston, 4, false, (some .int), { frames := 4, cells := 0, slots := 0, locals := 180 })
abbrev mX9_valve : xv_M := (RX9, cX9_valve, 5, false, (some .int), { frames := 4, cells := 0, slots := 0, locals := 180 })
abbrev mX9_open : xv_M := (RX9, cX9_open, 7, false, (some .int), { frames := 5, cells := 0, slots := 0, locals := 225 })
abbrev mX9_event : xv_M := (RX9, cX9_event, 6, false, (some .int), { frames := 6, cells := 0, slots := 0, locals := 270 })
abbrev mX9_unlike : xv_M := (RX9, cX9_unlike, 7, false, (some .int), { frames := 6, cells := 0, slots := 0, locals := 270 })
abbrev mX9_leadOf : xv_M := (RX9, cX9_leadOf, 2, false, (some .int), { frames := 5, cells := 0, slots := 0, locals := 225 })
abbrev mX9_valves : xv_M := (RX9, cX9_valves, 4, false, (some .int), { frames := 7, cells := 0, slots := 0, locals := 315 })
abbrev mX9_settle : xv_M := (RX9, cX9_settle, 6, false, (some .int), { frames := 7, cells := 0, slots := 0, locals := 315 })
abbrev mX9_setting : xv_M := (RX9, cX9_setting, 5, false, (some .int), { frames := 8, cells := 0, slots := 0, locals := 360 })
abbrev mX9_tune : xv_M := (RX9, cX9_tune, 5, false, (some .int), { frames := 8, cells := 0, slots := 0, locals := 360 })
abbrev mX9_room : xv_M := (RX9, cX9_room, 5, false, (some .int), { frames := 4, cells := 0, slots := 0, locals := 180 })
abbrev mX9_draw : xv_M := (RX9, cX9_draw, 16, false, none, { frames := 5, cells := 0, slots := 0, locals := 225 })
abbrev mX9_isTurn : xv_M := (RX9, cX9_isTurn, 3, false, (some .boolean), { frames := 2, cells := 0, slots := 0, locals := 90 })
abbrev mX9_card : xv_M := (RX9, cX9_card, 8, false, (some .int), { frames := 6, cells := 0, slots := 0, locals := 270 })
abbrev mX9_look : xv_M := (RX9, cX9_look, 12, false, (some .int), { frames := 6, cells := 0, slots := 0, locals := 270 })
abbrev mX9_workOf : xv_M := (RX9, cX9_workOf, 10, false, (some .int), { frames := 6, cells := 0, slots := 0, locals := 270 })
abbrev mX9_drinkOf : xv_M := (RX9, cX9_drinkOf, 7, false, (some .int), { frames := 6, cells := 0, slots := 0, locals := 270 })
abbrev mX9_work : xv_M := (RX9, cX9_work, 7, false, (some .int), { frames := 7, cells := 0, slots := 0, locals := 315 })
abbrev mX9_isCard : xv_M := (RX9, cX9_isCard, 5, false, (some .boolean), { frames := 1, cells := 0, slots := 0, locals := 45 })
abbrev mX9_find : xv_M := (RX9, cX9_find, 8, false, (some .int), { frames := 2, cells := 0, slots := 0, locals := 90 })
abbrev mX9_size : xv_M := (RX9, cX9_size, 1, false, (some .int), { frames := 0, cells := 0, slots := 0, locals := 0 })
abbrev mX9_misfitOf : xv_M := (RX9, cX9_misfitOf, 6, false, (some .int), { frames := 6, cells := 0, slots := 0, locals := 270 })
abbrev mX9_misfit : xv_M := (RX9, cX9_misfit, 3, false, (some .int), { frames := 7, cells := 0, slots := 0, locals := 315 })
abbrev mX9_named : xv_M := (RX9, cX9_named, 7, false, (some .int), { frames := 7, cells := 0, slots := 0, locals := 315 })
abbrev mX9_whose : xv_M := (RX9, cX9_whose, 13, false, (some .int), { frames := 6, cells := 0, slots := 0, locals := 270 })
abbrev mX9_next : xv_M := (RX9, cX9_next, 11, false, (some .int), { frames := 6, cells := 0, slots := 0, locals := 270 })
abbrev mX9_run : xv_M := (RX9, cX9_run, 14, false, (some .int), { frames := 7, cells := 0, slots := 0, locals := 315 })
abbrev mX9_plan : xv_M := (RX9, cX9_plan, 3, false, (some .int), { frames := 1, cells := 0, slots := 0, locals := 45 })
abbrev mX9_stoke : xv_M := (RX9, cX9_stoke, 2, false, (some .int), { frames := 1, cells := 0, slots := 0, locals := 45 })
abbrev mX9_minute : xv_M := (RX9, cX9_minute, 7, false, (some .int), { frames := 7, cells := 0, slots := 0, locals := 315 })
abbrev mX9_fire : xv_M := (RX9, cX9_fire, 2, false, (some .int), { frames := 0, cells := 0, slots := 0, locals := 0 })
abbrev mX9_kindOf : xv_M := (RX9, cX9_kindOf, 2, false, (some .int), { frames := 7, cells := 0, slots := 0, locals := 315 })
abbrev mX9_isOf : xv_M := (RX9, cX9_isOf, 2, false, (some .boolean), { frames := 0, cells := 0, slots := 0, locals := 0 })
abbrev mX9_kind : xv_M := (RX9, cX9_kind, 3, false, (some .int), { frames := 8, cells := 0, slots := 0, locals := 360 })
abbrev mX9_is : xv_M := (RX9, cX9_is, 3, false, (some .int), { frames := 8, cells := 0, slots := 0, locals := 360 })
abbrev mX9_as : xv_M := (RX9, cX9_as, 4, false, (some .int), { frames := 8, cells := 0, slots := 0, locals := 360 })
abbrev mX9_began : xv_M := (RX9, cX9_began, 2, false, none, { frames := 0, cells := 0, slots := 0, locals := 0 })
abbrev mX9_sickWorth : xv_M := (RX9, cX9_sickWorth, 4, false, (some .int), { frames := 1, cells := 0, slots := 0, locals := 45 })
abbrev mX9_marked : xv_M := (RX9, cX9_marked, 4, false, (some .int), { frames := 2, cells := 0, slots := 0, locals := 90 })
abbrev mX9_worth : xv_M := (RX9, cX9_worth, 4, false, (some .int), { frames := 6, cells := 0, slots := 0, locals := 270 })
abbrev mX9_ask : xv_M := (RX9, cX9_ask, 4, false, (some .int), { frames := 8, cells := 0, slots := 0, locals := 360 })
abbrev mX9_trace : xv_M := (RX9, cX9_trace, 2, false, (some .int), { frames := 1, cells := 0, slots := 0, locals := 45 })
abbrev mX9_count : xv_M := (RX9, cX9_count, 4, false, (some .int), { frames := 8, cells := 0, slots := 0, locals := 360 })
abbrev mX9_status : xv_M := (RX9, cX9_status, 1, false, (some .int), { frames := 0, cells := 0, slots := 0, locals := 0 })
abbrev mJ9_floorMod_7cf53 : xv_M := (RJ9, cJ9_floorMod_7cf53, 3, false, (some .int), { frames := 0, cells := 0, slots := 0, locals := 0 })
abbrev mJ9_abs_0f7a4 : xv_M := (RJ9, cJ9_abs_0f7a4, 1, false, (some .int), { frames := 0, cells := 0, slots := 0, locals := 0 })
abbrev mJ9_max_7cf53 : xv_M := (RJ9, cJ9_max_7cf53, 2, false, (some .int), { frames := 0, cells := 0, slots := 0, locals := 0 })
abbrev mJ9_min_7cf53 : xv_M := (RJ9, cJ9_min_7cf53, 2, false, (some .int), { frames := 0, cells := 0, slots := 0, locals := 0 })
abbrev mJ7_fill_53178 : xv_M := (RJ7, cJ7_fill_53178, 4, false, none, { frames := 0, cells := 0, slots := 0, locals := 0 })
theorem wd_85 : Cond.methodLink RX0 3 Lib.objectInit ∈ xv_g := xv_in (xv_t1 32 (by decide +kernel)) rfl
theorem wd_73 : Cond.instanceMethod Lib.objectInit ∈ xv_g := xv_in (xv_t1 20 (by decide +kernel)) rfl
theorem wd_74 : Cond.code Lib.objectInit ⟨#[0xb1]⟩ 1 none ∈ xv_g := xv_in (xv_t1 21 rfl) rfl
theorem ln_X0_3 : Cond.methodLink RX0 3 Lib.objectInit ∈ xv_g ∧ Cond.instanceMethod Lib.objectInit ∈ xv_g ∧ Cond.code Lib.objectInit ⟨#[0xb1]⟩ 1 none ∈ xv_g := ⟨wd_85, wd_73, wd_74⟩
theorem wd_86 : Cond.fieldLink RX0 9 "ValveShop$Engine" "numbers" "[I" ∈ xv_g := xv_in (xv_t1 33 (by decide +kernel)) rfl
theorem fl_X0_9 : xv_fl RX0 9 0 0 true (.array .int) := ⟨RX0, TX0, 3, tyX0, rfl, cw_X0, by decide, wd_86, rfl, rfl, tyX0_ok 0 (by decide), tyX0_ok, nmX0⟩
theorem wd_382 : Cond.code yX7_read cX7_read 2 (some .int) ∈ xv_g := xv_in (xv_t2 89 rfl) rfl
theorem wd_62 : Cond.initialized RX7 ∈ xv_g := xv_in (xv_t1 9 (by decide +kernel)) rfl
theorem wd_394 : Cond.methodLink RX0 15 yX7_read ∈ xv_g := xv_in (xv_t2 101 (by decide +kernel)) rfl
theorem wd_380 : Cond.instanceMethod yX7_read ∈ xv_g := xv_in (xv_t2 87 (by decide +kernel)) rfl
theorem wd_381 : Cond.selects RX7 yX7_read yX7_read ∈ xv_g := xv_in (xv_t2 88 (by decide +kernel)) rfl
theorem ln_X0_15 : xv_lV RX0 15 yX7_read mX7_read 1 := ⟨wd_394, wd_380, wd_381, wd_62, wd_382, rfl, ⟨by decide +kernel, by decide +kernel, by decide +kernel⟩⟩
theorem wd_91 : Cond.fieldLink RX0 21 "ValveShop$Engine" "sickness" "I" ∈ xv_g := xv_in (xv_t1 38 (by decide +kernel)) rfl
theorem fl_X0_21 : xv_fl RX0 21 0 1 false .int := ⟨RX0, TX0, 3, tyX0, rfl, cw_X0, by decide, wd_91, rfl, rfl, tyX0_ok 1 (by decide), tyX0_ok, nmX0⟩
theorem wd_93 : Cond.fieldLink RX0 25 "ValveShop$Engine" "there" "Z" ∈ xv_g := xv_in (xv_t1 40 (by decide +kernel)) rfl
theorem fl_X0_25 : xv_fl RX0 25 0 2 false .boolean := ⟨RX0, TX0, 3, tyX0, rfl, cw_X0, by decide, wd_93, rfl, rfl, tyX0_ok 2 (by decide), tyX0_ok, nmX0⟩
theorem wd_418 : Cond.methodLink RX0 29 arraycopyName ∈ xv_g := xv_in (xv_t2 125 (by decide +kernel)) rfl
theorem wd_367 : Cond.native arraycopyName ∈ xv_g := xv_in (xv_t2 74 (by decide +kernel)) rfl
theorem wd_366 : Cond.static arraycopyName ∈ xv_g := xv_in (xv_t2 73 (by decide +kernel)) rfl
theorem wd_65 : Cond.initialized "java/lang/System" ∈ xv_g := xv_in (xv_t1 12 (by decide +kernel)) rfl
theorem ln_X0_29 : Cond.methodLink RX0 29 arraycopyName ∈ xv_g ∧ Cond.native arraycopyName ∈ xv_g ∧ Cond.static arraycopyName ∈ xv_g ∧ Cond.initialized "java/lang/System" ∈ xv_g := ⟨wd_418, wd_367, wd_366, wd_65⟩
theorem wn_463 : Cond.fieldLinkNest RX0 35 "ValveShop" "LATE" "[I" "ValveShop" ∈ xv_nw := xv_inN (xv_t2 170 (by decide +kernel)) rfl
theorem gs_X0_35 : Cond.fieldLink RX0 35 "ValveShop" "LATE" "[I" ∈ xv_g ∨ Cond.fieldLinkNest RX0 35 "ValveShop" "LATE" "[I" "ValveShop" ∈ xv_nw := Or.inr wn_463
theorem wn_584 : Cond.fieldLinkNest RX0 38 "ValveShop" "LEAK" "[I" "ValveShop" ∈ xv_nw := xv_inN (xv_t3 51 (by decide +kernel)) rfl
theorem gs_X0_38 : Cond.fieldLink RX0 38 "ValveShop" "LEAK" "[I" ∈ xv_g ∨ Cond.fieldLinkNest RX0 38 "ValveShop" "LEAK" "[I" "ValveShop" ∈ xv_nw := Or.inr wn_584
theorem wn_578 : Cond.fieldLinkNest RX0 41 "ValveShop" "CHOKED" "[I" "ValveShop" ∈ xv_nw := xv_inN (xv_t3 45 (by decide +kernel)) rfl
theorem gs_X0_41 : Cond.fieldLink RX0 41 "ValveShop" "CHOKED" "[I" ∈ xv_g ∨ Cond.fieldLinkNest RX0 41 "ValveShop" "CHOKED" "[I" "ValveShop" ∈ xv_nw := Or.inr wn_578
theorem wd_440 : Cond.code yX8_cosine cX8_cosine 2 (some .int) ∈ xv_g := xv_in (xv_t2 147 rfl) rfl
theorem wd_54 : Cond.initialized RX8 ∈ xv_g := xv_in (xv_t1 1 (by decide +kernel)) rfl
theorem wn_438 : Cond.methodLinkNest RX0 44 yX8_cosine "ValveShop" ∈ xv_nw := xv_inN (xv_t2 145 (by decide +kernel)) rfl
theorem wd_439 : Cond.static yX8_cosine ∈ xv_g := xv_in (xv_t2 146 (by decide +kernel)) rfl
theorem ln_X0_44 : xv_lS RX0 44 yX8_cosine mX8_cosine 1 := ⟨Or.inr wn_438, wd_439, wd_54, wd_440, ⟨by decide +kernel, by decide +kernel, by decide +kernel⟩⟩
theorem wd_443 : Cond.constant RX0 47 (400000) ∈ xv_g := xv_in (xv_t2 150 (by decide +kernel)) rfl
abbrev kc_X0_47 := wd_443
theorem wd_462 : Cond.code yX0_late cX0_late 1 (some .int) ∈ xv_g := xv_in (xv_t2 169 rfl) rfl
theorem wd_55 : Cond.initialized RX0 ∈ xv_g := xv_in (xv_t1 2 (by decide +kernel)) rfl
theorem wd_459 : Cond.methodLink RX0 48 yX0_late ∈ xv_g := xv_in (xv_t2 166 (by decide +kernel)) rfl
theorem wd_460 : Cond.instanceMethod yX0_late ∈ xv_g := xv_in (xv_t2 167 (by decide +kernel)) rfl
theorem wd_461 : Cond.selects RX0 yX0_late yX0_late ∈ xv_g := xv_in (xv_t2 168 (by decide +kernel)) rfl
theorem ln_X0_48 : xv_lV RX0 48 yX0_late mX0_late 0 := ⟨wd_459, wd_460, wd_461, wd_55, wd_462, rfl, ⟨by decide +kernel, by decide +kernel, by decide +kernel⟩⟩
theorem wd_465 : Cond.constant RX0 52 (120000) ∈ xv_g := xv_in (xv_t2 172 (by decide +kernel)) rfl
abbrev kc_X0_52 := wd_465
theorem wd_458 : Cond.code yX0_swing cX0_swing 6 (some .int) ∈ xv_g := xv_in (xv_t2 165 rfl) rfl
theorem wd_455 : Cond.methodLink RX0 53 yX0_swing ∈ xv_g := xv_in (xv_t2 162 (by decide +kernel)) rfl
theorem wd_456 : Cond.instanceMethod yX0_swing ∈ xv_g := xv_in (xv_t2 163 (by decide +kernel)) rfl
theorem wd_457 : Cond.selects RX0 yX0_swing yX0_swing ∈ xv_g := xv_in (xv_t2 164 (by decide +kernel)) rfl
theorem ln_X0_53 : xv_lV RX0 53 yX0_swing mX0_swing 2 := ⟨wd_455, wd_456, wd_457, wd_55, wd_458, rfl, ⟨by decide +kernel, by decide +kernel, by decide +kernel⟩⟩
theorem wd_469 : Cond.code yX0_hanging cX0_hanging 2 (some .int) ∈ xv_g := xv_in (xv_t2 176 rfl) rfl
theorem wd_466 : Cond.methodLink RX0 57 yX0_hanging ∈ xv_g := xv_in (xv_t2 173 (by decide +kernel)) rfl
theorem wd_467 : Cond.instanceMethod yX0_hanging ∈ xv_g := xv_in (xv_t2 174 (by decide +kernel)) rfl
theorem wd_468 : Cond.selects RX0 yX0_hanging yX0_hanging ∈ xv_g := xv_in (xv_t2 175 (by decide +kernel)) rfl
theorem ln_X0_57 : xv_lV RX0 57 yX0_hanging mX0_hanging 1 := ⟨wd_466, wd_467, wd_468, wd_55, wd_469, rfl, ⟨by decide +kernel, by decide +kernel, by decide +kernel⟩⟩
theorem wd_481 : Cond.methodLink RX0 60 Lib.Math.min.name ∈ xv_g := xv_in (xv_t2 188 (by decide +kernel)) rfl
theorem wd_482 : Cond.static Lib.Math.min.name ∈ xv_g := xv_in (xv_t2 189 (by decide +kernel)) rfl
theorem wd_66 : Cond.initialized "java/lang/Math" ∈ xv_g := xv_in (xv_t1 13 (by decide +kernel)) rfl
theorem wd_483 : Cond.code Lib.Math.min.name Lib.Math.min.code 2 (some .int) ∈ xv_g := xv_in (xv_t2 190 rfl) rfl
theorem ln_X0_60 : Cond.methodLink RX0 60 Lib.Math.min.name ∈ xv_g ∧ Cond.static Lib.Math.min.name ∈ xv_g ∧ Cond.initialized "java/lang/Math" ∈ xv_g ∧ Cond.code Lib.Math.min.name Lib.Math.min.code 2 (some .int) ∈ xv_g := ⟨wd_481, wd_482, wd_66, wd_483⟩
theorem wd_484 : Cond.methodLink RX0 65 Lib.Math.max.name ∈ xv_g := xv_in (xv_t2 191 (by decide +kernel)) rfl
theorem wd_485 : Cond.static Lib.Math.max.name ∈ xv_g := xv_in (xv_t2 192 (by decide +kernel)) rfl
theorem wd_486 : Cond.code Lib.Math.max.name Lib.Math.max.code 2 (some .int) ∈ xv_g := xv_in (xv_t2 193 rfl) rfl
theorem ln_X0_65 : Cond.methodLink RX0 65 Lib.Math.max.name ∈ xv_g ∧ Cond.static Lib.Math.max.name ∈ xv_g ∧ Cond.initialized "java/lang/Math" ∈ xv_g ∧ Cond.code Lib.Math.max.name Lib.Math.max.code 2 (some .int) ∈ xv_g := ⟨wd_484, wd_485, wd_66, wd_486⟩
theorem wd_454 : Cond.code yX0_travel cX0_travel 3 (some .int) ∈ xv_g := xv_in (xv_t2 161 rfl) rfl
theorem wd_535 : Cond.methodLink RX0 68 yX0_travel ∈ xv_g := xv_in (xv_t3 2 (by decide +kernel)) rfl
theorem wd_452 : Cond.instanceMethod yX0_travel ∈ xv_g := xv_in (xv_t2 159 (by decide +kernel)) rfl
theorem wd_453 : Cond.selects RX0 yX0_travel yX0_travel ∈ xv_g := xv_in (xv_t2 160 (by decide +kernel)) rfl
theorem ln_X0_68 : xv_lV RX0 68 yX0_travel mX0_travel 2 := ⟨wd_535, wd_452, wd_453, wd_55, wd_454, rfl, ⟨by decide +kernel, by decide +kernel, by decide +kernel⟩⟩
theorem wd_480 : Cond.code yX0_opening cX0_opening 5 (some .int) ∈ xv_g := xv_in (xv_t2 187 rfl) rfl
theorem wd_536 : Cond.methodLink RX0 71 yX0_opening ∈ xv_g := xv_in (xv_t3 3 (by decide +kernel)) rfl
theorem wd_478 : Cond.instanceMethod yX0_opening ∈ xv_g := xv_in (xv_t2 185 (by decide +kernel)) rfl
theorem wd_479 : Cond.selects RX0 yX0_opening yX0_opening ∈ xv_g := xv_in (xv_t2 186 (by decide +kernel)) rfl
theorem ln_X0_71 : xv_lV RX0 71 yX0_opening mX0_opening 3 := ⟨wd_536, wd_478, wd_479, wd_55, wd_480, rfl, ⟨by decide +kernel, by decide +kernel, by decide +kernel⟩⟩
theorem wd_236 : Cond.methodLink RX1 1 Lib.objectInit ∈ xv_g := xv_in (xv_t1 183 (by decide +kernel)) rfl
theorem ln_X1_1 : Cond.methodLink RX1 1 Lib.objectInit ∈ xv_g ∧ Cond.instanceMethod Lib.objectInit ∈ xv_g ∧ Cond.code Lib.objectInit ⟨#[0xb1]⟩ 1 none ∈ xv_g := ⟨wd_236, wd_73, wd_74⟩
theorem wd_239 : Cond.fieldLink RX1 7 "ValveShop$Fire" "heap" "I" ∈ xv_g := xv_in (xv_t1 186 (by decide +kernel)) rfl
theorem fl_X1_7 : xv_fl RX1 7 1 1 false .int := ⟨RX1, TX1, 6, tyX1, rfl, cw_X1, by decide, wd_239, rfl, rfl, tyX1_ok 1 (by decide), tyX1_ok, nmX1⟩
theorem wd_751 : Cond.methodLink RX1 13 Lib.Math.min.name ∈ xv_g := xv_in (xv_t3 218 (by decide +kernel)) rfl
theorem ln_X1_13 : Cond.methodLink RX1 13 Lib.Math.min.name ∈ xv_g ∧ Cond.static Lib.Math.min.name ∈ xv_g ∧ Cond.initialized "java/lang/Math" ∈ xv_g ∧ Cond.code Lib.Math.min.name Lib.Math.min.code 2 (some .int) ∈ xv_g := ⟨wd_751, wd_482, wd_66, wd_483⟩
theorem wd_241 : Cond.fieldLink RX1 19 "ValveShop$Fire" "burnt" "I" ∈ xv_g := xv_in (xv_t1 188 (by decide +kernel)) rfl
theorem fl_X1_19 : xv_fl RX1 19 1 2 false .int := ⟨RX1, TX1, 6, tyX1, rfl, cw_X1, by decide, wd_241, rfl, rfl, tyX1_ok 2 (by decide), tyX1_ok, nmX1⟩
theorem wd_237 : Cond.fieldLink RX1 22 "ValveShop$Fire" "gauge" "I" ∈ xv_g := xv_in (xv_t1 184 (by decide +kernel)) rfl
theorem fl_X1_22 : xv_fl RX1 22 1 0 false .int := ⟨RX1, TX1, 6, tyX1, rfl, cw_X1, by decide, wd_237, rfl, rfl, tyX1_ok 0 (by decide), tyX1_ok, nmX1⟩
theorem wd_244 : Cond.fieldLink RX1 25 "ValveShop$Fire" "minutes" "I" ∈ xv_g := xv_in (xv_t1 191 (by decide +kernel)) rfl
theorem fl_X1_25 : xv_fl RX1 25 1 5 false .int := ⟨RX1, TX1, 6, tyX1, rfl, cw_X1, by decide, wd_244, rfl, rfl, tyX1_ok 5 (by decide), tyX1_ok, nmX1⟩
theorem wd_242 : Cond.fieldLink RX1 28 "ValveShop$Fire" "drunk" "I" ∈ xv_g := xv_in (xv_t1 189 (by decide +kernel)) rfl
theorem fl_X1_28 : xv_fl RX1 28 1 3 false .int := ⟨RX1, TX1, 6, tyX1, rfl, cw_X1, by decide, wd_242, rfl, rfl, tyX1_ok 3 (by decide), tyX1_ok, nmX1⟩
theorem wd_761 : Cond.methodLink RX1 31 Lib.Math.max.name ∈ xv_g := xv_in (xv_t3 228 (by decide +kernel)) rfl
theorem ln_X1_31 : Cond.methodLink RX1 31 Lib.Math.max.name ∈ xv_g ∧ Cond.static Lib.Math.max.name ∈ xv_g ∧ Cond.initialized "java/lang/Math" ∈ xv_g ∧ Cond.code Lib.Math.max.name Lib.Math.max.code 2 (some .int) ∈ xv_g := ⟨wd_761, wd_485, wd_66, wd_486⟩
theorem wd_243 : Cond.fieldLink RX1 34 "ValveShop$Fire" "blown" "I" ∈ xv_g := xv_in (xv_t1 190 (by decide +kernel)) rfl
theorem fl_X1_34 : xv_fl RX1 34 1 4 false .int := ⟨RX1, TX1, 6, tyX1, rfl, cw_X1, by decide, wd_243, rfl, rfl, tyX1_ok 4 (by decide), tyX1_ok, nmX1⟩
theorem wd_107 : Cond.methodLink RX2 3 Lib.objectInit ∈ xv_g := xv_in (xv_t1 54 (by decide +kernel)) rfl
theorem ln_X2_3 : Cond.methodLink RX2 3 Lib.objectInit ∈ xv_g ∧ Cond.instanceMethod Lib.objectInit ∈ xv_g ∧ Cond.code Lib.objectInit ⟨#[0xb1]⟩ 1 none ∈ xv_g := ⟨wd_107, wd_73, wd_74⟩
theorem wd_108 : Cond.fieldLink RX2 9 "ValveShop$FoundCard" "items" "[I" ∈ xv_g := xv_in (xv_t1 55 (by decide +kernel)) rfl
theorem fl_X2_9 : xv_fl RX2 9 2 0 true (.array .int) := ⟨RX2, TX2, 4, tyX2, rfl, cw_X2, by decide, wd_108, rfl, rfl, tyX2_ok 0 (by decide), tyX2_ok, nmX2⟩
theorem wd_634 : Cond.methodLink RX2 15 yX7_read ∈ xv_g := xv_in (xv_t3 101 (by decide +kernel)) rfl
theorem ln_X2_15 : xv_lV RX2 15 yX7_read mX7_read 1 := ⟨wd_634, wd_380, wd_381, wd_62, wd_382, rfl, ⟨by decide +kernel, by decide +kernel, by decide +kernel⟩⟩
theorem wd_653 : Cond.methodLink RX2 21 Lib.Math.abs.name ∈ xv_g := xv_in (xv_t3 120 (by decide +kernel)) rfl
theorem wd_654 : Cond.static Lib.Math.abs.name ∈ xv_g := xv_in (xv_t3 121 (by decide +kernel)) rfl
theorem wd_655 : Cond.code Lib.Math.abs.name Lib.Math.abs.code 1 (some .int) ∈ xv_g := xv_in (xv_t3 122 rfl) rfl
theorem ln_X2_21 : Cond.methodLink RX2 21 Lib.Math.abs.name ∈ xv_g ∧ Cond.static Lib.Math.abs.name ∈ xv_g ∧ Cond.initialized "java/lang/Math" ∈ xv_g ∧ Cond.code Lib.Math.abs.name Lib.Math.abs.code 1 (some .int) ∈ xv_g := ⟨wd_653, wd_654, wd_66, wd_655⟩
theorem wd_129 : Cond.methodLink RX3 3 Lib.objectInit ∈ xv_g := xv_in (xv_t1 76 (by decide +kernel)) rfl
theorem ln_X3_3 : Cond.methodLink RX3 3 Lib.objectInit ∈ xv_g ∧ Cond.instanceMethod Lib.objectInit ∈ xv_g ∧ Cond.code Lib.objectInit ⟨#[0xb1]⟩ 1 none ∈ xv_g := ⟨wd_129, wd_73, wd_74⟩
theorem wd_132 : Cond.fieldLink RX3 11 "ValveShop$Gear" "swings" "[[I" ∈ xv_g := xv_in (xv_t1 79 (by decide +kernel)) rfl
theorem fl_X3_11 : xv_fl RX3 11 3 0 true (.array (.array .int)) := ⟨RX3, TX3, 4, tyX3, rfl, cw_X3, by decide, wd_132, rfl, rfl, tyX3_ok 0 (by decide), tyX3_ok, nmX3⟩
theorem wd_498 : Cond.code yX3_fillSwing cX3_fillSwing 5 none ∈ xv_g := xv_in (xv_t2 205 rfl) rfl
theorem wd_57 : Cond.initialized RX3 ∈ xv_g := xv_in (xv_t1 4 (by decide +kernel)) rfl
theorem wd_495 : Cond.methodLink RX3 16 yX3_fillSwing ∈ xv_g := xv_in (xv_t2 202 (by decide +kernel)) rfl
theorem wd_497 : Cond.instanceMethod yX3_fillSwing ∈ xv_g := xv_in (xv_t2 204 (by decide +kernel)) rfl
theorem wd_4 : Cond.selects RX3 yX3_fillSwing yX3_fillSwing ∈ xv_g := xv_in (xv_t0 4 (by decide +kernel)) rfl
theorem ln_X3_16 : xv_lV RX3 16 yX3_fillSwing mX3_fillSwing 3 := ⟨wd_495, wd_497, wd_4, wd_57, wd_498, rfl, ⟨by decide +kernel, by decide +kernel, by decide +kernel⟩⟩
theorem wd_503 : Cond.code yX3_firstEventOn cX3_firstEventOn 12 (some .int) ∈ xv_g := xv_in (xv_t2 210 rfl) rfl
theorem wd_500 : Cond.methodLink RX3 20 yX3_firstEventOn ∈ xv_g := xv_in (xv_t2 207 (by decide +kernel)) rfl
theorem wd_502 : Cond.instanceMethod yX3_firstEventOn ∈ xv_g := xv_in (xv_t2 209 (by decide +kernel)) rfl
theorem wd_5 : Cond.selects RX3 yX3_firstEventOn yX3_firstEventOn ∈ xv_g := xv_in (xv_t0 5 (by decide +kernel)) rfl
theorem ln_X3_20 : xv_lV RX3 20 yX3_firstEventOn mX3_firstEventOn 5 := ⟨wd_500, wd_502, wd_5, wd_57, wd_503, rfl, ⟨by decide +kernel, by decide +kernel, by decide +kernel⟩⟩
theorem wd_518 : Cond.code yX3_fillSwings cX3_fillSwings 3 none ∈ xv_g := xv_in (xv_t2 225 rfl) rfl
theorem wd_515 : Cond.methodLink RX3 24 yX3_fillSwings ∈ xv_g := xv_in (xv_t2 222 (by decide +kernel)) rfl
theorem wd_517 : Cond.instanceMethod yX3_fillSwings ∈ xv_g := xv_in (xv_t2 224 (by decide +kernel)) rfl
theorem wd_6 : Cond.selects RX3 yX3_fillSwings yX3_fillSwings ∈ xv_g := xv_in (xv_t0 6 (by decide +kernel)) rfl
theorem ln_X3_24 : xv_lV RX3 24 yX3_fillSwings mX3_fillSwings 1 := ⟨wd_515, wd_517, wd_6, wd_57, wd_518, rfl, ⟨by decide +kernel, by decide +kernel, by decide +kernel⟩⟩
theorem wd_519 : Cond.constant RX3 30 (2147483647) ∈ xv_g := xv_in (xv_t2 226 (by decide +kernel)) rfl
abbrev kc_X3_30 := wd_519
theorem wd_523 : Cond.code yX3_unlikeBelow cX3_unlikeBelow 7 (some .int) ∈ xv_g := xv_in (xv_t2 230 rfl) rfl
theorem wd_520 : Cond.methodLink RX3 31 yX3_unlikeBelow ∈ xv_g := xv_in (xv_t2 227 (by decide +kernel)) rfl
theorem wd_522 : Cond.instanceMethod yX3_unlikeBelow ∈ xv_g := xv_in (xv_t2 229 (by decide +kernel)) rfl
theorem wd_7 : Cond.selects RX3 yX3_unlikeBelow yX3_unlikeBelow ∈ xv_g := xv_in (xv_t0 7 (by decide +kernel)) rfl
theorem ln_X3_31 : xv_lV RX3 31 yX3_unlikeBelow mX3_unlikeBelow 2 := ⟨wd_520, wd_522, wd_7, wd_57, wd_523, rfl, ⟨by decide +kernel, by decide +kernel, by decide +kernel⟩⟩
theorem wd_417 : Cond.code yX0_resemble cX0_resemble 2 none ∈ xv_g := xv_in (xv_t2 124 rfl) rfl
theorem wd_545 : Cond.methodLink RX3 35 yX0_resemble ∈ xv_g := xv_in (xv_t3 12 (by decide +kernel)) rfl
theorem wd_415 : Cond.instanceMethod yX0_resemble ∈ xv_g := xv_in (xv_t2 122 (by decide +kernel)) rfl
theorem wd_416 : Cond.selects RX0 yX0_resemble yX0_resemble ∈ xv_g := xv_in (xv_t2 123 (by decide +kernel)) rfl
theorem ln_X3_35 : xv_lV RX3 35 yX0_resemble mX0_resemble 1 := ⟨wd_545, wd_415, wd_416, wd_55, wd_417, rfl, ⟨by decide +kernel, by decide +kernel, by decide +kernel⟩⟩
theorem wd_137 : Cond.fieldLink RX3 40 "ValveShop$Gear" "leastUnlike" "I" ∈ xv_g := xv_in (xv_t1 84 (by decide +kernel)) rfl
theorem fl_X3_40 : xv_fl RX3 40 3 3 false .int := ⟨RX3, TX3, 4, tyX3, rfl, cw_X3, by decide, wd_137, rfl, rfl, tyX3_ok 3 (by decide), tyX3_ok, nmX3⟩
theorem wn_546 : Cond.fieldLinkNest RX3 44 "ValveShop" "LEAST_NUMBER" "[I" "ValveShop" ∈ xv_nw := xv_inN (xv_t3 13 (by decide +kernel)) rfl
theorem gs_X3_44 : Cond.fieldLink RX3 44 "ValveShop" "LEAST_NUMBER" "[I" ∈ xv_g ∨ Cond.fieldLinkNest RX3 44 "ValveShop" "LEAST_NUMBER" "[I" "ValveShop" ∈ xv_nw := Or.inr wn_546
theorem wn_547 : Cond.fieldLinkNest RX3 48 "ValveShop" "MOST_NUMBER" "[I" "ValveShop" ∈ xv_nw := xv_inN (xv_t3 14 (by decide +kernel)) rfl
theorem gs_X3_48 : Cond.fieldLink RX3 48 "ValveShop" "MOST_NUMBER" "[I" ∈ xv_g ∨ Cond.fieldLinkNest RX3 48 "ValveShop" "MOST_NUMBER" "[I" "ValveShop" ∈ xv_nw := Or.inr wn_547
theorem wd_88 : Cond.fieldLink RX3 51 "ValveShop$Engine" "numbers" "[I" ∈ xv_g := xv_in (xv_t1 35 (by decide +kernel)) rfl
theorem fl_X3_51 : xv_fl RX3 51 0 0 true (.array .int) := ⟨RX0, TX0, 3, tyX0, rfl, cw_X0, by decide, wd_88, rfl, rfl, tyX0_ok 0 (by decide), tyX0_ok, nmX0⟩
theorem wd_133 : Cond.fieldLink RX3 54 "ValveShop$Gear" "bestAdvance" "I" ∈ xv_g := xv_in (xv_t1 80 (by decide +kernel)) rfl
theorem fl_X3_54 : xv_fl RX3 54 3 1 false .int := ⟨RX3, TX3, 4, tyX3, rfl, cw_X3, by decide, wd_133, rfl, rfl, tyX3_ok 1 (by decide), tyX3_ok, nmX3⟩
theorem wd_135 : Cond.fieldLink RX3 57 "ValveShop$Gear" "bestHang" "I" ∈ xv_g := xv_in (xv_t1 82 (by decide +kernel)) rfl
theorem fl_X3_57 : xv_fl RX3 57 3 2 false .int := ⟨RX3, TX3, 4, tyX3, rfl, cw_X3, by decide, wd_135, rfl, rfl, tyX3_ok 2 (by decide), tyX3_ok, nmX3⟩
theorem wd_499 : Cond.methodLink RX3 60 yX0_swing ∈ xv_g := xv_in (xv_t2 206 (by decide +kernel)) rfl
theorem ln_X3_60 : xv_lV RX3 60 yX0_swing mX0_swing 2 := ⟨wd_499, wd_456, wd_457, wd_55, wd_458, rfl, ⟨by decide +kernel, by decide +kernel, by decide +kernel⟩⟩
theorem wd_506 : Cond.constant RX3 64 (-1000000) ∈ xv_g := xv_in (xv_t2 213 (by decide +kernel)) rfl
abbrev kc_X3_64 := wd_506
theorem wd_526 : Cond.code yX3_offHalfTurn cX3_offHalfTurn 3 (some .int) ∈ xv_g := xv_in (xv_t2 233 rfl) rfl
theorem wd_524 : Cond.methodLink RX3 65 yX3_offHalfTurn ∈ xv_g := xv_in (xv_t2 231 (by decide +kernel)) rfl
theorem wd_525 : Cond.static yX3_offHalfTurn ∈ xv_g := xv_in (xv_t2 232 (by decide +kernel)) rfl
theorem ln_X3_65 : xv_lS RX3 65 yX3_offHalfTurn mX3_offHalfTurn 2 := ⟨Or.inl wd_524, wd_525, wd_57, wd_526, ⟨by decide +kernel, by decide +kernel, by decide +kernel⟩⟩
theorem wd_529 : Cond.code yJ9_floorMod_7cf53 cJ9_floorMod_7cf53 3 (some .int) ∈ xv_g := xv_in (xv_t2 236 rfl) rfl
theorem wd_527 : Cond.methodLink RX3 68 yJ9_floorMod_7cf53 ∈ xv_g := xv_in (xv_t2 234 (by decide +kernel)) rfl
theorem wd_528 : Cond.static yJ9_floorMod_7cf53 ∈ xv_g := xv_in (xv_t2 235 (by decide +kernel)) rfl
theorem ln_X3_68 : xv_lS RX3 68 yJ9_floorMod_7cf53 mJ9_floorMod_7cf53 2 := ⟨Or.inl wd_527, wd_528, wd_66, wd_529, ⟨by decide +kernel, by decide +kernel, by decide +kernel⟩⟩
theorem wd_530 : Cond.methodLink RX3 73 Lib.Math.min.name ∈ xv_g := xv_in (xv_t2 237 (by decide +kernel)) rfl
theorem ln_X3_73 : Cond.methodLink RX3 73 Lib.Math.min.name ∈ xv_g ∧ Cond.static Lib.Math.min.name ∈ xv_g ∧ Cond.initialized "java/lang/Math" ∈ xv_g ∧ Cond.code Lib.Math.min.name Lib.Math.min.code 2 (some .int) ∈ xv_g := ⟨wd_530, wd_482, wd_66, wd_483⟩
theorem wd_504 : Cond.methodLink RX3 76 yX0_hanging ∈ xv_g := xv_in (xv_t2 211 (by decide +kernel)) rfl
theorem ln_X3_76 : xv_lV RX3 76 yX0_hanging mX0_hanging 1 := ⟨wd_504, wd_467, wd_468, wd_55, wd_469, rfl, ⟨by decide +kernel, by decide +kernel, by decide +kernel⟩⟩
theorem wd_505 : Cond.methodLink RX3 80 yX0_opening ∈ xv_g := xv_in (xv_t2 212 (by decide +kernel)) rfl
theorem ln_X3_80 : xv_lV RX3 80 yX0_opening mX0_opening 3 := ⟨wd_505, wd_478, wd_479, wd_55, wd_480, rfl, ⟨by decide +kernel, by decide +kernel, by decide +kernel⟩⟩
theorem wd_187 : Cond.methodLink RX4 3 Lib.objectInit ∈ xv_g := xv_in (xv_t1 134 (by decide +kernel)) rfl
theorem ln_X4_3 : Cond.methodLink RX4 3 Lib.objectInit ∈ xv_g ∧ Cond.instanceMethod Lib.objectInit ∈ xv_g ∧ Cond.code Lib.objectInit ⟨#[0xb1]⟩ 1 none ∈ xv_g := ⟨wd_187, wd_73, wd_74⟩
theorem wd_188 : Cond.fieldLink RX4 9 "ValveShop$Naming" "misfits" "[I" ∈ xv_g := xv_in (xv_t1 135 (by decide +kernel)) rfl
theorem fl_X4_9 : xv_fl RX4 9 4 0 true (.array .int) := ⟨RX4, TX4, 3, tyX4, rfl, cw_X4, by decide, wd_188, rfl, rfl, tyX4_ok 0 (by decide), tyX4_ok, nmX4⟩
theorem wd_90 : Cond.fieldLink RX4 15 "ValveShop$Engine" "sickness" "I" ∈ xv_g := xv_in (xv_t1 37 (by decide +kernel)) rfl
theorem fl_X4_15 : xv_fl RX4 15 0 1 false .int := ⟨RX0, TX0, 3, tyX0, rfl, cw_X0, by decide, wd_90, rfl, rfl, tyX0_ok 1 (by decide), tyX0_ok, nmX0⟩
theorem wd_111 : Cond.fieldLink RX4 21 "ValveShop$FoundCard" "notch" "I" ∈ xv_g := xv_in (xv_t1 58 (by decide +kernel)) rfl
theorem fl_X4_21 : xv_fl RX4 21 2 2 false .int := ⟨RX2, TX2, 4, tyX2, rfl, cw_X2, by decide, wd_111, rfl, rfl, tyX2_ok 2 (by decide), tyX2_ok, nmX2⟩
theorem wd_113 : Cond.fieldLink RX4 26 "ValveShop$FoundCard" "boiler" "I" ∈ xv_g := xv_in (xv_t1 60 (by decide +kernel)) rfl
theorem fl_X4_26 : xv_fl RX4 26 2 3 false .int := ⟨RX2, TX2, 4, tyX2, rfl, cw_X2, by decide, wd_113, rfl, rfl, tyX2_ok 3 (by decide), tyX2_ok, nmX2⟩
theorem wd_565 : Cond.code yX5_draw cX5_draw 16 none ∈ xv_g := xv_in (xv_t3 32 rfl) rfl
theorem wd_58 : Cond.initialized RX5 ∈ xv_g := xv_in (xv_t1 5 (by decide +kernel)) rfl
theorem wd_648 : Cond.methodLink RX4 29 yX5_draw ∈ xv_g := xv_in (xv_t3 115 (by decide +kernel)) rfl
theorem wd_563 : Cond.instanceMethod yX5_draw ∈ xv_g := xv_in (xv_t3 30 (by decide +kernel)) rfl
theorem wd_564 : Cond.selects RX5 yX5_draw yX5_draw ∈ xv_g := xv_in (xv_t3 31 (by decide +kernel)) rfl
theorem ln_X4_29 : xv_lV RX4 29 yX5_draw mX5_draw 5 := ⟨wd_648, wd_563, wd_564, wd_58, wd_565, rfl, ⟨by decide +kernel, by decide +kernel, by decide +kernel⟩⟩
theorem wd_158 : Cond.fieldLink RX4 35 "ValveShop$Pencil" "pressures" "[I" ∈ xv_g := xv_in (xv_t1 105 (by decide +kernel)) rfl
theorem fl_X4_35 : xv_fl RX4 35 5 3 true (.array .int) := ⟨RX5, TX5, 7, tyX5, rfl, cw_X5, by decide, wd_158, rfl, rfl, tyX5_ok 3 (by decide), tyX5_ok, nmX5⟩
theorem wd_652 : Cond.code yX2_apart cX2_apart 4 (some .int) ∈ xv_g := xv_in (xv_t3 119 rfl) rfl
theorem wd_56 : Cond.initialized RX2 ∈ xv_g := xv_in (xv_t1 3 (by decide +kernel)) rfl
theorem wd_649 : Cond.methodLink RX4 38 yX2_apart ∈ xv_g := xv_in (xv_t3 116 (by decide +kernel)) rfl
theorem wd_650 : Cond.instanceMethod yX2_apart ∈ xv_g := xv_in (xv_t3 117 (by decide +kernel)) rfl
theorem wd_651 : Cond.selects RX2 yX2_apart yX2_apart ∈ xv_g := xv_in (xv_t3 118 (by decide +kernel)) rfl
theorem ln_X4_38 : xv_lV RX4 38 yX2_apart mX2_apart 1 := ⟨wd_649, wd_650, wd_651, wd_56, wd_652, rfl, ⟨by decide +kernel, by decide +kernel, by decide +kernel⟩⟩
theorem wd_647 : Cond.code yX4_misfitBy cX4_misfitBy 5 (some .int) ∈ xv_g := xv_in (xv_t3 114 rfl) rfl
theorem wd_59 : Cond.initialized RX4 ∈ xv_g := xv_in (xv_t1 6 (by decide +kernel)) rfl
theorem wd_665 : Cond.methodLink RX4 42 yX4_misfitBy ∈ xv_g := xv_in (xv_t3 132 (by decide +kernel)) rfl
theorem wd_645 : Cond.instanceMethod yX4_misfitBy ∈ xv_g := xv_in (xv_t3 112 (by decide +kernel)) rfl
theorem wd_646 : Cond.selects RX4 yX4_misfitBy yX4_misfitBy ∈ xv_g := xv_in (xv_t3 113 (by decide +kernel)) rfl
theorem ln_X4_42 : xv_lV RX4 42 yX4_misfitBy mX4_misfitBy 4 := ⟨wd_665, wd_645, wd_646, wd_59, wd_647, rfl, ⟨by decide +kernel, by decide +kernel, by decide +kernel⟩⟩
theorem wd_191 : Cond.fieldLink RX4 46 "ValveShop$Naming" "least" "I" ∈ xv_g := xv_in (xv_t1 138 (by decide +kernel)) rfl
theorem fl_X4_46 : xv_fl RX4 46 4 2 false .int := ⟨RX4, TX4, 3, tyX4, rfl, cw_X4, by decide, wd_191, rfl, rfl, tyX4_ok 2 (by decide), tyX4_ok, nmX4⟩
theorem wd_189 : Cond.fieldLink RX4 49 "ValveShop$Naming" "best" "I" ∈ xv_g := xv_in (xv_t1 136 (by decide +kernel)) rfl
theorem fl_X4_49 : xv_fl RX4 49 4 1 false .int := ⟨RX4, TX4, 3, tyX4, rfl, cw_X4, by decide, wd_189, rfl, rfl, tyX4_ok 1 (by decide), tyX4_ok, nmX4⟩
theorem wd_153 : Cond.methodLink RX5 3 Lib.objectInit ∈ xv_g := xv_in (xv_t1 100 (by decide +kernel)) rfl
theorem ln_X5_3 : Cond.methodLink RX5 3 Lib.objectInit ∈ xv_g ∧ Cond.instanceMethod Lib.objectInit ∈ xv_g ∧ Cond.code Lib.objectInit ⟨#[0xb1]⟩ 1 none ∈ xv_g := ⟨wd_153, wd_73, wd_74⟩
theorem wd_154 : Cond.fieldLink RX5 9 "ValveShop$Pencil" "room" "[I" ∈ xv_g := xv_in (xv_t1 101 (by decide +kernel)) rfl
theorem fl_X5_9 : xv_fl RX5 9 5 0 true (.array .int) := ⟨RX5, TX5, 7, tyX5, rfl, cw_X5, by decide, wd_154, rfl, rfl, tyX5_ok 0 (by decide), tyX5_ok, nmX5⟩
theorem wd_155 : Cond.fieldLink RX5 15 "ValveShop$Pencil" "steam" "[I" ∈ xv_g := xv_in (xv_t1 102 (by decide +kernel)) rfl
theorem fl_X5_15 : xv_fl RX5 15 5 1 true (.array .int) := ⟨RX5, TX5, 7, tyX5, rfl, cw_X5, by decide, wd_155, rfl, rfl, tyX5_ok 1 (by decide), tyX5_ok, nmX5⟩
theorem wd_156 : Cond.fieldLink RX5 18 "ValveShop$Pencil" "exhaust" "[I" ∈ xv_g := xv_in (xv_t1 103 (by decide +kernel)) rfl
theorem fl_X5_18 : xv_fl RX5 18 5 2 true (.array .int) := ⟨RX5, TX5, 7, tyX5, rfl, cw_X5, by decide, wd_156, rfl, rfl, tyX5_ok 2 (by decide), tyX5_ok, nmX5⟩
theorem wd_157 : Cond.fieldLink RX5 21 "ValveShop$Pencil" "pressures" "[I" ∈ xv_g := xv_in (xv_t1 104 (by decide +kernel)) rfl
theorem fl_X5_21 : xv_fl RX5 21 5 3 true (.array .int) := ⟨RX5, TX5, 7, tyX5, rfl, cw_X5, by decide, wd_157, rfl, rfl, tyX5_ok 3 (by decide), tyX5_ok, nmX5⟩
theorem wd_569 : Cond.code yX5_prepare cX5_prepare 8 none ∈ xv_g := xv_in (xv_t3 36 rfl) rfl
theorem wd_566 : Cond.methodLink RX5 24 yX5_prepare ∈ xv_g := xv_in (xv_t3 33 (by decide +kernel)) rfl
theorem wd_568 : Cond.instanceMethod yX5_prepare ∈ xv_g := xv_in (xv_t3 35 (by decide +kernel)) rfl
theorem wd_8 : Cond.selects RX5 yX5_prepare yX5_prepare ∈ xv_g := xv_in (xv_t0 8 (by decide +kernel)) rfl
theorem ln_X5_24 : xv_lV RX5 24 yX5_prepare mX5_prepare 3 := ⟨wd_566, wd_568, wd_8, wd_58, wd_569, rfl, ⟨by decide +kernel, by decide +kernel, by decide +kernel⟩⟩
theorem wd_87 : Cond.fieldLink RX5 28 "ValveShop$Engine" "numbers" "[I" ∈ xv_g := xv_in (xv_t1 34 (by decide +kernel)) rfl
theorem fl_X5_28 : xv_fl RX5 28 0 0 true (.array .int) := ⟨RX0, TX0, 3, tyX0, rfl, cw_X0, by decide, wd_87, rfl, rfl, tyX0_ok 0 (by decide), tyX0_ok, nmX0⟩
theorem wd_577 : Cond.code yX0_choke cX0_choke 1 (some .int) ∈ xv_g := xv_in (xv_t3 44 rfl) rfl
theorem wd_574 : Cond.methodLink RX5 33 yX0_choke ∈ xv_g := xv_in (xv_t3 41 (by decide +kernel)) rfl
theorem wd_575 : Cond.instanceMethod yX0_choke ∈ xv_g := xv_in (xv_t3 42 (by decide +kernel)) rfl
theorem wd_576 : Cond.selects RX0 yX0_choke yX0_choke ∈ xv_g := xv_in (xv_t3 43 (by decide +kernel)) rfl
theorem ln_X5_33 : xv_lV RX5 33 yX0_choke mX0_choke 0 := ⟨wd_574, wd_575, wd_576, wd_55, wd_577, rfl, ⟨by decide +kernel, by decide +kernel, by decide +kernel⟩⟩
theorem wd_583 : Cond.code yX0_leak cX0_leak 1 (some .int) ∈ xv_g := xv_in (xv_t3 50 rfl) rfl
theorem wd_580 : Cond.methodLink RX5 37 yX0_leak ∈ xv_g := xv_in (xv_t3 47 (by decide +kernel)) rfl
theorem wd_581 : Cond.instanceMethod yX0_leak ∈ xv_g := xv_in (xv_t3 48 (by decide +kernel)) rfl
theorem wd_582 : Cond.selects RX0 yX0_leak yX0_leak ∈ xv_g := xv_in (xv_t3 49 (by decide +kernel)) rfl
theorem ln_X5_37 : xv_lV RX5 37 yX0_leak mX0_leak 0 := ⟨wd_580, wd_581, wd_582, wd_55, wd_583, rfl, ⟨by decide +kernel, by decide +kernel, by decide +kernel⟩⟩
theorem wd_160 : Cond.fieldLink RX5 40 "ValveShop$Pencil" "drawnIn" "J" ∈ xv_g := xv_in (xv_t1 107 (by decide +kernel)) rfl
theorem fl_X5_40 : xv_fl RX5 40 5 4 false .long := ⟨RX5, TX5, 7, tyX5, rfl, cw_X5, by decide, wd_160, rfl, rfl, tyX5_ok 4 (by decide), tyX5_ok, nmX5⟩
theorem wd_588 : Cond.code yX8_share cX8_share 3 (some .int) ∈ xv_g := xv_in (xv_t3 55 rfl) rfl
theorem wn_586 : Cond.methodLinkNest RX5 44 yX8_share "ValveShop" ∈ xv_nw := xv_inN (xv_t3 53 (by decide +kernel)) rfl
theorem wd_587 : Cond.static yX8_share ∈ xv_g := xv_in (xv_t3 54 (by decide +kernel)) rfl
theorem ln_X5_44 : xv_lS RX5 44 yX8_share mX8_share 3 := ⟨Or.inr wn_586, wd_587, wd_54, wd_588, ⟨by decide +kernel, by decide +kernel, by decide +kernel⟩⟩
theorem wd_614 : Cond.methodLink RX5 48 yX5_draw ∈ xv_g := xv_in (xv_t3 81 (by decide +kernel)) rfl
theorem ln_X5_48 : xv_lV RX5 48 yX5_draw mX5_draw 5 := ⟨wd_614, wd_563, wd_564, wd_58, wd_565, rfl, ⟨by decide +kernel, by decide +kernel, by decide +kernel⟩⟩
theorem wd_618 : Cond.code yX5_pushed cX5_pushed 5 (some .long) ∈ xv_g := xv_in (xv_t3 85 rfl) rfl
theorem wd_615 : Cond.methodLink RX5 52 yX5_pushed ∈ xv_g := xv_in (xv_t3 82 (by decide +kernel)) rfl
theorem wd_617 : Cond.instanceMethod yX5_pushed ∈ xv_g := xv_in (xv_t3 84 (by decide +kernel)) rfl
theorem wd_9 : Cond.selects RX5 yX5_pushed yX5_pushed ∈ xv_g := xv_in (xv_t0 9 (by decide +kernel)) rfl
theorem ln_X5_52 : xv_lV RX5 52 yX5_pushed mX5_pushed 0 := ⟨wd_615, wd_617, wd_9, wd_58, wd_618, rfl, ⟨by decide +kernel, by decide +kernel, by decide +kernel⟩⟩
theorem wd_619 : Cond.constantLong RX5 56 (2000) ∈ xv_g := xv_in (xv_t3 86 (by decide +kernel)) rfl
abbrev kc_X5_56 := wd_619
theorem wd_162 : Cond.fieldLink RX5 58 "ValveShop$Pencil" "work" "I" ∈ xv_g := xv_in (xv_t1 109 (by decide +kernel)) rfl
theorem fl_X5_58 : xv_fl RX5 58 5 5 false .int := ⟨RX5, TX5, 7, tyX5, rfl, cw_X5, by decide, wd_162, rfl, rfl, tyX5_ok 5 (by decide), tyX5_ok, nmX5⟩
theorem wd_620 : Cond.constantLong RX5 62 (1000) ∈ xv_g := xv_in (xv_t3 87 (by decide +kernel)) rfl
abbrev kc_X5_62 := wd_620
theorem wd_165 : Cond.fieldLink RX5 64 "ValveShop$Pencil" "drink" "I" ∈ xv_g := xv_in (xv_t1 112 (by decide +kernel)) rfl
theorem fl_X5_64 : xv_fl RX5 64 5 6 false .int := ⟨RX5, TX5, 7, tyX5, rfl, cw_X5, by decide, wd_165, rfl, rfl, tyX5_ok 6 (by decide), tyX5_ok, nmX5⟩
theorem wd_601 : Cond.methodLink RX5 67 Lib.Math.max.name ∈ xv_g := xv_in (xv_t3 68 (by decide +kernel)) rfl
theorem ln_X5_67 : Cond.methodLink RX5 67 Lib.Math.max.name ∈ xv_g ∧ Cond.static Lib.Math.max.name ∈ xv_g ∧ Cond.initialized "java/lang/Math" ∈ xv_g ∧ Cond.code Lib.Math.max.name Lib.Math.max.code 2 (some .int) ∈ xv_g := ⟨wd_601, wd_485, wd_66, wd_486⟩
theorem wd_570 : Cond.methodLink RX5 73 yX0_hanging ∈ xv_g := xv_in (xv_t3 37 (by decide +kernel)) rfl
theorem ln_X5_73 : xv_lV RX5 73 yX0_hanging mX0_hanging 1 := ⟨wd_570, wd_467, wd_468, wd_55, wd_469, rfl, ⟨by decide +kernel, by decide +kernel, by decide +kernel⟩⟩
theorem wd_437 : Cond.code yX0_stroke cX0_stroke 5 (some .int) ∈ xv_g := xv_in (xv_t2 144 rfl) rfl
theorem wd_571 : Cond.methodLink RX5 77 yX0_stroke ∈ xv_g := xv_in (xv_t3 38 (by decide +kernel)) rfl
theorem wd_435 : Cond.instanceMethod yX0_stroke ∈ xv_g := xv_in (xv_t2 142 (by decide +kernel)) rfl
theorem wd_436 : Cond.selects RX0 yX0_stroke yX0_stroke ∈ xv_g := xv_in (xv_t2 143 (by decide +kernel)) rfl
theorem ln_X5_77 : xv_lV RX5 77 yX0_stroke mX0_stroke 1 := ⟨wd_571, wd_435, wd_436, wd_55, wd_437, rfl, ⟨by decide +kernel, by decide +kernel, by decide +kernel⟩⟩
theorem wd_572 : Cond.methodLink RX5 80 yX0_swing ∈ xv_g := xv_in (xv_t3 39 (by decide +kernel)) rfl
theorem ln_X5_80 : xv_lV RX5 80 yX0_swing mX0_swing 2 := ⟨wd_572, wd_456, wd_457, wd_55, wd_458, rfl, ⟨by decide +kernel, by decide +kernel, by decide +kernel⟩⟩
theorem wd_573 : Cond.methodLink RX5 83 yX0_opening ∈ xv_g := xv_in (xv_t3 40 (by decide +kernel)) rfl
theorem ln_X5_83 : xv_lV RX5 83 yX0_opening mX0_opening 3 := ⟨wd_573, wd_478, wd_479, wd_55, wd_480, rfl, ⟨by decide +kernel, by decide +kernel, by decide +kernel⟩⟩
theorem wd_205 : Cond.methodLink RX6 3 Lib.objectInit ∈ xv_g := xv_in (xv_t1 152 (by decide +kernel)) rfl
theorem ln_X6_3 : Cond.methodLink RX6 3 Lib.objectInit ∈ xv_g ∧ Cond.instanceMethod Lib.objectInit ∈ xv_g ∧ Cond.code Lib.objectInit ⟨#[0xb1]⟩ 1 none ∈ xv_g := ⟨wd_205, wd_73, wd_74⟩
theorem wd_207 : Cond.fieldLink RX6 9 "ValveShop$Planner" "works" "[I" ∈ xv_g := xv_in (xv_t1 154 (by decide +kernel)) rfl
theorem fl_X6_9 : xv_fl RX6 9 6 0 true (.array .int) := ⟨RX6, TX6, 7, tyX6, rfl, cw_X6, by decide, wd_207, rfl, rfl, tyX6_ok 0 (by decide), tyX6_ok, nmX6⟩
theorem wd_208 : Cond.fieldLink RX6 15 "ValveShop$Planner" "drinks" "[I" ∈ xv_g := xv_in (xv_t1 155 (by decide +kernel)) rfl
theorem fl_X6_15 : xv_fl RX6 15 6 1 true (.array .int) := ⟨RX6, TX6, 7, tyX6, rfl, cw_X6, by decide, wd_208, rfl, rfl, tyX6_ok 1 (by decide), tyX6_ok, nmX6⟩
theorem wd_209 : Cond.fieldLink RX6 18 "ValveShop$Planner" "road" "[I" ∈ xv_g := xv_in (xv_t1 156 (by decide +kernel)) rfl
theorem fl_X6_18 : xv_fl RX6 18 6 2 true (.array .int) := ⟨RX6, TX6, 7, tyX6, rfl, cw_X6, by decide, wd_209, rfl, rfl, tyX6_ok 2 (by decide), tyX6_ok, nmX6⟩
theorem wd_210 : Cond.fieldLink RX6 23 "ValveShop$Planner" "leastCoal" "[[I" ∈ xv_g := xv_in (xv_t1 157 (by decide +kernel)) rfl
theorem fl_X6_23 : xv_fl RX6 23 6 3 true (.array (.array .int)) := ⟨RX6, TX6, 7, tyX6, rfl, cw_X6, by decide, wd_210, rfl, rfl, tyX6_ok 3 (by decide), tyX6_ok, nmX6⟩
theorem wd_211 : Cond.fieldLink RX6 26 "ValveShop$Planner" "kept" "[I" ∈ xv_g := xv_in (xv_t1 158 (by decide +kernel)) rfl
theorem fl_X6_26 : xv_fl RX6 26 6 4 true (.array .int) := ⟨RX6, TX6, 7, tyX6, rfl, cw_X6, by decide, wd_211, rfl, rfl, tyX6_ok 4 (by decide), tyX6_ok, nmX6⟩
theorem wd_696 : Cond.methodLink RX6 29 Lib.Math.min.name ∈ xv_g := xv_in (xv_t3 163 (by decide +kernel)) rfl
theorem ln_X6_29 : Cond.methodLink RX6 29 Lib.Math.min.name ∈ xv_g ∧ Cond.static Lib.Math.min.name ∈ xv_g ∧ Cond.initialized "java/lang/Math" ∈ xv_g ∧ Cond.code Lib.Math.min.name Lib.Math.min.code 2 (some .int) ∈ xv_g := ⟨wd_696, wd_482, wd_66, wd_483⟩
theorem wd_697 : Cond.methodLink RX6 35 Lib.Math.max.name ∈ xv_g := xv_in (xv_t3 164 (by decide +kernel)) rfl
theorem ln_X6_35 : Cond.methodLink RX6 35 Lib.Math.max.name ∈ xv_g ∧ Cond.static Lib.Math.max.name ∈ xv_g ∧ Cond.initialized "java/lang/Math" ∈ xv_g ∧ Cond.code Lib.Math.max.name Lib.Math.max.code 2 (some .int) ∈ xv_g := ⟨wd_697, wd_485, wd_66, wd_486⟩
theorem wd_213 : Cond.fieldLink RX6 38 "ValveShop$Planner" "stretches" "I" ∈ xv_g := xv_in (xv_t1 160 (by decide +kernel)) rfl
theorem fl_X6_38 : xv_fl RX6 38 6 5 false .int := ⟨RX6, TX6, 7, tyX6, rfl, cw_X6, by decide, wd_213, rfl, rfl, tyX6_ok 5 (by decide), tyX6_ok, nmX6⟩
theorem wd_698 : Cond.methodLink RX6 42 yX7_read ∈ xv_g := xv_in (xv_t3 165 (by decide +kernel)) rfl
theorem ln_X6_42 : xv_lV RX6 42 yX7_read mX7_read 1 := ⟨wd_698, wd_380, wd_381, wd_62, wd_382, rfl, ⟨by decide +kernel, by decide +kernel, by decide +kernel⟩⟩
theorem wd_326 : Cond.code yX8_within cX8_within 3 (some .boolean) ∈ xv_g := xv_in (xv_t2 33 rfl) rfl
theorem wn_699 : Cond.methodLinkNest RX6 48 yX8_within "ValveShop" ∈ xv_nw := xv_inN (xv_t3 166 (by decide +kernel)) rfl
theorem wd_325 : Cond.static yX8_within ∈ xv_g := xv_in (xv_t2 32 (by decide +kernel)) rfl
theorem ln_X6_48 : xv_lS RX6 48 yX8_within mX8_within 3 := ⟨Or.inr wn_699, wd_325, wd_54, wd_326, ⟨by decide +kernel, by decide +kernel, by decide +kernel⟩⟩
theorem wd_706 : Cond.code yX6_notchOf cX6_notchOf 1 (some .int) ∈ xv_g := xv_in (xv_t3 173 rfl) rfl
theorem wd_60 : Cond.initialized RX6 ∈ xv_g := xv_in (xv_t1 7 (by decide +kernel)) rfl
theorem wd_704 : Cond.methodLink RX6 52 yX6_notchOf ∈ xv_g := xv_in (xv_t3 171 (by decide +kernel)) rfl
theorem wd_705 : Cond.static yX6_notchOf ∈ xv_g := xv_in (xv_t3 172 (by decide +kernel)) rfl
theorem ln_X6_52 : xv_lS RX6 52 yX6_notchOf mX6_notchOf 1 := ⟨Or.inl wd_704, wd_705, wd_60, wd_706, ⟨by decide +kernel, by decide +kernel, by decide +kernel⟩⟩
theorem wd_709 : Cond.code yX6_regulatorOf cX6_regulatorOf 1 (some .int) ∈ xv_g := xv_in (xv_t3 176 rfl) rfl
theorem wd_707 : Cond.methodLink RX6 55 yX6_regulatorOf ∈ xv_g := xv_in (xv_t3 174 (by decide +kernel)) rfl
theorem wd_708 : Cond.static yX6_regulatorOf ∈ xv_g := xv_in (xv_t3 175 (by decide +kernel)) rfl
theorem ln_X6_55 : xv_lS RX6 55 yX6_regulatorOf mX6_regulatorOf 1 := ⟨Or.inl wd_707, wd_708, wd_60, wd_709, ⟨by decide +kernel, by decide +kernel, by decide +kernel⟩⟩
theorem wd_613 : Cond.code yX5_measure cX5_measure 10 none ∈ xv_g := xv_in (xv_t3 80 rfl) rfl
theorem wd_710 : Cond.methodLink RX6 58 yX5_measure ∈ xv_g := xv_in (xv_t3 177 (by decide +kernel)) rfl
theorem wd_611 : Cond.instanceMethod yX5_measure ∈ xv_g := xv_in (xv_t3 78 (by decide +kernel)) rfl
theorem wd_612 : Cond.selects RX5 yX5_measure yX5_measure ∈ xv_g := xv_in (xv_t3 79 (by decide +kernel)) rfl
theorem ln_X6_58 : xv_lV RX6 58 yX5_measure mX5_measure 4 := ⟨wd_710, wd_611, wd_612, wd_58, wd_613, rfl, ⟨by decide +kernel, by decide +kernel, by decide +kernel⟩⟩
theorem wd_161 : Cond.fieldLink RX6 64 "ValveShop$Pencil" "work" "I" ∈ xv_g := xv_in (xv_t1 108 (by decide +kernel)) rfl
theorem fl_X6_64 : xv_fl RX6 64 5 5 false .int := ⟨RX5, TX5, 7, tyX5, rfl, cw_X5, by decide, wd_161, rfl, rfl, tyX5_ok 5 (by decide), tyX5_ok, nmX5⟩
theorem wd_164 : Cond.fieldLink RX6 67 "ValveShop$Pencil" "drink" "I" ∈ xv_g := xv_in (xv_t1 111 (by decide +kernel)) rfl
theorem fl_X6_67 : xv_fl RX6 67 5 6 false .int := ⟨RX5, TX5, 7, tyX5, rfl, cw_X5, by decide, wd_164, rfl, rfl, tyX5_ok 6 (by decide), tyX5_ok, nmX5⟩
theorem wd_339 : Cond.code yJ7_fill_53178 cJ7_fill_53178 4 none ∈ xv_g := xv_in (xv_t2 46 rfl) rfl
theorem wd_64 : Cond.initialized RJ7 ∈ xv_g := xv_in (xv_t1 11 (by decide +kernel)) rfl
theorem wd_715 : Cond.methodLink RX6 70 yJ7_fill_53178 ∈ xv_g := xv_in (xv_t3 182 (by decide +kernel)) rfl
theorem wd_338 : Cond.static yJ7_fill_53178 ∈ xv_g := xv_in (xv_t2 45 (by decide +kernel)) rfl
theorem ln_X6_70 : xv_lS RX6 70 yJ7_fill_53178 mJ7_fill_53178 2 := ⟨Or.inl wd_715, wd_338, wd_64, wd_339, ⟨by decide +kernel, by decide +kernel, by decide +kernel⟩⟩
theorem wd_719 : Cond.code yX6_weigh cX6_weigh 9 none ∈ xv_g := xv_in (xv_t3 186 rfl) rfl
theorem wd_716 : Cond.methodLink RX6 76 yX6_weigh ∈ xv_g := xv_in (xv_t3 183 (by decide +kernel)) rfl
theorem wd_718 : Cond.instanceMethod yX6_weigh ∈ xv_g := xv_in (xv_t3 185 (by decide +kernel)) rfl
theorem wd_12 : Cond.selects RX6 yX6_weigh yX6_weigh ∈ xv_g := xv_in (xv_t0 12 (by decide +kernel)) rfl
theorem ln_X6_76 : xv_lV RX6 76 yX6_weigh mX6_weigh 2 := ⟨wd_716, wd_718, wd_12, wd_60, wd_719, rfl, ⟨by decide +kernel, by decide +kernel, by decide +kernel⟩⟩
theorem wd_720 : Cond.constant RX6 80 (1000000000) ∈ xv_g := xv_in (xv_t3 187 (by decide +kernel)) rfl
abbrev kc_X6_80 := wd_720
theorem wd_729 : Cond.constant RX6 81 (-1000000) ∈ xv_g := xv_in (xv_t3 196 (by decide +kernel)) rfl
abbrev kc_X6_81 := wd_729
theorem wd_733 : Cond.code yX6_keepBest cX6_keepBest 6 (some .int) ∈ xv_g := xv_in (xv_t3 200 rfl) rfl
theorem wd_730 : Cond.methodLink RX6 82 yX6_keepBest ∈ xv_g := xv_in (xv_t3 197 (by decide +kernel)) rfl
theorem wd_732 : Cond.instanceMethod yX6_keepBest ∈ xv_g := xv_in (xv_t3 199 (by decide +kernel)) rfl
theorem wd_15 : Cond.selects RX6 yX6_keepBest yX6_keepBest ∈ xv_g := xv_in (xv_t0 15 (by decide +kernel)) rfl
theorem ln_X6_82 : xv_lV RX6 82 yX6_keepBest mX6_keepBest 2 := ⟨wd_730, wd_732, wd_15, wd_60, wd_733, rfl, ⟨by decide +kernel, by decide +kernel, by decide +kernel⟩⟩
theorem wd_214 : Cond.fieldLink RX6 85 "ValveShop$Planner" "keptStretches" "I" ∈ xv_g := xv_in (xv_t1 161 (by decide +kernel)) rfl
theorem fl_X6_85 : xv_fl RX6 85 6 6 false .int := ⟨RX6, TX6, 7, tyX6, rfl, cw_X6, by decide, wd_214, rfl, rfl, tyX6_ok 6 (by decide), tyX6_ok, nmX6⟩
theorem wd_724 : Cond.code yX6_lasting cX6_lasting 7 (some .int) ∈ xv_g := xv_in (xv_t3 191 rfl) rfl
theorem wd_721 : Cond.methodLink RX6 88 yX6_lasting ∈ xv_g := xv_in (xv_t3 188 (by decide +kernel)) rfl
theorem wd_723 : Cond.instanceMethod yX6_lasting ∈ xv_g := xv_in (xv_t3 190 (by decide +kernel)) rfl
theorem wd_13 : Cond.selects RX6 yX6_lasting yX6_lasting ∈ xv_g := xv_in (xv_t0 13 (by decide +kernel)) rfl
theorem ln_X6_88 : xv_lV RX6 88 yX6_lasting mX6_lasting 2 := ⟨wd_721, wd_723, wd_13, wd_60, wd_724, rfl, ⟨by decide +kernel, by decide +kernel, by decide +kernel⟩⟩
theorem wd_728 : Cond.code yX6_burning cX6_burning 3 (some .int) ∈ xv_g := xv_in (xv_t3 195 rfl) rfl
theorem wd_725 : Cond.methodLink RX6 91 yX6_burning ∈ xv_g := xv_in (xv_t3 192 (by decide +kernel)) rfl
theorem wd_727 : Cond.instanceMethod yX6_burning ∈ xv_g := xv_in (xv_t3 194 (by decide +kernel)) rfl
theorem wd_14 : Cond.selects RX6 yX6_burning yX6_burning ∈ xv_g := xv_in (xv_t0 14 (by decide +kernel)) rfl
theorem ln_X6_91 : xv_lV RX6 91 yX6_burning mX6_burning 2 := ⟨wd_725, wd_727, wd_14, wd_60, wd_728, rfl, ⟨by decide +kernel, by decide +kernel, by decide +kernel⟩⟩
theorem wd_262 : Cond.methodLink RX7 3 Lib.objectInit ∈ xv_g := xv_in (xv_t1 209 (by decide +kernel)) rfl
theorem ln_X7_3 : Cond.methodLink RX7 3 Lib.objectInit ∈ xv_g ∧ Cond.instanceMethod Lib.objectInit ∈ xv_g ∧ Cond.code Lib.objectInit ⟨#[0xb1]⟩ 1 none ∈ xv_g := ⟨wd_262, wd_73, wd_74⟩
theorem wd_263 : Cond.fieldLink RX7 9 "ValveShop$Sheet" "items" "[I" ∈ xv_g := xv_in (xv_t1 210 (by decide +kernel)) rfl
theorem fl_X7_9 : xv_fl RX7 9 7 0 true (.array .int) := ⟨RX7, TX7, 4, tyX7, rfl, cw_X7, by decide, wd_263, rfl, rfl, tyX7_ok 0 (by decide), tyX7_ok, nmX7⟩
theorem wd_265 : Cond.fieldLink RX7 15 "ValveShop$Sheet" "there" "Z" ∈ xv_g := xv_in (xv_t1 212 (by decide +kernel)) rfl
theorem fl_X7_15 : xv_fl RX7 15 7 1 false .boolean := ⟨RX7, TX7, 4, tyX7, rfl, cw_X7, by decide, wd_265, rfl, rfl, tyX7_ok 1 (by decide), tyX7_ok, nmX7⟩
theorem wd_267 : Cond.fieldLink RX7 19 "ValveShop$Sheet" "lane" "I" ∈ xv_g := xv_in (xv_t1 214 (by decide +kernel)) rfl
theorem fl_X7_19 : xv_fl RX7 19 7 2 false .int := ⟨RX7, TX7, 4, tyX7, rfl, cw_X7, by decide, wd_267, rfl, rfl, tyX7_ok 2 (by decide), tyX7_ok, nmX7⟩
theorem wd_269 : Cond.fieldLink RX7 23 "ValveShop$Sheet" "size" "I" ∈ xv_g := xv_in (xv_t1 216 (by decide +kernel)) rfl
theorem fl_X7_23 : xv_fl RX7 23 7 3 false .int := ⟨RX7, TX7, 4, tyX7, rfl, cw_X7, by decide, wd_269, rfl, rfl, tyX7_ok 3 (by decide), tyX7_ok, nmX7⟩
theorem wd_337 : Cond.methodLink RX7 26 yJ7_fill_53178 ∈ xv_g := xv_in (xv_t2 44 (by decide +kernel)) rfl
theorem ln_X7_26 : xv_lS RX7 26 yJ7_fill_53178 mJ7_fill_53178 2 := ⟨Or.inl wd_337, wd_338, wd_64, wd_339, ⟨by decide +kernel, by decide +kernel, by decide +kernel⟩⟩
theorem wn_360 : Cond.methodLinkNest RX7 32 yX8_within "ValveShop" ∈ xv_nw := xv_inN (xv_t2 67 (by decide +kernel)) rfl
theorem ln_X7_32 : xv_lS RX7 32 yX8_within mX8_within 3 := ⟨Or.inr wn_360, wd_325, wd_54, wd_326, ⟨by decide +kernel, by decide +kernel, by decide +kernel⟩⟩
theorem wd_629 : Cond.methodLink RX7 36 yX7_read ∈ xv_g := xv_in (xv_t3 96 (by decide +kernel)) rfl
theorem ln_X7_36 : xv_lV RX7 36 yX7_read mX7_read 1 := ⟨wd_629, wd_380, wd_381, wd_62, wd_382, rfl, ⟨by decide +kernel, by decide +kernel, by decide +kernel⟩⟩
theorem wd_72 : Cond.methodLink RX8 1 Lib.objectInit ∈ xv_g := xv_in (xv_t1 19 (by decide +kernel)) rfl
theorem ln_X8_1 : Cond.methodLink RX8 1 Lib.objectInit ∈ xv_g ∧ Cond.instanceMethod Lib.objectInit ∈ xv_g ∧ Cond.code Lib.objectInit ⟨#[0xb1]⟩ 1 none ∈ xv_g := ⟨wd_72, wd_73, wd_74⟩
theorem wd_75 : Cond.classLink RX8 9 "ValveShop$Sheet" ∈ xv_g := xv_in (xv_t1 22 (by decide +kernel)) rfl
theorem wn_76 : Cond.arrayOver (.object "ValveShop$Sheet") ∈ xv_nw := xv_inN (xv_t1 23 (by decide +kernel)) rfl
theorem na_X8_9 : Cond.classLink RX8 9 "ValveShop$Sheet" ∈ xv_g ∧ Cond.arrayOver (.object "ValveShop$Sheet") ∈ xv_nw := ⟨wd_75, wn_76⟩
theorem wd_280 : Cond.fieldLink RX8 11 "ValveShop" "sheets" "[LValveShop$Sheet;" ∈ xv_g := xv_in (xv_t1 227 (by decide +kernel)) rfl
theorem fl_X8_11 : xv_fl RX8 11 8 0 true (.array (.object "ValveShop$Sheet")) := ⟨RX8, TX8, 13, tyX8, rfl, cw_X8, by decide, wd_280, rfl, rfl, tyX8_ok 0 (by decide), tyX8_ok, nmX8⟩
theorem wd_77 : Cond.classLink RX8 15 "ValveShop$Engine" ∈ xv_g := xv_in (xv_t1 24 (by decide +kernel)) rfl
theorem wn_78 : Cond.arrayOver (.object "ValveShop$Engine") ∈ xv_nw := xv_inN (xv_t1 25 (by decide +kernel)) rfl
theorem na_X8_15 : Cond.classLink RX8 15 "ValveShop$Engine" ∈ xv_g ∧ Cond.arrayOver (.object "ValveShop$Engine") ∈ xv_nw := ⟨wd_77, wn_78⟩
theorem wd_281 : Cond.fieldLink RX8 17 "ValveShop" "shelf" "[LValveShop$Engine;" ∈ xv_g := xv_in (xv_t1 228 (by decide +kernel)) rfl
theorem fl_X8_17 : xv_fl RX8 17 8 1 true (.array (.object "ValveShop$Engine")) := ⟨RX8, TX8, 13, tyX8, rfl, cw_X8, by decide, wd_281, rfl, rfl, tyX8_ok 1 (by decide), tyX8_ok, nmX8⟩
theorem wd_79 : Cond.classLink RX8 21 "ValveShop$FoundCard" ∈ xv_g := xv_in (xv_t1 26 (by decide +kernel)) rfl
theorem wn_80 : Cond.arrayOver (.object "ValveShop$FoundCard") ∈ xv_nw := xv_inN (xv_t1 27 (by decide +kernel)) rfl
theorem na_X8_21 : Cond.classLink RX8 21 "ValveShop$FoundCard" ∈ xv_g ∧ Cond.arrayOver (.object "ValveShop$FoundCard") ∈ xv_nw := ⟨wd_79, wn_80⟩
theorem wd_282 : Cond.fieldLink RX8 23 "ValveShop" "foundCards" "[LValveShop$FoundCard;" ∈ xv_g := xv_in (xv_t1 229 (by decide +kernel)) rfl
theorem fl_X8_23 : xv_fl RX8 23 8 2 true (.array (.object "ValveShop$FoundCard")) := ⟨RX8, TX8, 13, tyX8, rfl, cw_X8, by decide, wd_282, rfl, rfl, tyX8_ok 2 (by decide), tyX8_ok, nmX8⟩
theorem wd_81 : Cond.instantiable RX0 3 ∈ xv_g := xv_in (xv_t1 28 (by decide +kernel)) rfl
theorem nw_X8_15 : Cond.classLink RX8 15 RX0 ∈ xv_g ∧ Cond.instantiable RX0 3 ∈ xv_g ∧ Cond.initialized RX0 ∈ xv_g := ⟨wd_77, wd_81, wd_55⟩
theorem wd_84 : Cond.code yX0_init cX0_init 1 none ∈ xv_g := xv_in (xv_t1 31 rfl) rfl
theorem wn_82 : Cond.methodLinkNest RX8 27 yX0_init "ValveShop" ∈ xv_nw := xv_inN (xv_t1 29 (by decide +kernel)) rfl
theorem wd_83 : Cond.instanceMethod yX0_init ∈ xv_g := xv_in (xv_t1 30 (by decide +kernel)) rfl
theorem ln_X8_27 : xv_lI RX8 27 yX0_init mX0_init 0 := ⟨Or.inr wn_82, wd_83, wd_55, wd_84, rfl, rfl, ⟨by decide +kernel, by decide +kernel, by decide +kernel⟩⟩
theorem wd_283 : Cond.fieldLink RX8 28 "ValveShop" "trial" "LValveShop$Engine;" ∈ xv_g := xv_in (xv_t1 230 (by decide +kernel)) rfl
theorem fl_X8_28 : xv_fl RX8 28 8 3 true (.object "ValveShop$Engine") := ⟨RX8, TX8, 13, tyX8, rfl, cw_X8, by decide, wd_283, rfl, rfl, tyX8_ok 3 (by decide), tyX8_ok, nmX8⟩
theorem wd_103 : Cond.instantiable RX2 4 ∈ xv_g := xv_in (xv_t1 50 (by decide +kernel)) rfl
theorem nw_X8_21 : Cond.classLink RX8 21 RX2 ∈ xv_g ∧ Cond.instantiable RX2 4 ∈ xv_g ∧ Cond.initialized RX2 ∈ xv_g := ⟨wd_79, wd_103, wd_56⟩
theorem wd_106 : Cond.code yX2_init cX2_init 1 none ∈ xv_g := xv_in (xv_t1 53 rfl) rfl
theorem wn_104 : Cond.methodLinkNest RX8 32 yX2_init "ValveShop" ∈ xv_nw := xv_inN (xv_t1 51 (by decide +kernel)) rfl
theorem wd_105 : Cond.instanceMethod yX2_init ∈ xv_g := xv_in (xv_t1 52 (by decide +kernel)) rfl
theorem ln_X8_32 : xv_lI RX8 32 yX2_init mX2_init 0 := ⟨Or.inr wn_104, wd_105, wd_56, wd_106, rfl, rfl, ⟨by decide +kernel, by decide +kernel, by decide +kernel⟩⟩
theorem wd_284 : Cond.fieldLink RX8 33 "ValveShop" "compared" "LValveShop$FoundCard;" ∈ xv_g := xv_in (xv_t1 231 (by decide +kernel)) rfl
theorem fl_X8_33 : xv_fl RX8 33 8 4 true (.object "ValveShop$FoundCard") := ⟨RX8, TX8, 13, tyX8, rfl, cw_X8, by decide, wd_284, rfl, rfl, tyX8_ok 4 (by decide), tyX8_ok, nmX8⟩
theorem wd_124 : Cond.classLink RX8 37 RX3 ∈ xv_g := xv_in (xv_t1 71 (by decide +kernel)) rfl
theorem wd_125 : Cond.instantiable RX3 4 ∈ xv_g := xv_in (xv_t1 72 (by decide +kernel)) rfl
theorem nw_X8_37 : Cond.classLink RX8 37 RX3 ∈ xv_g ∧ Cond.instantiable RX3 4 ∈ xv_g ∧ Cond.initialized RX3 ∈ xv_g := ⟨wd_124, wd_125, wd_57⟩
theorem wd_128 : Cond.code yX3_init cX3_init 1 none ∈ xv_g := xv_in (xv_t1 75 rfl) rfl
theorem wn_126 : Cond.methodLinkNest RX8 39 yX3_init "ValveShop" ∈ xv_nw := xv_inN (xv_t1 73 (by decide +kernel)) rfl
theorem wd_127 : Cond.instanceMethod yX3_init ∈ xv_g := xv_in (xv_t1 74 (by decide +kernel)) rfl
theorem ln_X8_39 : xv_lI RX8 39 yX3_init mX3_init 0 := ⟨Or.inr wn_126, wd_127, wd_57, wd_128, rfl, rfl, ⟨by decide +kernel, by decide +kernel, by decide +kernel⟩⟩
theorem wd_285 : Cond.fieldLink RX8 40 "ValveShop" "gear" "LValveShop$Gear;" ∈ xv_g := xv_in (xv_t1 232 (by decide +kernel)) rfl
theorem fl_X8_40 : xv_fl RX8 40 8 5 true (.object "ValveShop$Gear") := ⟨RX8, TX8, 13, tyX8, rfl, cw_X8, by decide, wd_285, rfl, rfl, tyX8_ok 5 (by decide), tyX8_ok, nmX8⟩
theorem wd_148 : Cond.classLink RX8 44 RX5 ∈ xv_g := xv_in (xv_t1 95 (by decide +kernel)) rfl
theorem wd_149 : Cond.instantiable RX5 7 ∈ xv_g := xv_in (xv_t1 96 (by decide +kernel)) rfl
theorem nw_X8_44 : Cond.classLink RX8 44 RX5 ∈ xv_g ∧ Cond.instantiable RX5 7 ∈ xv_g ∧ Cond.initialized RX5 ∈ xv_g := ⟨wd_148, wd_149, wd_58⟩
theorem wd_152 : Cond.code yX5_init cX5_init 1 none ∈ xv_g := xv_in (xv_t1 99 rfl) rfl
theorem wn_150 : Cond.methodLinkNest RX8 46 yX5_init "ValveShop" ∈ xv_nw := xv_inN (xv_t1 97 (by decide +kernel)) rfl
theorem wd_151 : Cond.instanceMethod yX5_init ∈ xv_g := xv_in (xv_t1 98 (by decide +kernel)) rfl
theorem ln_X8_46 : xv_lI RX8 46 yX5_init mX5_init 0 := ⟨Or.inr wn_150, wd_151, wd_58, wd_152, rfl, rfl, ⟨by decide +kernel, by decide +kernel, by decide +kernel⟩⟩
theorem wd_286 : Cond.fieldLink RX8 47 "ValveShop" "pencil" "LValveShop$Pencil;" ∈ xv_g := xv_in (xv_t1 233 (by decide +kernel)) rfl
theorem fl_X8_47 : xv_fl RX8 47 8 6 true (.object "ValveShop$Pencil") := ⟨RX8, TX8, 13, tyX8, rfl, cw_X8, by decide, wd_286, rfl, rfl, tyX8_ok 6 (by decide), tyX8_ok, nmX8⟩
theorem wd_182 : Cond.classLink RX8 51 RX4 ∈ xv_g := xv_in (xv_t1 129 (by decide +kernel)) rfl
theorem wd_183 : Cond.instantiable RX4 3 ∈ xv_g := xv_in (xv_t1 130 (by decide +kernel)) rfl
theorem nw_X8_51 : Cond.classLink RX8 51 RX4 ∈ xv_g ∧ Cond.instantiable RX4 3 ∈ xv_g ∧ Cond.initialized RX4 ∈ xv_g := ⟨wd_182, wd_183, wd_59⟩
theorem wd_186 : Cond.code yX4_init cX4_init 1 none ∈ xv_g := xv_in (xv_t1 133 rfl) rfl
theorem wn_184 : Cond.methodLinkNest RX8 53 yX4_init "ValveShop" ∈ xv_nw := xv_inN (xv_t1 131 (by decide +kernel)) rfl
theorem wd_185 : Cond.instanceMethod yX4_init ∈ xv_g := xv_in (xv_t1 132 (by decide +kernel)) rfl
theorem ln_X8_53 : xv_lI RX8 53 yX4_init mX4_init 0 := ⟨Or.inr wn_184, wd_185, wd_59, wd_186, rfl, rfl, ⟨by decide +kernel, by decide +kernel, by decide +kernel⟩⟩
theorem wd_287 : Cond.fieldLink RX8 54 "ValveShop" "naming" "LValveShop$Naming;" ∈ xv_g := xv_in (xv_t1 234 (by decide +kernel)) rfl
theorem fl_X8_54 : xv_fl RX8 54 8 7 true (.object "ValveShop$Naming") := ⟨RX8, TX8, 13, tyX8, rfl, cw_X8, by decide, wd_287, rfl, rfl, tyX8_ok 7 (by decide), tyX8_ok, nmX8⟩
theorem wd_200 : Cond.classLink RX8 58 RX6 ∈ xv_g := xv_in (xv_t1 147 (by decide +kernel)) rfl
theorem wd_201 : Cond.instantiable RX6 7 ∈ xv_g := xv_in (xv_t1 148 (by decide +kernel)) rfl
theorem nw_X8_58 : Cond.classLink RX8 58 RX6 ∈ xv_g ∧ Cond.instantiable RX6 7 ∈ xv_g ∧ Cond.initialized RX6 ∈ xv_g := ⟨wd_200, wd_201, wd_60⟩
theorem wd_204 : Cond.code yX6_init cX6_init 1 none ∈ xv_g := xv_in (xv_t1 151 rfl) rfl
theorem wn_202 : Cond.methodLinkNest RX8 60 yX6_init "ValveShop" ∈ xv_nw := xv_inN (xv_t1 149 (by decide +kernel)) rfl
theorem wd_203 : Cond.instanceMethod yX6_init ∈ xv_g := xv_in (xv_t1 150 (by decide +kernel)) rfl
theorem ln_X8_60 : xv_lI RX8 60 yX6_init mX6_init 0 := ⟨Or.inr wn_202, wd_203, wd_60, wd_204, rfl, rfl, ⟨by decide +kernel, by decide +kernel, by decide +kernel⟩⟩
theorem wd_288 : Cond.fieldLink RX8 61 "ValveShop" "planner" "LValveShop$Planner;" ∈ xv_g := xv_in (xv_t1 235 (by decide +kernel)) rfl
theorem fl_X8_61 : xv_fl RX8 61 8 8 true (.object "ValveShop$Planner") := ⟨RX8, TX8, 13, tyX8, rfl, cw_X8, by decide, wd_288, rfl, rfl, tyX8_ok 8 (by decide), tyX8_ok, nmX8⟩
theorem wd_231 : Cond.classLink RX8 65 RX1 ∈ xv_g := xv_in (xv_t1 178 (by decide +kernel)) rfl
theorem wd_232 : Cond.instantiable RX1 6 ∈ xv_g := xv_in (xv_t1 179 (by decide +kernel)) rfl
theorem wd_61 : Cond.initialized RX1 ∈ xv_g := xv_in (xv_t1 8 (by decide +kernel)) rfl
theorem nw_X8_65 : Cond.classLink RX8 65 RX1 ∈ xv_g ∧ Cond.instantiable RX1 6 ∈ xv_g ∧ Cond.initialized RX1 ∈ xv_g := ⟨wd_231, wd_232, wd_61⟩
theorem wd_235 : Cond.code yX1_init cX1_init 1 none ∈ xv_g := xv_in (xv_t1 182 rfl) rfl
theorem wn_233 : Cond.methodLinkNest RX8 67 yX1_init "ValveShop" ∈ xv_nw := xv_inN (xv_t1 180 (by decide +kernel)) rfl
theorem wd_234 : Cond.instanceMethod yX1_init ∈ xv_g := xv_in (xv_t1 181 (by decide +kernel)) rfl
theorem ln_X8_67 : xv_lI RX8 67 yX1_init mX1_init 0 := ⟨Or.inr wn_233, wd_234, wd_61, wd_235, rfl, rfl, ⟨by decide +kernel, by decide +kernel, by decide +kernel⟩⟩
theorem wd_289 : Cond.fieldLink RX8 68 "ValveShop" "hearth" "LValveShop$Fire;" ∈ xv_g := xv_in (xv_t1 236 (by decide +kernel)) rfl
theorem fl_X8_68 : xv_fl RX8 68 8 9 true (.object "ValveShop$Fire") := ⟨RX8, TX8, 13, tyX8, rfl, cw_X8, by decide, wd_289, rfl, rfl, tyX8_ok 9 (by decide), tyX8_ok, nmX8⟩
theorem wd_290 : Cond.fieldLink RX8 72 "ValveShop" "traced" "[I" ∈ xv_g := xv_in (xv_t1 237 (by decide +kernel)) rfl
theorem fl_X8_72 : xv_fl RX8 72 8 10 true (.array .int) := ⟨RX8, TX8, 13, tyX8, rfl, cw_X8, by decide, wd_290, rfl, rfl, tyX8_ok 10 (by decide), tyX8_ok, nmX8⟩
theorem wd_258 : Cond.instantiable RX7 4 ∈ xv_g := xv_in (xv_t1 205 (by decide +kernel)) rfl
theorem nw_X8_9 : Cond.classLink RX8 9 RX7 ∈ xv_g ∧ Cond.instantiable RX7 4 ∈ xv_g ∧ Cond.initialized RX7 ∈ xv_g := ⟨wd_75, wd_258, wd_62⟩
theorem wd_261 : Cond.code yX7_init cX7_init 1 none ∈ xv_g := xv_in (xv_t1 208 rfl) rfl
theorem wn_259 : Cond.methodLinkNest RX8 76 yX7_init "ValveShop" ∈ xv_nw := xv_inN (xv_t1 206 (by decide +kernel)) rfl
theorem wd_260 : Cond.instanceMethod yX7_init ∈ xv_g := xv_in (xv_t1 207 (by decide +kernel)) rfl
theorem ln_X8_76 : xv_lI RX8 76 yX7_init mX7_init 0 := ⟨Or.inr wn_259, wd_260, wd_62, wd_261, rfl, rfl, ⟨by decide +kernel, by decide +kernel, by decide +kernel⟩⟩
theorem wd_324 : Cond.methodLink RX8 77 yX8_within ∈ xv_g := xv_in (xv_t2 31 (by decide +kernel)) rfl
theorem ln_X8_77 : xv_lS RX8 77 yX8_within mX8_within 3 := ⟨Or.inl wd_324, wd_325, wd_54, wd_326, ⟨by decide +kernel, by decide +kernel, by decide +kernel⟩⟩
theorem wd_327 : Cond.constant RX8 81 (-1000001) ∈ xv_g := xv_in (xv_t2 34 (by decide +kernel)) rfl
abbrev kc_X8_81 := wd_327
theorem wd_331 : Cond.code yX8_found cX8_found 2 (some .int) ∈ xv_g := xv_in (xv_t2 38 rfl) rfl
theorem wd_328 : Cond.methodLink RX8 82 yX8_found ∈ xv_g := xv_in (xv_t2 35 (by decide +kernel)) rfl
theorem wd_330 : Cond.instanceMethod yX8_found ∈ xv_g := xv_in (xv_t2 37 (by decide +kernel)) rfl
theorem wd_0 : Cond.selects RX8 yX8_found yX8_found ∈ xv_g := xv_in (xv_t0 0 (by decide +kernel)) rfl
theorem ln_X8_82 : xv_lV RX8 82 yX8_found mX8_found 1 := ⟨wd_328, wd_330, wd_0, wd_54, wd_331, rfl, ⟨by decide +kernel, by decide +kernel, by decide +kernel⟩⟩
theorem wd_336 : Cond.code yX7_begin cX7_begin 3 none ∈ xv_g := xv_in (xv_t2 43 rfl) rfl
theorem wd_333 : Cond.methodLink RX8 86 yX7_begin ∈ xv_g := xv_in (xv_t2 40 (by decide +kernel)) rfl
theorem wd_334 : Cond.instanceMethod yX7_begin ∈ xv_g := xv_in (xv_t2 41 (by decide +kernel)) rfl
theorem wd_335 : Cond.selects RX7 yX7_begin yX7_begin ∈ xv_g := xv_in (xv_t2 42 (by decide +kernel)) rfl
theorem ln_X8_86 : xv_lV RX8 86 yX7_begin mX7_begin 2 := ⟨wd_333, wd_334, wd_335, wd_62, wd_336, rfl, ⟨by decide +kernel, by decide +kernel, by decide +kernel⟩⟩
theorem wd_343 : Cond.code yX8_answered cX8_answered 2 (some .int) ∈ xv_g := xv_in (xv_t2 50 rfl) rfl
theorem wd_340 : Cond.methodLink RX8 90 yX8_answered ∈ xv_g := xv_in (xv_t2 47 (by decide +kernel)) rfl
theorem wd_342 : Cond.instanceMethod yX8_answered ∈ xv_g := xv_in (xv_t2 49 (by decide +kernel)) rfl
theorem wd_1 : Cond.selects RX8 yX8_answered yX8_answered ∈ xv_g := xv_in (xv_t0 1 (by decide +kernel)) rfl
theorem ln_X8_90 : xv_lV RX8 90 yX8_answered mX8_answered 1 := ⟨wd_340, wd_342, wd_1, wd_54, wd_343, rfl, ⟨by decide +kernel, by decide +kernel, by decide +kernel⟩⟩
theorem wd_351 : Cond.code yX8_sheetAt cX8_sheetAt 3 (some (.object "ValveShop$Sheet")) ∈ xv_g := xv_in (xv_t2 58 rfl) rfl
theorem wd_348 : Cond.methodLink RX8 93 yX8_sheetAt ∈ xv_g := xv_in (xv_t2 55 (by decide +kernel)) rfl
theorem wd_350 : Cond.instanceMethod yX8_sheetAt ∈ xv_g := xv_in (xv_t2 57 (by decide +kernel)) rfl
theorem wd_2 : Cond.selects RX8 yX8_sheetAt yX8_sheetAt ∈ xv_g := xv_in (xv_t0 2 (by decide +kernel)) rfl
theorem ln_X8_93 : xv_lV RX8 93 yX8_sheetAt mX8_sheetAt 1 := ⟨wd_348, wd_350, wd_2, wd_54, wd_351, rfl, ⟨by decide +kernel, by decide +kernel, by decide +kernel⟩⟩
theorem wd_355 : Cond.code yX7_has cX7_has 3 (some .boolean) ∈ xv_g := xv_in (xv_t2 62 rfl) rfl
theorem wd_352 : Cond.methodLink RX8 97 yX7_has ∈ xv_g := xv_in (xv_t2 59 (by decide +kernel)) rfl
theorem wd_353 : Cond.instanceMethod yX7_has ∈ xv_g := xv_in (xv_t2 60 (by decide +kernel)) rfl
theorem wd_354 : Cond.selects RX7 yX7_has yX7_has ∈ xv_g := xv_in (xv_t2 61 (by decide +kernel)) rfl
theorem ln_X8_97 : xv_lV RX8 97 yX7_has mX7_has 2 := ⟨wd_352, wd_353, wd_354, wd_62, wd_355, rfl, ⟨by decide +kernel, by decide +kernel, by decide +kernel⟩⟩
theorem wd_359 : Cond.code yX7_write cX7_write 3 (some .int) ∈ xv_g := xv_in (xv_t2 66 rfl) rfl
theorem wd_356 : Cond.methodLink RX8 101 yX7_write ∈ xv_g := xv_in (xv_t2 63 (by decide +kernel)) rfl
theorem wd_357 : Cond.instanceMethod yX7_write ∈ xv_g := xv_in (xv_t2 64 (by decide +kernel)) rfl
theorem wd_358 : Cond.selects RX7 yX7_write yX7_write ∈ xv_g := xv_in (xv_t2 65 (by decide +kernel)) rfl
theorem ln_X8_101 : xv_lV RX8 101 yX7_write mX7_write 2 := ⟨wd_356, wd_357, wd_358, wd_62, wd_359, rfl, ⟨by decide +kernel, by decide +kernel, by decide +kernel⟩⟩
theorem wd_268 : Cond.fieldLink RX8 105 "ValveShop$Sheet" "lane" "I" ∈ xv_g := xv_in (xv_t1 215 (by decide +kernel)) rfl
theorem fl_X8_105 : xv_fl RX8 105 7 2 false .int := ⟨RX7, TX7, 4, tyX7, rfl, cw_X7, by decide, wd_268, rfl, rfl, tyX7_ok 2 (by decide), tyX7_ok, nmX7⟩
theorem wd_264 : Cond.fieldLink RX8 109 "ValveShop$Sheet" "items" "[I" ∈ xv_g := xv_in (xv_t1 211 (by decide +kernel)) rfl
theorem fl_X8_109 : xv_fl RX8 109 7 0 true (.array .int) := ⟨RX7, TX7, 4, tyX7, rfl, cw_X7, by decide, wd_264, rfl, rfl, tyX7_ok 0 (by decide), tyX7_ok, nmX7⟩
theorem wd_365 : Cond.methodLink RX8 112 arraycopyName ∈ xv_g := xv_in (xv_t2 72 (by decide +kernel)) rfl
theorem ln_X8_112 : Cond.methodLink RX8 112 arraycopyName ∈ xv_g ∧ Cond.native arraycopyName ∈ xv_g ∧ Cond.static arraycopyName ∈ xv_g ∧ Cond.initialized "java/lang/System" ∈ xv_g := ⟨wd_365, wd_367, wd_366, wd_65⟩
theorem wd_266 : Cond.fieldLink RX8 118 "ValveShop$Sheet" "there" "Z" ∈ xv_g := xv_in (xv_t1 213 (by decide +kernel)) rfl
theorem fl_X8_118 : xv_fl RX8 118 7 1 false .boolean := ⟨RX7, TX7, 4, tyX7, rfl, cw_X7, by decide, wd_266, rfl, rfl, tyX7_ok 1 (by decide), tyX7_ok, nmX7⟩
theorem wd_270 : Cond.fieldLink RX8 122 "ValveShop$Sheet" "size" "I" ∈ xv_g := xv_in (xv_t1 217 (by decide +kernel)) rfl
theorem fl_X8_122 : xv_fl RX8 122 7 3 false .int := ⟨RX7, TX7, 4, tyX7, rfl, cw_X7, by decide, wd_270, rfl, rfl, tyX7_ok 3 (by decide), tyX7_ok, nmX7⟩
theorem wd_378 : Cond.code yX8_isPlace cX8_isPlace 1 (some .boolean) ∈ xv_g := xv_in (xv_t2 85 rfl) rfl
theorem wd_376 : Cond.methodLink RX8 125 yX8_isPlace ∈ xv_g := xv_in (xv_t2 83 (by decide +kernel)) rfl
theorem wd_377 : Cond.static yX8_isPlace ∈ xv_g := xv_in (xv_t2 84 (by decide +kernel)) rfl
theorem ln_X8_125 : xv_lS RX8 125 yX8_isPlace mX8_isPlace 1 := ⟨Or.inl wd_376, wd_377, wd_54, wd_378, ⟨by decide +kernel, by decide +kernel, by decide +kernel⟩⟩
theorem wd_379 : Cond.methodLink RX8 129 yX7_read ∈ xv_g := xv_in (xv_t2 86 (by decide +kernel)) rfl
theorem ln_X8_129 : xv_lV RX8 129 yX7_read mX7_read 1 := ⟨wd_379, wd_380, wd_381, wd_62, wd_382, rfl, ⟨by decide +kernel, by decide +kernel, by decide +kernel⟩⟩
theorem wd_385 : Cond.code yX8_isNumber cX8_isNumber 2 (some .boolean) ∈ xv_g := xv_in (xv_t2 92 rfl) rfl
theorem wd_383 : Cond.methodLink RX8 132 yX8_isNumber ∈ xv_g := xv_in (xv_t2 90 (by decide +kernel)) rfl
theorem wd_384 : Cond.static yX8_isNumber ∈ xv_g := xv_in (xv_t2 91 (by decide +kernel)) rfl
theorem ln_X8_132 : xv_lS RX8 132 yX8_isNumber mX8_isNumber 2 := ⟨Or.inl wd_383, wd_384, wd_54, wd_385, ⟨by decide +kernel, by decide +kernel, by decide +kernel⟩⟩
theorem wd_393 : Cond.code yX0_build cX0_build 4 none ∈ xv_g := xv_in (xv_t2 100 rfl) rfl
theorem wd_390 : Cond.methodLink RX8 135 yX0_build ∈ xv_g := xv_in (xv_t2 97 (by decide +kernel)) rfl
theorem wd_391 : Cond.instanceMethod yX0_build ∈ xv_g := xv_in (xv_t2 98 (by decide +kernel)) rfl
theorem wd_392 : Cond.selects RX0 yX0_build yX0_build ∈ xv_g := xv_in (xv_t2 99 (by decide +kernel)) rfl
theorem ln_X8_135 : xv_lV RX8 135 yX0_build mX0_build 2 := ⟨wd_390, wd_391, wd_392, wd_55, wd_393, rfl, ⟨by decide +kernel, by decide +kernel, by decide +kernel⟩⟩
theorem wd_110 : Cond.fieldLink RX8 139 "ValveShop$FoundCard" "kept" "Z" ∈ xv_g := xv_in (xv_t1 57 (by decide +kernel)) rfl
theorem fl_X8_139 : xv_fl RX8 139 2 1 false .boolean := ⟨RX2, TX2, 4, tyX2, rfl, cw_X2, by decide, wd_110, rfl, rfl, tyX2_ok 1 (by decide), tyX2_ok, nmX2⟩
theorem wd_402 : Cond.code yX8_engineAt cX8_engineAt 3 (some (.object "ValveShop$Engine")) ∈ xv_g := xv_in (xv_t2 109 rfl) rfl
theorem wd_399 : Cond.methodLink RX8 142 yX8_engineAt ∈ xv_g := xv_in (xv_t2 106 (by decide +kernel)) rfl
theorem wd_401 : Cond.instanceMethod yX8_engineAt ∈ xv_g := xv_in (xv_t2 108 (by decide +kernel)) rfl
theorem wd_3 : Cond.selects RX8 yX8_engineAt yX8_engineAt ∈ xv_g := xv_in (xv_t0 3 (by decide +kernel)) rfl
theorem ln_X8_142 : xv_lV RX8 142 yX8_engineAt mX8_engineAt 1 := ⟨wd_399, wd_401, wd_3, wd_54, wd_402, rfl, ⟨by decide +kernel, by decide +kernel, by decide +kernel⟩⟩
theorem wd_89 : Cond.fieldLink RX8 146 "ValveShop$Engine" "numbers" "[I" ∈ xv_g := xv_in (xv_t1 36 (by decide +kernel)) rfl
theorem fl_X8_146 : xv_fl RX8 146 0 0 true (.array .int) := ⟨RX0, TX0, 3, tyX0, rfl, cw_X0, by decide, wd_89, rfl, rfl, tyX0_ok 0 (by decide), tyX0_ok, nmX0⟩
theorem wd_409 : Cond.code yX8_isSickness cX8_isSickness 1 (some .boolean) ∈ xv_g := xv_in (xv_t2 116 rfl) rfl
theorem wd_407 : Cond.methodLink RX8 149 yX8_isSickness ∈ xv_g := xv_in (xv_t2 114 (by decide +kernel)) rfl
theorem wd_408 : Cond.static yX8_isSickness ∈ xv_g := xv_in (xv_t2 115 (by decide +kernel)) rfl
theorem ln_X8_149 : xv_lS RX8 149 yX8_isSickness mX8_isSickness 1 := ⟨Or.inl wd_407, wd_408, wd_54, wd_409, ⟨by decide +kernel, by decide +kernel, by decide +kernel⟩⟩
theorem wd_92 : Cond.fieldLink RX8 152 "ValveShop$Engine" "sickness" "I" ∈ xv_g := xv_in (xv_t1 39 (by decide +kernel)) rfl
theorem fl_X8_152 : xv_fl RX8 152 0 1 false .int := ⟨RX0, TX0, 3, tyX0, rfl, cw_X0, by decide, wd_92, rfl, rfl, tyX0_ok 1 (by decide), tyX0_ok, nmX0⟩
theorem wd_414 : Cond.methodLink RX8 155 yX0_resemble ∈ xv_g := xv_in (xv_t2 121 (by decide +kernel)) rfl
theorem ln_X8_155 : xv_lV RX8 155 yX0_resemble mX0_resemble 1 := ⟨wd_414, wd_415, wd_416, wd_55, wd_417, rfl, ⟨by decide +kernel, by decide +kernel, by decide +kernel⟩⟩
theorem wd_94 : Cond.fieldLink RX8 159 "ValveShop$Engine" "there" "Z" ∈ xv_g := xv_in (xv_t1 41 (by decide +kernel)) rfl
theorem fl_X8_159 : xv_fl RX8 159 0 2 false .boolean := ⟨RX0, TX0, 3, tyX0, rfl, cw_X0, by decide, wd_94, rfl, rfl, tyX0_ok 2 (by decide), tyX0_ok, nmX0⟩
theorem wd_433 : Cond.code yX8_isTurned cX8_isTurned 1 (some .boolean) ∈ xv_g := xv_in (xv_t2 140 rfl) rfl
theorem wd_431 : Cond.methodLink RX8 160 yX8_isTurned ∈ xv_g := xv_in (xv_t2 138 (by decide +kernel)) rfl
theorem wd_432 : Cond.static yX8_isTurned ∈ xv_g := xv_in (xv_t2 139 (by decide +kernel)) rfl
theorem ln_X8_160 : xv_lS RX8 160 yX8_isTurned mX8_isTurned 1 := ⟨Or.inl wd_431, wd_432, wd_54, wd_433, ⟨by decide +kernel, by decide +kernel, by decide +kernel⟩⟩
theorem wd_434 : Cond.methodLink RX8 163 yX0_stroke ∈ xv_g := xv_in (xv_t2 141 (by decide +kernel)) rfl
theorem ln_X8_163 : xv_lV RX8 163 yX0_stroke mX0_stroke 1 := ⟨wd_434, wd_435, wd_436, wd_55, wd_437, rfl, ⟨by decide +kernel, by decide +kernel, by decide +kernel⟩⟩
theorem wd_450 : Cond.code yX8_isNotch cX8_isNotch 1 (some .boolean) ∈ xv_g := xv_in (xv_t2 157 rfl) rfl
theorem wd_448 : Cond.methodLink RX8 166 yX8_isNotch ∈ xv_g := xv_in (xv_t2 155 (by decide +kernel)) rfl
theorem wd_449 : Cond.static yX8_isNotch ∈ xv_g := xv_in (xv_t2 156 (by decide +kernel)) rfl
theorem ln_X8_166 : xv_lS RX8 166 yX8_isNotch mX8_isNotch 1 := ⟨Or.inl wd_448, wd_449, wd_54, wd_450, ⟨by decide +kernel, by decide +kernel, by decide +kernel⟩⟩
theorem wd_451 : Cond.methodLink RX8 169 yX0_travel ∈ xv_g := xv_in (xv_t2 158 (by decide +kernel)) rfl
theorem ln_X8_169 : xv_lV RX8 169 yX0_travel mX0_travel 2 := ⟨wd_451, wd_452, wd_453, wd_55, wd_454, rfl, ⟨by decide +kernel, by decide +kernel, by decide +kernel⟩⟩
theorem wd_476 : Cond.code yX8_isEnd cX8_isEnd 1 (some .boolean) ∈ xv_g := xv_in (xv_t2 183 rfl) rfl
theorem wd_474 : Cond.methodLink RX8 172 yX8_isEnd ∈ xv_g := xv_in (xv_t2 181 (by decide +kernel)) rfl
theorem wd_475 : Cond.static yX8_isEnd ∈ xv_g := xv_in (xv_t2 182 (by decide +kernel)) rfl
theorem ln_X8_172 : xv_lS RX8 172 yX8_isEnd mX8_isEnd 1 := ⟨Or.inl wd_474, wd_475, wd_54, wd_476, ⟨by decide +kernel, by decide +kernel, by decide +kernel⟩⟩
theorem wd_477 : Cond.methodLink RX8 175 yX0_opening ∈ xv_g := xv_in (xv_t2 184 (by decide +kernel)) rfl
theorem ln_X8_175 : xv_lV RX8 175 yX0_opening mX0_opening 3 := ⟨wd_477, wd_478, wd_479, wd_55, wd_480, rfl, ⟨by decide +kernel, by decide +kernel, by decide +kernel⟩⟩
theorem wd_494 : Cond.code yX3_firstEvent cX3_firstEvent 5 (some .int) ∈ xv_g := xv_in (xv_t2 201 rfl) rfl
theorem wd_491 : Cond.methodLink RX8 179 yX3_firstEvent ∈ xv_g := xv_in (xv_t2 198 (by decide +kernel)) rfl
theorem wd_492 : Cond.instanceMethod yX3_firstEvent ∈ xv_g := xv_in (xv_t2 199 (by decide +kernel)) rfl
theorem wd_493 : Cond.selects RX3 yX3_firstEvent yX3_firstEvent ∈ xv_g := xv_in (xv_t2 200 (by decide +kernel)) rfl
theorem ln_X8_179 : xv_lV RX8 179 yX3_firstEvent mX3_firstEvent 4 := ⟨wd_491, wd_492, wd_493, wd_57, wd_494, rfl, ⟨by decide +kernel, by decide +kernel, by decide +kernel⟩⟩
theorem wd_514 : Cond.code yX3_unlike cX3_unlike 2 (some .int) ∈ xv_g := xv_in (xv_t2 221 rfl) rfl
theorem wd_511 : Cond.methodLink RX8 183 yX3_unlike ∈ xv_g := xv_in (xv_t2 218 (by decide +kernel)) rfl
theorem wd_512 : Cond.instanceMethod yX3_unlike ∈ xv_g := xv_in (xv_t2 219 (by decide +kernel)) rfl
theorem wd_513 : Cond.selects RX3 yX3_unlike yX3_unlike ∈ xv_g := xv_in (xv_t2 220 (by decide +kernel)) rfl
theorem ln_X8_183 : xv_lV RX8 183 yX3_unlike mX3_unlike 1 := ⟨wd_511, wd_512, wd_513, wd_57, wd_514, rfl, ⟨by decide +kernel, by decide +kernel, by decide +kernel⟩⟩
theorem wd_534 : Cond.code yX0_lead cX0_lead 1 (some .int) ∈ xv_g := xv_in (xv_t3 1 rfl) rfl
theorem wd_531 : Cond.methodLink RX8 187 yX0_lead ∈ xv_g := xv_in (xv_t2 238 (by decide +kernel)) rfl
theorem wd_532 : Cond.instanceMethod yX0_lead ∈ xv_g := xv_in (xv_t2 239 (by decide +kernel)) rfl
theorem wd_533 : Cond.selects RX0 yX0_lead yX0_lead ∈ xv_g := xv_in (xv_t3 0 (by decide +kernel)) rfl
theorem ln_X8_187 : xv_lV RX8 187 yX0_lead mX0_lead 0 := ⟨wd_531, wd_532, wd_533, wd_55, wd_534, rfl, ⟨by decide +kernel, by decide +kernel, by decide +kernel⟩⟩
theorem wd_544 : Cond.code yX3_seekSetting cX3_seekSetting 6 none ∈ xv_g := xv_in (xv_t3 11 rfl) rfl
theorem wd_541 : Cond.methodLink RX8 191 yX3_seekSetting ∈ xv_g := xv_in (xv_t3 8 (by decide +kernel)) rfl
theorem wd_542 : Cond.instanceMethod yX3_seekSetting ∈ xv_g := xv_in (xv_t3 9 (by decide +kernel)) rfl
theorem wd_543 : Cond.selects RX3 yX3_seekSetting yX3_seekSetting ∈ xv_g := xv_in (xv_t3 10 (by decide +kernel)) rfl
theorem ln_X8_191 : xv_lV RX8 191 yX3_seekSetting mX3_seekSetting 2 := ⟨wd_541, wd_542, wd_543, wd_57, wd_544, rfl, ⟨by decide +kernel, by decide +kernel, by decide +kernel⟩⟩
theorem wd_134 : Cond.fieldLink RX8 195 "ValveShop$Gear" "bestAdvance" "I" ∈ xv_g := xv_in (xv_t1 81 (by decide +kernel)) rfl
theorem fl_X8_195 : xv_fl RX8 195 3 1 false .int := ⟨RX3, TX3, 4, tyX3, rfl, cw_X3, by decide, wd_134, rfl, rfl, tyX3_ok 1 (by decide), tyX3_ok, nmX3⟩
theorem wd_136 : Cond.fieldLink RX8 198 "ValveShop$Gear" "bestHang" "I" ∈ xv_g := xv_in (xv_t1 83 (by decide +kernel)) rfl
theorem fl_X8_198 : xv_fl RX8 198 3 2 false .int := ⟨RX3, TX3, 4, tyX3, rfl, cw_X3, by decide, wd_136, rfl, rfl, tyX3_ok 2 (by decide), tyX3_ok, nmX3⟩
theorem wd_138 : Cond.fieldLink RX8 201 "ValveShop$Gear" "leastUnlike" "I" ∈ xv_g := xv_in (xv_t1 85 (by decide +kernel)) rfl
theorem fl_X8_201 : xv_fl RX8 201 3 3 false .int := ⟨RX3, TX3, 4, tyX3, rfl, cw_X3, by decide, wd_138, rfl, rfl, tyX3_ok 3 (by decide), tyX3_ok, nmX3⟩
theorem wd_558 : Cond.code yX8_isBoiler cX8_isBoiler 1 (some .boolean) ∈ xv_g := xv_in (xv_t3 25 rfl) rfl
theorem wd_556 : Cond.methodLink RX8 204 yX8_isBoiler ∈ xv_g := xv_in (xv_t3 23 (by decide +kernel)) rfl
theorem wd_557 : Cond.static yX8_isBoiler ∈ xv_g := xv_in (xv_t3 24 (by decide +kernel)) rfl
theorem ln_X8_204 : xv_lS RX8 204 yX8_isBoiler mX8_isBoiler 1 := ⟨Or.inl wd_556, wd_557, wd_54, wd_558, ⟨by decide +kernel, by decide +kernel, by decide +kernel⟩⟩
theorem wd_561 : Cond.code yX8_isRegulator cX8_isRegulator 1 (some .boolean) ∈ xv_g := xv_in (xv_t3 28 rfl) rfl
theorem wd_559 : Cond.methodLink RX8 207 yX8_isRegulator ∈ xv_g := xv_in (xv_t3 26 (by decide +kernel)) rfl
theorem wd_560 : Cond.static yX8_isRegulator ∈ xv_g := xv_in (xv_t3 27 (by decide +kernel)) rfl
theorem ln_X8_207 : xv_lS RX8 207 yX8_isRegulator mX8_isRegulator 1 := ⟨Or.inl wd_559, wd_560, wd_54, wd_561, ⟨by decide +kernel, by decide +kernel, by decide +kernel⟩⟩
theorem wd_562 : Cond.methodLink RX8 210 yX5_draw ∈ xv_g := xv_in (xv_t3 29 (by decide +kernel)) rfl
theorem ln_X8_210 : xv_lV RX8 210 yX5_draw mX5_draw 5 := ⟨wd_562, wd_563, wd_564, wd_58, wd_565, rfl, ⟨by decide +kernel, by decide +kernel, by decide +kernel⟩⟩
theorem wd_159 : Cond.fieldLink RX8 214 "ValveShop$Pencil" "pressures" "[I" ∈ xv_g := xv_in (xv_t1 106 (by decide +kernel)) rfl
theorem fl_X8_214 : xv_fl RX8 214 5 3 true (.array .int) := ⟨RX5, TX5, 7, tyX5, rfl, cw_X5, by decide, wd_159, rfl, rfl, tyX5_ok 3 (by decide), tyX5_ok, nmX5⟩
theorem wd_596 : Cond.code yX5_mean cX5_mean 3 (some .int) ∈ xv_g := xv_in (xv_t3 63 rfl) rfl
theorem wd_593 : Cond.methodLink RX8 217 yX5_mean ∈ xv_g := xv_in (xv_t3 60 (by decide +kernel)) rfl
theorem wd_594 : Cond.instanceMethod yX5_mean ∈ xv_g := xv_in (xv_t3 61 (by decide +kernel)) rfl
theorem wd_595 : Cond.selects RX5 yX5_mean yX5_mean ∈ xv_g := xv_in (xv_t3 62 (by decide +kernel)) rfl
theorem ln_X8_217 : xv_lV RX8 217 yX5_mean mX5_mean 0 := ⟨wd_593, wd_594, wd_595, wd_58, wd_596, rfl, ⟨by decide +kernel, by decide +kernel, by decide +kernel⟩⟩
theorem wd_600 : Cond.code yX5_peak cX5_peak 3 (some .int) ∈ xv_g := xv_in (xv_t3 67 rfl) rfl
theorem wd_597 : Cond.methodLink RX8 220 yX5_peak ∈ xv_g := xv_in (xv_t3 64 (by decide +kernel)) rfl
theorem wd_598 : Cond.instanceMethod yX5_peak ∈ xv_g := xv_in (xv_t3 65 (by decide +kernel)) rfl
theorem wd_599 : Cond.selects RX5 yX5_peak yX5_peak ∈ xv_g := xv_in (xv_t3 66 (by decide +kernel)) rfl
theorem ln_X8_220 : xv_lV RX8 220 yX5_peak mX5_peak 0 := ⟨wd_597, wd_598, wd_599, wd_58, wd_600, rfl, ⟨by decide +kernel, by decide +kernel, by decide +kernel⟩⟩
theorem wd_605 : Cond.code yX5_loop cX5_loop 3 (some .int) ∈ xv_g := xv_in (xv_t3 72 rfl) rfl
theorem wd_602 : Cond.methodLink RX8 223 yX5_loop ∈ xv_g := xv_in (xv_t3 69 (by decide +kernel)) rfl
theorem wd_603 : Cond.instanceMethod yX5_loop ∈ xv_g := xv_in (xv_t3 70 (by decide +kernel)) rfl
theorem wd_604 : Cond.selects RX5 yX5_loop yX5_loop ∈ xv_g := xv_in (xv_t3 71 (by decide +kernel)) rfl
theorem ln_X8_223 : xv_lV RX8 223 yX5_loop mX5_loop 0 := ⟨wd_602, wd_603, wd_604, wd_58, wd_605, rfl, ⟨by decide +kernel, by decide +kernel, by decide +kernel⟩⟩
theorem wd_610 : Cond.methodLink RX8 226 yX5_measure ∈ xv_g := xv_in (xv_t3 77 (by decide +kernel)) rfl
theorem ln_X8_226 : xv_lV RX8 226 yX5_measure mX5_measure 4 := ⟨wd_610, wd_611, wd_612, wd_58, wd_613, rfl, ⟨by decide +kernel, by decide +kernel, by decide +kernel⟩⟩
theorem wd_163 : Cond.fieldLink RX8 230 "ValveShop$Pencil" "work" "I" ∈ xv_g := xv_in (xv_t1 110 (by decide +kernel)) rfl
theorem fl_X8_230 : xv_fl RX8 230 5 5 false .int := ⟨RX5, TX5, 7, tyX5, rfl, cw_X5, by decide, wd_163, rfl, rfl, tyX5_ok 5 (by decide), tyX5_ok, nmX5⟩
theorem wd_166 : Cond.fieldLink RX8 233 "ValveShop$Pencil" "drink" "I" ∈ xv_g := xv_in (xv_t1 113 (by decide +kernel)) rfl
theorem fl_X8_233 : xv_fl RX8 233 5 6 false .int := ⟨RX5, TX5, 7, tyX5, rfl, cw_X5, by decide, wd_166, rfl, rfl, tyX5_ok 6 (by decide), tyX5_ok, nmX5⟩
theorem wd_628 : Cond.code yX7_holdsWithin cX7_holdsWithin 6 (some .boolean) ∈ xv_g := xv_in (xv_t3 95 rfl) rfl
theorem wd_625 : Cond.methodLink RX8 236 yX7_holdsWithin ∈ xv_g := xv_in (xv_t3 92 (by decide +kernel)) rfl
theorem wd_626 : Cond.instanceMethod yX7_holdsWithin ∈ xv_g := xv_in (xv_t3 93 (by decide +kernel)) rfl
theorem wd_627 : Cond.selects RX7 yX7_holdsWithin yX7_holdsWithin ∈ xv_g := xv_in (xv_t3 94 (by decide +kernel)) rfl
theorem ln_X8_236 : xv_lV RX8 236 yX7_holdsWithin mX7_holdsWithin 4 := ⟨wd_625, wd_626, wd_627, wd_62, wd_628, rfl, ⟨by decide +kernel, by decide +kernel, by decide +kernel⟩⟩
theorem wd_633 : Cond.code yX2_take cX2_take 4 none ∈ xv_g := xv_in (xv_t3 100 rfl) rfl
theorem wd_630 : Cond.methodLink RX8 240 yX2_take ∈ xv_g := xv_in (xv_t3 97 (by decide +kernel)) rfl
theorem wd_631 : Cond.instanceMethod yX2_take ∈ xv_g := xv_in (xv_t3 98 (by decide +kernel)) rfl
theorem wd_632 : Cond.selects RX2 yX2_take yX2_take ∈ xv_g := xv_in (xv_t3 99 (by decide +kernel)) rfl
theorem ln_X8_240 : xv_lV RX8 240 yX2_take mX2_take 2 := ⟨wd_630, wd_631, wd_632, wd_56, wd_633, rfl, ⟨by decide +kernel, by decide +kernel, by decide +kernel⟩⟩
theorem wd_112 : Cond.fieldLink RX8 243 "ValveShop$FoundCard" "notch" "I" ∈ xv_g := xv_in (xv_t1 59 (by decide +kernel)) rfl
theorem fl_X8_243 : xv_fl RX8 243 2 2 false .int := ⟨RX2, TX2, 4, tyX2, rfl, cw_X2, by decide, wd_112, rfl, rfl, tyX2_ok 2 (by decide), tyX2_ok, nmX2⟩
theorem wd_114 : Cond.fieldLink RX8 246 "ValveShop$FoundCard" "boiler" "I" ∈ xv_g := xv_in (xv_t1 61 (by decide +kernel)) rfl
theorem fl_X8_246 : xv_fl RX8 246 2 3 false .int := ⟨RX2, TX2, 4, tyX2, rfl, cw_X2, by decide, wd_114, rfl, rfl, tyX2_ok 3 (by decide), tyX2_ok, nmX2⟩
theorem wd_638 : Cond.code yX2_readable cX2_readable 3 (some .int) ∈ xv_g := xv_in (xv_t3 105 rfl) rfl
theorem wd_635 : Cond.methodLink RX8 249 yX2_readable ∈ xv_g := xv_in (xv_t3 102 (by decide +kernel)) rfl
theorem wd_636 : Cond.instanceMethod yX2_readable ∈ xv_g := xv_in (xv_t3 103 (by decide +kernel)) rfl
theorem wd_637 : Cond.selects RX2 yX2_readable yX2_readable ∈ xv_g := xv_in (xv_t3 104 (by decide +kernel)) rfl
theorem ln_X8_249 : xv_lV RX8 249 yX2_readable mX2_readable 0 := ⟨wd_635, wd_636, wd_637, wd_56, wd_638, rfl, ⟨by decide +kernel, by decide +kernel, by decide +kernel⟩⟩
theorem wd_643 : Cond.constant RX8 252 (-1000002) ∈ xv_g := xv_in (xv_t3 110 (by decide +kernel)) rfl
abbrev kc_X8_252 := wd_643
theorem wd_644 : Cond.methodLink RX8 253 yX4_misfitBy ∈ xv_g := xv_in (xv_t3 111 (by decide +kernel)) rfl
theorem ln_X8_253 : xv_lV RX8 253 yX4_misfitBy mX4_misfitBy 4 := ⟨wd_644, wd_645, wd_646, wd_59, wd_647, rfl, ⟨by decide +kernel, by decide +kernel, by decide +kernel⟩⟩
theorem wd_660 : Cond.constant RX8 257 (100000) ∈ xv_g := xv_in (xv_t3 127 (by decide +kernel)) rfl
abbrev kc_X8_257 := wd_660
theorem wd_664 : Cond.code yX4_seek cX4_seek 5 none ∈ xv_g := xv_in (xv_t3 131 rfl) rfl
theorem wd_661 : Cond.methodLink RX8 258 yX4_seek ∈ xv_g := xv_in (xv_t3 128 (by decide +kernel)) rfl
theorem wd_662 : Cond.instanceMethod yX4_seek ∈ xv_g := xv_in (xv_t3 129 (by decide +kernel)) rfl
theorem wd_663 : Cond.selects RX4 yX4_seek yX4_seek ∈ xv_g := xv_in (xv_t3 130 (by decide +kernel)) rfl
theorem ln_X8_258 : xv_lV RX8 258 yX4_seek mX4_seek 3 := ⟨wd_661, wd_662, wd_663, wd_59, wd_664, rfl, ⟨by decide +kernel, by decide +kernel, by decide +kernel⟩⟩
theorem wd_190 : Cond.fieldLink RX8 262 "ValveShop$Naming" "best" "I" ∈ xv_g := xv_in (xv_t1 137 (by decide +kernel)) rfl
theorem fl_X8_262 : xv_fl RX8 262 4 1 false .int := ⟨RX4, TX4, 3, tyX4, rfl, cw_X4, by decide, wd_190, rfl, rfl, tyX4_ok 1 (by decide), tyX4_ok, nmX4⟩
theorem wd_192 : Cond.fieldLink RX8 265 "ValveShop$Naming" "least" "I" ∈ xv_g := xv_in (xv_t1 139 (by decide +kernel)) rfl
theorem fl_X8_265 : xv_fl RX8 265 4 2 false .int := ⟨RX4, TX4, 3, tyX4, rfl, cw_X4, by decide, wd_192, rfl, rfl, tyX4_ok 2 (by decide), tyX4_ok, nmX4⟩
theorem wd_669 : Cond.code yX4_doubt cX4_doubt 4 (some .int) ∈ xv_g := xv_in (xv_t3 136 rfl) rfl
theorem wd_666 : Cond.methodLink RX8 268 yX4_doubt ∈ xv_g := xv_in (xv_t3 133 (by decide +kernel)) rfl
theorem wd_667 : Cond.instanceMethod yX4_doubt ∈ xv_g := xv_in (xv_t3 134 (by decide +kernel)) rfl
theorem wd_668 : Cond.selects RX4 yX4_doubt yX4_doubt ∈ xv_g := xv_in (xv_t3 135 (by decide +kernel)) rfl
theorem ln_X8_268 : xv_lV RX8 268 yX4_doubt mX4_doubt 1 := ⟨wd_666, wd_667, wd_668, wd_59, wd_669, rfl, ⟨by decide +kernel, by decide +kernel, by decide +kernel⟩⟩
theorem wd_677 : Cond.code yX8_nearest cX8_nearest 10 (some .int) ∈ xv_g := xv_in (xv_t3 144 rfl) rfl
theorem wd_674 : Cond.methodLink RX8 271 yX8_nearest ∈ xv_g := xv_in (xv_t3 141 (by decide +kernel)) rfl
theorem wd_676 : Cond.instanceMethod yX8_nearest ∈ xv_g := xv_in (xv_t3 143 (by decide +kernel)) rfl
theorem wd_10 : Cond.selects RX8 yX8_nearest yX8_nearest ∈ xv_g := xv_in (xv_t0 10 (by decide +kernel)) rfl
theorem ln_X8_271 : xv_lV RX8 271 yX8_nearest mX8_nearest 2 := ⟨wd_674, wd_676, wd_10, wd_54, wd_677, rfl, ⟨by decide +kernel, by decide +kernel, by decide +kernel⟩⟩
theorem wd_687 : Cond.code yX8_farthestApart cX8_farthestApart 8 (some .int) ∈ xv_g := xv_in (xv_t3 154 rfl) rfl
theorem wd_684 : Cond.methodLink RX8 274 yX8_farthestApart ∈ xv_g := xv_in (xv_t3 151 (by decide +kernel)) rfl
theorem wd_686 : Cond.instanceMethod yX8_farthestApart ∈ xv_g := xv_in (xv_t3 153 (by decide +kernel)) rfl
theorem wd_11 : Cond.selects RX8 yX8_farthestApart yX8_farthestApart ∈ xv_g := xv_in (xv_t0 11 (by decide +kernel)) rfl
theorem ln_X8_274 : xv_lV RX8 274 yX8_farthestApart mX8_farthestApart 3 := ⟨wd_684, wd_686, wd_11, wd_54, wd_687, rfl, ⟨by decide +kernel, by decide +kernel, by decide +kernel⟩⟩
theorem wd_695 : Cond.code yX6_takesRoad cX6_takesRoad 6 (some .boolean) ∈ xv_g := xv_in (xv_t3 162 rfl) rfl
theorem wd_692 : Cond.methodLink RX8 277 yX6_takesRoad ∈ xv_g := xv_in (xv_t3 159 (by decide +kernel)) rfl
theorem wd_693 : Cond.instanceMethod yX6_takesRoad ∈ xv_g := xv_in (xv_t3 160 (by decide +kernel)) rfl
theorem wd_694 : Cond.selects RX6 yX6_takesRoad yX6_takesRoad ∈ xv_g := xv_in (xv_t3 161 (by decide +kernel)) rfl
theorem ln_X8_277 : xv_lV RX8 277 yX6_takesRoad mX6_takesRoad 3 := ⟨wd_692, wd_693, wd_694, wd_60, wd_695, rfl, ⟨by decide +kernel, by decide +kernel, by decide +kernel⟩⟩
theorem wd_703 : Cond.code yX6_tryOut cX6_tryOut 5 none ∈ xv_g := xv_in (xv_t3 170 rfl) rfl
theorem wd_700 : Cond.methodLink RX8 281 yX6_tryOut ∈ xv_g := xv_in (xv_t3 167 (by decide +kernel)) rfl
theorem wd_701 : Cond.instanceMethod yX6_tryOut ∈ xv_g := xv_in (xv_t3 168 (by decide +kernel)) rfl
theorem wd_702 : Cond.selects RX6 yX6_tryOut yX6_tryOut ∈ xv_g := xv_in (xv_t3 169 (by decide +kernel)) rfl
theorem ln_X8_281 : xv_lV RX8 281 yX6_tryOut mX6_tryOut 3 := ⟨wd_700, wd_701, wd_702, wd_60, wd_703, rfl, ⟨by decide +kernel, by decide +kernel, by decide +kernel⟩⟩
theorem wd_714 : Cond.code yX6_choose cX6_choose 5 (some .int) ∈ xv_g := xv_in (xv_t3 181 rfl) rfl
theorem wd_711 : Cond.methodLink RX8 285 yX6_choose ∈ xv_g := xv_in (xv_t3 178 (by decide +kernel)) rfl
theorem wd_712 : Cond.instanceMethod yX6_choose ∈ xv_g := xv_in (xv_t3 179 (by decide +kernel)) rfl
theorem wd_713 : Cond.selects RX6 yX6_choose yX6_choose ∈ xv_g := xv_in (xv_t3 180 (by decide +kernel)) rfl
theorem ln_X8_285 : xv_lV RX8 285 yX6_choose mX6_choose 1 := ⟨wd_711, wd_712, wd_713, wd_60, wd_714, rfl, ⟨by decide +kernel, by decide +kernel, by decide +kernel⟩⟩
theorem wd_215 : Cond.fieldLink RX8 288 "ValveShop$Planner" "keptStretches" "I" ∈ xv_g := xv_in (xv_t1 162 (by decide +kernel)) rfl
theorem fl_X8_288 : xv_fl RX8 288 6 6 false .int := ⟨RX6, TX6, 7, tyX6, rfl, cw_X6, by decide, wd_215, rfl, rfl, tyX6_ok 6 (by decide), tyX6_ok, nmX6⟩
theorem wd_212 : Cond.fieldLink RX8 291 "ValveShop$Planner" "kept" "[I" ∈ xv_g := xv_in (xv_t1 159 (by decide +kernel)) rfl
theorem fl_X8_291 : xv_fl RX8 291 6 4 true (.array .int) := ⟨RX6, TX6, 7, tyX6, rfl, cw_X6, by decide, wd_212, rfl, rfl, tyX6_ok 4 (by decide), tyX6_ok, nmX6⟩
theorem wd_678 : Cond.constant RX8 293 (-1000000) ∈ xv_g := xv_in (xv_t3 145 (by decide +kernel)) rfl
abbrev kc_X8_293 := wd_678
theorem wd_240 : Cond.fieldLink RX8 294 "ValveShop$Fire" "heap" "I" ∈ xv_g := xv_in (xv_t1 187 (by decide +kernel)) rfl
theorem fl_X8_294 : xv_fl RX8 294 1 1 false .int := ⟨RX1, TX1, 6, tyX1, rfl, cw_X1, by decide, wd_240, rfl, rfl, tyX1_ok 1 (by decide), tyX1_ok, nmX1⟩
theorem wd_742 : Cond.constant RX8 297 (-1000003) ∈ xv_g := xv_in (xv_t3 209 (by decide +kernel)) rfl
abbrev kc_X8_297 := wd_742
theorem wd_750 : Cond.code yX1_burn cX1_burn 2 none ∈ xv_g := xv_in (xv_t3 217 rfl) rfl
theorem wd_747 : Cond.methodLink RX8 298 yX1_burn ∈ xv_g := xv_in (xv_t3 214 (by decide +kernel)) rfl
theorem wd_748 : Cond.instanceMethod yX1_burn ∈ xv_g := xv_in (xv_t3 215 (by decide +kernel)) rfl
theorem wd_749 : Cond.selects RX1 yX1_burn yX1_burn ∈ xv_g := xv_in (xv_t3 216 (by decide +kernel)) rfl
theorem ln_X8_298 : xv_lV RX8 298 yX1_burn mX1_burn 0 := ⟨wd_747, wd_748, wd_749, wd_61, wd_750, rfl, ⟨by decide +kernel, by decide +kernel, by decide +kernel⟩⟩
theorem wd_238 : Cond.fieldLink RX8 301 "ValveShop$Fire" "gauge" "I" ∈ xv_g := xv_in (xv_t1 185 (by decide +kernel)) rfl
theorem fl_X8_301 : xv_fl RX8 301 1 0 false .int := ⟨RX1, TX1, 6, tyX1, rfl, cw_X1, by decide, wd_238, rfl, rfl, tyX1_ok 0 (by decide), tyX1_ok, nmX1⟩
theorem wd_752 : Cond.methodLink RX8 304 Lib.Math.min.name ∈ xv_g := xv_in (xv_t3 219 (by decide +kernel)) rfl
theorem ln_X8_304 : Cond.methodLink RX8 304 Lib.Math.min.name ∈ xv_g ∧ Cond.static Lib.Math.min.name ∈ xv_g ∧ Cond.initialized "java/lang/Math" ∈ xv_g ∧ Cond.code Lib.Math.min.name Lib.Math.min.code 2 (some .int) ∈ xv_g := ⟨wd_752, wd_482, wd_66, wd_483⟩
theorem wd_756 : Cond.code yX1_give cX1_give 3 none ∈ xv_g := xv_in (xv_t3 223 rfl) rfl
theorem wd_753 : Cond.methodLink RX8 309 yX1_give ∈ xv_g := xv_in (xv_t3 220 (by decide +kernel)) rfl
theorem wd_754 : Cond.instanceMethod yX1_give ∈ xv_g := xv_in (xv_t3 221 (by decide +kernel)) rfl
theorem wd_755 : Cond.selects RX1 yX1_give yX1_give ∈ xv_g := xv_in (xv_t3 222 (by decide +kernel)) rfl
theorem ln_X8_309 : xv_lV RX8 309 yX1_give mX1_give 1 := ⟨wd_753, wd_754, wd_755, wd_61, wd_756, rfl, ⟨by decide +kernel, by decide +kernel, by decide +kernel⟩⟩
theorem wd_760 : Cond.code yX1_blow cX1_blow 2 none ∈ xv_g := xv_in (xv_t3 227 rfl) rfl
theorem wd_757 : Cond.methodLink RX8 313 yX1_blow ∈ xv_g := xv_in (xv_t3 224 (by decide +kernel)) rfl
theorem wd_758 : Cond.instanceMethod yX1_blow ∈ xv_g := xv_in (xv_t3 225 (by decide +kernel)) rfl
theorem wd_759 : Cond.selects RX1 yX1_blow yX1_blow ∈ xv_g := xv_in (xv_t3 226 (by decide +kernel)) rfl
theorem ln_X8_313 : xv_lV RX8 313 yX1_blow mX1_blow 0 := ⟨wd_757, wd_758, wd_759, wd_61, wd_760, rfl, ⟨by decide +kernel, by decide +kernel, by decide +kernel⟩⟩
theorem wd_769 : Cond.code yX1_told cX1_told 2 (some .int) ∈ xv_g := xv_in (xv_t3 236 rfl) rfl
theorem wd_766 : Cond.methodLink RX8 316 yX1_told ∈ xv_g := xv_in (xv_t3 233 (by decide +kernel)) rfl
theorem wd_767 : Cond.instanceMethod yX1_told ∈ xv_g := xv_in (xv_t3 234 (by decide +kernel)) rfl
theorem wd_768 : Cond.selects RX1 yX1_told yX1_told ∈ xv_g := xv_in (xv_t3 235 (by decide +kernel)) rfl
theorem ln_X8_316 : xv_lV RX8 316 yX1_told mX1_told 1 := ⟨wd_766, wd_767, wd_768, wd_61, wd_769, rfl, ⟨by decide +kernel, by decide +kernel, by decide +kernel⟩⟩
theorem wd_777 : Cond.code yX8_toldKind cX8_toldKind 2 (some .int) ∈ xv_g := xv_in (xv_t4 4 rfl) rfl
theorem wd_774 : Cond.methodLink RX8 319 yX8_toldKind ∈ xv_g := xv_in (xv_t4 1 (by decide +kernel)) rfl
theorem wd_776 : Cond.instanceMethod yX8_toldKind ∈ xv_g := xv_in (xv_t4 3 (by decide +kernel)) rfl
theorem wd_16 : Cond.selects RX8 yX8_toldKind yX8_toldKind ∈ xv_g := xv_in (xv_t0 16 (by decide +kernel)) rfl
theorem ln_X8_319 : xv_lV RX8 319 yX8_toldKind mX8_toldKind 1 := ⟨wd_774, wd_776, wd_16, wd_54, wd_777, rfl, ⟨by decide +kernel, by decide +kernel, by decide +kernel⟩⟩
theorem wd_784 : Cond.code yX8_belongs cX8_belongs 2 (some .boolean) ∈ xv_g := xv_in (xv_t4 11 rfl) rfl
theorem wd_782 : Cond.methodLink RX8 322 yX8_belongs ∈ xv_g := xv_in (xv_t4 9 (by decide +kernel)) rfl
theorem wd_783 : Cond.static yX8_belongs ∈ xv_g := xv_in (xv_t4 10 (by decide +kernel)) rfl
theorem ln_X8_322 : xv_lS RX8 322 yX8_belongs mX8_belongs 2 := ⟨Or.inl wd_782, wd_783, wd_54, wd_784, ⟨by decide +kernel, by decide +kernel, by decide +kernel⟩⟩
theorem wd_291 : Cond.fieldLink RX8 325 "ValveShop" "tracedBodies" "I" ∈ xv_g := xv_in (xv_t1 238 (by decide +kernel)) rfl
theorem fl_X8_325 : xv_fl RX8 325 8 11 false .int := ⟨RX8, TX8, 13, tyX8, rfl, cw_X8, by decide, wd_291, rfl, rfl, tyX8_ok 11 (by decide), tyX8_ok, nmX8⟩
theorem wd_796 : Cond.code yX8_askWorth cX8_askWorth 3 (some .int) ∈ xv_g := xv_in (xv_t4 23 rfl) rfl
theorem wd_793 : Cond.methodLink RX8 328 yX8_askWorth ∈ xv_g := xv_in (xv_t4 20 (by decide +kernel)) rfl
theorem wd_795 : Cond.instanceMethod yX8_askWorth ∈ xv_g := xv_in (xv_t4 22 (by decide +kernel)) rfl
theorem wd_17 : Cond.selects RX8 yX8_askWorth yX8_askWorth ∈ xv_g := xv_in (xv_t0 17 (by decide +kernel)) rfl
theorem ln_X8_328 : xv_lV RX8 328 yX8_askWorth mX8_askWorth 2 := ⟨wd_793, wd_795, wd_17, wd_54, wd_796, rfl, ⟨by decide +kernel, by decide +kernel, by decide +kernel⟩⟩
theorem wd_824 : Cond.code yX8_askMark cX8_askMark 3 (some .int) ∈ xv_g := xv_in (xv_t4 51 rfl) rfl
theorem wd_821 : Cond.methodLink RX8 332 yX8_askMark ∈ xv_g := xv_in (xv_t4 48 (by decide +kernel)) rfl
theorem wd_823 : Cond.instanceMethod yX8_askMark ∈ xv_g := xv_in (xv_t4 50 (by decide +kernel)) rfl
theorem wd_24 : Cond.selects RX8 yX8_askMark yX8_askMark ∈ xv_g := xv_in (xv_t0 24 (by decide +kernel)) rfl
theorem ln_X8_332 : xv_lV RX8 332 yX8_askMark mX8_askMark 2 := ⟨wd_821, wd_823, wd_24, wd_54, wd_824, rfl, ⟨by decide +kernel, by decide +kernel, by decide +kernel⟩⟩
theorem wd_840 : Cond.code yX8_countSheets cX8_countSheets 3 (some .int) ∈ xv_g := xv_in (xv_t4 67 rfl) rfl
theorem wd_837 : Cond.methodLink RX8 335 yX8_countSheets ∈ xv_g := xv_in (xv_t4 64 (by decide +kernel)) rfl
theorem wd_839 : Cond.instanceMethod yX8_countSheets ∈ xv_g := xv_in (xv_t4 66 (by decide +kernel)) rfl
theorem wd_26 : Cond.selects RX8 yX8_countSheets yX8_countSheets ∈ xv_g := xv_in (xv_t0 26 (by decide +kernel)) rfl
theorem ln_X8_335 : xv_lV RX8 335 yX8_countSheets mX8_countSheets 0 := ⟨wd_837, wd_839, wd_26, wd_54, wd_840, rfl, ⟨by decide +kernel, by decide +kernel, by decide +kernel⟩⟩
theorem wd_844 : Cond.code yX8_countEngines cX8_countEngines 5 (some .int) ∈ xv_g := xv_in (xv_t4 71 rfl) rfl
theorem wd_841 : Cond.methodLink RX8 338 yX8_countEngines ∈ xv_g := xv_in (xv_t4 68 (by decide +kernel)) rfl
theorem wd_843 : Cond.instanceMethod yX8_countEngines ∈ xv_g := xv_in (xv_t4 70 (by decide +kernel)) rfl
theorem wd_27 : Cond.selects RX8 yX8_countEngines yX8_countEngines ∈ xv_g := xv_in (xv_t0 27 (by decide +kernel)) rfl
theorem ln_X8_338 : xv_lV RX8 338 yX8_countEngines mX8_countEngines 1 := ⟨wd_841, wd_843, wd_27, wd_54, wd_844, rfl, ⟨by decide +kernel, by decide +kernel, by decide +kernel⟩⟩
theorem wd_848 : Cond.code yX8_countFoundCards cX8_countFoundCards 3 (some .int) ∈ xv_g := xv_in (xv_t4 75 rfl) rfl
theorem wd_845 : Cond.methodLink RX8 341 yX8_countFoundCards ∈ xv_g := xv_in (xv_t4 72 (by decide +kernel)) rfl
theorem wd_847 : Cond.instanceMethod yX8_countFoundCards ∈ xv_g := xv_in (xv_t4 74 (by decide +kernel)) rfl
theorem wd_28 : Cond.selects RX8 yX8_countFoundCards yX8_countFoundCards ∈ xv_g := xv_in (xv_t0 28 (by decide +kernel)) rfl
theorem ln_X8_341 : xv_lV RX8 341 yX8_countFoundCards mX8_countFoundCards 0 := ⟨wd_845, wd_847, wd_28, wd_54, wd_848, rfl, ⟨by decide +kernel, by decide +kernel, by decide +kernel⟩⟩
theorem wd_292 : Cond.fieldLink RX8 344 "ValveShop" "finding" "I" ∈ xv_g := xv_in (xv_t1 239 (by decide +kernel)) rfl
theorem fl_X8_344 : xv_fl RX8 344 8 12 false .int := ⟨RX8, TX8, 13, tyX8, rfl, cw_X8, by decide, wd_292, rfl, rfl, tyX8_ok 12 (by decide), tyX8_ok, nmX8⟩
theorem wd_386 : Cond.fieldLink RX8 347 "ValveShop" "LEAST_NUMBER" "[I" ∈ xv_g := xv_in (xv_t2 93 (by decide +kernel)) rfl
theorem gs_X8_347 : Cond.fieldLink RX8 347 "ValveShop" "LEAST_NUMBER" "[I" ∈ xv_g ∨ Cond.fieldLinkNest RX8 347 "ValveShop" "LEAST_NUMBER" "[I" "ValveShop" ∈ xv_nw := Or.inl wd_386
theorem wd_388 : Cond.fieldLink RX8 350 "ValveShop" "MOST_NUMBER" "[I" ∈ xv_g := xv_in (xv_t2 95 (by decide +kernel)) rfl
theorem gs_X8_350 : Cond.fieldLink RX8 350 "ValveShop" "MOST_NUMBER" "[I" ∈ xv_g ∨ Cond.fieldLinkNest RX8 350 "ValveShop" "MOST_NUMBER" "[I" "ValveShop" ∈ xv_nw := Or.inl wd_388
theorem wd_332 : Cond.constant RX8 353 (-1000010) ∈ xv_g := xv_in (xv_t2 39 (by decide +kernel)) rfl
abbrev kc_X8_353 := wd_332
theorem wd_441 : Cond.fieldLink RX8 354 "ValveShop" "COSINES" "[I" ∈ xv_g := xv_in (xv_t2 148 (by decide +kernel)) rfl
theorem gs_X8_354 : Cond.fieldLink RX8 354 "ValveShop" "COSINES" "[I" ∈ xv_g ∨ Cond.fieldLinkNest RX8 354 "ValveShop" "COSINES" "[I" "ValveShop" ∈ xv_nw := Or.inl wd_441
theorem wd_679 : Cond.methodLink RX8 357 yX2_apart ∈ xv_g := xv_in (xv_t3 146 (by decide +kernel)) rfl
theorem ln_X8_357 : xv_lV RX8 357 yX2_apart mX2_apart 1 := ⟨wd_679, wd_650, wd_651, wd_56, wd_652, rfl, ⟨by decide +kernel, by decide +kernel, by decide +kernel⟩⟩
theorem wd_109 : Cond.fieldLink RX8 361 "ValveShop$FoundCard" "items" "[I" ∈ xv_g := xv_in (xv_t1 56 (by decide +kernel)) rfl
theorem fl_X8_361 : xv_fl RX8 361 2 0 true (.array .int) := ⟨RX2, TX2, 4, tyX2, rfl, cw_X2, by decide, wd_109, rfl, rfl, tyX2_ok 0 (by decide), tyX2_ok, nmX2⟩
theorem wd_800 : Cond.code yX8_worthOfSound cX8_worthOfSound 2 (some .int) ∈ xv_g := xv_in (xv_t4 27 rfl) rfl
theorem wd_797 : Cond.methodLink RX8 362 yX8_worthOfSound ∈ xv_g := xv_in (xv_t4 24 (by decide +kernel)) rfl
theorem wd_799 : Cond.instanceMethod yX8_worthOfSound ∈ xv_g := xv_in (xv_t4 26 (by decide +kernel)) rfl
theorem wd_18 : Cond.selects RX8 yX8_worthOfSound yX8_worthOfSound ∈ xv_g := xv_in (xv_t0 18 (by decide +kernel)) rfl
theorem ln_X8_362 : xv_lV RX8 362 yX8_worthOfSound mX8_worthOfSound 1 := ⟨wd_797, wd_799, wd_18, wd_54, wd_800, rfl, ⟨by decide +kernel, by decide +kernel, by decide +kernel⟩⟩
theorem wd_804 : Cond.code yX8_leave cX8_leave 2 none ∈ xv_g := xv_in (xv_t4 31 rfl) rfl
theorem wd_801 : Cond.methodLink RX8 365 yX8_leave ∈ xv_g := xv_in (xv_t4 28 (by decide +kernel)) rfl
theorem wd_803 : Cond.instanceMethod yX8_leave ∈ xv_g := xv_in (xv_t4 30 (by decide +kernel)) rfl
theorem wd_19 : Cond.selects RX8 yX8_leave yX8_leave ∈ xv_g := xv_in (xv_t0 19 (by decide +kernel)) rfl
theorem ln_X8_365 : xv_lV RX8 365 yX8_leave mX8_leave 1 := ⟨wd_801, wd_803, wd_19, wd_54, wd_804, rfl, ⟨by decide +kernel, by decide +kernel, by decide +kernel⟩⟩
theorem wd_812 : Cond.code yX8_markOfEven cX8_markOfEven 2 (some .int) ∈ xv_g := xv_in (xv_t4 39 rfl) rfl
theorem wd_809 : Cond.methodLink RX8 368 yX8_markOfEven ∈ xv_g := xv_in (xv_t4 36 (by decide +kernel)) rfl
theorem wd_811 : Cond.instanceMethod yX8_markOfEven ∈ xv_g := xv_in (xv_t4 38 (by decide +kernel)) rfl
theorem wd_21 : Cond.selects RX8 yX8_markOfEven yX8_markOfEven ∈ xv_g := xv_in (xv_t0 21 (by decide +kernel)) rfl
theorem ln_X8_368 : xv_lV RX8 368 yX8_markOfEven mX8_markOfEven 1 := ⟨wd_809, wd_811, wd_21, wd_54, wd_812, rfl, ⟨by decide +kernel, by decide +kernel, by decide +kernel⟩⟩
theorem wd_820 : Cond.code yX8_worthOfSick cX8_worthOfSick 2 (some .int) ∈ xv_g := xv_in (xv_t4 47 rfl) rfl
theorem wd_817 : Cond.methodLink RX8 371 yX8_worthOfSick ∈ xv_g := xv_in (xv_t4 44 (by decide +kernel)) rfl
theorem wd_819 : Cond.instanceMethod yX8_worthOfSick ∈ xv_g := xv_in (xv_t4 46 (by decide +kernel)) rfl
theorem wd_23 : Cond.selects RX8 yX8_worthOfSick yX8_worthOfSick ∈ xv_g := xv_in (xv_t0 23 (by decide +kernel)) rfl
theorem ln_X8_371 : xv_lV RX8 371 yX8_worthOfSick mX8_worthOfSick 1 := ⟨wd_817, wd_819, wd_23, wd_54, wd_820, rfl, ⟨by decide +kernel, by decide +kernel, by decide +kernel⟩⟩
theorem wd_808 : Cond.code yX8_worthOfAny cX8_worthOfAny 2 (some .int) ∈ xv_g := xv_in (xv_t4 35 rfl) rfl
theorem wd_805 : Cond.methodLink RX8 374 yX8_worthOfAny ∈ xv_g := xv_in (xv_t4 32 (by decide +kernel)) rfl
theorem wd_807 : Cond.instanceMethod yX8_worthOfAny ∈ xv_g := xv_in (xv_t4 34 (by decide +kernel)) rfl
theorem wd_20 : Cond.selects RX8 yX8_worthOfAny yX8_worthOfAny ∈ xv_g := xv_in (xv_t0 20 (by decide +kernel)) rfl
theorem ln_X8_374 : xv_lV RX8 374 yX8_worthOfAny mX8_worthOfAny 1 := ⟨wd_805, wd_807, wd_20, wd_54, wd_808, rfl, ⟨by decide +kernel, by decide +kernel, by decide +kernel⟩⟩
theorem wd_828 : Cond.code yX8_markOfSick cX8_markOfSick 3 (some .int) ∈ xv_g := xv_in (xv_t4 55 rfl) rfl
theorem wd_825 : Cond.methodLink RX8 377 yX8_markOfSick ∈ xv_g := xv_in (xv_t4 52 (by decide +kernel)) rfl
theorem wd_827 : Cond.instanceMethod yX8_markOfSick ∈ xv_g := xv_in (xv_t4 54 (by decide +kernel)) rfl
theorem wd_25 : Cond.selects RX8 yX8_markOfSick yX8_markOfSick ∈ xv_g := xv_in (xv_t0 25 (by decide +kernel)) rfl
theorem ln_X8_377 : xv_lV RX8 377 yX8_markOfSick mX8_markOfSick 2 := ⟨wd_825, wd_827, wd_25, wd_54, wd_828, rfl, ⟨by decide +kernel, by decide +kernel, by decide +kernel⟩⟩
theorem wd_816 : Cond.code yX8_markOfAny cX8_markOfAny 2 (some .int) ∈ xv_g := xv_in (xv_t4 43 rfl) rfl
theorem wd_813 : Cond.methodLink RX8 380 yX8_markOfAny ∈ xv_g := xv_in (xv_t4 40 (by decide +kernel)) rfl
theorem wd_815 : Cond.instanceMethod yX8_markOfAny ∈ xv_g := xv_in (xv_t4 42 (by decide +kernel)) rfl
theorem wd_22 : Cond.selects RX8 yX8_markOfAny yX8_markOfAny ∈ xv_g := xv_in (xv_t0 22 (by decide +kernel)) rfl
theorem ln_X8_380 : xv_lV RX8 380 yX8_markOfAny mX8_markOfAny 1 := ⟨wd_813, wd_815, wd_22, wd_54, wd_816, rfl, ⟨by decide +kernel, by decide +kernel, by decide +kernel⟩⟩
theorem wd_858 : Cond.methodLink RX9 1 Lib.objectInit ∈ xv_g := xv_in (xv_t4 85 (by decide +kernel)) rfl
theorem ln_X9_1 : Cond.methodLink RX9 1 Lib.objectInit ∈ xv_g ∧ Cond.instanceMethod Lib.objectInit ∈ xv_g ∧ Cond.code Lib.objectInit ⟨#[0xb1]⟩ 1 none ∈ xv_g := ⟨wd_858, wd_73, wd_74⟩
theorem wd_861 : Cond.fieldLink RX9 7 "ValveShopModel" "lane" "[I" ∈ xv_g := xv_in (xv_t4 88 (by decide +kernel)) rfl
theorem fl_X9_7 : xv_fl RX9 7 9 2 true (.array .int) := ⟨RX9, TX9, 33, tyX9, rfl, cw_X9, by decide, wd_861, rfl, rfl, tyX9_ok 2 (by decide), tyX9_ok, nmX9⟩
theorem wd_862 : Cond.fieldLink RX9 13 "ValveShopModel" "many" "[I" ∈ xv_g := xv_in (xv_t4 89 (by decide +kernel)) rfl
theorem fl_X9_13 : xv_fl RX9 13 9 3 true (.array .int) := ⟨RX9, TX9, 33, tyX9, rfl, cw_X9, by decide, wd_862, rfl, rfl, tyX9_ok 3 (by decide), tyX9_ok, nmX9⟩
theorem wd_863 : Cond.fieldLink RX9 16 "ValveShopModel" "item" "[I" ∈ xv_g := xv_in (xv_t4 90 (by decide +kernel)) rfl
theorem fl_X9_16 : xv_fl RX9 16 9 4 true (.array .int) := ⟨RX9, TX9, 33, tyX9, rfl, cw_X9, by decide, wd_863, rfl, rfl, tyX9_ok 4 (by decide), tyX9_ok, nmX9⟩
theorem wd_864 : Cond.fieldLink RX9 19 "ValveShopModel" "isThere" "[Z" ∈ xv_g := xv_in (xv_t4 91 (by decide +kernel)) rfl
theorem fl_X9_19 : xv_fl RX9 19 9 5 true (.array .boolean) := ⟨RX9, TX9, 33, tyX9, rfl, cw_X9, by decide, wd_864, rfl, rfl, tyX9_ok 5 (by decide), tyX9_ok, nmX9⟩
theorem wd_865 : Cond.fieldLink RX9 23 "ValveShopModel" "number" "[I" ∈ xv_g := xv_in (xv_t4 92 (by decide +kernel)) rfl
theorem fl_X9_23 : xv_fl RX9 23 9 6 true (.array .int) := ⟨RX9, TX9, 33, tyX9, rfl, cw_X9, by decide, wd_865, rfl, rfl, tyX9_ok 6 (by decide), tyX9_ok, nmX9⟩
theorem wd_866 : Cond.fieldLink RX9 26 "ValveShopModel" "isKept" "[Z" ∈ xv_g := xv_in (xv_t4 93 (by decide +kernel)) rfl
theorem fl_X9_26 : xv_fl RX9 26 9 7 true (.array .boolean) := ⟨RX9, TX9, 33, tyX9, rfl, cw_X9, by decide, wd_866, rfl, rfl, tyX9_ok 7 (by decide), tyX9_ok, nmX9⟩
theorem wd_867 : Cond.fieldLink RX9 29 "ValveShopModel" "keptNotch" "[I" ∈ xv_g := xv_in (xv_t4 94 (by decide +kernel)) rfl
theorem fl_X9_29 : xv_fl RX9 29 9 8 true (.array .int) := ⟨RX9, TX9, 33, tyX9, rfl, cw_X9, by decide, wd_867, rfl, rfl, tyX9_ok 8 (by decide), tyX9_ok, nmX9⟩
theorem wd_868 : Cond.fieldLink RX9 32 "ValveShopModel" "keptBoiler" "[I" ∈ xv_g := xv_in (xv_t4 95 (by decide +kernel)) rfl
theorem fl_X9_32 : xv_fl RX9 32 9 9 true (.array .int) := ⟨RX9, TX9, 33, tyX9, rfl, cw_X9, by decide, wd_868, rfl, rfl, tyX9_ok 9 (by decide), tyX9_ok, nmX9⟩
theorem wd_869 : Cond.fieldLink RX9 35 "ValveShopModel" "kept" "[I" ∈ xv_g := xv_in (xv_t4 96 (by decide +kernel)) rfl
theorem fl_X9_35 : xv_fl RX9 35 9 10 true (.array .int) := ⟨RX9, TX9, 33, tyX9, rfl, cw_X9, by decide, wd_869, rfl, rfl, tyX9_ok 10 (by decide), tyX9_ok, nmX9⟩
theorem wd_870 : Cond.fieldLink RX9 38 "ValveShopModel" "falls" "[I" ∈ xv_g := xv_in (xv_t4 97 (by decide +kernel)) rfl
theorem fl_X9_38 : xv_fl RX9 38 9 11 true (.array .int) := ⟨RX9, TX9, 33, tyX9, rfl, cw_X9, by decide, wd_870, rfl, rfl, tyX9_ok 11 (by decide), tyX9_ok, nmX9⟩
theorem wd_873 : Cond.fieldLink RX9 41 "ValveShopModel" "pressure" "[I" ∈ xv_g := xv_in (xv_t4 100 (by decide +kernel)) rfl
theorem fl_X9_41 : xv_fl RX9 41 9 14 true (.array .int) := ⟨RX9, TX9, 33, tyX9, rfl, cw_X9, by decide, wd_873, rfl, rfl, tyX9_ok 14 (by decide), tyX9_ok, nmX9⟩
theorem wd_875 : Cond.fieldLink RX9 44 "ValveShopModel" "misfits" "[I" ∈ xv_g := xv_in (xv_t4 102 (by decide +kernel)) rfl
theorem fl_X9_44 : xv_fl RX9 44 9 16 true (.array .int) := ⟨RX9, TX9, 33, tyX9, rfl, cw_X9, by decide, wd_875, rfl, rfl, tyX9_ok 16 (by decide), tyX9_ok, nmX9⟩
theorem wd_876 : Cond.fieldLink RX9 47 "ValveShopModel" "other" "[I" ∈ xv_g := xv_in (xv_t4 103 (by decide +kernel)) rfl
theorem fl_X9_47 : xv_fl RX9 47 9 17 true (.array .int) := ⟨RX9, TX9, 33, tyX9, rfl, cw_X9, by decide, wd_876, rfl, rfl, tyX9_ok 17 (by decide), tyX9_ok, nmX9⟩
theorem wd_877 : Cond.fieldLink RX9 50 "ValveShopModel" "minutesBy" "[I" ∈ xv_g := xv_in (xv_t4 104 (by decide +kernel)) rfl
theorem fl_X9_50 : xv_fl RX9 50 9 18 true (.array .int) := ⟨RX9, TX9, 33, tyX9, rfl, cw_X9, by decide, wd_877, rfl, rfl, tyX9_ok 18 (by decide), tyX9_ok, nmX9⟩
theorem wd_878 : Cond.fieldLink RX9 53 "ValveShopModel" "coalBy" "[I" ∈ xv_g := xv_in (xv_t4 105 (by decide +kernel)) rfl
theorem fl_X9_53 : xv_fl RX9 53 9 19 true (.array .int) := ⟨RX9, TX9, 33, tyX9, rfl, cw_X9, by decide, wd_878, rfl, rfl, tyX9_ok 19 (by decide), tyX9_ok, nmX9⟩
theorem wd_879 : Cond.fieldLink RX9 56 "ValveShopModel" "least" "[I" ∈ xv_g := xv_in (xv_t4 106 (by decide +kernel)) rfl
theorem fl_X9_56 : xv_fl RX9 56 9 20 true (.array .int) := ⟨RX9, TX9, 33, tyX9, rfl, cw_X9, by decide, wd_879, rfl, rfl, tyX9_ok 20 (by decide), tyX9_ok, nmX9⟩
theorem wd_881 : Cond.fieldLink RX9 59 "ValveShopModel" "planChoice" "[I" ∈ xv_g := xv_in (xv_t4 108 (by decide +kernel)) rfl
theorem fl_X9_59 : xv_fl RX9 59 9 22 true (.array .int) := ⟨RX9, TX9, 33, tyX9, rfl, cw_X9, by decide, wd_881, rfl, rfl, tyX9_ok 22 (by decide), tyX9_ok, nmX9⟩
theorem wd_882 : Cond.fieldLink RX9 62 "ValveShopModel" "planMinutes" "[I" ∈ xv_g := xv_in (xv_t4 109 (by decide +kernel)) rfl
theorem fl_X9_62 : xv_fl RX9 62 9 23 true (.array .int) := ⟨RX9, TX9, 33, tyX9, rfl, cw_X9, by decide, wd_882, rfl, rfl, tyX9_ok 23 (by decide), tyX9_ok, nmX9⟩
theorem wd_883 : Cond.fieldLink RX9 65 "ValveShopModel" "planCoal" "[I" ∈ xv_g := xv_in (xv_t4 110 (by decide +kernel)) rfl
theorem fl_X9_65 : xv_fl RX9 65 9 24 true (.array .int) := ⟨RX9, TX9, 33, tyX9, rfl, cw_X9, by decide, wd_883, rfl, rfl, tyX9_ok 24 (by decide), tyX9_ok, nmX9⟩
theorem wd_890 : Cond.fieldLink RX9 68 "ValveShopModel" "trace" "[I" ∈ xv_g := xv_in (xv_t4 117 (by decide +kernel)) rfl
theorem fl_X9_68 : xv_fl RX9 68 9 31 true (.array .int) := ⟨RX9, TX9, 33, tyX9, rfl, cw_X9, by decide, wd_890, rfl, rfl, tyX9_ok 31 (by decide), tyX9_ok, nmX9⟩
theorem wd_860 : Cond.fieldLink RX9 75 "ValveShopModel" "status" "I" ∈ xv_g := xv_in (xv_t4 87 (by decide +kernel)) rfl
theorem fl_X9_75 : xv_fl RX9 75 9 1 false .int := ⟨RX9, TX9, 33, tyX9, rfl, cw_X9, by decide, wd_860, rfl, rfl, tyX9_ok 1 (by decide), tyX9_ok, nmX9⟩
theorem wd_977 : Cond.constant RX9 78 (-1000010) ∈ xv_g := xv_in (xv_t4 204 (by decide +kernel)) rfl
abbrev kc_X9_78 := wd_977
theorem wd_967 : Cond.constantLong RX9 79 (7) ∈ xv_g := xv_in (xv_t4 194 (by decide +kernel)) rfl
abbrev kc_X9_79 := wd_967
theorem wd_970 : Cond.code yX9_in cX9_in 6 (some .boolean) ∈ xv_g := xv_in (xv_t4 197 rfl) rfl
theorem wd_63 : Cond.initialized RX9 ∈ xv_g := xv_in (xv_t1 10 (by decide +kernel)) rfl
theorem wd_968 : Cond.methodLink RX9 81 yX9_in ∈ xv_g := xv_in (xv_t4 195 (by decide +kernel)) rfl
theorem wd_969 : Cond.static yX9_in ∈ xv_g := xv_in (xv_t4 196 (by decide +kernel)) rfl
theorem ln_X9_81 : xv_lS RX9 81 yX9_in mX9_in 3 := ⟨Or.inl wd_968, wd_969, wd_63, wd_970, ⟨by decide +kernel, by decide +kernel, by decide +kernel⟩⟩
theorem wd_859 : Cond.fieldLink RX9 71 "ValveShopModel" "thrown" "I" ∈ xv_g := xv_in (xv_t4 86 (by decide +kernel)) rfl
theorem fl_X9_71 : xv_fl RX9 71 9 0 false .int := ⟨RX9, TX9, 33, tyX9, rfl, cw_X9, by decide, wd_859, rfl, rfl, tyX9_ok 0 (by decide), tyX9_ok, nmX9⟩
theorem wd_966 : Cond.code yX9_isSheet cX9_isSheet 1 (some .boolean) ∈ xv_g := xv_in (xv_t4 193 rfl) rfl
theorem wd_964 : Cond.methodLink RX9 85 yX9_isSheet ∈ xv_g := xv_in (xv_t4 191 (by decide +kernel)) rfl
theorem wd_965 : Cond.static yX9_isSheet ∈ xv_g := xv_in (xv_t4 192 (by decide +kernel)) rfl
theorem ln_X9_85 : xv_lS RX9 85 yX9_isSheet mX9_isSheet 1 := ⟨Or.inl wd_964, wd_965, wd_63, wd_966, ⟨by decide +kernel, by decide +kernel, by decide +kernel⟩⟩
theorem wd_971 : Cond.constantLong RX9 89 (2) ∈ xv_g := xv_in (xv_t4 198 (by decide +kernel)) rfl
abbrev kc_X9_89 := wd_971
theorem wd_972 : Cond.constant RX9 91 (-1000001) ∈ xv_g := xv_in (xv_t4 199 (by decide +kernel)) rfl
abbrev kc_X9_91 := wd_972
theorem wd_976 : Cond.code yX9_found cX9_found 2 (some .int) ∈ xv_g := xv_in (xv_t4 203 rfl) rfl
theorem wd_973 : Cond.methodLink RX9 92 yX9_found ∈ xv_g := xv_in (xv_t4 200 (by decide +kernel)) rfl
theorem wd_975 : Cond.instanceMethod yX9_found ∈ xv_g := xv_in (xv_t4 202 (by decide +kernel)) rfl
theorem wd_29 : Cond.selects RX9 yX9_found yX9_found ∈ xv_g := xv_in (xv_t0 29 (by decide +kernel)) rfl
theorem ln_X9_92 : xv_lV RX9 92 yX9_found mX9_found 1 := ⟨wd_973, wd_975, wd_29, wd_63, wd_976, rfl, ⟨by decide +kernel, by decide +kernel, by decide +kernel⟩⟩
theorem wd_997 : Cond.constantLong RX9 96 (5) ∈ xv_g := xv_in (xv_t4 224 (by decide +kernel)) rfl
abbrev kc_X9_96 := wd_997
theorem wd_1002 : Cond.constantLong RX9 98 (4) ∈ xv_g := xv_in (xv_t4 229 (by decide +kernel)) rfl
abbrev kc_X9_98 := wd_1002
theorem wd_1003 : Cond.constantLong RX9 100 (20) ∈ xv_g := xv_in (xv_t4 230 (by decide +kernel)) rfl
abbrev kc_X9_100 := wd_1003
theorem wd_1004 : Cond.constantLong RX9 102 (10) ∈ xv_g := xv_in (xv_t4 231 (by decide +kernel)) rfl
abbrev kc_X9_102 := wd_1004
theorem wd_1005 : Cond.constantLong RX9 104 (200) ∈ xv_g := xv_in (xv_t4 232 (by decide +kernel)) rfl
abbrev kc_X9_104 := wd_1005
theorem wd_998 : Cond.constantLong RX9 106 (11) ∈ xv_g := xv_in (xv_t4 225 (by decide +kernel)) rfl
abbrev kc_X9_106 := wd_998
theorem wd_1006 : Cond.constantLong RX9 108 (-20) ∈ xv_g := xv_in (xv_t4 233 (by decide +kernel)) rfl
abbrev kc_X9_108 := wd_1006
theorem wd_1007 : Cond.constantLong RX9 110 (100) ∈ xv_g := xv_in (xv_t4 234 (by decide +kernel)) rfl
abbrev kc_X9_110 := wd_1007
theorem wd_1008 : Cond.constantLong RX9 112 (50) ∈ xv_g := xv_in (xv_t4 235 (by decide +kernel)) rfl
abbrev kc_X9_112 := wd_1008
theorem wd_1009 : Cond.constantLong RX9 114 (500) ∈ xv_g := xv_in (xv_t4 236 (by decide +kernel)) rfl
abbrev kc_X9_114 := wd_1009
theorem wd_996 : Cond.code yX9_isPlace cX9_isPlace 1 (some .boolean) ∈ xv_g := xv_in (xv_t4 223 rfl) rfl
theorem wd_994 : Cond.methodLink RX9 116 yX9_isPlace ∈ xv_g := xv_in (xv_t4 221 (by decide +kernel)) rfl
theorem wd_995 : Cond.static yX9_isPlace ∈ xv_g := xv_in (xv_t4 222 (by decide +kernel)) rfl
theorem ln_X9_116 : xv_lS RX9 116 yX9_isPlace mX9_isPlace 1 := ⟨Or.inl wd_994, wd_995, wd_63, wd_996, ⟨by decide +kernel, by decide +kernel, by decide +kernel⟩⟩
theorem wd_1001 : Cond.code yX9_isNumber cX9_isNumber 2 (some .boolean) ∈ xv_g := xv_in (xv_t4 228 rfl) rfl
theorem wd_999 : Cond.methodLink RX9 119 yX9_isNumber ∈ xv_g := xv_in (xv_t4 226 (by decide +kernel)) rfl
theorem wd_1000 : Cond.static yX9_isNumber ∈ xv_g := xv_in (xv_t4 227 (by decide +kernel)) rfl
theorem ln_X9_119 : xv_lS RX9 119 yX9_isNumber mX9_isNumber 2 := ⟨Or.inl wd_999, wd_1000, wd_63, wd_1001, ⟨by decide +kernel, by decide +kernel, by decide +kernel⟩⟩
theorem wd_1017 : Cond.code yX9_stands cX9_stands 2 (some .int) ∈ xv_g := xv_in (xv_t5 4 rfl) rfl
theorem wd_1014 : Cond.methodLink RX9 123 yX9_stands ∈ xv_g := xv_in (xv_t5 1 (by decide +kernel)) rfl
theorem wd_1016 : Cond.instanceMethod yX9_stands ∈ xv_g := xv_in (xv_t5 3 (by decide +kernel)) rfl
theorem wd_30 : Cond.selects RX9 yX9_stands yX9_stands ∈ xv_g := xv_in (xv_t0 30 (by decide +kernel)) rfl
theorem ln_X9_123 : xv_lV RX9 123 yX9_stands mX9_stands 1 := ⟨wd_1014, wd_1016, wd_30, wd_63, wd_1017, rfl, ⟨by decide +kernel, by decide +kernel, by decide +kernel⟩⟩
theorem wd_1022 : Cond.constantLong RX9 126 (12) ∈ xv_g := xv_in (xv_t5 9 (by decide +kernel)) rfl
abbrev kc_X9_126 := wd_1022
theorem wd_1030 : Cond.code yX9_like cX9_like 4 none ∈ xv_g := xv_in (xv_t5 17 rfl) rfl
theorem wd_1027 : Cond.methodLink RX9 128 yX9_like ∈ xv_g := xv_in (xv_t5 14 (by decide +kernel)) rfl
theorem wd_1029 : Cond.instanceMethod yX9_like ∈ xv_g := xv_in (xv_t5 16 (by decide +kernel)) rfl
theorem wd_31 : Cond.selects RX9 yX9_like yX9_like ∈ xv_g := xv_in (xv_t0 31 (by decide +kernel)) rfl
theorem ln_X9_128 : xv_lV RX9 128 yX9_like mX9_like 2 := ⟨wd_1027, wd_1029, wd_31, wd_63, wd_1030, rfl, ⟨by decide +kernel, by decide +kernel, by decide +kernel⟩⟩
theorem wd_1055 : Cond.code yX9_round cX9_round 2 (some .int) ∈ xv_g := xv_in (xv_t5 42 rfl) rfl
theorem wd_1053 : Cond.methodLink RX9 132 yX9_round ∈ xv_g := xv_in (xv_t5 40 (by decide +kernel)) rfl
theorem wd_1054 : Cond.static yX9_round ∈ xv_g := xv_in (xv_t5 41 (by decide +kernel)) rfl
theorem ln_X9_132 : xv_lS RX9 132 yX9_round mX9_round 1 := ⟨Or.inl wd_1053, wd_1054, wd_63, wd_1055, ⟨by decide +kernel, by decide +kernel, by decide +kernel⟩⟩
theorem wd_1052 : Cond.code yX9_along cX9_along 3 (some .int) ∈ xv_g := xv_in (xv_t5 39 rfl) rfl
theorem wd_1049 : Cond.methodLink RX9 135 yX9_along ∈ xv_g := xv_in (xv_t5 36 (by decide +kernel)) rfl
theorem wd_1051 : Cond.instanceMethod yX9_along ∈ xv_g := xv_in (xv_t5 38 (by decide +kernel)) rfl
theorem wd_33 : Cond.selects RX9 yX9_along yX9_along ∈ xv_g := xv_in (xv_t0 33 (by decide +kernel)) rfl
theorem ln_X9_135 : xv_lV RX9 135 yX9_along mX9_along 1 := ⟨wd_1049, wd_1051, wd_33, wd_63, wd_1052, rfl, ⟨by decide +kernel, by decide +kernel, by decide +kernel⟩⟩
theorem wd_1059 : Cond.code yX9_across cX9_across 2 (some .int) ∈ xv_g := xv_in (xv_t5 46 rfl) rfl
theorem wd_1056 : Cond.methodLink RX9 138 yX9_across ∈ xv_g := xv_in (xv_t5 43 (by decide +kernel)) rfl
theorem wd_1058 : Cond.instanceMethod yX9_across ∈ xv_g := xv_in (xv_t5 45 (by decide +kernel)) rfl
theorem wd_34 : Cond.selects RX9 yX9_across yX9_across ∈ xv_g := xv_in (xv_t0 34 (by decide +kernel)) rfl
theorem ln_X9_138 : xv_lV RX9 138 yX9_across mX9_across 1 := ⟨wd_1056, wd_1058, wd_34, wd_63, wd_1059, rfl, ⟨by decide +kernel, by decide +kernel, by decide +kernel⟩⟩
theorem wd_1060 : Cond.constant RX9 141 (400000) ∈ xv_g := xv_in (xv_t5 47 (by decide +kernel)) rfl
abbrev kc_X9_141 := wd_1060
theorem wd_1076 : Cond.code yX9_lateOf cX9_lateOf 1 (some .int) ∈ xv_g := xv_in (xv_t5 63 rfl) rfl
theorem wd_1074 : Cond.methodLink RX9 142 yX9_lateOf ∈ xv_g := xv_in (xv_t5 61 (by decide +kernel)) rfl
theorem wd_1075 : Cond.static yX9_lateOf ∈ xv_g := xv_in (xv_t5 62 (by decide +kernel)) rfl
theorem ln_X9_142 : xv_lS RX9 142 yX9_lateOf mX9_lateOf 1 := ⟨Or.inl wd_1074, wd_1075, wd_63, wd_1076, ⟨by decide +kernel, by decide +kernel, by decide +kernel⟩⟩
theorem wd_1077 : Cond.constant RX9 145 (120000) ∈ xv_g := xv_in (xv_t5 64 (by decide +kernel)) rfl
abbrev kc_X9_145 := wd_1077
theorem wd_1073 : Cond.code yX9_valveAt cX9_valveAt 7 (some .int) ∈ xv_g := xv_in (xv_t5 60 rfl) rfl
theorem wd_1070 : Cond.methodLink RX9 146 yX9_valveAt ∈ xv_g := xv_in (xv_t5 57 (by decide +kernel)) rfl
theorem wd_1072 : Cond.instanceMethod yX9_valveAt ∈ xv_g := xv_in (xv_t5 59 (by decide +kernel)) rfl
theorem wd_35 : Cond.selects RX9 yX9_valveAt yX9_valveAt ∈ xv_g := xv_in (xv_t0 35 (by decide +kernel)) rfl
theorem ln_X9_146 : xv_lV RX9 146 yX9_valveAt mX9_valveAt 3 := ⟨wd_1070, wd_1072, wd_35, wd_63, wd_1073, rfl, ⟨by decide +kernel, by decide +kernel, by decide +kernel⟩⟩
theorem wd_1089 : Cond.code yX9_openBy cX9_openBy 8 (some .int) ∈ xv_g := xv_in (xv_t5 76 rfl) rfl
theorem wd_1086 : Cond.methodLink RX9 150 yX9_openBy ∈ xv_g := xv_in (xv_t5 73 (by decide +kernel)) rfl
theorem wd_1088 : Cond.instanceMethod yX9_openBy ∈ xv_g := xv_in (xv_t5 75 (by decide +kernel)) rfl
theorem wd_37 : Cond.selects RX9 yX9_openBy yX9_openBy ∈ xv_g := xv_in (xv_t0 37 (by decide +kernel)) rfl
theorem ln_X9_150 : xv_lV RX9 150 yX9_openBy mX9_openBy 4 := ⟨wd_1086, wd_1088, wd_37, wd_63, wd_1089, rfl, ⟨by decide +kernel, by decide +kernel, by decide +kernel⟩⟩
theorem wd_1085 : Cond.code yX9_openAt cX9_openAt 6 (some .int) ∈ xv_g := xv_in (xv_t5 72 rfl) rfl
theorem wd_1082 : Cond.methodLink RX9 154 yX9_openAt ∈ xv_g := xv_in (xv_t5 69 (by decide +kernel)) rfl
theorem wd_1084 : Cond.instanceMethod yX9_openAt ∈ xv_g := xv_in (xv_t5 71 (by decide +kernel)) rfl
theorem wd_36 : Cond.selects RX9 yX9_openAt yX9_openAt ∈ xv_g := xv_in (xv_t0 36 (by decide +kernel)) rfl
theorem ln_X9_154 : xv_lV RX9 154 yX9_openAt mX9_openAt 5 := ⟨wd_1082, wd_1084, wd_36, wd_63, wd_1085, rfl, ⟨by decide +kernel, by decide +kernel, by decide +kernel⟩⟩
theorem wd_1099 : Cond.constant RX9 158 (-1000000) ∈ xv_g := xv_in (xv_t5 86 (by decide +kernel)) rfl
abbrev kc_X9_158 := wd_1099
theorem wd_1068 : Cond.constantLong RX9 159 (-6) ∈ xv_g := xv_in (xv_t5 55 (by decide +kernel)) rfl
abbrev kc_X9_159 := wd_1068
theorem wd_1069 : Cond.constantLong RX9 161 (6) ∈ xv_g := xv_in (xv_t5 56 (by decide +kernel)) rfl
abbrev kc_X9_161 := wd_1069
theorem wd_1043 : Cond.constantLong RX9 163 (-1000) ∈ xv_g := xv_in (xv_t5 30 (by decide +kernel)) rfl
abbrev kc_X9_163 := wd_1043
theorem wd_1044 : Cond.constantLong RX9 165 (1000) ∈ xv_g := xv_in (xv_t5 31 (by decide +kernel)) rfl
abbrev kc_X9_165 := wd_1044
theorem wd_1048 : Cond.code yX9_pistonAt cX9_pistonAt 4 (some .int) ∈ xv_g := xv_in (xv_t5 35 rfl) rfl
theorem wd_1045 : Cond.methodLink RX9 167 yX9_pistonAt ∈ xv_g := xv_in (xv_t5 32 (by decide +kernel)) rfl
theorem wd_1047 : Cond.instanceMethod yX9_pistonAt ∈ xv_g := xv_in (xv_t5 34 (by decide +kernel)) rfl
theorem wd_32 : Cond.selects RX9 yX9_pistonAt yX9_pistonAt ∈ xv_g := xv_in (xv_t0 32 (by decide +kernel)) rfl
theorem ln_X9_167 : xv_lV RX9 167 yX9_pistonAt mX9_pistonAt 2 := ⟨wd_1045, wd_1047, wd_32, wd_63, wd_1048, rfl, ⟨by decide +kernel, by decide +kernel, by decide +kernel⟩⟩
theorem wd_1067 : Cond.code yX9_isNotch cX9_isNotch 1 (some .boolean) ∈ xv_g := xv_in (xv_t5 54 rfl) rfl
theorem wd_1065 : Cond.methodLink RX9 171 yX9_isNotch ∈ xv_g := xv_in (xv_t5 52 (by decide +kernel)) rfl
theorem wd_1066 : Cond.static yX9_isNotch ∈ xv_g := xv_in (xv_t5 53 (by decide +kernel)) rfl
theorem ln_X9_171 : xv_lS RX9 171 yX9_isNotch mX9_isNotch 1 := ⟨Or.inl wd_1065, wd_1066, wd_63, wd_1067, ⟨by decide +kernel, by decide +kernel, by decide +kernel⟩⟩
theorem wd_1094 : Cond.constantLong RX9 174 (3) ∈ xv_g := xv_in (xv_t5 81 (by decide +kernel)) rfl
abbrev kc_X9_174 := wd_1094
theorem wd_1098 : Cond.code yX9_eventOf cX9_eventOf 9 (some .int) ∈ xv_g := xv_in (xv_t5 85 rfl) rfl
theorem wd_1095 : Cond.methodLink RX9 176 yX9_eventOf ∈ xv_g := xv_in (xv_t5 82 (by decide +kernel)) rfl
theorem wd_1097 : Cond.instanceMethod yX9_eventOf ∈ xv_g := xv_in (xv_t5 84 (by decide +kernel)) rfl
theorem wd_38 : Cond.selects RX9 yX9_eventOf yX9_eventOf ∈ xv_g := xv_in (xv_t0 38 (by decide +kernel)) rfl
theorem ln_X9_176 : xv_lV RX9 176 yX9_eventOf mX9_eventOf 4 := ⟨wd_1095, wd_1097, wd_38, wd_63, wd_1098, rfl, ⟨by decide +kernel, by decide +kernel, by decide +kernel⟩⟩
theorem wd_1107 : Cond.code yX9_unlike cX9_unlike 7 (some .int) ∈ xv_g := xv_in (xv_t5 94 rfl) rfl
theorem wd_1104 : Cond.methodLink RX9 179 yX9_unlike ∈ xv_g := xv_in (xv_t5 91 (by decide +kernel)) rfl
theorem wd_1106 : Cond.instanceMethod yX9_unlike ∈ xv_g := xv_in (xv_t5 93 (by decide +kernel)) rfl
theorem wd_39 : Cond.selects RX9 yX9_unlike yX9_unlike ∈ xv_g := xv_in (xv_t0 39 (by decide +kernel)) rfl
theorem ln_X9_179 : xv_lV RX9 179 yX9_unlike mX9_unlike 1 := ⟨wd_1104, wd_1106, wd_39, wd_63, wd_1107, rfl, ⟨by decide +kernel, by decide +kernel, by decide +kernel⟩⟩
theorem wd_1111 : Cond.code yX9_leadOf cX9_leadOf 2 (some .int) ∈ xv_g := xv_in (xv_t5 98 rfl) rfl
theorem wd_1108 : Cond.methodLink RX9 182 yX9_leadOf ∈ xv_g := xv_in (xv_t5 95 (by decide +kernel)) rfl
theorem wd_1110 : Cond.instanceMethod yX9_leadOf ∈ xv_g := xv_in (xv_t5 97 (by decide +kernel)) rfl
theorem wd_40 : Cond.selects RX9 yX9_leadOf yX9_leadOf ∈ xv_g := xv_in (xv_t0 40 (by decide +kernel)) rfl
theorem ln_X9_182 : xv_lV RX9 182 yX9_leadOf mX9_leadOf 1 := ⟨wd_1108, wd_1110, wd_40, wd_63, wd_1111, rfl, ⟨by decide +kernel, by decide +kernel, by decide +kernel⟩⟩
theorem wd_871 : Cond.fieldLink RX9 185 "ValveShopModel" "bestAdvance" "I" ∈ xv_g := xv_in (xv_t4 98 (by decide +kernel)) rfl
theorem fl_X9_185 : xv_fl RX9 185 9 12 false .int := ⟨RX9, TX9, 33, tyX9, rfl, cw_X9, by decide, wd_871, rfl, rfl, tyX9_ok 12 (by decide), tyX9_ok, nmX9⟩
theorem wd_872 : Cond.fieldLink RX9 188 "ValveShopModel" "bestHang" "I" ∈ xv_g := xv_in (xv_t4 99 (by decide +kernel)) rfl
theorem fl_X9_188 : xv_fl RX9 188 9 13 false .int := ⟨RX9, TX9, 33, tyX9, rfl, cw_X9, by decide, wd_872, rfl, rfl, tyX9_ok 13 (by decide), tyX9_ok, nmX9⟩
theorem wd_1119 : Cond.code yX9_settle cX9_settle 6 (some .int) ∈ xv_g := xv_in (xv_t5 106 rfl) rfl
theorem wd_1116 : Cond.methodLink RX9 191 yX9_settle ∈ xv_g := xv_in (xv_t5 103 (by decide +kernel)) rfl
theorem wd_1118 : Cond.instanceMethod yX9_settle ∈ xv_g := xv_in (xv_t5 105 (by decide +kernel)) rfl
theorem wd_41 : Cond.selects RX9 yX9_settle yX9_settle ∈ xv_g := xv_in (xv_t0 41 (by decide +kernel)) rfl
theorem ln_X9_191 : xv_lV RX9 191 yX9_settle mX9_settle 1 := ⟨wd_1116, wd_1118, wd_41, wd_63, wd_1119, rfl, ⟨by decide +kernel, by decide +kernel, by decide +kernel⟩⟩
theorem wd_874 : Cond.fieldLink RX9 194 "ValveShopModel" "drunk" "J" ∈ xv_g := xv_in (xv_t4 101 (by decide +kernel)) rfl
theorem fl_X9_194 : xv_fl RX9 194 9 15 false .long := ⟨RX9, TX9, 33, tyX9, rfl, cw_X9, by decide, wd_874, rfl, rfl, tyX9_ok 15 (by decide), tyX9_ok, nmX9⟩
theorem wd_1140 : Cond.code yX9_room cX9_room 5 (some .int) ∈ xv_g := xv_in (xv_t5 127 rfl) rfl
theorem wd_1137 : Cond.methodLink RX9 198 yX9_room ∈ xv_g := xv_in (xv_t5 124 (by decide +kernel)) rfl
theorem wd_1139 : Cond.instanceMethod yX9_room ∈ xv_g := xv_in (xv_t5 126 (by decide +kernel)) rfl
theorem wd_43 : Cond.selects RX9 yX9_room yX9_room ∈ xv_g := xv_in (xv_t0 43 (by decide +kernel)) rfl
theorem ln_X9_198 : xv_lV RX9 198 yX9_room mX9_room 3 := ⟨wd_1137, wd_1139, wd_43, wd_63, wd_1140, rfl, ⟨by decide +kernel, by decide +kernel, by decide +kernel⟩⟩
theorem wd_1143 : Cond.code yX9_chokedOf cX9_chokedOf 1 (some .int) ∈ xv_g := xv_in (xv_t5 130 rfl) rfl
theorem wd_1141 : Cond.methodLink RX9 201 yX9_chokedOf ∈ xv_g := xv_in (xv_t5 128 (by decide +kernel)) rfl
theorem wd_1142 : Cond.static yX9_chokedOf ∈ xv_g := xv_in (xv_t5 129 (by decide +kernel)) rfl
theorem ln_X9_201 : xv_lS RX9 201 yX9_chokedOf mX9_chokedOf 1 := ⟨Or.inl wd_1141, wd_1142, wd_63, wd_1143, ⟨by decide +kernel, by decide +kernel, by decide +kernel⟩⟩
theorem wd_1146 : Cond.code yX9_leakOf cX9_leakOf 1 (some .int) ∈ xv_g := xv_in (xv_t5 133 rfl) rfl
theorem wd_1144 : Cond.methodLink RX9 204 yX9_leakOf ∈ xv_g := xv_in (xv_t5 131 (by decide +kernel)) rfl
theorem wd_1145 : Cond.static yX9_leakOf ∈ xv_g := xv_in (xv_t5 132 (by decide +kernel)) rfl
theorem ln_X9_204 : xv_lS RX9 204 yX9_leakOf mX9_leakOf 1 := ⟨Or.inl wd_1144, wd_1145, wd_63, wd_1146, ⟨by decide +kernel, by decide +kernel, by decide +kernel⟩⟩
theorem wd_1131 : Cond.constantLong RX9 207 (2000) ∈ xv_g := xv_in (xv_t5 118 (by decide +kernel)) rfl
abbrev kc_X9_207 := wd_1131
theorem wd_1130 : Cond.code yX9_isTurn cX9_isTurn 3 (some .boolean) ∈ xv_g := xv_in (xv_t5 117 rfl) rfl
theorem wd_1128 : Cond.methodLink RX9 209 yX9_isTurn ∈ xv_g := xv_in (xv_t5 115 (by decide +kernel)) rfl
theorem wd_1129 : Cond.static yX9_isTurn ∈ xv_g := xv_in (xv_t5 116 (by decide +kernel)) rfl
theorem ln_X9_209 : xv_lS RX9 209 yX9_isTurn mX9_isTurn 3 := ⟨Or.inl wd_1128, wd_1129, wd_63, wd_1130, ⟨by decide +kernel, by decide +kernel, by decide +kernel⟩⟩
theorem wd_1132 : Cond.constantLong RX9 213 (47) ∈ xv_g := xv_in (xv_t5 119 (by decide +kernel)) rfl
abbrev kc_X9_213 := wd_1132
theorem wd_1136 : Cond.code yX9_draw cX9_draw 16 none ∈ xv_g := xv_in (xv_t5 123 rfl) rfl
theorem wd_1133 : Cond.methodLink RX9 215 yX9_draw ∈ xv_g := xv_in (xv_t5 120 (by decide +kernel)) rfl
theorem wd_1135 : Cond.instanceMethod yX9_draw ∈ xv_g := xv_in (xv_t5 122 (by decide +kernel)) rfl
theorem wd_42 : Cond.selects RX9 yX9_draw yX9_draw ∈ xv_g := xv_in (xv_t0 42 (by decide +kernel)) rfl
theorem ln_X9_215 : xv_lV RX9 215 yX9_draw mX9_draw 5 := ⟨wd_1133, wd_1135, wd_42, wd_63, wd_1136, rfl, ⟨by decide +kernel, by decide +kernel, by decide +kernel⟩⟩
theorem wd_1158 : Cond.code yX9_workOf cX9_workOf 10 (some .int) ∈ xv_g := xv_in (xv_t5 145 rfl) rfl
theorem wd_1155 : Cond.methodLink RX9 219 yX9_workOf ∈ xv_g := xv_in (xv_t5 142 (by decide +kernel)) rfl
theorem wd_1157 : Cond.instanceMethod yX9_workOf ∈ xv_g := xv_in (xv_t5 144 (by decide +kernel)) rfl
theorem wd_44 : Cond.selects RX9 yX9_workOf yX9_workOf ∈ xv_g := xv_in (xv_t0 44 (by decide +kernel)) rfl
theorem ln_X9_219 : xv_lV RX9 219 yX9_workOf mX9_workOf 4 := ⟨wd_1155, wd_1157, wd_44, wd_63, wd_1158, rfl, ⟨by decide +kernel, by decide +kernel, by decide +kernel⟩⟩
theorem wd_1162 : Cond.code yX9_drinkOf cX9_drinkOf 7 (some .int) ∈ xv_g := xv_in (xv_t5 149 rfl) rfl
theorem wd_1159 : Cond.methodLink RX9 222 yX9_drinkOf ∈ xv_g := xv_in (xv_t5 146 (by decide +kernel)) rfl
theorem wd_1161 : Cond.instanceMethod yX9_drinkOf ∈ xv_g := xv_in (xv_t5 148 (by decide +kernel)) rfl
theorem wd_45 : Cond.selects RX9 yX9_drinkOf yX9_drinkOf ∈ xv_g := xv_in (xv_t0 45 (by decide +kernel)) rfl
theorem ln_X9_222 : xv_lV RX9 222 yX9_drinkOf mX9_drinkOf 4 := ⟨wd_1159, wd_1161, wd_45, wd_63, wd_1162, rfl, ⟨by decide +kernel, by decide +kernel, by decide +kernel⟩⟩
theorem wd_1172 : Cond.constantLong RX9 225 (-1) ∈ xv_g := xv_in (xv_t5 159 (by decide +kernel)) rfl
abbrev kc_X9_225 := wd_1172
theorem wd_1173 : Cond.constantLong RX9 227 (5000) ∈ xv_g := xv_in (xv_t5 160 (by decide +kernel)) rfl
abbrev kc_X9_227 := wd_1173
theorem wd_1167 : Cond.constantLong RX9 229 (48) ∈ xv_g := xv_in (xv_t5 154 (by decide +kernel)) rfl
abbrev kc_X9_229 := wd_1167
theorem wd_1171 : Cond.code yX9_isCard cX9_isCard 5 (some .boolean) ∈ xv_g := xv_in (xv_t5 158 rfl) rfl
theorem wd_1168 : Cond.methodLink RX9 231 yX9_isCard ∈ xv_g := xv_in (xv_t5 155 (by decide +kernel)) rfl
theorem wd_1170 : Cond.instanceMethod yX9_isCard ∈ xv_g := xv_in (xv_t5 157 (by decide +kernel)) rfl
theorem wd_46 : Cond.selects RX9 yX9_isCard yX9_isCard ∈ xv_g := xv_in (xv_t0 46 (by decide +kernel)) rfl
theorem ln_X9_231 : xv_lV RX9 231 yX9_isCard mX9_isCard 2 := ⟨wd_1168, wd_1170, wd_46, wd_63, wd_1171, rfl, ⟨by decide +kernel, by decide +kernel, by decide +kernel⟩⟩
theorem wd_1185 : Cond.code yX9_size cX9_size 1 (some .int) ∈ xv_g := xv_in (xv_t5 172 rfl) rfl
theorem wd_1183 : Cond.methodLink RX9 234 yX9_size ∈ xv_g := xv_in (xv_t5 170 (by decide +kernel)) rfl
theorem wd_1184 : Cond.static yX9_size ∈ xv_g := xv_in (xv_t5 171 (by decide +kernel)) rfl
theorem ln_X9_234 : xv_lS RX9 234 yX9_size mX9_size 1 := ⟨Or.inl wd_1183, wd_1184, wd_63, wd_1185, ⟨by decide +kernel, by decide +kernel, by decide +kernel⟩⟩
theorem wd_1178 : Cond.constant RX9 237 (-1000002) ∈ xv_g := xv_in (xv_t5 165 (by decide +kernel)) rfl
abbrev kc_X9_237 := wd_1178
theorem wd_1182 : Cond.code yX9_misfitOf cX9_misfitOf 6 (some .int) ∈ xv_g := xv_in (xv_t5 169 rfl) rfl
theorem wd_1179 : Cond.methodLink RX9 238 yX9_misfitOf ∈ xv_g := xv_in (xv_t5 166 (by decide +kernel)) rfl
theorem wd_1181 : Cond.instanceMethod yX9_misfitOf ∈ xv_g := xv_in (xv_t5 168 (by decide +kernel)) rfl
theorem wd_47 : Cond.selects RX9 yX9_misfitOf yX9_misfitOf ∈ xv_g := xv_in (xv_t0 47 (by decide +kernel)) rfl
theorem ln_X9_238 : xv_lV RX9 238 yX9_misfitOf mX9_misfitOf 2 := ⟨wd_1179, wd_1181, wd_47, wd_63, wd_1182, rfl, ⟨by decide +kernel, by decide +kernel, by decide +kernel⟩⟩
theorem wd_1190 : Cond.constantLong RX9 241 (100000) ∈ xv_g := xv_in (xv_t5 177 (by decide +kernel)) rfl
abbrev kc_X9_241 := wd_1190
theorem wd_880 : Cond.fieldLink RX9 243 "ValveShopModel" "planned" "I" ∈ xv_g := xv_in (xv_t4 107 (by decide +kernel)) rfl
theorem fl_X9_243 : xv_fl RX9 243 9 21 false .int := ⟨RX9, TX9, 33, tyX9, rfl, cw_X9, by decide, wd_880, rfl, rfl, tyX9_ok 21 (by decide), tyX9_ok, nmX9⟩
theorem wd_885 : Cond.fieldLink RX9 246 "ValveShopModel" "heap" "I" ∈ xv_g := xv_in (xv_t4 112 (by decide +kernel)) rfl
theorem fl_X9_246 : xv_fl RX9 246 9 26 false .int := ⟨RX9, TX9, 33, tyX9, rfl, cw_X9, by decide, wd_885, rfl, rfl, tyX9_ok 26 (by decide), tyX9_ok, nmX9⟩
theorem wd_1211 : Cond.constant RX9 249 (-1000003) ∈ xv_g := xv_in (xv_t5 198 (by decide +kernel)) rfl
abbrev kc_X9_249 := wd_1211
theorem wd_889 : Cond.fieldLink RX9 250 "ValveShopModel" "minutesGone" "I" ∈ xv_g := xv_in (xv_t4 116 (by decide +kernel)) rfl
theorem fl_X9_250 : xv_fl RX9 250 9 30 false .int := ⟨RX9, TX9, 33, tyX9, rfl, cw_X9, by decide, wd_889, rfl, rfl, tyX9_ok 30 (by decide), tyX9_ok, nmX9⟩
theorem wd_886 : Cond.fieldLink RX9 253 "ValveShopModel" "burnt" "I" ∈ xv_g := xv_in (xv_t4 113 (by decide +kernel)) rfl
theorem fl_X9_253 : xv_fl RX9 253 9 27 false .int := ⟨RX9, TX9, 33, tyX9, rfl, cw_X9, by decide, wd_886, rfl, rfl, tyX9_ok 27 (by decide), tyX9_ok, nmX9⟩
theorem wd_884 : Cond.fieldLink RX9 256 "ValveShopModel" "gauge" "I" ∈ xv_g := xv_in (xv_t4 111 (by decide +kernel)) rfl
theorem fl_X9_256 : xv_fl RX9 256 9 25 false .int := ⟨RX9, TX9, 33, tyX9, rfl, cw_X9, by decide, wd_884, rfl, rfl, tyX9_ok 25 (by decide), tyX9_ok, nmX9⟩
theorem wd_887 : Cond.fieldLink RX9 259 "ValveShopModel" "taken" "I" ∈ xv_g := xv_in (xv_t4 114 (by decide +kernel)) rfl
theorem fl_X9_259 : xv_fl RX9 259 9 28 false .int := ⟨RX9, TX9, 33, tyX9, rfl, cw_X9, by decide, wd_887, rfl, rfl, tyX9_ok 28 (by decide), tyX9_ok, nmX9⟩
theorem wd_888 : Cond.fieldLink RX9 262 "ValveShopModel" "blown" "I" ∈ xv_g := xv_in (xv_t4 115 (by decide +kernel)) rfl
theorem fl_X9_262 : xv_fl RX9 262 9 29 false .int := ⟨RX9, TX9, 33, tyX9, rfl, cw_X9, by decide, wd_888, rfl, rfl, tyX9_ok 29 (by decide), tyX9_ok, nmX9⟩
theorem wd_1227 : Cond.code yX9_kindOf cX9_kindOf 2 (some .int) ∈ xv_g := xv_in (xv_t5 214 rfl) rfl
theorem wd_1224 : Cond.methodLink RX9 265 yX9_kindOf ∈ xv_g := xv_in (xv_t5 211 (by decide +kernel)) rfl
theorem wd_1226 : Cond.instanceMethod yX9_kindOf ∈ xv_g := xv_in (xv_t5 213 (by decide +kernel)) rfl
theorem wd_48 : Cond.selects RX9 yX9_kindOf yX9_kindOf ∈ xv_g := xv_in (xv_t0 48 (by decide +kernel)) rfl
theorem ln_X9_265 : xv_lV RX9 265 yX9_kindOf mX9_kindOf 1 := ⟨wd_1224, wd_1226, wd_48, wd_63, wd_1227, rfl, ⟨by decide +kernel, by decide +kernel, by decide +kernel⟩⟩
theorem wd_1234 : Cond.code yX9_isOf cX9_isOf 2 (some .boolean) ∈ xv_g := xv_in (xv_t5 221 rfl) rfl
theorem wd_1232 : Cond.methodLink RX9 268 yX9_isOf ∈ xv_g := xv_in (xv_t5 219 (by decide +kernel)) rfl
theorem wd_1233 : Cond.static yX9_isOf ∈ xv_g := xv_in (xv_t5 220 (by decide +kernel)) rfl
theorem ln_X9_268 : xv_lS RX9 268 yX9_isOf mX9_isOf 2 := ⟨Or.inl wd_1232, wd_1233, wd_63, wd_1234, ⟨by decide +kernel, by decide +kernel, by decide +kernel⟩⟩
theorem wd_891 : Cond.fieldLink RX9 271 "ValveShopModel" "traced" "I" ∈ xv_g := xv_in (xv_t4 118 (by decide +kernel)) rfl
theorem fl_X9_271 : xv_fl RX9 271 9 32 false .int := ⟨RX9, TX9, 33, tyX9, rfl, cw_X9, by decide, wd_891, rfl, rfl, tyX9_ok 32 (by decide), tyX9_ok, nmX9⟩
theorem wd_1254 : Cond.code yX9_began cX9_began 2 none ∈ xv_g := xv_in (xv_t6 1 rfl) rfl
theorem wd_1251 : Cond.methodLink RX9 274 yX9_began ∈ xv_g := xv_in (xv_t5 238 (by decide +kernel)) rfl
theorem wd_1253 : Cond.instanceMethod yX9_began ∈ xv_g := xv_in (xv_t6 0 (by decide +kernel)) rfl
theorem wd_51 : Cond.selects RX9 yX9_began yX9_began ∈ xv_g := xv_in (xv_t0 51 (by decide +kernel)) rfl
theorem ln_X9_274 : xv_lV RX9 274 yX9_began mX9_began 1 := ⟨wd_1251, wd_1253, wd_51, wd_63, wd_1254, rfl, ⟨by decide +kernel, by decide +kernel, by decide +kernel⟩⟩
theorem wd_1250 : Cond.code yX9_sickWorth cX9_sickWorth 4 (some .int) ∈ xv_g := xv_in (xv_t5 237 rfl) rfl
theorem wd_1247 : Cond.methodLink RX9 278 yX9_sickWorth ∈ xv_g := xv_in (xv_t5 234 (by decide +kernel)) rfl
theorem wd_1249 : Cond.instanceMethod yX9_sickWorth ∈ xv_g := xv_in (xv_t5 236 (by decide +kernel)) rfl
theorem wd_50 : Cond.selects RX9 yX9_sickWorth yX9_sickWorth ∈ xv_g := xv_in (xv_t0 50 (by decide +kernel)) rfl
theorem ln_X9_278 : xv_lV RX9 278 yX9_sickWorth mX9_sickWorth 2 := ⟨wd_1247, wd_1249, wd_50, wd_63, wd_1250, rfl, ⟨by decide +kernel, by decide +kernel, by decide +kernel⟩⟩
theorem wd_1258 : Cond.code yX9_marked cX9_marked 4 (some .int) ∈ xv_g := xv_in (xv_t6 5 rfl) rfl
theorem wd_1255 : Cond.methodLink RX9 281 yX9_marked ∈ xv_g := xv_in (xv_t6 2 (by decide +kernel)) rfl
theorem wd_1257 : Cond.instanceMethod yX9_marked ∈ xv_g := xv_in (xv_t6 4 (by decide +kernel)) rfl
theorem wd_52 : Cond.selects RX9 yX9_marked yX9_marked ∈ xv_g := xv_in (xv_t0 52 (by decide +kernel)) rfl
theorem ln_X9_281 : xv_lV RX9 281 yX9_marked mX9_marked 2 := ⟨wd_1255, wd_1257, wd_52, wd_63, wd_1258, rfl, ⟨by decide +kernel, by decide +kernel, by decide +kernel⟩⟩
theorem wd_1246 : Cond.code yX9_worth cX9_worth 4 (some .int) ∈ xv_g := xv_in (xv_t5 233 rfl) rfl
theorem wd_1243 : Cond.methodLink RX9 284 yX9_worth ∈ xv_g := xv_in (xv_t5 230 (by decide +kernel)) rfl
theorem wd_1245 : Cond.instanceMethod yX9_worth ∈ xv_g := xv_in (xv_t5 232 (by decide +kernel)) rfl
theorem wd_49 : Cond.selects RX9 yX9_worth yX9_worth ∈ xv_g := xv_in (xv_t0 49 (by decide +kernel)) rfl
theorem ln_X9_284 : xv_lV RX9 284 yX9_worth mX9_worth 2 := ⟨wd_1243, wd_1245, wd_49, wd_63, wd_1246, rfl, ⟨by decide +kernel, by decide +kernel, by decide +kernel⟩⟩
theorem wd_67 : Cond.classLink RL 7 RX8 ∈ xv_g := xv_in (xv_t1 14 (by decide +kernel)) rfl
theorem wd_68 : Cond.instantiable RX8 13 ∈ xv_g := xv_in (xv_t1 15 (by decide +kernel)) rfl
theorem nw_L_7 : Cond.classLink RL 7 RX8 ∈ xv_g ∧ Cond.instantiable RX8 13 ∈ xv_g ∧ Cond.initialized RX8 ∈ xv_g := ⟨wd_67, wd_68, wd_54⟩
theorem wd_71 : Cond.code yX8_init cX8_init 2 none ∈ xv_g := xv_in (xv_t1 18 rfl) rfl
theorem wd_69 : Cond.methodLink RL 9 yX8_init ∈ xv_g := xv_in (xv_t1 16 (by decide +kernel)) rfl
theorem wd_70 : Cond.instanceMethod yX8_init ∈ xv_g := xv_in (xv_t1 17 (by decide +kernel)) rfl
theorem ln_L_9 : xv_lI RL 9 yX8_init mX8_init 0 := ⟨Or.inl wd_69, wd_70, wd_54, wd_71, rfl, rfl, ⟨by decide +kernel, by decide +kernel, by decide +kernel⟩⟩
theorem wd_853 : Cond.classLink RL 10 RX9 ∈ xv_g := xv_in (xv_t4 80 (by decide +kernel)) rfl
theorem wd_854 : Cond.instantiable RX9 33 ∈ xv_g := xv_in (xv_t4 81 (by decide +kernel)) rfl
theorem nw_L_10 : Cond.classLink RL 10 RX9 ∈ xv_g ∧ Cond.instantiable RX9 33 ∈ xv_g ∧ Cond.initialized RX9 ∈ xv_g := ⟨wd_853, wd_854, wd_63⟩
theorem wd_857 : Cond.code yX9_init cX9_init 1 none ∈ xv_g := xv_in (xv_t4 84 rfl) rfl
theorem wd_855 : Cond.methodLink RL 12 yX9_init ∈ xv_g := xv_in (xv_t4 82 (by decide +kernel)) rfl
theorem wd_856 : Cond.instanceMethod yX9_init ∈ xv_g := xv_in (xv_t4 83 (by decide +kernel)) rfl
theorem ln_L_12 : xv_lI RL 12 yX9_init mX9_init 0 := ⟨Or.inl wd_855, wd_856, wd_63, wd_857, rfl, rfl, ⟨by decide +kernel, by decide +kernel, by decide +kernel⟩⟩
theorem wd_323 : Cond.code yX8_sheet cX8_sheet 4 (some .int) ∈ xv_g := xv_in (xv_t2 30 rfl) rfl
theorem wd_320 : Cond.methodLink RL 13 yX8_sheet ∈ xv_g := xv_in (xv_t2 27 (by decide +kernel)) rfl
theorem wd_321 : Cond.instanceMethod yX8_sheet ∈ xv_g := xv_in (xv_t2 28 (by decide +kernel)) rfl
theorem wd_322 : Cond.selects RX8 yX8_sheet yX8_sheet ∈ xv_g := xv_in (xv_t2 29 (by decide +kernel)) rfl
theorem ln_L_13 : xv_lV RL 13 yX8_sheet mX8_sheet 3 := ⟨wd_320, wd_321, wd_322, wd_54, wd_323, rfl, ⟨by decide +kernel, by decide +kernel, by decide +kernel⟩⟩
theorem wd_963 : Cond.code yX9_sheet cX9_sheet 5 (some .int) ∈ xv_g := xv_in (xv_t4 190 rfl) rfl
theorem wd_960 : Cond.methodLink RL 17 yX9_sheet ∈ xv_g := xv_in (xv_t4 187 (by decide +kernel)) rfl
theorem wd_961 : Cond.instanceMethod yX9_sheet ∈ xv_g := xv_in (xv_t4 188 (by decide +kernel)) rfl
theorem wd_962 : Cond.selects RX9 yX9_sheet yX9_sheet ∈ xv_g := xv_in (xv_t4 189 (by decide +kernel)) rfl
theorem ln_L_17 : xv_lV RL 17 yX9_sheet mX9_sheet 3 := ⟨wd_960, wd_961, wd_962, wd_63, wd_963, rfl, ⟨by decide +kernel, by decide +kernel, by decide +kernel⟩⟩
theorem wd_347 : Cond.code yX8_set cX8_set 5 (some .int) ∈ xv_g := xv_in (xv_t2 54 rfl) rfl
theorem wd_344 : Cond.methodLink RL 18 yX8_set ∈ xv_g := xv_in (xv_t2 51 (by decide +kernel)) rfl
theorem wd_345 : Cond.instanceMethod yX8_set ∈ xv_g := xv_in (xv_t2 52 (by decide +kernel)) rfl
theorem wd_346 : Cond.selects RX8 yX8_set yX8_set ∈ xv_g := xv_in (xv_t2 53 (by decide +kernel)) rfl
theorem ln_L_18 : xv_lV RL 18 yX8_set mX8_set 3 := ⟨wd_344, wd_345, wd_346, wd_54, wd_347, rfl, ⟨by decide +kernel, by decide +kernel, by decide +kernel⟩⟩
theorem wd_981 : Cond.code yX9_set cX9_set 4 (some .int) ∈ xv_g := xv_in (xv_t4 208 rfl) rfl
theorem wd_978 : Cond.methodLink RL 21 yX9_set ∈ xv_g := xv_in (xv_t4 205 (by decide +kernel)) rfl
theorem wd_979 : Cond.instanceMethod yX9_set ∈ xv_g := xv_in (xv_t4 206 (by decide +kernel)) rfl
theorem wd_980 : Cond.selects RX9 yX9_set yX9_set ∈ xv_g := xv_in (xv_t4 207 (by decide +kernel)) rfl
theorem ln_L_21 : xv_lV RL 21 yX9_set mX9_set 3 := ⟨wd_978, wd_979, wd_980, wd_63, wd_981, rfl, ⟨by decide +kernel, by decide +kernel, by decide +kernel⟩⟩
theorem wd_364 : Cond.code yX8_copy cX8_copy 8 (some .int) ∈ xv_g := xv_in (xv_t2 71 rfl) rfl
theorem wd_361 : Cond.methodLink RL 22 yX8_copy ∈ xv_g := xv_in (xv_t2 68 (by decide +kernel)) rfl
theorem wd_362 : Cond.instanceMethod yX8_copy ∈ xv_g := xv_in (xv_t2 69 (by decide +kernel)) rfl
theorem wd_363 : Cond.selects RX8 yX8_copy yX8_copy ∈ xv_g := xv_in (xv_t2 70 (by decide +kernel)) rfl
theorem ln_L_22 : xv_lV RL 22 yX8_copy mX8_copy 5 := ⟨wd_361, wd_362, wd_363, wd_54, wd_364, rfl, ⟨by decide +kernel, by decide +kernel, by decide +kernel⟩⟩
theorem wd_985 : Cond.code yX9_copy cX9_copy 9 (some .int) ∈ xv_g := xv_in (xv_t4 212 rfl) rfl
theorem wd_982 : Cond.methodLink RL 26 yX9_copy ∈ xv_g := xv_in (xv_t4 209 (by decide +kernel)) rfl
theorem wd_983 : Cond.instanceMethod yX9_copy ∈ xv_g := xv_in (xv_t4 210 (by decide +kernel)) rfl
theorem wd_984 : Cond.selects RX9 yX9_copy yX9_copy ∈ xv_g := xv_in (xv_t4 211 (by decide +kernel)) rfl
theorem ln_L_26 : xv_lV RL 26 yX9_copy mX9_copy 5 := ⟨wd_982, wd_983, wd_984, wd_63, wd_985, rfl, ⟨by decide +kernel, by decide +kernel, by decide +kernel⟩⟩
theorem wd_371 : Cond.code yX8_drop cX8_drop 3 (some .int) ∈ xv_g := xv_in (xv_t2 78 rfl) rfl
theorem wd_368 : Cond.methodLink RL 27 yX8_drop ∈ xv_g := xv_in (xv_t2 75 (by decide +kernel)) rfl
theorem wd_369 : Cond.instanceMethod yX8_drop ∈ xv_g := xv_in (xv_t2 76 (by decide +kernel)) rfl
theorem wd_370 : Cond.selects RX8 yX8_drop yX8_drop ∈ xv_g := xv_in (xv_t2 77 (by decide +kernel)) rfl
theorem ln_L_27 : xv_lV RL 27 yX8_drop mX8_drop 1 := ⟨wd_368, wd_369, wd_370, wd_54, wd_371, rfl, ⟨by decide +kernel, by decide +kernel, by decide +kernel⟩⟩
theorem wd_989 : Cond.code yX9_drop cX9_drop 2 (some .int) ∈ xv_g := xv_in (xv_t4 216 rfl) rfl
theorem wd_986 : Cond.methodLink RL 31 yX9_drop ∈ xv_g := xv_in (xv_t4 213 (by decide +kernel)) rfl
theorem wd_987 : Cond.instanceMethod yX9_drop ∈ xv_g := xv_in (xv_t4 214 (by decide +kernel)) rfl
theorem wd_988 : Cond.selects RX9 yX9_drop yX9_drop ∈ xv_g := xv_in (xv_t4 215 (by decide +kernel)) rfl
theorem ln_L_31 : xv_lV RL 31 yX9_drop mX9_drop 1 := ⟨wd_986, wd_987, wd_988, wd_63, wd_989, rfl, ⟨by decide +kernel, by decide +kernel, by decide +kernel⟩⟩
theorem wd_375 : Cond.code yX8_engine cX8_engine 6 (some .int) ∈ xv_g := xv_in (xv_t2 82 rfl) rfl
theorem wd_372 : Cond.methodLink RL 32 yX8_engine ∈ xv_g := xv_in (xv_t2 79 (by decide +kernel)) rfl
theorem wd_373 : Cond.instanceMethod yX8_engine ∈ xv_g := xv_in (xv_t2 80 (by decide +kernel)) rfl
theorem wd_374 : Cond.selects RX8 yX8_engine yX8_engine ∈ xv_g := xv_in (xv_t2 81 (by decide +kernel)) rfl
theorem ln_L_32 : xv_lV RL 32 yX8_engine mX8_engine 3 := ⟨wd_372, wd_373, wd_374, wd_54, wd_375, rfl, ⟨by decide +kernel, by decide +kernel, by decide +kernel⟩⟩
theorem wd_993 : Cond.code yX9_engine cX9_engine 5 (some .int) ∈ xv_g := xv_in (xv_t4 220 rfl) rfl
theorem wd_990 : Cond.methodLink RL 35 yX9_engine ∈ xv_g := xv_in (xv_t4 217 (by decide +kernel)) rfl
theorem wd_991 : Cond.instanceMethod yX9_engine ∈ xv_g := xv_in (xv_t4 218 (by decide +kernel)) rfl
theorem wd_992 : Cond.selects RX9 yX9_engine yX9_engine ∈ xv_g := xv_in (xv_t4 219 (by decide +kernel)) rfl
theorem ln_L_35 : xv_lV RL 35 yX9_engine mX9_engine 3 := ⟨wd_990, wd_991, wd_992, wd_63, wd_993, rfl, ⟨by decide +kernel, by decide +kernel, by decide +kernel⟩⟩
theorem wd_398 : Cond.code yX8_adjust cX8_adjust 6 (some .int) ∈ xv_g := xv_in (xv_t2 105 rfl) rfl
theorem wd_395 : Cond.methodLink RL 36 yX8_adjust ∈ xv_g := xv_in (xv_t2 102 (by decide +kernel)) rfl
theorem wd_396 : Cond.instanceMethod yX8_adjust ∈ xv_g := xv_in (xv_t2 103 (by decide +kernel)) rfl
theorem wd_397 : Cond.selects RX8 yX8_adjust yX8_adjust ∈ xv_g := xv_in (xv_t2 104 (by decide +kernel)) rfl
theorem ln_L_36 : xv_lV RL 36 yX8_adjust mX8_adjust 3 := ⟨wd_395, wd_396, wd_397, wd_54, wd_398, rfl, ⟨by decide +kernel, by decide +kernel, by decide +kernel⟩⟩
theorem wd_1013 : Cond.code yX9_adjust cX9_adjust 6 (some .int) ∈ xv_g := xv_in (xv_t5 0 rfl) rfl
theorem wd_1010 : Cond.methodLink RL 39 yX9_adjust ∈ xv_g := xv_in (xv_t4 237 (by decide +kernel)) rfl
theorem wd_1011 : Cond.instanceMethod yX9_adjust ∈ xv_g := xv_in (xv_t4 238 (by decide +kernel)) rfl
theorem wd_1012 : Cond.selects RX9 yX9_adjust yX9_adjust ∈ xv_g := xv_in (xv_t4 239 (by decide +kernel)) rfl
theorem ln_L_39 : xv_lV RL 39 yX9_adjust mX9_adjust 3 := ⟨wd_1010, wd_1011, wd_1012, wd_63, wd_1013, rfl, ⟨by decide +kernel, by decide +kernel, by decide +kernel⟩⟩
theorem wd_406 : Cond.code yX8_sicken cX8_sicken 5 (some .int) ∈ xv_g := xv_in (xv_t2 113 rfl) rfl
theorem wd_403 : Cond.methodLink RL 40 yX8_sicken ∈ xv_g := xv_in (xv_t2 110 (by decide +kernel)) rfl
theorem wd_404 : Cond.instanceMethod yX8_sicken ∈ xv_g := xv_in (xv_t2 111 (by decide +kernel)) rfl
theorem wd_405 : Cond.selects RX8 yX8_sicken yX8_sicken ∈ xv_g := xv_in (xv_t2 112 (by decide +kernel)) rfl
theorem ln_L_40 : xv_lV RL 40 yX8_sicken mX8_sicken 2 := ⟨wd_403, wd_404, wd_405, wd_54, wd_406, rfl, ⟨by decide +kernel, by decide +kernel, by decide +kernel⟩⟩
theorem wd_1021 : Cond.code yX9_sicken cX9_sicken 5 (some .int) ∈ xv_g := xv_in (xv_t5 8 rfl) rfl
theorem wd_1018 : Cond.methodLink RL 44 yX9_sicken ∈ xv_g := xv_in (xv_t5 5 (by decide +kernel)) rfl
theorem wd_1019 : Cond.instanceMethod yX9_sicken ∈ xv_g := xv_in (xv_t5 6 (by decide +kernel)) rfl
theorem wd_1020 : Cond.selects RX9 yX9_sicken yX9_sicken ∈ xv_g := xv_in (xv_t5 7 (by decide +kernel)) rfl
theorem ln_L_44 : xv_lV RL 44 yX9_sicken mX9_sicken 2 := ⟨wd_1018, wd_1019, wd_1020, wd_63, wd_1021, rfl, ⟨by decide +kernel, by decide +kernel, by decide +kernel⟩⟩
theorem wd_413 : Cond.code yX8_twin cX8_twin 4 (some .int) ∈ xv_g := xv_in (xv_t2 120 rfl) rfl
theorem wd_410 : Cond.methodLink RL 45 yX8_twin ∈ xv_g := xv_in (xv_t2 117 (by decide +kernel)) rfl
theorem wd_411 : Cond.instanceMethod yX8_twin ∈ xv_g := xv_in (xv_t2 118 (by decide +kernel)) rfl
theorem wd_412 : Cond.selects RX8 yX8_twin yX8_twin ∈ xv_g := xv_in (xv_t2 119 (by decide +kernel)) rfl
theorem ln_L_45 : xv_lV RL 45 yX8_twin mX8_twin 2 := ⟨wd_410, wd_411, wd_412, wd_54, wd_413, rfl, ⟨by decide +kernel, by decide +kernel, by decide +kernel⟩⟩
theorem wd_1026 : Cond.code yX9_twin cX9_twin 4 (some .int) ∈ xv_g := xv_in (xv_t5 13 rfl) rfl
theorem wd_1023 : Cond.methodLink RL 48 yX9_twin ∈ xv_g := xv_in (xv_t5 10 (by decide +kernel)) rfl
theorem wd_1024 : Cond.instanceMethod yX9_twin ∈ xv_g := xv_in (xv_t5 11 (by decide +kernel)) rfl
theorem wd_1025 : Cond.selects RX9 yX9_twin yX9_twin ∈ xv_g := xv_in (xv_t5 12 (by decide +kernel)) rfl
theorem ln_L_48 : xv_lV RL 48 yX9_twin mX9_twin 2 := ⟨wd_1023, wd_1024, wd_1025, wd_63, wd_1026, rfl, ⟨by decide +kernel, by decide +kernel, by decide +kernel⟩⟩
theorem wd_422 : Cond.code yX8_clear cX8_clear 3 (some .int) ∈ xv_g := xv_in (xv_t2 129 rfl) rfl
theorem wd_419 : Cond.methodLink RL 49 yX8_clear ∈ xv_g := xv_in (xv_t2 126 (by decide +kernel)) rfl
theorem wd_420 : Cond.instanceMethod yX8_clear ∈ xv_g := xv_in (xv_t2 127 (by decide +kernel)) rfl
theorem wd_421 : Cond.selects RX8 yX8_clear yX8_clear ∈ xv_g := xv_in (xv_t2 128 (by decide +kernel)) rfl
theorem ln_L_49 : xv_lV RL 49 yX8_clear mX8_clear 1 := ⟨wd_419, wd_420, wd_421, wd_54, wd_422, rfl, ⟨by decide +kernel, by decide +kernel, by decide +kernel⟩⟩
theorem wd_1034 : Cond.code yX9_clear cX9_clear 3 (some .int) ∈ xv_g := xv_in (xv_t5 21 rfl) rfl
theorem wd_1031 : Cond.methodLink RL 52 yX9_clear ∈ xv_g := xv_in (xv_t5 18 (by decide +kernel)) rfl
theorem wd_1032 : Cond.instanceMethod yX9_clear ∈ xv_g := xv_in (xv_t5 19 (by decide +kernel)) rfl
theorem wd_1033 : Cond.selects RX9 yX9_clear yX9_clear ∈ xv_g := xv_in (xv_t5 20 (by decide +kernel)) rfl
theorem ln_L_52 : xv_lV RL 52 yX9_clear mX9_clear 1 := ⟨wd_1031, wd_1032, wd_1033, wd_63, wd_1034, rfl, ⟨by decide +kernel, by decide +kernel, by decide +kernel⟩⟩
theorem wd_426 : Cond.code yX8_number cX8_number 4 (some .int) ∈ xv_g := xv_in (xv_t2 133 rfl) rfl
theorem wd_423 : Cond.methodLink RL 53 yX8_number ∈ xv_g := xv_in (xv_t2 130 (by decide +kernel)) rfl
theorem wd_424 : Cond.instanceMethod yX8_number ∈ xv_g := xv_in (xv_t2 131 (by decide +kernel)) rfl
theorem wd_425 : Cond.selects RX8 yX8_number yX8_number ∈ xv_g := xv_in (xv_t2 132 (by decide +kernel)) rfl
theorem ln_L_53 : xv_lV RL 53 yX8_number mX8_number 2 := ⟨wd_423, wd_424, wd_425, wd_54, wd_426, rfl, ⟨by decide +kernel, by decide +kernel, by decide +kernel⟩⟩
theorem wd_1038 : Cond.code yX9_number cX9_number 4 (some .int) ∈ xv_g := xv_in (xv_t5 25 rfl) rfl
theorem wd_1035 : Cond.methodLink RL 56 yX9_number ∈ xv_g := xv_in (xv_t5 22 (by decide +kernel)) rfl
theorem wd_1036 : Cond.instanceMethod yX9_number ∈ xv_g := xv_in (xv_t5 23 (by decide +kernel)) rfl
theorem wd_1037 : Cond.selects RX9 yX9_number yX9_number ∈ xv_g := xv_in (xv_t5 24 (by decide +kernel)) rfl
theorem ln_L_56 : xv_lV RL 56 yX9_number mX9_number 2 := ⟨wd_1035, wd_1036, wd_1037, wd_63, wd_1038, rfl, ⟨by decide +kernel, by decide +kernel, by decide +kernel⟩⟩
theorem wd_430 : Cond.code yX8_piston cX8_piston 4 (some .int) ∈ xv_g := xv_in (xv_t2 137 rfl) rfl
theorem wd_427 : Cond.methodLink RL 57 yX8_piston ∈ xv_g := xv_in (xv_t2 134 (by decide +kernel)) rfl
theorem wd_428 : Cond.instanceMethod yX8_piston ∈ xv_g := xv_in (xv_t2 135 (by decide +kernel)) rfl
theorem wd_429 : Cond.selects RX8 yX8_piston yX8_piston ∈ xv_g := xv_in (xv_t2 136 (by decide +kernel)) rfl
theorem ln_L_57 : xv_lV RL 57 yX8_piston mX8_piston 2 := ⟨wd_427, wd_428, wd_429, wd_54, wd_430, rfl, ⟨by decide +kernel, by decide +kernel, by decide +kernel⟩⟩
theorem wd_1042 : Cond.code yX9_piston cX9_piston 4 (some .int) ∈ xv_g := xv_in (xv_t5 29 rfl) rfl
theorem wd_1039 : Cond.methodLink RL 60 yX9_piston ∈ xv_g := xv_in (xv_t5 26 (by decide +kernel)) rfl
theorem wd_1040 : Cond.instanceMethod yX9_piston ∈ xv_g := xv_in (xv_t5 27 (by decide +kernel)) rfl
theorem wd_1041 : Cond.selects RX9 yX9_piston yX9_piston ∈ xv_g := xv_in (xv_t5 28 (by decide +kernel)) rfl
theorem ln_L_60 : xv_lV RL 60 yX9_piston mX9_piston 2 := ⟨wd_1039, wd_1040, wd_1041, wd_63, wd_1042, rfl, ⟨by decide +kernel, by decide +kernel, by decide +kernel⟩⟩
theorem wd_447 : Cond.code yX8_valve cX8_valve 5 (some .int) ∈ xv_g := xv_in (xv_t2 154 rfl) rfl
theorem wd_444 : Cond.methodLink RL 61 yX8_valve ∈ xv_g := xv_in (xv_t2 151 (by decide +kernel)) rfl
theorem wd_445 : Cond.instanceMethod yX8_valve ∈ xv_g := xv_in (xv_t2 152 (by decide +kernel)) rfl
theorem wd_446 : Cond.selects RX8 yX8_valve yX8_valve ∈ xv_g := xv_in (xv_t2 153 (by decide +kernel)) rfl
theorem ln_L_61 : xv_lV RL 61 yX8_valve mX8_valve 3 := ⟨wd_444, wd_445, wd_446, wd_54, wd_447, rfl, ⟨by decide +kernel, by decide +kernel, by decide +kernel⟩⟩
theorem wd_1064 : Cond.code yX9_valve cX9_valve 5 (some .int) ∈ xv_g := xv_in (xv_t5 51 rfl) rfl
theorem wd_1061 : Cond.methodLink RL 64 yX9_valve ∈ xv_g := xv_in (xv_t5 48 (by decide +kernel)) rfl
theorem wd_1062 : Cond.instanceMethod yX9_valve ∈ xv_g := xv_in (xv_t5 49 (by decide +kernel)) rfl
theorem wd_1063 : Cond.selects RX9 yX9_valve yX9_valve ∈ xv_g := xv_in (xv_t5 50 (by decide +kernel)) rfl
theorem ln_L_64 : xv_lV RL 64 yX9_valve mX9_valve 3 := ⟨wd_1061, wd_1062, wd_1063, wd_63, wd_1064, rfl, ⟨by decide +kernel, by decide +kernel, by decide +kernel⟩⟩
theorem wd_473 : Cond.code yX8_open cX8_open 7 (some .int) ∈ xv_g := xv_in (xv_t2 180 rfl) rfl
theorem wd_470 : Cond.methodLink RL 65 yX8_open ∈ xv_g := xv_in (xv_t2 177 (by decide +kernel)) rfl
theorem wd_471 : Cond.instanceMethod yX8_open ∈ xv_g := xv_in (xv_t2 178 (by decide +kernel)) rfl
theorem wd_472 : Cond.selects RX8 yX8_open yX8_open ∈ xv_g := xv_in (xv_t2 179 (by decide +kernel)) rfl
theorem ln_L_65 : xv_lV RL 65 yX8_open mX8_open 5 := ⟨wd_470, wd_471, wd_472, wd_54, wd_473, rfl, ⟨by decide +kernel, by decide +kernel, by decide +kernel⟩⟩
theorem wd_1081 : Cond.code yX9_open cX9_open 7 (some .int) ∈ xv_g := xv_in (xv_t5 68 rfl) rfl
theorem wd_1078 : Cond.methodLink RL 68 yX9_open ∈ xv_g := xv_in (xv_t5 65 (by decide +kernel)) rfl
theorem wd_1079 : Cond.instanceMethod yX9_open ∈ xv_g := xv_in (xv_t5 66 (by decide +kernel)) rfl
theorem wd_1080 : Cond.selects RX9 yX9_open yX9_open ∈ xv_g := xv_in (xv_t5 67 (by decide +kernel)) rfl
theorem ln_L_68 : xv_lV RL 68 yX9_open mX9_open 5 := ⟨wd_1078, wd_1079, wd_1080, wd_63, wd_1081, rfl, ⟨by decide +kernel, by decide +kernel, by decide +kernel⟩⟩
theorem wd_490 : Cond.code yX8_event cX8_event 6 (some .int) ∈ xv_g := xv_in (xv_t2 197 rfl) rfl
theorem wd_487 : Cond.methodLink RL 69 yX8_event ∈ xv_g := xv_in (xv_t2 194 (by decide +kernel)) rfl
theorem wd_488 : Cond.instanceMethod yX8_event ∈ xv_g := xv_in (xv_t2 195 (by decide +kernel)) rfl
theorem wd_489 : Cond.selects RX8 yX8_event yX8_event ∈ xv_g := xv_in (xv_t2 196 (by decide +kernel)) rfl
theorem ln_L_69 : xv_lV RL 69 yX8_event mX8_event 4 := ⟨wd_487, wd_488, wd_489, wd_54, wd_490, rfl, ⟨by decide +kernel, by decide +kernel, by decide +kernel⟩⟩
theorem wd_1093 : Cond.code yX9_event cX9_event 6 (some .int) ∈ xv_g := xv_in (xv_t5 80 rfl) rfl
theorem wd_1090 : Cond.methodLink RL 73 yX9_event ∈ xv_g := xv_in (xv_t5 77 (by decide +kernel)) rfl
theorem wd_1091 : Cond.instanceMethod yX9_event ∈ xv_g := xv_in (xv_t5 78 (by decide +kernel)) rfl
theorem wd_1092 : Cond.selects RX9 yX9_event yX9_event ∈ xv_g := xv_in (xv_t5 79 (by decide +kernel)) rfl
theorem ln_L_73 : xv_lV RL 73 yX9_event mX9_event 4 := ⟨wd_1090, wd_1091, wd_1092, wd_63, wd_1093, rfl, ⟨by decide +kernel, by decide +kernel, by decide +kernel⟩⟩
theorem wd_510 : Cond.code yX8_valves cX8_valves 4 (some .int) ∈ xv_g := xv_in (xv_t2 217 rfl) rfl
theorem wd_507 : Cond.methodLink RL 74 yX8_valves ∈ xv_g := xv_in (xv_t2 214 (by decide +kernel)) rfl
theorem wd_508 : Cond.instanceMethod yX8_valves ∈ xv_g := xv_in (xv_t2 215 (by decide +kernel)) rfl
theorem wd_509 : Cond.selects RX8 yX8_valves yX8_valves ∈ xv_g := xv_in (xv_t2 216 (by decide +kernel)) rfl
theorem ln_L_74 : xv_lV RL 74 yX8_valves mX8_valves 2 := ⟨wd_507, wd_508, wd_509, wd_54, wd_510, rfl, ⟨by decide +kernel, by decide +kernel, by decide +kernel⟩⟩
theorem wd_1103 : Cond.code yX9_valves cX9_valves 4 (some .int) ∈ xv_g := xv_in (xv_t5 90 rfl) rfl
theorem wd_1100 : Cond.methodLink RL 77 yX9_valves ∈ xv_g := xv_in (xv_t5 87 (by decide +kernel)) rfl
theorem wd_1101 : Cond.instanceMethod yX9_valves ∈ xv_g := xv_in (xv_t5 88 (by decide +kernel)) rfl
theorem wd_1102 : Cond.selects RX9 yX9_valves yX9_valves ∈ xv_g := xv_in (xv_t5 89 (by decide +kernel)) rfl
theorem ln_L_77 : xv_lV RL 77 yX9_valves mX9_valves 2 := ⟨wd_1100, wd_1101, wd_1102, wd_63, wd_1103, rfl, ⟨by decide +kernel, by decide +kernel, by decide +kernel⟩⟩
theorem wd_540 : Cond.code yX8_setting cX8_setting 4 (some .int) ∈ xv_g := xv_in (xv_t3 7 rfl) rfl
theorem wd_537 : Cond.methodLink RL 78 yX8_setting ∈ xv_g := xv_in (xv_t3 4 (by decide +kernel)) rfl
theorem wd_538 : Cond.instanceMethod yX8_setting ∈ xv_g := xv_in (xv_t3 5 (by decide +kernel)) rfl
theorem wd_539 : Cond.selects RX8 yX8_setting yX8_setting ∈ xv_g := xv_in (xv_t3 6 (by decide +kernel)) rfl
theorem ln_L_78 : xv_lV RL 78 yX8_setting mX8_setting 2 := ⟨wd_537, wd_538, wd_539, wd_54, wd_540, rfl, ⟨by decide +kernel, by decide +kernel, by decide +kernel⟩⟩
theorem wd_1115 : Cond.code yX9_setting cX9_setting 5 (some .int) ∈ xv_g := xv_in (xv_t5 102 rfl) rfl
theorem wd_1112 : Cond.methodLink RL 81 yX9_setting ∈ xv_g := xv_in (xv_t5 99 (by decide +kernel)) rfl
theorem wd_1113 : Cond.instanceMethod yX9_setting ∈ xv_g := xv_in (xv_t5 100 (by decide +kernel)) rfl
theorem wd_1114 : Cond.selects RX9 yX9_setting yX9_setting ∈ xv_g := xv_in (xv_t5 101 (by decide +kernel)) rfl
theorem ln_L_81 : xv_lV RL 81 yX9_setting mX9_setting 2 := ⟨wd_1112, wd_1113, wd_1114, wd_63, wd_1115, rfl, ⟨by decide +kernel, by decide +kernel, by decide +kernel⟩⟩
theorem wd_551 : Cond.code yX8_tune cX8_tune 4 (some .int) ∈ xv_g := xv_in (xv_t3 18 rfl) rfl
theorem wd_548 : Cond.methodLink RL 82 yX8_tune ∈ xv_g := xv_in (xv_t3 15 (by decide +kernel)) rfl
theorem wd_549 : Cond.instanceMethod yX8_tune ∈ xv_g := xv_in (xv_t3 16 (by decide +kernel)) rfl
theorem wd_550 : Cond.selects RX8 yX8_tune yX8_tune ∈ xv_g := xv_in (xv_t3 17 (by decide +kernel)) rfl
theorem ln_L_82 : xv_lV RL 82 yX8_tune mX8_tune 1 := ⟨wd_548, wd_549, wd_550, wd_54, wd_551, rfl, ⟨by decide +kernel, by decide +kernel, by decide +kernel⟩⟩
theorem wd_1123 : Cond.code yX9_tune cX9_tune 5 (some .int) ∈ xv_g := xv_in (xv_t5 110 rfl) rfl
theorem wd_1120 : Cond.methodLink RL 85 yX9_tune ∈ xv_g := xv_in (xv_t5 107 (by decide +kernel)) rfl
theorem wd_1121 : Cond.instanceMethod yX9_tune ∈ xv_g := xv_in (xv_t5 108 (by decide +kernel)) rfl
theorem wd_1122 : Cond.selects RX9 yX9_tune yX9_tune ∈ xv_g := xv_in (xv_t5 109 (by decide +kernel)) rfl
theorem ln_L_85 : xv_lV RL 85 yX9_tune mX9_tune 1 := ⟨wd_1120, wd_1121, wd_1122, wd_63, wd_1123, rfl, ⟨by decide +kernel, by decide +kernel, by decide +kernel⟩⟩
theorem wd_555 : Cond.code yX8_card cX8_card 8 (some .int) ∈ xv_g := xv_in (xv_t3 22 rfl) rfl
theorem wd_552 : Cond.methodLink RL 86 yX8_card ∈ xv_g := xv_in (xv_t3 19 (by decide +kernel)) rfl
theorem wd_553 : Cond.instanceMethod yX8_card ∈ xv_g := xv_in (xv_t3 20 (by decide +kernel)) rfl
theorem wd_554 : Cond.selects RX8 yX8_card yX8_card ∈ xv_g := xv_in (xv_t3 21 (by decide +kernel)) rfl
theorem ln_L_86 : xv_lV RL 86 yX8_card mX8_card 6 := ⟨wd_552, wd_553, wd_554, wd_54, wd_555, rfl, ⟨by decide +kernel, by decide +kernel, by decide +kernel⟩⟩
theorem wd_1127 : Cond.code yX9_card cX9_card 8 (some .int) ∈ xv_g := xv_in (xv_t5 114 rfl) rfl
theorem wd_1124 : Cond.methodLink RL 90 yX9_card ∈ xv_g := xv_in (xv_t5 111 (by decide +kernel)) rfl
theorem wd_1125 : Cond.instanceMethod yX9_card ∈ xv_g := xv_in (xv_t5 112 (by decide +kernel)) rfl
theorem wd_1126 : Cond.selects RX9 yX9_card yX9_card ∈ xv_g := xv_in (xv_t5 113 (by decide +kernel)) rfl
theorem ln_L_90 : xv_lV RL 90 yX9_card mX9_card 6 := ⟨wd_1124, wd_1125, wd_1126, wd_63, wd_1127, rfl, ⟨by decide +kernel, by decide +kernel, by decide +kernel⟩⟩
theorem wd_592 : Cond.code yX8_look cX8_look 8 (some .int) ∈ xv_g := xv_in (xv_t3 59 rfl) rfl
theorem wd_589 : Cond.methodLink RL 91 yX8_look ∈ xv_g := xv_in (xv_t3 56 (by decide +kernel)) rfl
theorem wd_590 : Cond.instanceMethod yX8_look ∈ xv_g := xv_in (xv_t3 57 (by decide +kernel)) rfl
theorem wd_591 : Cond.selects RX8 yX8_look yX8_look ∈ xv_g := xv_in (xv_t3 58 (by decide +kernel)) rfl
theorem ln_L_91 : xv_lV RL 91 yX8_look mX8_look 6 := ⟨wd_589, wd_590, wd_591, wd_54, wd_592, rfl, ⟨by decide +kernel, by decide +kernel, by decide +kernel⟩⟩
theorem wd_1150 : Cond.code yX9_look cX9_look 12 (some .int) ∈ xv_g := xv_in (xv_t5 137 rfl) rfl
theorem wd_1147 : Cond.methodLink RL 94 yX9_look ∈ xv_g := xv_in (xv_t5 134 (by decide +kernel)) rfl
theorem wd_1148 : Cond.instanceMethod yX9_look ∈ xv_g := xv_in (xv_t5 135 (by decide +kernel)) rfl
theorem wd_1149 : Cond.selects RX9 yX9_look yX9_look ∈ xv_g := xv_in (xv_t5 136 (by decide +kernel)) rfl
theorem ln_L_94 : xv_lV RL 94 yX9_look mX9_look 6 := ⟨wd_1147, wd_1148, wd_1149, wd_63, wd_1150, rfl, ⟨by decide +kernel, by decide +kernel, by decide +kernel⟩⟩
theorem wd_609 : Cond.code yX8_work cX8_work 7 (some .int) ∈ xv_g := xv_in (xv_t3 76 rfl) rfl
theorem wd_606 : Cond.methodLink RL 95 yX8_work ∈ xv_g := xv_in (xv_t3 73 (by decide +kernel)) rfl
theorem wd_607 : Cond.instanceMethod yX8_work ∈ xv_g := xv_in (xv_t3 74 (by decide +kernel)) rfl
theorem wd_608 : Cond.selects RX8 yX8_work yX8_work ∈ xv_g := xv_in (xv_t3 75 (by decide +kernel)) rfl
theorem ln_L_95 : xv_lV RL 95 yX8_work mX8_work 5 := ⟨wd_606, wd_607, wd_608, wd_54, wd_609, rfl, ⟨by decide +kernel, by decide +kernel, by decide +kernel⟩⟩
theorem wd_1154 : Cond.code yX9_work cX9_work 7 (some .int) ∈ xv_g := xv_in (xv_t5 141 rfl) rfl
theorem wd_1151 : Cond.methodLink RL 98 yX9_work ∈ xv_g := xv_in (xv_t5 138 (by decide +kernel)) rfl
theorem wd_1152 : Cond.instanceMethod yX9_work ∈ xv_g := xv_in (xv_t5 139 (by decide +kernel)) rfl
theorem wd_1153 : Cond.selects RX9 yX9_work yX9_work ∈ xv_g := xv_in (xv_t5 140 (by decide +kernel)) rfl
theorem ln_L_98 : xv_lV RL 98 yX9_work mX9_work 5 := ⟨wd_1151, wd_1152, wd_1153, wd_63, wd_1154, rfl, ⟨by decide +kernel, by decide +kernel, by decide +kernel⟩⟩
theorem wd_624 : Cond.code yX8_find cX8_find 8 (some .int) ∈ xv_g := xv_in (xv_t3 91 rfl) rfl
theorem wd_621 : Cond.methodLink RL 99 yX8_find ∈ xv_g := xv_in (xv_t3 88 (by decide +kernel)) rfl
theorem wd_622 : Cond.instanceMethod yX8_find ∈ xv_g := xv_in (xv_t3 89 (by decide +kernel)) rfl
theorem wd_623 : Cond.selects RX8 yX8_find yX8_find ∈ xv_g := xv_in (xv_t3 90 (by decide +kernel)) rfl
theorem ln_L_99 : xv_lV RL 99 yX8_find mX8_find 5 := ⟨wd_621, wd_622, wd_623, wd_54, wd_624, rfl, ⟨by decide +kernel, by decide +kernel, by decide +kernel⟩⟩
theorem wd_1166 : Cond.code yX9_find cX9_find 8 (some .int) ∈ xv_g := xv_in (xv_t5 153 rfl) rfl
theorem wd_1163 : Cond.methodLink RL 102 yX9_find ∈ xv_g := xv_in (xv_t5 150 (by decide +kernel)) rfl
theorem wd_1164 : Cond.instanceMethod yX9_find ∈ xv_g := xv_in (xv_t5 151 (by decide +kernel)) rfl
theorem wd_1165 : Cond.selects RX9 yX9_find yX9_find ∈ xv_g := xv_in (xv_t5 152 (by decide +kernel)) rfl
theorem ln_L_102 : xv_lV RL 102 yX9_find mX9_find 5 := ⟨wd_1163, wd_1164, wd_1165, wd_63, wd_1166, rfl, ⟨by decide +kernel, by decide +kernel, by decide +kernel⟩⟩
theorem wd_642 : Cond.code yX8_misfit cX8_misfit 5 (some .int) ∈ xv_g := xv_in (xv_t3 109 rfl) rfl
theorem wd_639 : Cond.methodLink RL 103 yX8_misfit ∈ xv_g := xv_in (xv_t3 106 (by decide +kernel)) rfl
theorem wd_640 : Cond.instanceMethod yX8_misfit ∈ xv_g := xv_in (xv_t3 107 (by decide +kernel)) rfl
theorem wd_641 : Cond.selects RX8 yX8_misfit yX8_misfit ∈ xv_g := xv_in (xv_t3 108 (by decide +kernel)) rfl
theorem ln_L_103 : xv_lV RL 103 yX8_misfit mX8_misfit 2 := ⟨wd_639, wd_640, wd_641, wd_54, wd_642, rfl, ⟨by decide +kernel, by decide +kernel, by decide +kernel⟩⟩
theorem wd_1177 : Cond.code yX9_misfit cX9_misfit 3 (some .int) ∈ xv_g := xv_in (xv_t5 164 rfl) rfl
theorem wd_1174 : Cond.methodLink RL 106 yX9_misfit ∈ xv_g := xv_in (xv_t5 161 (by decide +kernel)) rfl
theorem wd_1175 : Cond.instanceMethod yX9_misfit ∈ xv_g := xv_in (xv_t5 162 (by decide +kernel)) rfl
theorem wd_1176 : Cond.selects RX9 yX9_misfit yX9_misfit ∈ xv_g := xv_in (xv_t5 163 (by decide +kernel)) rfl
theorem ln_L_106 : xv_lV RL 106 yX9_misfit mX9_misfit 2 := ⟨wd_1174, wd_1175, wd_1176, wd_63, wd_1177, rfl, ⟨by decide +kernel, by decide +kernel, by decide +kernel⟩⟩
theorem wd_659 : Cond.code yX8_named cX8_named 6 (some .int) ∈ xv_g := xv_in (xv_t3 126 rfl) rfl
theorem wd_656 : Cond.methodLink RL 107 yX8_named ∈ xv_g := xv_in (xv_t3 123 (by decide +kernel)) rfl
theorem wd_657 : Cond.instanceMethod yX8_named ∈ xv_g := xv_in (xv_t3 124 (by decide +kernel)) rfl
theorem wd_658 : Cond.selects RX8 yX8_named yX8_named ∈ xv_g := xv_in (xv_t3 125 (by decide +kernel)) rfl
theorem ln_L_107 : xv_lV RL 107 yX8_named mX8_named 3 := ⟨wd_656, wd_657, wd_658, wd_54, wd_659, rfl, ⟨by decide +kernel, by decide +kernel, by decide +kernel⟩⟩
theorem wd_1189 : Cond.code yX9_named cX9_named 7 (some .int) ∈ xv_g := xv_in (xv_t5 176 rfl) rfl
theorem wd_1186 : Cond.methodLink RL 110 yX9_named ∈ xv_g := xv_in (xv_t5 173 (by decide +kernel)) rfl
theorem wd_1187 : Cond.instanceMethod yX9_named ∈ xv_g := xv_in (xv_t5 174 (by decide +kernel)) rfl
theorem wd_1188 : Cond.selects RX9 yX9_named yX9_named ∈ xv_g := xv_in (xv_t5 175 (by decide +kernel)) rfl
theorem ln_L_110 : xv_lV RL 110 yX9_named mX9_named 3 := ⟨wd_1186, wd_1187, wd_1188, wd_63, wd_1189, rfl, ⟨by decide +kernel, by decide +kernel, by decide +kernel⟩⟩
theorem wd_673 : Cond.code yX8_whose cX8_whose 6 (some .int) ∈ xv_g := xv_in (xv_t3 140 rfl) rfl
theorem wd_670 : Cond.methodLink RL 111 yX8_whose ∈ xv_g := xv_in (xv_t3 137 (by decide +kernel)) rfl
theorem wd_671 : Cond.instanceMethod yX8_whose ∈ xv_g := xv_in (xv_t3 138 (by decide +kernel)) rfl
theorem wd_672 : Cond.selects RX8 yX8_whose yX8_whose ∈ xv_g := xv_in (xv_t3 139 (by decide +kernel)) rfl
theorem ln_L_111 : xv_lV RL 111 yX8_whose mX8_whose 4 := ⟨wd_670, wd_671, wd_672, wd_54, wd_673, rfl, ⟨by decide +kernel, by decide +kernel, by decide +kernel⟩⟩
theorem wd_1194 : Cond.code yX9_whose cX9_whose 13 (some .int) ∈ xv_g := xv_in (xv_t5 181 rfl) rfl
theorem wd_1191 : Cond.methodLink RL 114 yX9_whose ∈ xv_g := xv_in (xv_t5 178 (by decide +kernel)) rfl
theorem wd_1192 : Cond.instanceMethod yX9_whose ∈ xv_g := xv_in (xv_t5 179 (by decide +kernel)) rfl
theorem wd_1193 : Cond.selects RX9 yX9_whose yX9_whose ∈ xv_g := xv_in (xv_t5 180 (by decide +kernel)) rfl
theorem ln_L_114 : xv_lV RL 114 yX9_whose mX9_whose 4 := ⟨wd_1191, wd_1192, wd_1193, wd_63, wd_1194, rfl, ⟨by decide +kernel, by decide +kernel, by decide +kernel⟩⟩
theorem wd_683 : Cond.code yX8_next cX8_next 6 (some .int) ∈ xv_g := xv_in (xv_t3 150 rfl) rfl
theorem wd_680 : Cond.methodLink RL 115 yX8_next ∈ xv_g := xv_in (xv_t3 147 (by decide +kernel)) rfl
theorem wd_681 : Cond.instanceMethod yX8_next ∈ xv_g := xv_in (xv_t3 148 (by decide +kernel)) rfl
theorem wd_682 : Cond.selects RX8 yX8_next yX8_next ∈ xv_g := xv_in (xv_t3 149 (by decide +kernel)) rfl
theorem ln_L_115 : xv_lV RL 115 yX8_next mX8_next 4 := ⟨wd_680, wd_681, wd_682, wd_54, wd_683, rfl, ⟨by decide +kernel, by decide +kernel, by decide +kernel⟩⟩
theorem wd_1198 : Cond.code yX9_next cX9_next 11 (some .int) ∈ xv_g := xv_in (xv_t5 185 rfl) rfl
theorem wd_1195 : Cond.methodLink RL 118 yX9_next ∈ xv_g := xv_in (xv_t5 182 (by decide +kernel)) rfl
theorem wd_1196 : Cond.instanceMethod yX9_next ∈ xv_g := xv_in (xv_t5 183 (by decide +kernel)) rfl
theorem wd_1197 : Cond.selects RX9 yX9_next yX9_next ∈ xv_g := xv_in (xv_t5 184 (by decide +kernel)) rfl
theorem ln_L_118 : xv_lV RL 118 yX9_next mX9_next 4 := ⟨wd_1195, wd_1196, wd_1197, wd_63, wd_1198, rfl, ⟨by decide +kernel, by decide +kernel, by decide +kernel⟩⟩
theorem wd_691 : Cond.code yX8_run cX8_run 9 (some .int) ∈ xv_g := xv_in (xv_t3 158 rfl) rfl
theorem wd_688 : Cond.methodLink RL 119 yX8_run ∈ xv_g := xv_in (xv_t3 155 (by decide +kernel)) rfl
theorem wd_689 : Cond.instanceMethod yX8_run ∈ xv_g := xv_in (xv_t3 156 (by decide +kernel)) rfl
theorem wd_690 : Cond.selects RX8 yX8_run yX8_run ∈ xv_g := xv_in (xv_t3 157 (by decide +kernel)) rfl
theorem ln_L_119 : xv_lV RL 119 yX8_run mX8_run 6 := ⟨wd_688, wd_689, wd_690, wd_54, wd_691, rfl, ⟨by decide +kernel, by decide +kernel, by decide +kernel⟩⟩
theorem wd_1202 : Cond.code yX9_run cX9_run 14 (some .int) ∈ xv_g := xv_in (xv_t5 189 rfl) rfl
theorem wd_1199 : Cond.methodLink RL 122 yX9_run ∈ xv_g := xv_in (xv_t5 186 (by decide +kernel)) rfl
theorem wd_1200 : Cond.instanceMethod yX9_run ∈ xv_g := xv_in (xv_t5 187 (by decide +kernel)) rfl
theorem wd_1201 : Cond.selects RX9 yX9_run yX9_run ∈ xv_g := xv_in (xv_t5 188 (by decide +kernel)) rfl
theorem ln_L_122 : xv_lV RL 122 yX9_run mX9_run 6 := ⟨wd_1199, wd_1200, wd_1201, wd_63, wd_1202, rfl, ⟨by decide +kernel, by decide +kernel, by decide +kernel⟩⟩
theorem wd_737 : Cond.code yX8_plan cX8_plan 3 (some .int) ∈ xv_g := xv_in (xv_t3 204 rfl) rfl
theorem wd_734 : Cond.methodLink RL 123 yX8_plan ∈ xv_g := xv_in (xv_t3 201 (by decide +kernel)) rfl
theorem wd_735 : Cond.instanceMethod yX8_plan ∈ xv_g := xv_in (xv_t3 202 (by decide +kernel)) rfl
theorem wd_736 : Cond.selects RX8 yX8_plan yX8_plan ∈ xv_g := xv_in (xv_t3 203 (by decide +kernel)) rfl
theorem ln_L_123 : xv_lV RL 123 yX8_plan mX8_plan 2 := ⟨wd_734, wd_735, wd_736, wd_54, wd_737, rfl, ⟨by decide +kernel, by decide +kernel, by decide +kernel⟩⟩
theorem wd_1206 : Cond.code yX9_plan cX9_plan 3 (some .int) ∈ xv_g := xv_in (xv_t5 193 rfl) rfl
theorem wd_1203 : Cond.methodLink RL 126 yX9_plan ∈ xv_g := xv_in (xv_t5 190 (by decide +kernel)) rfl
theorem wd_1204 : Cond.instanceMethod yX9_plan ∈ xv_g := xv_in (xv_t5 191 (by decide +kernel)) rfl
theorem wd_1205 : Cond.selects RX9 yX9_plan yX9_plan ∈ xv_g := xv_in (xv_t5 192 (by decide +kernel)) rfl
theorem ln_L_126 : xv_lV RL 126 yX9_plan mX9_plan 2 := ⟨wd_1203, wd_1204, wd_1205, wd_63, wd_1206, rfl, ⟨by decide +kernel, by decide +kernel, by decide +kernel⟩⟩
theorem wd_741 : Cond.code yX8_stoke cX8_stoke 2 (some .int) ∈ xv_g := xv_in (xv_t3 208 rfl) rfl
theorem wd_738 : Cond.methodLink RL 127 yX8_stoke ∈ xv_g := xv_in (xv_t3 205 (by decide +kernel)) rfl
theorem wd_739 : Cond.instanceMethod yX8_stoke ∈ xv_g := xv_in (xv_t3 206 (by decide +kernel)) rfl
theorem wd_740 : Cond.selects RX8 yX8_stoke yX8_stoke ∈ xv_g := xv_in (xv_t3 207 (by decide +kernel)) rfl
theorem ln_L_127 : xv_lV RL 127 yX8_stoke mX8_stoke 1 := ⟨wd_738, wd_739, wd_740, wd_54, wd_741, rfl, ⟨by decide +kernel, by decide +kernel, by decide +kernel⟩⟩
theorem wd_1210 : Cond.code yX9_stoke cX9_stoke 2 (some .int) ∈ xv_g := xv_in (xv_t5 197 rfl) rfl
theorem wd_1207 : Cond.methodLink RL 130 yX9_stoke ∈ xv_g := xv_in (xv_t5 194 (by decide +kernel)) rfl
theorem wd_1208 : Cond.instanceMethod yX9_stoke ∈ xv_g := xv_in (xv_t5 195 (by decide +kernel)) rfl
theorem wd_1209 : Cond.selects RX9 yX9_stoke yX9_stoke ∈ xv_g := xv_in (xv_t5 196 (by decide +kernel)) rfl
theorem ln_L_130 : xv_lV RL 130 yX9_stoke mX9_stoke 1 := ⟨wd_1207, wd_1208, wd_1209, wd_63, wd_1210, rfl, ⟨by decide +kernel, by decide +kernel, by decide +kernel⟩⟩
theorem wd_746 : Cond.code yX8_minute cX8_minute 5 (some .int) ∈ xv_g := xv_in (xv_t3 213 rfl) rfl
theorem wd_743 : Cond.methodLink RL 131 yX8_minute ∈ xv_g := xv_in (xv_t3 210 (by decide +kernel)) rfl
theorem wd_744 : Cond.instanceMethod yX8_minute ∈ xv_g := xv_in (xv_t3 211 (by decide +kernel)) rfl
theorem wd_745 : Cond.selects RX8 yX8_minute yX8_minute ∈ xv_g := xv_in (xv_t3 212 (by decide +kernel)) rfl
theorem ln_L_131 : xv_lV RL 131 yX8_minute mX8_minute 3 := ⟨wd_743, wd_744, wd_745, wd_54, wd_746, rfl, ⟨by decide +kernel, by decide +kernel, by decide +kernel⟩⟩
theorem wd_1215 : Cond.code yX9_minute cX9_minute 7 (some .int) ∈ xv_g := xv_in (xv_t5 202 rfl) rfl
theorem wd_1212 : Cond.methodLink RL 134 yX9_minute ∈ xv_g := xv_in (xv_t5 199 (by decide +kernel)) rfl
theorem wd_1213 : Cond.instanceMethod yX9_minute ∈ xv_g := xv_in (xv_t5 200 (by decide +kernel)) rfl
theorem wd_1214 : Cond.selects RX9 yX9_minute yX9_minute ∈ xv_g := xv_in (xv_t5 201 (by decide +kernel)) rfl
theorem ln_L_134 : xv_lV RL 134 yX9_minute mX9_minute 3 := ⟨wd_1212, wd_1213, wd_1214, wd_63, wd_1215, rfl, ⟨by decide +kernel, by decide +kernel, by decide +kernel⟩⟩
theorem wd_765 : Cond.code yX8_fire cX8_fire 2 (some .int) ∈ xv_g := xv_in (xv_t3 232 rfl) rfl
theorem wd_762 : Cond.methodLink RL 135 yX8_fire ∈ xv_g := xv_in (xv_t3 229 (by decide +kernel)) rfl
theorem wd_763 : Cond.instanceMethod yX8_fire ∈ xv_g := xv_in (xv_t3 230 (by decide +kernel)) rfl
theorem wd_764 : Cond.selects RX8 yX8_fire yX8_fire ∈ xv_g := xv_in (xv_t3 231 (by decide +kernel)) rfl
theorem ln_L_135 : xv_lV RL 135 yX8_fire mX8_fire 1 := ⟨wd_762, wd_763, wd_764, wd_54, wd_765, rfl, ⟨by decide +kernel, by decide +kernel, by decide +kernel⟩⟩
theorem wd_1219 : Cond.code yX9_fire cX9_fire 2 (some .int) ∈ xv_g := xv_in (xv_t5 206 rfl) rfl
theorem wd_1216 : Cond.methodLink RL 138 yX9_fire ∈ xv_g := xv_in (xv_t5 203 (by decide +kernel)) rfl
theorem wd_1217 : Cond.instanceMethod yX9_fire ∈ xv_g := xv_in (xv_t5 204 (by decide +kernel)) rfl
theorem wd_1218 : Cond.selects RX9 yX9_fire yX9_fire ∈ xv_g := xv_in (xv_t5 205 (by decide +kernel)) rfl
theorem ln_L_138 : xv_lV RL 138 yX9_fire mX9_fire 1 := ⟨wd_1216, wd_1217, wd_1218, wd_63, wd_1219, rfl, ⟨by decide +kernel, by decide +kernel, by decide +kernel⟩⟩
theorem wd_773 : Cond.code yX8_kind cX8_kind 3 (some .int) ∈ xv_g := xv_in (xv_t4 0 rfl) rfl
theorem wd_770 : Cond.methodLink RL 139 yX8_kind ∈ xv_g := xv_in (xv_t3 237 (by decide +kernel)) rfl
theorem wd_771 : Cond.instanceMethod yX8_kind ∈ xv_g := xv_in (xv_t3 238 (by decide +kernel)) rfl
theorem wd_772 : Cond.selects RX8 yX8_kind yX8_kind ∈ xv_g := xv_in (xv_t3 239 (by decide +kernel)) rfl
theorem ln_L_139 : xv_lV RL 139 yX8_kind mX8_kind 1 := ⟨wd_770, wd_771, wd_772, wd_54, wd_773, rfl, ⟨by decide +kernel, by decide +kernel, by decide +kernel⟩⟩
theorem wd_1223 : Cond.code yX9_kind cX9_kind 3 (some .int) ∈ xv_g := xv_in (xv_t5 210 rfl) rfl
theorem wd_1220 : Cond.methodLink RL 142 yX9_kind ∈ xv_g := xv_in (xv_t5 207 (by decide +kernel)) rfl
theorem wd_1221 : Cond.instanceMethod yX9_kind ∈ xv_g := xv_in (xv_t5 208 (by decide +kernel)) rfl
theorem wd_1222 : Cond.selects RX9 yX9_kind yX9_kind ∈ xv_g := xv_in (xv_t5 209 (by decide +kernel)) rfl
theorem ln_L_142 : xv_lV RL 142 yX9_kind mX9_kind 1 := ⟨wd_1220, wd_1221, wd_1222, wd_63, wd_1223, rfl, ⟨by decide +kernel, by decide +kernel, by decide +kernel⟩⟩
theorem wd_781 : Cond.code yX8_is cX8_is 4 (some .int) ∈ xv_g := xv_in (xv_t4 8 rfl) rfl
theorem wd_778 : Cond.methodLink RL 143 yX8_is ∈ xv_g := xv_in (xv_t4 5 (by decide +kernel)) rfl
theorem wd_779 : Cond.instanceMethod yX8_is ∈ xv_g := xv_in (xv_t4 6 (by decide +kernel)) rfl
theorem wd_780 : Cond.selects RX8 yX8_is yX8_is ∈ xv_g := xv_in (xv_t4 7 (by decide +kernel)) rfl
theorem ln_L_143 : xv_lV RL 143 yX8_is mX8_is 2 := ⟨wd_778, wd_779, wd_780, wd_54, wd_781, rfl, ⟨by decide +kernel, by decide +kernel, by decide +kernel⟩⟩
theorem wd_1231 : Cond.code yX9_is cX9_is 3 (some .int) ∈ xv_g := xv_in (xv_t5 218 rfl) rfl
theorem wd_1228 : Cond.methodLink RL 146 yX9_is ∈ xv_g := xv_in (xv_t5 215 (by decide +kernel)) rfl
theorem wd_1229 : Cond.instanceMethod yX9_is ∈ xv_g := xv_in (xv_t5 216 (by decide +kernel)) rfl
theorem wd_1230 : Cond.selects RX9 yX9_is yX9_is ∈ xv_g := xv_in (xv_t5 217 (by decide +kernel)) rfl
theorem ln_L_146 : xv_lV RL 146 yX9_is mX9_is 2 := ⟨wd_1228, wd_1229, wd_1230, wd_63, wd_1231, rfl, ⟨by decide +kernel, by decide +kernel, by decide +kernel⟩⟩
theorem wd_788 : Cond.code yX8_as cX8_as 4 (some .int) ∈ xv_g := xv_in (xv_t4 15 rfl) rfl
theorem wd_785 : Cond.methodLink RL 147 yX8_as ∈ xv_g := xv_in (xv_t4 12 (by decide +kernel)) rfl
theorem wd_786 : Cond.instanceMethod yX8_as ∈ xv_g := xv_in (xv_t4 13 (by decide +kernel)) rfl
theorem wd_787 : Cond.selects RX8 yX8_as yX8_as ∈ xv_g := xv_in (xv_t4 14 (by decide +kernel)) rfl
theorem ln_L_147 : xv_lV RL 147 yX8_as mX8_as 2 := ⟨wd_785, wd_786, wd_787, wd_54, wd_788, rfl, ⟨by decide +kernel, by decide +kernel, by decide +kernel⟩⟩
theorem wd_1238 : Cond.code yX9_as cX9_as 4 (some .int) ∈ xv_g := xv_in (xv_t5 225 rfl) rfl
theorem wd_1235 : Cond.methodLink RL 150 yX9_as ∈ xv_g := xv_in (xv_t5 222 (by decide +kernel)) rfl
theorem wd_1236 : Cond.instanceMethod yX9_as ∈ xv_g := xv_in (xv_t5 223 (by decide +kernel)) rfl
theorem wd_1237 : Cond.selects RX9 yX9_as yX9_as ∈ xv_g := xv_in (xv_t5 224 (by decide +kernel)) rfl
theorem ln_L_150 : xv_lV RL 150 yX9_as mX9_as 2 := ⟨wd_1235, wd_1236, wd_1237, wd_63, wd_1238, rfl, ⟨by decide +kernel, by decide +kernel, by decide +kernel⟩⟩
theorem wd_792 : Cond.code yX8_ask cX8_ask 5 (some .int) ∈ xv_g := xv_in (xv_t4 19 rfl) rfl
theorem wd_789 : Cond.methodLink RL 151 yX8_ask ∈ xv_g := xv_in (xv_t4 16 (by decide +kernel)) rfl
theorem wd_790 : Cond.instanceMethod yX8_ask ∈ xv_g := xv_in (xv_t4 17 (by decide +kernel)) rfl
theorem wd_791 : Cond.selects RX8 yX8_ask yX8_ask ∈ xv_g := xv_in (xv_t4 18 (by decide +kernel)) rfl
theorem ln_L_151 : xv_lV RL 151 yX8_ask mX8_ask 2 := ⟨wd_789, wd_790, wd_791, wd_54, wd_792, rfl, ⟨by decide +kernel, by decide +kernel, by decide +kernel⟩⟩
theorem wd_1242 : Cond.code yX9_ask cX9_ask 4 (some .int) ∈ xv_g := xv_in (xv_t5 229 rfl) rfl
theorem wd_1239 : Cond.methodLink RL 154 yX9_ask ∈ xv_g := xv_in (xv_t5 226 (by decide +kernel)) rfl
theorem wd_1240 : Cond.instanceMethod yX9_ask ∈ xv_g := xv_in (xv_t5 227 (by decide +kernel)) rfl
theorem wd_1241 : Cond.selects RX9 yX9_ask yX9_ask ∈ xv_g := xv_in (xv_t5 228 (by decide +kernel)) rfl
theorem ln_L_154 : xv_lV RL 154 yX9_ask mX9_ask 2 := ⟨wd_1239, wd_1240, wd_1241, wd_63, wd_1242, rfl, ⟨by decide +kernel, by decide +kernel, by decide +kernel⟩⟩
theorem wd_832 : Cond.code yX8_trace cX8_trace 2 (some .int) ∈ xv_g := xv_in (xv_t4 59 rfl) rfl
theorem wd_829 : Cond.methodLink RL 155 yX8_trace ∈ xv_g := xv_in (xv_t4 56 (by decide +kernel)) rfl
theorem wd_830 : Cond.instanceMethod yX8_trace ∈ xv_g := xv_in (xv_t4 57 (by decide +kernel)) rfl
theorem wd_831 : Cond.selects RX8 yX8_trace yX8_trace ∈ xv_g := xv_in (xv_t4 58 (by decide +kernel)) rfl
theorem ln_L_155 : xv_lV RL 155 yX8_trace mX8_trace 1 := ⟨wd_829, wd_830, wd_831, wd_54, wd_832, rfl, ⟨by decide +kernel, by decide +kernel, by decide +kernel⟩⟩
theorem wd_1262 : Cond.code yX9_trace cX9_trace 2 (some .int) ∈ xv_g := xv_in (xv_t6 9 rfl) rfl
theorem wd_1259 : Cond.methodLink RL 158 yX9_trace ∈ xv_g := xv_in (xv_t6 6 (by decide +kernel)) rfl
theorem wd_1260 : Cond.instanceMethod yX9_trace ∈ xv_g := xv_in (xv_t6 7 (by decide +kernel)) rfl
theorem wd_1261 : Cond.selects RX9 yX9_trace yX9_trace ∈ xv_g := xv_in (xv_t6 8 (by decide +kernel)) rfl
theorem ln_L_158 : xv_lV RL 158 yX9_trace mX9_trace 1 := ⟨wd_1259, wd_1260, wd_1261, wd_63, wd_1262, rfl, ⟨by decide +kernel, by decide +kernel, by decide +kernel⟩⟩
theorem wd_836 : Cond.code yX8_count cX8_count 2 (some .int) ∈ xv_g := xv_in (xv_t4 63 rfl) rfl
theorem wd_833 : Cond.methodLink RL 159 yX8_count ∈ xv_g := xv_in (xv_t4 60 (by decide +kernel)) rfl
theorem wd_834 : Cond.instanceMethod yX8_count ∈ xv_g := xv_in (xv_t4 61 (by decide +kernel)) rfl
theorem wd_835 : Cond.selects RX8 yX8_count yX8_count ∈ xv_g := xv_in (xv_t4 62 (by decide +kernel)) rfl
theorem ln_L_159 : xv_lV RL 159 yX8_count mX8_count 1 := ⟨wd_833, wd_834, wd_835, wd_54, wd_836, rfl, ⟨by decide +kernel, by decide +kernel, by decide +kernel⟩⟩
theorem wd_1266 : Cond.code yX9_count cX9_count 4 (some .int) ∈ xv_g := xv_in (xv_t6 13 rfl) rfl
theorem wd_1263 : Cond.methodLink RL 162 yX9_count ∈ xv_g := xv_in (xv_t6 10 (by decide +kernel)) rfl
theorem wd_1264 : Cond.instanceMethod yX9_count ∈ xv_g := xv_in (xv_t6 11 (by decide +kernel)) rfl
theorem wd_1265 : Cond.selects RX9 yX9_count yX9_count ∈ xv_g := xv_in (xv_t6 12 (by decide +kernel)) rfl
theorem ln_L_162 : xv_lV RL 162 yX9_count mX9_count 1 := ⟨wd_1263, wd_1264, wd_1265, wd_63, wd_1266, rfl, ⟨by decide +kernel, by decide +kernel, by decide +kernel⟩⟩
theorem wd_852 : Cond.code yX8_status cX8_status 1 (some .int) ∈ xv_g := xv_in (xv_t4 79 rfl) rfl
theorem wd_849 : Cond.methodLink RL 163 yX8_status ∈ xv_g := xv_in (xv_t4 76 (by decide +kernel)) rfl
theorem wd_850 : Cond.instanceMethod yX8_status ∈ xv_g := xv_in (xv_t4 77 (by decide +kernel)) rfl
theorem wd_851 : Cond.selects RX8 yX8_status yX8_status ∈ xv_g := xv_in (xv_t4 78 (by decide +kernel)) rfl
theorem ln_L_163 : xv_lV RL 163 yX8_status mX8_status 0 := ⟨wd_849, wd_850, wd_851, wd_54, wd_852, rfl, ⟨by decide +kernel, by decide +kernel, by decide +kernel⟩⟩
theorem wd_1270 : Cond.code yX9_status cX9_status 1 (some .int) ∈ xv_g := xv_in (xv_t6 17 rfl) rfl
theorem wd_1267 : Cond.methodLink RL 167 yX9_status ∈ xv_g := xv_in (xv_t6 14 (by decide +kernel)) rfl
theorem wd_1268 : Cond.instanceMethod yX9_status ∈ xv_g := xv_in (xv_t6 15 (by decide +kernel)) rfl
theorem wd_1269 : Cond.selects RX9 yX9_status yX9_status ∈ xv_g := xv_in (xv_t6 16 (by decide +kernel)) rfl
theorem ln_L_167 : xv_lV RL 167 yX9_status mX9_status 0 := ⟨wd_1267, wd_1268, wd_1269, wd_63, wd_1270, rfl, ⟨by decide +kernel, by decide +kernel, by decide +kernel⟩⟩
theorem wd_130 : Cond.classLink RX3 9 ("[" ++ (FieldType.array .int).toString) ∈ xv_g := xv_in (xv_t1 77 (by decide +kernel)) rfl
theorem wn_131 : Cond.arrayOver (.array .int) ∈ xv_nw := xv_inN (xv_t1 78 (by decide +kernel)) rfl
theorem wd_102 : Cond.arrayClass .int ∈ xv_g := xv_in (xv_t1 49 (by decide +kernel)) rfl
theorem mn_X3_9 : (Cond.classLink RX3 9 ("[" ++ (FieldType.array .int).toString) ∈ xv_g ∧ Cond.arrayClass .int ∈ xv_g) ∧ Cond.arrayOver (.array .int) ∈ xv_nw := ⟨⟨wd_130, wd_102⟩, wn_131⟩
theorem wd_206 : Cond.classLink RX6 21 ("[" ++ (FieldType.array .int).toString) ∈ xv_g := xv_in (xv_t1 153 (by decide +kernel)) rfl
theorem mn_X6_21 : (Cond.classLink RX6 21 ("[" ++ (FieldType.array .int).toString) ∈ xv_g ∧ Cond.arrayClass .int ∈ xv_g) ∧ Cond.arrayOver (.array .int) ∈ xv_nw := ⟨⟨wd_206, wd_102⟩, wn_131⟩
theorem wd_959 : Cond.arrayClass .boolean ∈ xv_g := xv_in (xv_t4 186 (by decide +kernel)) rfl
abbrev ac_int := wd_102
abbrev ac_boolean := wd_959
end
