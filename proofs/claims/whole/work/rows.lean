section
-- ===== PART A: goes FIRST, ahead of the names: the tables' words, and 'selects' of the private methods out of them =====
/-- a private method of a class that the tables say can be made, by its rows of tables_1 -/
def lw_okq (q : MethodName × Nat) : Prop := (q.1.cls ≠ "java/lang/invoke/MethodHandle" ∧ q.1.cls ≠ "java/lang/invoke/VarHandle") ∧ Cond.instantiable q.1.cls q.2 ∈ tables_1 ∧ Cond.privateMethod q.1 ∈ tables_1 ∧ Cond.instanceMethod q.1 ∈ tables_1
theorem lw_p0 : lw_okq (⟨"ValveShop", "found", "(I)I"⟩, 13) := ⟨⟨by decide +kernel, by decide +kernel⟩, List.mem_of_getElem? (i := 15) (by decide +kernel), List.mem_of_getElem? (i := 276) (by decide +kernel), List.mem_of_getElem? (i := 277) (by decide +kernel)⟩
theorem lw_p1 : lw_okq (⟨"ValveShop", "answered", "(I)I"⟩, 13) := ⟨⟨by decide +kernel, by decide +kernel⟩, List.mem_of_getElem? (i := 15) (by decide +kernel), List.mem_of_getElem? (i := 288) (by decide +kernel), List.mem_of_getElem? (i := 289) (by decide +kernel)⟩
theorem lw_p2 : lw_okq (⟨"ValveShop", "sheetAt", "(I)LValveShop$Sheet;"⟩, 13) := ⟨⟨by decide +kernel, by decide +kernel⟩, List.mem_of_getElem? (i := 15) (by decide +kernel), List.mem_of_getElem? (i := 296) (by decide +kernel), List.mem_of_getElem? (i := 297) (by decide +kernel)⟩
theorem lw_p3 : lw_okq (⟨"ValveShop", "engineAt", "(I)LValveShop$Engine;"⟩, 13) := ⟨⟨by decide +kernel, by decide +kernel⟩, List.mem_of_getElem? (i := 15) (by decide +kernel), List.mem_of_getElem? (i := 347) (by decide +kernel), List.mem_of_getElem? (i := 348) (by decide +kernel)⟩
theorem lw_p4 : lw_okq (⟨"ValveShop$Gear", "fillSwing", "(LValveShop$Engine;I[I)V"⟩, 4) := ⟨⟨by decide +kernel, by decide +kernel⟩, List.mem_of_getElem? (i := 72) (by decide +kernel), List.mem_of_getElem? (i := 443) (by decide +kernel), List.mem_of_getElem? (i := 444) (by decide +kernel)⟩
theorem lw_p5 : lw_okq (⟨"ValveShop$Gear", "firstEventOn", "([ILValveShop$Engine;III)I"⟩, 4) := ⟨⟨by decide +kernel, by decide +kernel⟩, List.mem_of_getElem? (i := 72) (by decide +kernel), List.mem_of_getElem? (i := 448) (by decide +kernel), List.mem_of_getElem? (i := 449) (by decide +kernel)⟩
theorem lw_p6 : lw_okq (⟨"ValveShop$Gear", "fillSwings", "(LValveShop$Engine;)V"⟩, 4) := ⟨⟨by decide +kernel, by decide +kernel⟩, List.mem_of_getElem? (i := 72) (by decide +kernel), List.mem_of_getElem? (i := 463) (by decide +kernel), List.mem_of_getElem? (i := 464) (by decide +kernel)⟩
theorem lw_p7 : lw_okq (⟨"ValveShop$Gear", "unlikeBelow", "(LValveShop$Engine;I)I"⟩, 4) := ⟨⟨by decide +kernel, by decide +kernel⟩, List.mem_of_getElem? (i := 72) (by decide +kernel), List.mem_of_getElem? (i := 468) (by decide +kernel), List.mem_of_getElem? (i := 469) (by decide +kernel)⟩
theorem lw_p8 : lw_okq (⟨"ValveShop$Pencil", "prepare", "(LValveShop$Engine;II)V"⟩, 7) := ⟨⟨by decide +kernel, by decide +kernel⟩, List.mem_of_getElem? (i := 96) (by decide +kernel), List.mem_of_getElem? (i := 514) (by decide +kernel), List.mem_of_getElem? (i := 515) (by decide +kernel)⟩
theorem lw_p9 : lw_okq (⟨"ValveShop$Pencil", "pushed", "()J"⟩, 7) := ⟨⟨by decide +kernel, by decide +kernel⟩, List.mem_of_getElem? (i := 96) (by decide +kernel), List.mem_of_getElem? (i := 563) (by decide +kernel), List.mem_of_getElem? (i := 564) (by decide +kernel)⟩
theorem lw_p10 : lw_okq (⟨"ValveShop", "nearest", "(II)I"⟩, 13) := ⟨⟨by decide +kernel, by decide +kernel⟩, List.mem_of_getElem? (i := 15) (by decide +kernel), List.mem_of_getElem? (i := 622) (by decide +kernel), List.mem_of_getElem? (i := 623) (by decide +kernel)⟩
theorem lw_p11 : lw_okq (⟨"ValveShop", "farthestApart", "(III)I"⟩, 13) := ⟨⟨by decide +kernel, by decide +kernel⟩, List.mem_of_getElem? (i := 15) (by decide +kernel), List.mem_of_getElem? (i := 632) (by decide +kernel), List.mem_of_getElem? (i := 633) (by decide +kernel)⟩
theorem lw_p12 : lw_okq (⟨"ValveShop$Planner", "weigh", "(II)V"⟩, 7) := ⟨⟨by decide +kernel, by decide +kernel⟩, List.mem_of_getElem? (i := 148) (by decide +kernel), List.mem_of_getElem? (i := 664) (by decide +kernel), List.mem_of_getElem? (i := 665) (by decide +kernel)⟩
theorem lw_p13 : lw_okq (⟨"ValveShop$Planner", "lasting", "(II)I"⟩, 7) := ⟨⟨by decide +kernel, by decide +kernel⟩, List.mem_of_getElem? (i := 148) (by decide +kernel), List.mem_of_getElem? (i := 669) (by decide +kernel), List.mem_of_getElem? (i := 670) (by decide +kernel)⟩
theorem lw_p14 : lw_okq (⟨"ValveShop$Planner", "burning", "(II)I"⟩, 7) := ⟨⟨by decide +kernel, by decide +kernel⟩, List.mem_of_getElem? (i := 148) (by decide +kernel), List.mem_of_getElem? (i := 673) (by decide +kernel), List.mem_of_getElem? (i := 674) (by decide +kernel)⟩
theorem lw_p15 : lw_okq (⟨"ValveShop$Planner", "keepBest", "(II)I"⟩, 7) := ⟨⟨by decide +kernel, by decide +kernel⟩, List.mem_of_getElem? (i := 148) (by decide +kernel), List.mem_of_getElem? (i := 678) (by decide +kernel), List.mem_of_getElem? (i := 679) (by decide +kernel)⟩
def lw_privs_1 : List (MethodName × Nat) := [(⟨"ValveShop", "found", "(I)I"⟩, 13), (⟨"ValveShop", "answered", "(I)I"⟩, 13), (⟨"ValveShop", "sheetAt", "(I)LValveShop$Sheet;"⟩, 13), (⟨"ValveShop", "engineAt", "(I)LValveShop$Engine;"⟩, 13), (⟨"ValveShop$Gear", "fillSwing", "(LValveShop$Engine;I[I)V"⟩, 4), (⟨"ValveShop$Gear", "firstEventOn", "([ILValveShop$Engine;III)I"⟩, 4), (⟨"ValveShop$Gear", "fillSwings", "(LValveShop$Engine;)V"⟩, 4), (⟨"ValveShop$Gear", "unlikeBelow", "(LValveShop$Engine;I)I"⟩, 4), (⟨"ValveShop$Pencil", "prepare", "(LValveShop$Engine;II)V"⟩, 7), (⟨"ValveShop$Pencil", "pushed", "()J"⟩, 7), (⟨"ValveShop", "nearest", "(II)I"⟩, 13), (⟨"ValveShop", "farthestApart", "(III)I"⟩, 13), (⟨"ValveShop$Planner", "weigh", "(II)V"⟩, 7), (⟨"ValveShop$Planner", "lasting", "(II)I"⟩, 7), (⟨"ValveShop$Planner", "burning", "(II)I"⟩, 7), (⟨"ValveShop$Planner", "keepBest", "(II)I"⟩, 7)]
theorem lw_r1 : ∀ q ∈ lw_privs_1, lw_okq q := List.forall_mem_cons.mpr ⟨lw_p0, List.forall_mem_cons.mpr ⟨lw_p1, List.forall_mem_cons.mpr ⟨lw_p2, List.forall_mem_cons.mpr ⟨lw_p3, List.forall_mem_cons.mpr ⟨lw_p4, List.forall_mem_cons.mpr ⟨lw_p5, List.forall_mem_cons.mpr ⟨lw_p6, List.forall_mem_cons.mpr ⟨lw_p7, List.forall_mem_cons.mpr ⟨lw_p8, List.forall_mem_cons.mpr ⟨lw_p9, List.forall_mem_cons.mpr ⟨lw_p10, List.forall_mem_cons.mpr ⟨lw_p11, List.forall_mem_cons.mpr ⟨lw_p12, List.forall_mem_cons.mpr ⟨lw_p13, List.forall_mem_cons.mpr ⟨lw_p14, List.forall_mem_cons.mpr ⟨lw_p15, fun _ h => absurd h List.not_mem_nil⟩⟩⟩⟩⟩⟩⟩⟩⟩⟩⟩⟩⟩⟩⟩⟩
theorem lw_p16 : lw_okq (⟨"ValveShop", "toldKind", "(LValveShop$Engine;)I"⟩, 13) := ⟨⟨by decide +kernel, by decide +kernel⟩, List.mem_of_getElem? (i := 15) (by decide +kernel), List.mem_of_getElem? (i := 722) (by decide +kernel), List.mem_of_getElem? (i := 723) (by decide +kernel)⟩
theorem lw_p17 : lw_okq (⟨"ValveShop", "askWorth", "(LValveShop$Engine;I)I"⟩, 13) := ⟨⟨by decide +kernel, by decide +kernel⟩, List.mem_of_getElem? (i := 15) (by decide +kernel), List.mem_of_getElem? (i := 741) (by decide +kernel), List.mem_of_getElem? (i := 742) (by decide +kernel)⟩
theorem lw_p18 : lw_okq (⟨"ValveShop", "worthOfSound", "(LValveShop$Engine;)I"⟩, 13) := ⟨⟨by decide +kernel, by decide +kernel⟩, List.mem_of_getElem? (i := 15) (by decide +kernel), List.mem_of_getElem? (i := 745) (by decide +kernel), List.mem_of_getElem? (i := 746) (by decide +kernel)⟩
theorem lw_p19 : lw_okq (⟨"ValveShop", "leave", "(I)V"⟩, 13) := ⟨⟨by decide +kernel, by decide +kernel⟩, List.mem_of_getElem? (i := 15) (by decide +kernel), List.mem_of_getElem? (i := 749) (by decide +kernel), List.mem_of_getElem? (i := 750) (by decide +kernel)⟩
theorem lw_p20 : lw_okq (⟨"ValveShop", "worthOfAny", "(LValveShop$Engine;)I"⟩, 13) := ⟨⟨by decide +kernel, by decide +kernel⟩, List.mem_of_getElem? (i := 15) (by decide +kernel), List.mem_of_getElem? (i := 753) (by decide +kernel), List.mem_of_getElem? (i := 754) (by decide +kernel)⟩
theorem lw_p21 : lw_okq (⟨"ValveShop", "markOfEven", "(LValveShop$Engine;)I"⟩, 13) := ⟨⟨by decide +kernel, by decide +kernel⟩, List.mem_of_getElem? (i := 15) (by decide +kernel), List.mem_of_getElem? (i := 757) (by decide +kernel), List.mem_of_getElem? (i := 758) (by decide +kernel)⟩
theorem lw_p22 : lw_okq (⟨"ValveShop", "markOfAny", "(LValveShop$Engine;)I"⟩, 13) := ⟨⟨by decide +kernel, by decide +kernel⟩, List.mem_of_getElem? (i := 15) (by decide +kernel), List.mem_of_getElem? (i := 761) (by decide +kernel), List.mem_of_getElem? (i := 762) (by decide +kernel)⟩
theorem lw_p23 : lw_okq (⟨"ValveShop", "worthOfSick", "(LValveShop$Engine;)I"⟩, 13) := ⟨⟨by decide +kernel, by decide +kernel⟩, List.mem_of_getElem? (i := 15) (by decide +kernel), List.mem_of_getElem? (i := 765) (by decide +kernel), List.mem_of_getElem? (i := 766) (by decide +kernel)⟩
theorem lw_p24 : lw_okq (⟨"ValveShop", "askMark", "(LValveShop$Engine;I)I"⟩, 13) := ⟨⟨by decide +kernel, by decide +kernel⟩, List.mem_of_getElem? (i := 15) (by decide +kernel), List.mem_of_getElem? (i := 769) (by decide +kernel), List.mem_of_getElem? (i := 770) (by decide +kernel)⟩
theorem lw_p25 : lw_okq (⟨"ValveShop", "markOfSick", "(LValveShop$Engine;I)I"⟩, 13) := ⟨⟨by decide +kernel, by decide +kernel⟩, List.mem_of_getElem? (i := 15) (by decide +kernel), List.mem_of_getElem? (i := 773) (by decide +kernel), List.mem_of_getElem? (i := 774) (by decide +kernel)⟩
theorem lw_p26 : lw_okq (⟨"ValveShop", "countSheets", "()I"⟩, 13) := ⟨⟨by decide +kernel, by decide +kernel⟩, List.mem_of_getElem? (i := 15) (by decide +kernel), List.mem_of_getElem? (i := 785) (by decide +kernel), List.mem_of_getElem? (i := 786) (by decide +kernel)⟩
theorem lw_p27 : lw_okq (⟨"ValveShop", "countEngines", "(I)I"⟩, 13) := ⟨⟨by decide +kernel, by decide +kernel⟩, List.mem_of_getElem? (i := 15) (by decide +kernel), List.mem_of_getElem? (i := 789) (by decide +kernel), List.mem_of_getElem? (i := 790) (by decide +kernel)⟩
theorem lw_p28 : lw_okq (⟨"ValveShop", "countFoundCards", "()I"⟩, 13) := ⟨⟨by decide +kernel, by decide +kernel⟩, List.mem_of_getElem? (i := 15) (by decide +kernel), List.mem_of_getElem? (i := 793) (by decide +kernel), List.mem_of_getElem? (i := 794) (by decide +kernel)⟩
theorem lw_p29 : lw_okq (⟨"ValveShopModel", "found", "(I)I"⟩, 33) := ⟨⟨by decide +kernel, by decide +kernel⟩, List.mem_of_getElem? (i := 801) (by decide +kernel), List.mem_of_getElem? (i := 921) (by decide +kernel), List.mem_of_getElem? (i := 922) (by decide +kernel)⟩
theorem lw_p30 : lw_okq (⟨"ValveShopModel", "stands", "(I)I"⟩, 33) := ⟨⟨by decide +kernel, by decide +kernel⟩, List.mem_of_getElem? (i := 801) (by decide +kernel), List.mem_of_getElem? (i := 962) (by decide +kernel), List.mem_of_getElem? (i := 963) (by decide +kernel)⟩
theorem lw_p31 : lw_okq (⟨"ValveShopModel", "like", "(II)V"⟩, 33) := ⟨⟨by decide +kernel, by decide +kernel⟩, List.mem_of_getElem? (i := 801) (by decide +kernel), List.mem_of_getElem? (i := 975) (by decide +kernel), List.mem_of_getElem? (i := 976) (by decide +kernel)⟩
def lw_privs_2 : List (MethodName × Nat) := [(⟨"ValveShop", "toldKind", "(LValveShop$Engine;)I"⟩, 13), (⟨"ValveShop", "askWorth", "(LValveShop$Engine;I)I"⟩, 13), (⟨"ValveShop", "worthOfSound", "(LValveShop$Engine;)I"⟩, 13), (⟨"ValveShop", "leave", "(I)V"⟩, 13), (⟨"ValveShop", "worthOfAny", "(LValveShop$Engine;)I"⟩, 13), (⟨"ValveShop", "markOfEven", "(LValveShop$Engine;)I"⟩, 13), (⟨"ValveShop", "markOfAny", "(LValveShop$Engine;)I"⟩, 13), (⟨"ValveShop", "worthOfSick", "(LValveShop$Engine;)I"⟩, 13), (⟨"ValveShop", "askMark", "(LValveShop$Engine;I)I"⟩, 13), (⟨"ValveShop", "markOfSick", "(LValveShop$Engine;I)I"⟩, 13), (⟨"ValveShop", "countSheets", "()I"⟩, 13), (⟨"ValveShop", "countEngines", "(I)I"⟩, 13), (⟨"ValveShop", "countFoundCards", "()I"⟩, 13), (⟨"ValveShopModel", "found", "(I)I"⟩, 33), (⟨"ValveShopModel", "stands", "(I)I"⟩, 33), (⟨"ValveShopModel", "like", "(II)V"⟩, 33)]
theorem lw_r2 : ∀ q ∈ lw_privs_2, lw_okq q := List.forall_mem_cons.mpr ⟨lw_p16, List.forall_mem_cons.mpr ⟨lw_p17, List.forall_mem_cons.mpr ⟨lw_p18, List.forall_mem_cons.mpr ⟨lw_p19, List.forall_mem_cons.mpr ⟨lw_p20, List.forall_mem_cons.mpr ⟨lw_p21, List.forall_mem_cons.mpr ⟨lw_p22, List.forall_mem_cons.mpr ⟨lw_p23, List.forall_mem_cons.mpr ⟨lw_p24, List.forall_mem_cons.mpr ⟨lw_p25, List.forall_mem_cons.mpr ⟨lw_p26, List.forall_mem_cons.mpr ⟨lw_p27, List.forall_mem_cons.mpr ⟨lw_p28, List.forall_mem_cons.mpr ⟨lw_p29, List.forall_mem_cons.mpr ⟨lw_p30, List.forall_mem_cons.mpr ⟨lw_p31, fun _ h => absurd h List.not_mem_nil⟩⟩⟩⟩⟩⟩⟩⟩⟩⟩⟩⟩⟩⟩⟩⟩
theorem lw_p32 : lw_okq (⟨"ValveShopModel", "pistonAt", "(II)I"⟩, 33) := ⟨⟨by decide +kernel, by decide +kernel⟩, List.mem_of_getElem? (i := 801) (by decide +kernel), List.mem_of_getElem? (i := 993) (by decide +kernel), List.mem_of_getElem? (i := 994) (by decide +kernel)⟩
theorem lw_p33 : lw_okq (⟨"ValveShopModel", "along", "(I)I"⟩, 33) := ⟨⟨by decide +kernel, by decide +kernel⟩, List.mem_of_getElem? (i := 801) (by decide +kernel), List.mem_of_getElem? (i := 997) (by decide +kernel), List.mem_of_getElem? (i := 998) (by decide +kernel)⟩
theorem lw_p34 : lw_okq (⟨"ValveShopModel", "across", "(I)I"⟩, 33) := ⟨⟨by decide +kernel, by decide +kernel⟩, List.mem_of_getElem? (i := 801) (by decide +kernel), List.mem_of_getElem? (i := 1004) (by decide +kernel), List.mem_of_getElem? (i := 1005) (by decide +kernel)⟩
theorem lw_p35 : lw_okq (⟨"ValveShopModel", "valveAt", "(III)I"⟩, 33) := ⟨⟨by decide +kernel, by decide +kernel⟩, List.mem_of_getElem? (i := 801) (by decide +kernel), List.mem_of_getElem? (i := 1018) (by decide +kernel), List.mem_of_getElem? (i := 1019) (by decide +kernel)⟩
theorem lw_p36 : lw_okq (⟨"ValveShopModel", "openAt", "(IIIII)I"⟩, 33) := ⟨⟨by decide +kernel, by decide +kernel⟩, List.mem_of_getElem? (i := 801) (by decide +kernel), List.mem_of_getElem? (i := 1030) (by decide +kernel), List.mem_of_getElem? (i := 1031) (by decide +kernel)⟩
theorem lw_p37 : lw_okq (⟨"ValveShopModel", "openBy", "(IIII)I"⟩, 33) := ⟨⟨by decide +kernel, by decide +kernel⟩, List.mem_of_getElem? (i := 801) (by decide +kernel), List.mem_of_getElem? (i := 1034) (by decide +kernel), List.mem_of_getElem? (i := 1035) (by decide +kernel)⟩
theorem lw_p38 : lw_okq (⟨"ValveShopModel", "eventOf", "(IIII)I"⟩, 33) := ⟨⟨by decide +kernel, by decide +kernel⟩, List.mem_of_getElem? (i := 801) (by decide +kernel), List.mem_of_getElem? (i := 1043) (by decide +kernel), List.mem_of_getElem? (i := 1044) (by decide +kernel)⟩
theorem lw_p39 : lw_okq (⟨"ValveShopModel", "unlike", "(I)I"⟩, 33) := ⟨⟨by decide +kernel, by decide +kernel⟩, List.mem_of_getElem? (i := 801) (by decide +kernel), List.mem_of_getElem? (i := 1052) (by decide +kernel), List.mem_of_getElem? (i := 1053) (by decide +kernel)⟩
theorem lw_p40 : lw_okq (⟨"ValveShopModel", "leadOf", "(I)I"⟩, 33) := ⟨⟨by decide +kernel, by decide +kernel⟩, List.mem_of_getElem? (i := 801) (by decide +kernel), List.mem_of_getElem? (i := 1056) (by decide +kernel), List.mem_of_getElem? (i := 1057) (by decide +kernel)⟩
theorem lw_p41 : lw_okq (⟨"ValveShopModel", "settle", "(I)I"⟩, 33) := ⟨⟨by decide +kernel, by decide +kernel⟩, List.mem_of_getElem? (i := 801) (by decide +kernel), List.mem_of_getElem? (i := 1064) (by decide +kernel), List.mem_of_getElem? (i := 1065) (by decide +kernel)⟩
theorem lw_p42 : lw_okq (⟨"ValveShopModel", "draw", "(IIIII)V"⟩, 33) := ⟨⟨by decide +kernel, by decide +kernel⟩, List.mem_of_getElem? (i := 801) (by decide +kernel), List.mem_of_getElem? (i := 1081) (by decide +kernel), List.mem_of_getElem? (i := 1082) (by decide +kernel)⟩
theorem lw_p43 : lw_okq (⟨"ValveShopModel", "room", "(III)I"⟩, 33) := ⟨⟨by decide +kernel, by decide +kernel⟩, List.mem_of_getElem? (i := 801) (by decide +kernel), List.mem_of_getElem? (i := 1085) (by decide +kernel), List.mem_of_getElem? (i := 1086) (by decide +kernel)⟩
theorem lw_p44 : lw_okq (⟨"ValveShopModel", "workOf", "(IIII)I"⟩, 33) := ⟨⟨by decide +kernel, by decide +kernel⟩, List.mem_of_getElem? (i := 801) (by decide +kernel), List.mem_of_getElem? (i := 1103) (by decide +kernel), List.mem_of_getElem? (i := 1104) (by decide +kernel)⟩
theorem lw_p45 : lw_okq (⟨"ValveShopModel", "drinkOf", "(IIII)I"⟩, 33) := ⟨⟨by decide +kernel, by decide +kernel⟩, List.mem_of_getElem? (i := 801) (by decide +kernel), List.mem_of_getElem? (i := 1107) (by decide +kernel), List.mem_of_getElem? (i := 1108) (by decide +kernel)⟩
theorem lw_p46 : lw_okq (⟨"ValveShopModel", "isCard", "(II)Z"⟩, 33) := ⟨⟨by decide +kernel, by decide +kernel⟩, List.mem_of_getElem? (i := 801) (by decide +kernel), List.mem_of_getElem? (i := 1116) (by decide +kernel), List.mem_of_getElem? (i := 1117) (by decide +kernel)⟩
theorem lw_p47 : lw_okq (⟨"ValveShopModel", "misfitOf", "(II)I"⟩, 33) := ⟨⟨by decide +kernel, by decide +kernel⟩, List.mem_of_getElem? (i := 801) (by decide +kernel), List.mem_of_getElem? (i := 1127) (by decide +kernel), List.mem_of_getElem? (i := 1128) (by decide +kernel)⟩
def lw_privs_3 : List (MethodName × Nat) := [(⟨"ValveShopModel", "pistonAt", "(II)I"⟩, 33), (⟨"ValveShopModel", "along", "(I)I"⟩, 33), (⟨"ValveShopModel", "across", "(I)I"⟩, 33), (⟨"ValveShopModel", "valveAt", "(III)I"⟩, 33), (⟨"ValveShopModel", "openAt", "(IIIII)I"⟩, 33), (⟨"ValveShopModel", "openBy", "(IIII)I"⟩, 33), (⟨"ValveShopModel", "eventOf", "(IIII)I"⟩, 33), (⟨"ValveShopModel", "unlike", "(I)I"⟩, 33), (⟨"ValveShopModel", "leadOf", "(I)I"⟩, 33), (⟨"ValveShopModel", "settle", "(I)I"⟩, 33), (⟨"ValveShopModel", "draw", "(IIIII)V"⟩, 33), (⟨"ValveShopModel", "room", "(III)I"⟩, 33), (⟨"ValveShopModel", "workOf", "(IIII)I"⟩, 33), (⟨"ValveShopModel", "drinkOf", "(IIII)I"⟩, 33), (⟨"ValveShopModel", "isCard", "(II)Z"⟩, 33), (⟨"ValveShopModel", "misfitOf", "(II)I"⟩, 33)]
theorem lw_r3 : ∀ q ∈ lw_privs_3, lw_okq q := List.forall_mem_cons.mpr ⟨lw_p32, List.forall_mem_cons.mpr ⟨lw_p33, List.forall_mem_cons.mpr ⟨lw_p34, List.forall_mem_cons.mpr ⟨lw_p35, List.forall_mem_cons.mpr ⟨lw_p36, List.forall_mem_cons.mpr ⟨lw_p37, List.forall_mem_cons.mpr ⟨lw_p38, List.forall_mem_cons.mpr ⟨lw_p39, List.forall_mem_cons.mpr ⟨lw_p40, List.forall_mem_cons.mpr ⟨lw_p41, List.forall_mem_cons.mpr ⟨lw_p42, List.forall_mem_cons.mpr ⟨lw_p43, List.forall_mem_cons.mpr ⟨lw_p44, List.forall_mem_cons.mpr ⟨lw_p45, List.forall_mem_cons.mpr ⟨lw_p46, List.forall_mem_cons.mpr ⟨lw_p47, fun _ h => absurd h List.not_mem_nil⟩⟩⟩⟩⟩⟩⟩⟩⟩⟩⟩⟩⟩⟩⟩⟩
theorem lw_p48 : lw_okq (⟨"ValveShopModel", "kindOf", "(I)I"⟩, 33) := ⟨⟨by decide +kernel, by decide +kernel⟩, List.mem_of_getElem? (i := 801) (by decide +kernel), List.mem_of_getElem? (i := 1172) (by decide +kernel), List.mem_of_getElem? (i := 1173) (by decide +kernel)⟩
theorem lw_p49 : lw_okq (⟨"ValveShopModel", "worth", "(II)I"⟩, 33) := ⟨⟨by decide +kernel, by decide +kernel⟩, List.mem_of_getElem? (i := 801) (by decide +kernel), List.mem_of_getElem? (i := 1191) (by decide +kernel), List.mem_of_getElem? (i := 1192) (by decide +kernel)⟩
theorem lw_p50 : lw_okq (⟨"ValveShopModel", "sickWorth", "(II)I"⟩, 33) := ⟨⟨by decide +kernel, by decide +kernel⟩, List.mem_of_getElem? (i := 801) (by decide +kernel), List.mem_of_getElem? (i := 1195) (by decide +kernel), List.mem_of_getElem? (i := 1196) (by decide +kernel)⟩
theorem lw_p51 : lw_okq (⟨"ValveShopModel", "began", "(I)V"⟩, 33) := ⟨⟨by decide +kernel, by decide +kernel⟩, List.mem_of_getElem? (i := 801) (by decide +kernel), List.mem_of_getElem? (i := 1199) (by decide +kernel), List.mem_of_getElem? (i := 1200) (by decide +kernel)⟩
theorem lw_p52 : lw_okq (⟨"ValveShopModel", "marked", "(II)I"⟩, 33) := ⟨⟨by decide +kernel, by decide +kernel⟩, List.mem_of_getElem? (i := 801) (by decide +kernel), List.mem_of_getElem? (i := 1203) (by decide +kernel), List.mem_of_getElem? (i := 1204) (by decide +kernel)⟩
def lw_privs_4 : List (MethodName × Nat) := [(⟨"ValveShopModel", "kindOf", "(I)I"⟩, 33), (⟨"ValveShopModel", "worth", "(II)I"⟩, 33), (⟨"ValveShopModel", "sickWorth", "(II)I"⟩, 33), (⟨"ValveShopModel", "began", "(I)V"⟩, 33), (⟨"ValveShopModel", "marked", "(II)I"⟩, 33)]
theorem lw_r4 : ∀ q ∈ lw_privs_4, lw_okq q := List.forall_mem_cons.mpr ⟨lw_p48, List.forall_mem_cons.mpr ⟨lw_p49, List.forall_mem_cons.mpr ⟨lw_p50, List.forall_mem_cons.mpr ⟨lw_p51, List.forall_mem_cons.mpr ⟨lw_p52, fun _ h => absurd h List.not_mem_nil⟩⟩⟩⟩⟩
def lw_privs : List (MethodName × Nat) := lw_privs_1 ++ (lw_privs_2 ++ (lw_privs_3 ++ (lw_privs_4)))
def lw_tbl : List Cond := k2_sels lw_privs ++ tables_1
theorem lw_privs_ok : ∀ q ∈ lw_privs, lw_okq q := by
  show ∀ q ∈ lw_privs_1 ++ (lw_privs_2 ++ (lw_privs_3 ++ (lw_privs_4))), lw_okq q
  exact List.forall_mem_append.mpr ⟨lw_r1, List.forall_mem_append.mpr ⟨lw_r2, List.forall_mem_append.mpr ⟨lw_r3, lw_r4⟩⟩⟩
-- ===== end of PART A; then your names; then what follows =====
end
section
/-! ===== BEGIN printed: names, fields, word lists, decode rows ===== -/
def RX0 : String := "ValveShop$Engine"
def TX0 : u_T := fun k => match k with
  | 0 => ("ValveShop$Engine", "numbers", "[I", true)
  | 1 => ("ValveShop$Engine", "sickness", "I", false)
  | _ => ("ValveShop$Engine", "there", "Z", false)
def tyX0 : Nat → FieldType := fun k => match k with
  | 0 => .array .int
  | 1 => .int
  | _ => .boolean
abbrev wsX00 : List Cond := u_ws RX0 TX0 3
theorem nmX0 : ∀ a, a < 3 → ∀ b, b < 3 → a ≠ b → (TX0 a).2.1 ≠ (TX0 b).2.1 := by decide +kernel
theorem tyX0_ok : ∀ k, k < 3 → parseFieldDescriptor (TX0 k).2.2.1 = some (tyX0 k) := by decide +kernel
abbrev cX0_init : ByteArray := prog_2_method_1_code
def yX0_init : MethodName := ⟨RX0, "<init>", "()V"⟩
abbrev cX0_build : ByteArray := prog_2_method_2_code
def yX0_build : MethodName := ⟨RX0, "build", "(LValveShop$Sheet;I)V"⟩
abbrev cX0_resemble : ByteArray := prog_2_method_3_code
def yX0_resemble : MethodName := ⟨RX0, "resemble", "(LValveShop$Engine;)V"⟩
abbrev cX0_late : ByteArray := prog_2_method_4_code
def yX0_late : MethodName := ⟨RX0, "late", "()I"⟩
abbrev cX0_leak : ByteArray := prog_2_method_5_code
def yX0_leak : MethodName := ⟨RX0, "leak", "()I"⟩
abbrev cX0_choke : ByteArray := prog_2_method_6_code
def yX0_choke : MethodName := ⟨RX0, "choke", "()I"⟩
abbrev cX0_stroke : ByteArray := prog_2_method_7_code
def yX0_stroke : MethodName := ⟨RX0, "stroke", "(I)I"⟩
abbrev cX0_swing : ByteArray := prog_2_method_8_code
def yX0_swing : MethodName := ⟨RX0, "swing", "(II)I"⟩
abbrev cX0_hanging : ByteArray := prog_2_method_9_code
def yX0_hanging : MethodName := ⟨RX0, "hanging", "(I)I"⟩
abbrev cX0_travel : ByteArray := prog_2_method_10_code
def yX0_travel : MethodName := ⟨RX0, "travel", "(II)I"⟩
abbrev cX0_opening : ByteArray := prog_2_method_11_code
def yX0_opening : MethodName := ⟨RX0, "opening", "(III)I"⟩
abbrev cX0_lead : ByteArray := prog_2_method_12_code
def yX0_lead : MethodName := ⟨RX0, "lead", "()I"⟩
def RX1 : String := "ValveShop$Fire"
def TX1 : u_T := fun k => match k with
  | 0 => ("ValveShop$Fire", "gauge", "I", false)
  | 1 => ("ValveShop$Fire", "heap", "I", false)
  | 2 => ("ValveShop$Fire", "burnt", "I", false)
  | 3 => ("ValveShop$Fire", "drunk", "I", false)
  | 4 => ("ValveShop$Fire", "blown", "I", false)
  | _ => ("ValveShop$Fire", "minutes", "I", false)
def tyX1 : Nat → FieldType := fun k => match k with
  | 0 => .int
  | 1 => .int
  | 2 => .int
  | 3 => .int
  | 4 => .int
  | _ => .int
abbrev wsX10 : List Cond := u_ws RX1 TX1 6
theorem nmX1 : ∀ a, a < 6 → ∀ b, b < 6 → a ≠ b → (TX1 a).2.1 ≠ (TX1 b).2.1 := by decide +kernel
theorem tyX1_ok : ∀ k, k < 6 → parseFieldDescriptor (TX1 k).2.2.1 = some (tyX1 k) := by decide +kernel
abbrev cX1_init : ByteArray := prog_3_method_1_code
def yX1_init : MethodName := ⟨RX1, "<init>", "()V"⟩
abbrev cX1_burn : ByteArray := prog_3_method_2_code
def yX1_burn : MethodName := ⟨RX1, "burn", "()V"⟩
abbrev cX1_give : ByteArray := prog_3_method_3_code
def yX1_give : MethodName := ⟨RX1, "give", "(I)V"⟩
abbrev cX1_blow : ByteArray := prog_3_method_4_code
def yX1_blow : MethodName := ⟨RX1, "blow", "()V"⟩
abbrev cX1_told : ByteArray := prog_3_method_5_code
def yX1_told : MethodName := ⟨RX1, "told", "(I)I"⟩
def RX2 : String := "ValveShop$FoundCard"
def TX2 : u_T := fun k => match k with
  | 0 => ("ValveShop$FoundCard", "items", "[I", true)
  | 1 => ("ValveShop$FoundCard", "kept", "Z", false)
  | 2 => ("ValveShop$FoundCard", "notch", "I", false)
  | _ => ("ValveShop$FoundCard", "boiler", "I", false)
def tyX2 : Nat → FieldType := fun k => match k with
  | 0 => .array .int
  | 1 => .boolean
  | 2 => .int
  | _ => .int
abbrev wsX20 : List Cond := u_ws RX2 TX2 4
theorem nmX2 : ∀ a, a < 4 → ∀ b, b < 4 → a ≠ b → (TX2 a).2.1 ≠ (TX2 b).2.1 := by decide +kernel
theorem tyX2_ok : ∀ k, k < 4 → parseFieldDescriptor (TX2 k).2.2.1 = some (tyX2 k) := by decide +kernel
abbrev cX2_init : ByteArray := prog_4_method_1_code
def yX2_init : MethodName := ⟨RX2, "<init>", "()V"⟩
abbrev cX2_take : ByteArray := prog_4_method_2_code
def yX2_take : MethodName := ⟨RX2, "take", "(LValveShop$Sheet;I)V"⟩
abbrev cX2_readable : ByteArray := prog_4_method_3_code
def yX2_readable : MethodName := ⟨RX2, "readable", "()I"⟩
abbrev cX2_apart : ByteArray := prog_4_method_4_code
def yX2_apart : MethodName := ⟨RX2, "apart", "([I)I"⟩
def RX3 : String := "ValveShop$Gear"
def TX3 : u_T := fun k => match k with
  | 0 => ("ValveShop$Gear", "swings", "[[I", true)
  | 1 => ("ValveShop$Gear", "bestAdvance", "I", false)
  | 2 => ("ValveShop$Gear", "bestHang", "I", false)
  | _ => ("ValveShop$Gear", "leastUnlike", "I", false)
def tyX3 : Nat → FieldType := fun k => match k with
  | 0 => .array (.array .int)
  | 1 => .int
  | 2 => .int
  | _ => .int
abbrev wsX30 : List Cond := u_ws RX3 TX3 4
theorem nmX3 : ∀ a, a < 4 → ∀ b, b < 4 → a ≠ b → (TX3 a).2.1 ≠ (TX3 b).2.1 := by decide +kernel
theorem tyX3_ok : ∀ k, k < 4 → parseFieldDescriptor (TX3 k).2.2.1 = some (tyX3 k) := by decide +kernel
abbrev cX3_init : ByteArray := prog_5_method_1_code
def yX3_init : MethodName := ⟨RX3, "<init>", "()V"⟩
abbrev cX3_firstEvent : ByteArray := prog_5_method_2_code
def yX3_firstEvent : MethodName := ⟨RX3, "firstEvent", "(LValveShop$Engine;III)I"⟩
abbrev cX3_unlike : ByteArray := prog_5_method_3_code
def yX3_unlike : MethodName := ⟨RX3, "unlike", "(LValveShop$Engine;)I"⟩
abbrev cX3_seekSetting : ByteArray := prog_5_method_4_code
def yX3_seekSetting : MethodName := ⟨RX3, "seekSetting", "(LValveShop$Engine;LValveShop$Engine;)V"⟩
abbrev cX3_fillSwings : ByteArray := prog_5_method_5_code
def yX3_fillSwings : MethodName := ⟨RX3, "fillSwings", "(LValveShop$Engine;)V"⟩
abbrev cX3_fillSwing : ByteArray := prog_5_method_6_code
def yX3_fillSwing : MethodName := ⟨RX3, "fillSwing", "(LValveShop$Engine;I[I)V"⟩
abbrev cX3_unlikeBelow : ByteArray := prog_5_method_7_code
def yX3_unlikeBelow : MethodName := ⟨RX3, "unlikeBelow", "(LValveShop$Engine;I)I"⟩
abbrev cX3_offHalfTurn : ByteArray := prog_5_method_8_code
def yX3_offHalfTurn : MethodName := ⟨RX3, "offHalfTurn", "(II)I"⟩
abbrev cX3_firstEventOn : ByteArray := prog_5_method_9_code
def yX3_firstEventOn : MethodName := ⟨RX3, "firstEventOn", "([ILValveShop$Engine;III)I"⟩
def RX4 : String := "ValveShop$Naming"
def TX4 : u_T := fun k => match k with
  | 0 => ("ValveShop$Naming", "misfits", "[I", true)
  | 1 => ("ValveShop$Naming", "best", "I", false)
  | _ => ("ValveShop$Naming", "least", "I", false)
def tyX4 : Nat → FieldType := fun k => match k with
  | 0 => .array .int
  | 1 => .int
  | _ => .int
abbrev wsX40 : List Cond := u_ws RX4 TX4 3
theorem nmX4 : ∀ a, a < 3 → ∀ b, b < 3 → a ≠ b → (TX4 a).2.1 ≠ (TX4 b).2.1 := by decide +kernel
theorem tyX4_ok : ∀ k, k < 3 → parseFieldDescriptor (TX4 k).2.2.1 = some (tyX4 k) := by decide +kernel
abbrev cX4_init : ByteArray := prog_6_method_1_code
def yX4_init : MethodName := ⟨RX4, "<init>", "()V"⟩
abbrev cX4_misfitBy : ByteArray := prog_6_method_2_code
def yX4_misfitBy : MethodName := ⟨RX4, "misfitBy", "(LValveShop$FoundCard;LValveShop$Engine;ILValveShop$Pencil;)I"⟩
abbrev cX4_seek : ByteArray := prog_6_method_3_code
def yX4_seek : MethodName := ⟨RX4, "seek", "(LValveShop$FoundCard;LValveShop$Engine;LValveShop$Pencil;)V"⟩
abbrev cX4_doubt : ByteArray := prog_6_method_4_code
def yX4_doubt : MethodName := ⟨RX4, "doubt", "(I)I"⟩
def RX5 : String := "ValveShop$Pencil"
def TX5 : u_T := fun k => match k with
  | 0 => ("ValveShop$Pencil", "room", "[I", true)
  | 1 => ("ValveShop$Pencil", "steam", "[I", true)
  | 2 => ("ValveShop$Pencil", "exhaust", "[I", true)
  | 3 => ("ValveShop$Pencil", "pressures", "[I", true)
  | 4 => ("ValveShop$Pencil", "drawnIn", "J", false)
  | 5 => ("ValveShop$Pencil", "work", "I", false)
  | _ => ("ValveShop$Pencil", "drink", "I", false)
def tyX5 : Nat → FieldType := fun k => match k with
  | 0 => .array .int
  | 1 => .array .int
  | 2 => .array .int
  | 3 => .array .int
  | 4 => .long
  | 5 => .int
  | _ => .int
abbrev wsX50 : List Cond := u_ws RX5 TX5 7
theorem nmX5 : ∀ a, a < 7 → ∀ b, b < 7 → a ≠ b → (TX5 a).2.1 ≠ (TX5 b).2.1 := by decide +kernel
theorem tyX5_ok : ∀ k, k < 7 → parseFieldDescriptor (TX5 k).2.2.1 = some (tyX5 k) := by decide +kernel
abbrev cX5_init : ByteArray := prog_7_method_1_code
def yX5_init : MethodName := ⟨RX5, "<init>", "()V"⟩
abbrev cX5_draw : ByteArray := prog_7_method_2_code
def yX5_draw : MethodName := ⟨RX5, "draw", "(LValveShop$Engine;IIII)V"⟩
abbrev cX5_measure : ByteArray := prog_7_method_3_code
def yX5_measure : MethodName := ⟨RX5, "measure", "(LValveShop$Engine;III)V"⟩
abbrev cX5_mean : ByteArray := prog_7_method_4_code
def yX5_mean : MethodName := ⟨RX5, "mean", "()I"⟩
abbrev cX5_peak : ByteArray := prog_7_method_5_code
def yX5_peak : MethodName := ⟨RX5, "peak", "()I"⟩
abbrev cX5_loop : ByteArray := prog_7_method_6_code
def yX5_loop : MethodName := ⟨RX5, "loop", "()I"⟩
abbrev cX5_prepare : ByteArray := prog_7_method_7_code
def yX5_prepare : MethodName := ⟨RX5, "prepare", "(LValveShop$Engine;II)V"⟩
abbrev cX5_pushed : ByteArray := prog_7_method_8_code
def yX5_pushed : MethodName := ⟨RX5, "pushed", "()J"⟩
def RX6 : String := "ValveShop$Planner"
def TX6 : u_T := fun k => match k with
  | 0 => ("ValveShop$Planner", "works", "[I", true)
  | 1 => ("ValveShop$Planner", "drinks", "[I", true)
  | 2 => ("ValveShop$Planner", "road", "[I", true)
  | 3 => ("ValveShop$Planner", "leastCoal", "[[I", true)
  | 4 => ("ValveShop$Planner", "kept", "[I", true)
  | 5 => ("ValveShop$Planner", "stretches", "I", false)
  | _ => ("ValveShop$Planner", "keptStretches", "I", false)
def tyX6 : Nat → FieldType := fun k => match k with
  | 0 => .array .int
  | 1 => .array .int
  | 2 => .array .int
  | 3 => .array (.array .int)
  | 4 => .array .int
  | 5 => .int
  | _ => .int
abbrev wsX60 : List Cond := u_ws RX6 TX6 7
theorem nmX6 : ∀ a, a < 7 → ∀ b, b < 7 → a ≠ b → (TX6 a).2.1 ≠ (TX6 b).2.1 := by decide +kernel
theorem tyX6_ok : ∀ k, k < 7 → parseFieldDescriptor (TX6 k).2.2.1 = some (tyX6 k) := by decide +kernel
abbrev cX6_init : ByteArray := prog_8_method_1_code
def yX6_init : MethodName := ⟨RX6, "<init>", "()V"⟩
abbrev cX6_takesRoad : ByteArray := prog_8_method_2_code
def yX6_takesRoad : MethodName := ⟨RX6, "takesRoad", "(LValveShop$Sheet;II)Z"⟩
abbrev cX6_tryOut : ByteArray := prog_8_method_3_code
def yX6_tryOut : MethodName := ⟨RX6, "tryOut", "(LValveShop$Engine;ILValveShop$Pencil;)V"⟩
abbrev cX6_choose : ByteArray := prog_8_method_4_code
def yX6_choose : MethodName := ⟨RX6, "choose", "(I)I"⟩
abbrev cX6_weigh : ByteArray := prog_8_method_5_code
def yX6_weigh : MethodName := ⟨RX6, "weigh", "(II)V"⟩
abbrev cX6_keepBest : ByteArray := prog_8_method_6_code
def yX6_keepBest : MethodName := ⟨RX6, "keepBest", "(II)I"⟩
abbrev cX6_lasting : ByteArray := prog_8_method_7_code
def yX6_lasting : MethodName := ⟨RX6, "lasting", "(II)I"⟩
abbrev cX6_burning : ByteArray := prog_8_method_8_code
def yX6_burning : MethodName := ⟨RX6, "burning", "(II)I"⟩
abbrev cX6_notchOf : ByteArray := prog_8_method_9_code
def yX6_notchOf : MethodName := ⟨RX6, "notchOf", "(I)I"⟩
abbrev cX6_regulatorOf : ByteArray := prog_8_method_10_code
def yX6_regulatorOf : MethodName := ⟨RX6, "regulatorOf", "(I)I"⟩
def RX7 : String := "ValveShop$Sheet"
def TX7 : u_T := fun k => match k with
  | 0 => ("ValveShop$Sheet", "items", "[I", true)
  | 1 => ("ValveShop$Sheet", "there", "Z", false)
  | 2 => ("ValveShop$Sheet", "lane", "I", false)
  | _ => ("ValveShop$Sheet", "size", "I", false)
def tyX7 : Nat → FieldType := fun k => match k with
  | 0 => .array .int
  | 1 => .boolean
  | 2 => .int
  | _ => .int
abbrev wsX70 : List Cond := u_ws RX7 TX7 4
theorem nmX7 : ∀ a, a < 4 → ∀ b, b < 4 → a ≠ b → (TX7 a).2.1 ≠ (TX7 b).2.1 := by decide +kernel
theorem tyX7_ok : ∀ k, k < 4 → parseFieldDescriptor (TX7 k).2.2.1 = some (tyX7 k) := by decide +kernel
abbrev cX7_init : ByteArray := prog_9_method_1_code
def yX7_init : MethodName := ⟨RX7, "<init>", "()V"⟩
abbrev cX7_begin : ByteArray := prog_9_method_2_code
def yX7_begin : MethodName := ⟨RX7, "begin", "(II)V"⟩
abbrev cX7_has : ByteArray := prog_9_method_3_code
def yX7_has : MethodName := ⟨RX7, "has", "(II)Z"⟩
abbrev cX7_read : ByteArray := prog_9_method_4_code
def yX7_read : MethodName := ⟨RX7, "read", "(I)I"⟩
abbrev cX7_write : ByteArray := prog_9_method_5_code
def yX7_write : MethodName := ⟨RX7, "write", "(II)I"⟩
abbrev cX7_holdsWithin : ByteArray := prog_9_method_6_code
def yX7_holdsWithin : MethodName := ⟨RX7, "holdsWithin", "(IIII)Z"⟩
def RX8 : String := "ValveShop"
def TX8 : u_T := fun k => match k with
  | 0 => ("ValveShop", "sheets", "[LValveShop$Sheet;", true)
  | 1 => ("ValveShop", "shelf", "[LValveShop$Engine;", true)
  | 2 => ("ValveShop", "foundCards", "[LValveShop$FoundCard;", true)
  | 3 => ("ValveShop", "trial", "LValveShop$Engine;", true)
  | 4 => ("ValveShop", "compared", "LValveShop$FoundCard;", true)
  | 5 => ("ValveShop", "gear", "LValveShop$Gear;", true)
  | 6 => ("ValveShop", "pencil", "LValveShop$Pencil;", true)
  | 7 => ("ValveShop", "naming", "LValveShop$Naming;", true)
  | 8 => ("ValveShop", "planner", "LValveShop$Planner;", true)
  | 9 => ("ValveShop", "hearth", "LValveShop$Fire;", true)
  | 10 => ("ValveShop", "traced", "[I", true)
  | 11 => ("ValveShop", "tracedBodies", "I", false)
  | _ => ("ValveShop", "finding", "I", false)
def tyX8 : Nat → FieldType := fun k => match k with
  | 0 => .array (.object "ValveShop$Sheet")
  | 1 => .array (.object "ValveShop$Engine")
  | 2 => .array (.object "ValveShop$FoundCard")
  | 3 => .object "ValveShop$Engine"
  | 4 => .object "ValveShop$FoundCard"
  | 5 => .object "ValveShop$Gear"
  | 6 => .object "ValveShop$Pencil"
  | 7 => .object "ValveShop$Naming"
  | 8 => .object "ValveShop$Planner"
  | 9 => .object "ValveShop$Fire"
  | 10 => .array .int
  | 11 => .int
  | _ => .int
abbrev wsX80 : List Cond := u_ws RX8 TX8 13
theorem nmX8 : ∀ a, a < 13 → ∀ b, b < 13 → a ≠ b → (TX8 a).2.1 ≠ (TX8 b).2.1 := by decide +kernel
theorem tyX8_ok : ∀ k, k < 13 → parseFieldDescriptor (TX8 k).2.2.1 = some (tyX8 k) := by decide +kernel
abbrev cX8_init : ByteArray := prog_1_method_1_code
def yX8_init : MethodName := ⟨RX8, "<init>", "()V"⟩
abbrev cX8_sheet : ByteArray := prog_1_method_2_code
def yX8_sheet : MethodName := ⟨RX8, "sheet", "(III)I"⟩
abbrev cX8_set : ByteArray := prog_1_method_3_code
def yX8_set : MethodName := ⟨RX8, "set", "(III)I"⟩
abbrev cX8_copy : ByteArray := prog_1_method_4_code
def yX8_copy : MethodName := ⟨RX8, "copy", "(IIIII)I"⟩
abbrev cX8_drop : ByteArray := prog_1_method_5_code
def yX8_drop : MethodName := ⟨RX8, "drop", "(I)I"⟩
abbrev cX8_engine : ByteArray := prog_1_method_6_code
def yX8_engine : MethodName := ⟨RX8, "engine", "(III)I"⟩
abbrev cX8_adjust : ByteArray := prog_1_method_7_code
def yX8_adjust : MethodName := ⟨RX8, "adjust", "(III)I"⟩
abbrev cX8_sicken : ByteArray := prog_1_method_8_code
def yX8_sicken : MethodName := ⟨RX8, "sicken", "(II)I"⟩
abbrev cX8_twin : ByteArray := prog_1_method_9_code
def yX8_twin : MethodName := ⟨RX8, "twin", "(II)I"⟩
abbrev cX8_clear : ByteArray := prog_1_method_10_code
def yX8_clear : MethodName := ⟨RX8, "clear", "(I)I"⟩
abbrev cX8_number : ByteArray := prog_1_method_11_code
def yX8_number : MethodName := ⟨RX8, "number", "(II)I"⟩
abbrev cX8_piston : ByteArray := prog_1_method_12_code
def yX8_piston : MethodName := ⟨RX8, "piston", "(II)I"⟩
abbrev cX8_valve : ByteArray := prog_1_method_13_code
def yX8_valve : MethodName := ⟨RX8, "valve", "(III)I"⟩
abbrev cX8_open : ByteArray := prog_1_method_14_code
def yX8_open : MethodName := ⟨RX8, "open", "(IIIII)I"⟩
abbrev cX8_event : ByteArray := prog_1_method_15_code
def yX8_event : MethodName := ⟨RX8, "event", "(IIII)I"⟩
abbrev cX8_valves : ByteArray := prog_1_method_16_code
def yX8_valves : MethodName := ⟨RX8, "valves", "(II)I"⟩
abbrev cX8_setting : ByteArray := prog_1_method_17_code
def yX8_setting : MethodName := ⟨RX8, "setting", "(II)I"⟩
abbrev cX8_tune : ByteArray := prog_1_method_18_code
def yX8_tune : MethodName := ⟨RX8, "tune", "(I)I"⟩
abbrev cX8_card : ByteArray := prog_1_method_19_code
def yX8_card : MethodName := ⟨RX8, "card", "(IIIIII)I"⟩
abbrev cX8_look : ByteArray := prog_1_method_20_code
def yX8_look : MethodName := ⟨RX8, "look", "(IIIIII)I"⟩
abbrev cX8_work : ByteArray := prog_1_method_21_code
def yX8_work : MethodName := ⟨RX8, "work", "(IIIII)I"⟩
abbrev cX8_find : ByteArray := prog_1_method_22_code
def yX8_find : MethodName := ⟨RX8, "find", "(IIIII)I"⟩
abbrev cX8_misfit : ByteArray := prog_1_method_23_code
def yX8_misfit : MethodName := ⟨RX8, "misfit", "(II)I"⟩
abbrev cX8_named : ByteArray := prog_1_method_24_code
def yX8_named : MethodName := ⟨RX8, "named", "(III)I"⟩
abbrev cX8_whose : ByteArray := prog_1_method_25_code
def yX8_whose : MethodName := ⟨RX8, "whose", "(IIII)I"⟩
abbrev cX8_next : ByteArray := prog_1_method_26_code
def yX8_next : MethodName := ⟨RX8, "next", "(IIII)I"⟩
abbrev cX8_run : ByteArray := prog_1_method_27_code
def yX8_run : MethodName := ⟨RX8, "run", "(IIIIII)I"⟩
abbrev cX8_plan : ByteArray := prog_1_method_28_code
def yX8_plan : MethodName := ⟨RX8, "plan", "(II)I"⟩
abbrev cX8_stoke : ByteArray := prog_1_method_29_code
def yX8_stoke : MethodName := ⟨RX8, "stoke", "(I)I"⟩
abbrev cX8_minute : ByteArray := prog_1_method_30_code
def yX8_minute : MethodName := ⟨RX8, "minute", "(III)I"⟩
abbrev cX8_fire : ByteArray := prog_1_method_31_code
def yX8_fire : MethodName := ⟨RX8, "fire", "(I)I"⟩
abbrev cX8_kind : ByteArray := prog_1_method_32_code
def yX8_kind : MethodName := ⟨RX8, "kind", "(I)I"⟩
abbrev cX8_is : ByteArray := prog_1_method_33_code
def yX8_is : MethodName := ⟨RX8, "is", "(II)I"⟩
abbrev cX8_as : ByteArray := prog_1_method_34_code
def yX8_as : MethodName := ⟨RX8, "as", "(II)I"⟩
abbrev cX8_ask : ByteArray := prog_1_method_35_code
def yX8_ask : MethodName := ⟨RX8, "ask", "(II)I"⟩
abbrev cX8_trace : ByteArray := prog_1_method_36_code
def yX8_trace : MethodName := ⟨RX8, "trace", "(I)I"⟩
abbrev cX8_count : ByteArray := prog_1_method_37_code
def yX8_count : MethodName := ⟨RX8, "count", "(I)I"⟩
abbrev cX8_status : ByteArray := prog_1_method_38_code
def yX8_status : MethodName := ⟨RX8, "status", "()I"⟩
abbrev cX8_within : ByteArray := prog_1_method_39_code
def yX8_within : MethodName := ⟨RX8, "within", "(III)Z"⟩
abbrev cX8_isPlace : ByteArray := prog_1_method_40_code
def yX8_isPlace : MethodName := ⟨RX8, "isPlace", "(I)Z"⟩
abbrev cX8_isNumber : ByteArray := prog_1_method_41_code
def yX8_isNumber : MethodName := ⟨RX8, "isNumber", "(II)Z"⟩
abbrev cX8_isSickness : ByteArray := prog_1_method_42_code
def yX8_isSickness : MethodName := ⟨RX8, "isSickness", "(I)Z"⟩
abbrev cX8_isNotch : ByteArray := prog_1_method_43_code
def yX8_isNotch : MethodName := ⟨RX8, "isNotch", "(I)Z"⟩
abbrev cX8_isEnd : ByteArray := prog_1_method_44_code
def yX8_isEnd : MethodName := ⟨RX8, "isEnd", "(I)Z"⟩
abbrev cX8_isTurned : ByteArray := prog_1_method_45_code
def yX8_isTurned : MethodName := ⟨RX8, "isTurned", "(I)Z"⟩
abbrev cX8_isBoiler : ByteArray := prog_1_method_46_code
def yX8_isBoiler : MethodName := ⟨RX8, "isBoiler", "(I)Z"⟩
abbrev cX8_isRegulator : ByteArray := prog_1_method_47_code
def yX8_isRegulator : MethodName := ⟨RX8, "isRegulator", "(I)Z"⟩
abbrev cX8_found : ByteArray := prog_1_method_48_code
def yX8_found : MethodName := ⟨RX8, "found", "(I)I"⟩
abbrev cX8_answered : ByteArray := prog_1_method_49_code
def yX8_answered : MethodName := ⟨RX8, "answered", "(I)I"⟩
abbrev cX8_sheetAt : ByteArray := prog_1_method_50_code
def yX8_sheetAt : MethodName := ⟨RX8, "sheetAt", "(I)LValveShop$Sheet;"⟩
abbrev cX8_engineAt : ByteArray := prog_1_method_51_code
def yX8_engineAt : MethodName := ⟨RX8, "engineAt", "(I)LValveShop$Engine;"⟩
abbrev cX8_cosine : ByteArray := prog_1_method_52_code
def yX8_cosine : MethodName := ⟨RX8, "cosine", "(I)I"⟩
abbrev cX8_share : ByteArray := prog_1_method_53_code
def yX8_share : MethodName := ⟨RX8, "share", "(III)I"⟩
abbrev cX8_nearest : ByteArray := prog_1_method_54_code
def yX8_nearest : MethodName := ⟨RX8, "nearest", "(II)I"⟩
abbrev cX8_farthestApart : ByteArray := prog_1_method_55_code
def yX8_farthestApart : MethodName := ⟨RX8, "farthestApart", "(III)I"⟩
abbrev cX8_toldKind : ByteArray := prog_1_method_56_code
def yX8_toldKind : MethodName := ⟨RX8, "toldKind", "(LValveShop$Engine;)I"⟩
abbrev cX8_belongs : ByteArray := prog_1_method_57_code
def yX8_belongs : MethodName := ⟨RX8, "belongs", "(II)Z"⟩
abbrev cX8_askWorth : ByteArray := prog_1_method_58_code
def yX8_askWorth : MethodName := ⟨RX8, "askWorth", "(LValveShop$Engine;I)I"⟩
abbrev cX8_worthOfAny : ByteArray := prog_1_method_59_code
def yX8_worthOfAny : MethodName := ⟨RX8, "worthOfAny", "(LValveShop$Engine;)I"⟩
abbrev cX8_worthOfSound : ByteArray := prog_1_method_60_code
def yX8_worthOfSound : MethodName := ⟨RX8, "worthOfSound", "(LValveShop$Engine;)I"⟩
abbrev cX8_worthOfSick : ByteArray := prog_1_method_61_code
def yX8_worthOfSick : MethodName := ⟨RX8, "worthOfSick", "(LValveShop$Engine;)I"⟩
abbrev cX8_askMark : ByteArray := prog_1_method_62_code
def yX8_askMark : MethodName := ⟨RX8, "askMark", "(LValveShop$Engine;I)I"⟩
abbrev cX8_markOfAny : ByteArray := prog_1_method_63_code
def yX8_markOfAny : MethodName := ⟨RX8, "markOfAny", "(LValveShop$Engine;)I"⟩
abbrev cX8_markOfEven : ByteArray := prog_1_method_64_code
def yX8_markOfEven : MethodName := ⟨RX8, "markOfEven", "(LValveShop$Engine;)I"⟩
abbrev cX8_markOfSick : ByteArray := prog_1_method_65_code
def yX8_markOfSick : MethodName := ⟨RX8, "markOfSick", "(LValveShop$Engine;I)I"⟩
abbrev cX8_leave : ByteArray := prog_1_method_66_code
def yX8_leave : MethodName := ⟨RX8, "leave", "(I)V"⟩
abbrev cX8_countSheets : ByteArray := prog_1_method_67_code
def yX8_countSheets : MethodName := ⟨RX8, "countSheets", "()I"⟩
abbrev cX8_countEngines : ByteArray := prog_1_method_68_code
def yX8_countEngines : MethodName := ⟨RX8, "countEngines", "(I)I"⟩
abbrev cX8_countFoundCards : ByteArray := prog_1_method_69_code
def yX8_countFoundCards : MethodName := ⟨RX8, "countFoundCards", "()I"⟩
def RX9 : String := "ValveShopModel"
def TX9 : u_T := fun k => match k with
  | 0 => ("ValveShopModel", "thrown", "I", false)
  | 1 => ("ValveShopModel", "status", "I", false)
  | 2 => ("ValveShopModel", "lane", "[I", true)
  | 3 => ("ValveShopModel", "many", "[I", true)
  | 4 => ("ValveShopModel", "item", "[I", true)
  | 5 => ("ValveShopModel", "isThere", "[Z", true)
  | 6 => ("ValveShopModel", "number", "[I", true)
  | 7 => ("ValveShopModel", "isKept", "[Z", true)
  | 8 => ("ValveShopModel", "keptNotch", "[I", true)
  | 9 => ("ValveShopModel", "keptBoiler", "[I", true)
  | 10 => ("ValveShopModel", "kept", "[I", true)
  | 11 => ("ValveShopModel", "falls", "[I", true)
  | 12 => ("ValveShopModel", "bestAdvance", "I", false)
  | 13 => ("ValveShopModel", "bestHang", "I", false)
  | 14 => ("ValveShopModel", "pressure", "[I", true)
  | 15 => ("ValveShopModel", "drunk", "J", false)
  | 16 => ("ValveShopModel", "misfits", "[I", true)
  | 17 => ("ValveShopModel", "other", "[I", true)
  | 18 => ("ValveShopModel", "minutesBy", "[I", true)
  | 19 => ("ValveShopModel", "coalBy", "[I", true)
  | 20 => ("ValveShopModel", "least", "[I", true)
  | 21 => ("ValveShopModel", "planned", "I", false)
  | 22 => ("ValveShopModel", "planChoice", "[I", true)
  | 23 => ("ValveShopModel", "planMinutes", "[I", true)
  | 24 => ("ValveShopModel", "planCoal", "[I", true)
  | 25 => ("ValveShopModel", "gauge", "I", false)
  | 26 => ("ValveShopModel", "heap", "I", false)
  | 27 => ("ValveShopModel", "burnt", "I", false)
  | 28 => ("ValveShopModel", "taken", "I", false)
  | 29 => ("ValveShopModel", "blown", "I", false)
  | 30 => ("ValveShopModel", "minutesGone", "I", false)
  | 31 => ("ValveShopModel", "trace", "[I", true)
  | _ => ("ValveShopModel", "traced", "I", false)
def tyX9 : Nat → FieldType := fun k => match k with
  | 0 => .int
  | 1 => .int
  | 2 => .array .int
  | 3 => .array .int
  | 4 => .array .int
  | 5 => .array .boolean
  | 6 => .array .int
  | 7 => .array .boolean
  | 8 => .array .int
  | 9 => .array .int
  | 10 => .array .int
  | 11 => .array .int
  | 12 => .int
  | 13 => .int
  | 14 => .array .int
  | 15 => .long
  | 16 => .array .int
  | 17 => .array .int
  | 18 => .array .int
  | 19 => .array .int
  | 20 => .array .int
  | 21 => .int
  | 22 => .array .int
  | 23 => .array .int
  | 24 => .array .int
  | 25 => .int
  | 26 => .int
  | 27 => .int
  | 28 => .int
  | 29 => .int
  | 30 => .int
  | 31 => .array .int
  | _ => .int
abbrev wsX90 : List Cond := u_ws RX9 TX9 33
theorem nmX9 : ∀ a, a < 33 → ∀ b, b < 33 → a ≠ b → (TX9 a).2.1 ≠ (TX9 b).2.1 := by decide +kernel
theorem tyX9_ok : ∀ k, k < 33 → parseFieldDescriptor (TX9 k).2.2.1 = some (tyX9 k) := by decide +kernel
abbrev cX9_init : ByteArray := prog_11_method_1_code
def yX9_init : MethodName := ⟨RX9, "<init>", "()V"⟩
abbrev cX9_in : ByteArray := prog_11_method_3_code
def yX9_in : MethodName := ⟨RX9, "in", "(JJJ)Z"⟩
abbrev cX9_found : ByteArray := prog_11_method_4_code
def yX9_found : MethodName := ⟨RX9, "found", "(I)I"⟩
abbrev cX9_isSheet : ByteArray := prog_11_method_5_code
def yX9_isSheet : MethodName := ⟨RX9, "isSheet", "(I)Z"⟩
abbrev cX9_sheet : ByteArray := prog_11_method_6_code
def yX9_sheet : MethodName := ⟨RX9, "sheet", "(III)I"⟩
abbrev cX9_set : ByteArray := prog_11_method_7_code
def yX9_set : MethodName := ⟨RX9, "set", "(III)I"⟩
abbrev cX9_copy : ByteArray := prog_11_method_8_code
def yX9_copy : MethodName := ⟨RX9, "copy", "(IIIII)I"⟩
abbrev cX9_drop : ByteArray := prog_11_method_9_code
def yX9_drop : MethodName := ⟨RX9, "drop", "(I)I"⟩
abbrev cX9_isPlace : ByteArray := prog_11_method_10_code
def yX9_isPlace : MethodName := ⟨RX9, "isPlace", "(I)Z"⟩
abbrev cX9_isNumber : ByteArray := prog_11_method_11_code
def yX9_isNumber : MethodName := ⟨RX9, "isNumber", "(II)Z"⟩
abbrev cX9_stands : ByteArray := prog_11_method_12_code
def yX9_stands : MethodName := ⟨RX9, "stands", "(I)I"⟩
abbrev cX9_engine : ByteArray := prog_11_method_13_code
def yX9_engine : MethodName := ⟨RX9, "engine", "(III)I"⟩
abbrev cX9_adjust : ByteArray := prog_11_method_14_code
def yX9_adjust : MethodName := ⟨RX9, "adjust", "(III)I"⟩
abbrev cX9_sicken : ByteArray := prog_11_method_15_code
def yX9_sicken : MethodName := ⟨RX9, "sicken", "(II)I"⟩
abbrev cX9_like : ByteArray := prog_11_method_16_code
def yX9_like : MethodName := ⟨RX9, "like", "(II)V"⟩
abbrev cX9_twin : ByteArray := prog_11_method_17_code
def yX9_twin : MethodName := ⟨RX9, "twin", "(II)I"⟩
abbrev cX9_clear : ByteArray := prog_11_method_18_code
def yX9_clear : MethodName := ⟨RX9, "clear", "(I)I"⟩
abbrev cX9_number : ByteArray := prog_11_method_19_code
def yX9_number : MethodName := ⟨RX9, "number", "(II)I"⟩
abbrev cX9_round : ByteArray := prog_11_method_20_code
def yX9_round : MethodName := ⟨RX9, "round", "(I)I"⟩
abbrev cX9_along : ByteArray := prog_11_method_21_code
def yX9_along : MethodName := ⟨RX9, "along", "(I)I"⟩
abbrev cX9_across : ByteArray := prog_11_method_22_code
def yX9_across : MethodName := ⟨RX9, "across", "(I)I"⟩
abbrev cX9_pistonAt : ByteArray := prog_11_method_23_code
def yX9_pistonAt : MethodName := ⟨RX9, "pistonAt", "(II)I"⟩
abbrev cX9_lateOf : ByteArray := prog_11_method_24_code
def yX9_lateOf : MethodName := ⟨RX9, "lateOf", "(I)I"⟩
abbrev cX9_leakOf : ByteArray := prog_11_method_25_code
def yX9_leakOf : MethodName := ⟨RX9, "leakOf", "(I)I"⟩
abbrev cX9_chokedOf : ByteArray := prog_11_method_26_code
def yX9_chokedOf : MethodName := ⟨RX9, "chokedOf", "(I)I"⟩
abbrev cX9_valveAt : ByteArray := prog_11_method_27_code
def yX9_valveAt : MethodName := ⟨RX9, "valveAt", "(III)I"⟩
abbrev cX9_openBy : ByteArray := prog_11_method_28_code
def yX9_openBy : MethodName := ⟨RX9, "openBy", "(IIII)I"⟩
abbrev cX9_openAt : ByteArray := prog_11_method_29_code
def yX9_openAt : MethodName := ⟨RX9, "openAt", "(IIIII)I"⟩
abbrev cX9_eventOf : ByteArray := prog_11_method_30_code
def yX9_eventOf : MethodName := ⟨RX9, "eventOf", "(IIII)I"⟩
abbrev cX9_isNotch : ByteArray := prog_11_method_31_code
def yX9_isNotch : MethodName := ⟨RX9, "isNotch", "(I)Z"⟩
abbrev cX9_piston : ByteArray := prog_11_method_32_code
def yX9_piston : MethodName := ⟨RX9, "piston", "(II)I"⟩
abbrev cX9_valve : ByteArray := prog_11_method_33_code
def yX9_valve : MethodName := ⟨RX9, "valve", "(III)I"⟩
abbrev cX9_open : ByteArray := prog_11_method_34_code
def yX9_open : MethodName := ⟨RX9, "open", "(IIIII)I"⟩
abbrev cX9_event : ByteArray := prog_11_method_35_code
def yX9_event : MethodName := ⟨RX9, "event", "(IIII)I"⟩
abbrev cX9_unlike : ByteArray := prog_11_method_36_code
def yX9_unlike : MethodName := ⟨RX9, "unlike", "(I)I"⟩
abbrev cX9_leadOf : ByteArray := prog_11_method_37_code
def yX9_leadOf : MethodName := ⟨RX9, "leadOf", "(I)I"⟩
abbrev cX9_valves : ByteArray := prog_11_method_38_code
def yX9_valves : MethodName := ⟨RX9, "valves", "(II)I"⟩
abbrev cX9_settle : ByteArray := prog_11_method_39_code
def yX9_settle : MethodName := ⟨RX9, "settle", "(I)I"⟩
abbrev cX9_setting : ByteArray := prog_11_method_40_code
def yX9_setting : MethodName := ⟨RX9, "setting", "(II)I"⟩
abbrev cX9_tune : ByteArray := prog_11_method_41_code
def yX9_tune : MethodName := ⟨RX9, "tune", "(I)I"⟩
abbrev cX9_room : ByteArray := prog_11_method_42_code
def yX9_room : MethodName := ⟨RX9, "room", "(III)I"⟩
abbrev cX9_draw : ByteArray := prog_11_method_43_code
def yX9_draw : MethodName := ⟨RX9, "draw", "(IIIII)V"⟩
abbrev cX9_isTurn : ByteArray := prog_11_method_44_code
def yX9_isTurn : MethodName := ⟨RX9, "isTurn", "(III)Z"⟩
abbrev cX9_card : ByteArray := prog_11_method_45_code
def yX9_card : MethodName := ⟨RX9, "card", "(IIIIII)I"⟩
abbrev cX9_look : ByteArray := prog_11_method_46_code
def yX9_look : MethodName := ⟨RX9, "look", "(IIIIII)I"⟩
abbrev cX9_workOf : ByteArray := prog_11_method_47_code
def yX9_workOf : MethodName := ⟨RX9, "workOf", "(IIII)I"⟩
abbrev cX9_drinkOf : ByteArray := prog_11_method_48_code
def yX9_drinkOf : MethodName := ⟨RX9, "drinkOf", "(IIII)I"⟩
abbrev cX9_work : ByteArray := prog_11_method_49_code
def yX9_work : MethodName := ⟨RX9, "work", "(IIIII)I"⟩
abbrev cX9_isCard : ByteArray := prog_11_method_50_code
def yX9_isCard : MethodName := ⟨RX9, "isCard", "(II)Z"⟩
abbrev cX9_find : ByteArray := prog_11_method_51_code
def yX9_find : MethodName := ⟨RX9, "find", "(IIIII)I"⟩
abbrev cX9_size : ByteArray := prog_11_method_52_code
def yX9_size : MethodName := ⟨RX9, "size", "(I)I"⟩
abbrev cX9_misfitOf : ByteArray := prog_11_method_53_code
def yX9_misfitOf : MethodName := ⟨RX9, "misfitOf", "(II)I"⟩
abbrev cX9_misfit : ByteArray := prog_11_method_54_code
def yX9_misfit : MethodName := ⟨RX9, "misfit", "(II)I"⟩
abbrev cX9_named : ByteArray := prog_11_method_55_code
def yX9_named : MethodName := ⟨RX9, "named", "(III)I"⟩
abbrev cX9_whose : ByteArray := prog_11_method_56_code
def yX9_whose : MethodName := ⟨RX9, "whose", "(IIII)I"⟩
abbrev cX9_next : ByteArray := prog_11_method_57_code
def yX9_next : MethodName := ⟨RX9, "next", "(IIII)I"⟩
abbrev cX9_run : ByteArray := prog_11_method_58_code
def yX9_run : MethodName := ⟨RX9, "run", "(IIIIII)I"⟩
abbrev cX9_plan : ByteArray := prog_11_method_59_code
def yX9_plan : MethodName := ⟨RX9, "plan", "(II)I"⟩
abbrev cX9_stoke : ByteArray := prog_11_method_60_code
def yX9_stoke : MethodName := ⟨RX9, "stoke", "(I)I"⟩
abbrev cX9_minute : ByteArray := prog_11_method_61_code
def yX9_minute : MethodName := ⟨RX9, "minute", "(III)I"⟩
abbrev cX9_fire : ByteArray := prog_11_method_62_code
def yX9_fire : MethodName := ⟨RX9, "fire", "(I)I"⟩
abbrev cX9_kindOf : ByteArray := prog_11_method_63_code
def yX9_kindOf : MethodName := ⟨RX9, "kindOf", "(I)I"⟩
abbrev cX9_isOf : ByteArray := prog_11_method_64_code
def yX9_isOf : MethodName := ⟨RX9, "isOf", "(II)Z"⟩
abbrev cX9_kind : ByteArray := prog_11_method_65_code
def yX9_kind : MethodName := ⟨RX9, "kind", "(I)I"⟩
abbrev cX9_is : ByteArray := prog_11_method_66_code
def yX9_is : MethodName := ⟨RX9, "is", "(II)I"⟩
abbrev cX9_as : ByteArray := prog_11_method_67_code
def yX9_as : MethodName := ⟨RX9, "as", "(II)I"⟩
abbrev cX9_began : ByteArray := prog_11_method_68_code
def yX9_began : MethodName := ⟨RX9, "began", "(I)V"⟩
abbrev cX9_sickWorth : ByteArray := prog_11_method_69_code
def yX9_sickWorth : MethodName := ⟨RX9, "sickWorth", "(II)I"⟩
abbrev cX9_marked : ByteArray := prog_11_method_70_code
def yX9_marked : MethodName := ⟨RX9, "marked", "(II)I"⟩
abbrev cX9_worth : ByteArray := prog_11_method_71_code
def yX9_worth : MethodName := ⟨RX9, "worth", "(II)I"⟩
abbrev cX9_ask : ByteArray := prog_11_method_72_code
def yX9_ask : MethodName := ⟨RX9, "ask", "(II)I"⟩
abbrev cX9_trace : ByteArray := prog_11_method_73_code
def yX9_trace : MethodName := ⟨RX9, "trace", "(I)I"⟩
abbrev cX9_count : ByteArray := prog_11_method_74_code
def yX9_count : MethodName := ⟨RX9, "count", "(I)I"⟩
abbrev cX9_status : ByteArray := prog_11_method_75_code
def yX9_status : MethodName := ⟨RX9, "status", "()I"⟩
def RJ9 : String := "java/lang/Math"
def TJ9 : u_T := fun k => match k with
  | _ => ("", "", "", false)
def tyJ9 : Nat → FieldType := fun k => match k with
  | _ => .int
abbrev wsJ90 : List Cond := u_ws RJ9 TJ9 0
theorem nmJ9 : ∀ a, a < 0 → ∀ b, b < 0 → a ≠ b → (TJ9 a).2.1 ≠ (TJ9 b).2.1 := by decide +kernel
theorem tyJ9_ok : ∀ k, k < 0 → parseFieldDescriptor (TJ9 k).2.2.1 = some (tyJ9 k) := by decide +kernel
abbrev cJ9_floorMod_7cf53 : ByteArray := prog_12_method_50_code
def yJ9_floorMod_7cf53 : MethodName := ⟨RJ9, "floorMod", "(II)I"⟩
abbrev cJ9_abs_0f7a4 : ByteArray := prog_12_method_59_code
def yJ9_abs_0f7a4 : MethodName := ⟨RJ9, "abs", "(I)I"⟩
abbrev cJ9_max_7cf53 : ByteArray := prog_12_method_65_code
def yJ9_max_7cf53 : MethodName := ⟨RJ9, "max", "(II)I"⟩
abbrev cJ9_min_7cf53 : ByteArray := prog_12_method_69_code
def yJ9_min_7cf53 : MethodName := ⟨RJ9, "min", "(II)I"⟩
def RJ10 : String := "java/lang/System"
def TJ10 : u_T := fun k => match k with
  | _ => ("", "", "", false)
def tyJ10 : Nat → FieldType := fun k => match k with
  | _ => .int
abbrev wsJ100 : List Cond := u_ws RJ10 TJ10 0
theorem nmJ10 : ∀ a, a < 0 → ∀ b, b < 0 → a ≠ b → (TJ10 a).2.1 ≠ (TJ10 b).2.1 := by decide +kernel
theorem tyJ10_ok : ∀ k, k < 0 → parseFieldDescriptor (TJ10 k).2.2.1 = some (tyJ10 k) := by decide +kernel
def RJ7 : String := "java/util/Arrays"
def TJ7 : u_T := fun k => match k with
  | _ => ("", "", "", false)
def tyJ7 : Nat → FieldType := fun k => match k with
  | _ => .int
abbrev wsJ70 : List Cond := u_ws RJ7 TJ7 0
theorem nmJ7 : ∀ a, a < 0 → ∀ b, b < 0 → a ≠ b → (TJ7 a).2.1 ≠ (TJ7 b).2.1 := by decide +kernel
theorem tyJ7_ok : ∀ k, k < 0 → parseFieldDescriptor (TJ7 k).2.2.1 = some (tyJ7 k) := by decide +kernel
abbrev cJ7_fill_53178 : ByteArray := prog_14_method_103_code
def yJ7_fill_53178 : MethodName := ⟨RJ7, "fill", "([II)V"⟩
def RL : String := "ValveShopLaw"
abbrev cL_law : ByteArray := code
def yL_law : MethodName := ⟨RL, "law", "([I)Z"⟩
end
section
/-! THE V-LAYER: heaps by places (logical addresses), one judgement xv_V over them, sound by the kit's rows -/
abbrev xv_cl : List vw_C := [(RX0, TX0, 3), (RX1, TX1, 6), (RX2, TX2, 4), (RX3, TX3, 4), (RX4, TX4, 3), (RX5, TX5, 7), (RX6, TX6, 7), (RX7, TX7, 4), (RX8, TX8, 13), (RX9, TX9, 33)]
abbrev xv_E : Type := (FieldType × vp_A) ⊕ (Nat × List Value)
abbrev xv_H : Type := Nat → xv_E
def xv_r (ad : Nat → Nat) (v : Value) : Value := match v with
  | .ref a => .ref (ad a)
  | w => w
def xv_a (ad : Nat → Nat) (a : vp_A) : vp_A := match a with
  | (n, .inr (.inr (.inr (.inr f)))) => (n, .inr (.inr (.inr (.inr (fun k => (f k).map ad)))))
  | w => w
def xv_c (ad : Nat → Nat) (cA : ClassId) (e : xv_E) : va_E := match e with
  | .inl q => .inl (cA, xv_a ad q.2)
  | .inr o => .inr (o.1, o.2.map (xv_r ad))
def xv_w (ad : Nat → Nat) (cA : Nat → ClassId) (h : xv_H) (n : Nat) : va_W := (List.range n).map fun i => (ad i, xv_c ad (cA i) (h i))
def xv_v (n : Nat) (v : Value) : Prop := match v with
  | .ref a => a < n ∨ 1000 ≤ a
  | _ => True
def xv_ve (n : Nat) (e : xv_E) : Prop := match e with
  | .inl (_, _, .inr (.inr (.inr (.inr f)))) => ∀ k b, f k = some b → b < n ∨ 1000 ≤ b
  | .inl _ => True
  | .inr o => ∀ v ∈ o.2, xv_v n v
def xv_t (U : State) (cA : Nat → ClassId) (h : xv_H) (n : Nat) : Prop := ∀ i, i < n → ∀ ty a, h i = .inl (ty, a) → ArrOfT U (cA i) ty ∧ va_RA U (cA i) ty
def xv_W (D : va_G) (A : Nat → Prop) (ad : Nat → Nat) (h : xv_H) (n : Nat) (U : State) (H : Heap) : Prop := n ≤ 1000 ∧ ∃ cA : Nat → ClassId, va_P D xv_cl (xv_w ad cA h n) H ∧ va_D A (xv_w ad cA h n) ∧ xv_t U cA h n ∧ ∀ i, i < n → xv_ve n (h i)
theorem xv_wget {ad : Nat → Nat} {cA : Nat → ClassId} {h : xv_H} {n i : Nat} (hi : i < n) : (xv_w ad cA h n)[i]? = some (ad i, xv_c ad (cA i) (h i)) := by
  simp [xv_w, hi]
theorem xv_wlt {ad : Nat → Nat} {cA : Nat → ClassId} {h : xv_H} {n i : Nat} {q : Nat × va_E} (hq : (xv_w ad cA h n)[i]? = some q) : i < n ∧ q = (ad i, xv_c ad (cA i) (h i)) := by
  by_cases hi : i < n
  · rw [xv_wget hi] at hq
    exact ⟨hi, (Option.some.inj hq).symm⟩
  · rw [List.getElem?_eq_none (by simp [xv_w]; omega)] at hq
    cases hq
theorem xv_wset {ad : Nat → Nat} {cA : Nat → ClassId} {h : xv_H} {n i : Nat} (e : xv_E) : (xv_w ad cA h n).set i (ad i, xv_c ad (cA i) e) = xv_w ad cA (va_up h i e) n := by
  apply List.ext_getElem?
  intro j
  by_cases hj : j < n
  · by_cases hi : j = i
    · subst hi
      rw [xv_wget hj, List.getElem?_set_self (by simp [xv_w]; exact hj)]
      simp [va_up]
    · rw [xv_wget hj, List.getElem?_set_ne (Ne.symm hi), xv_wget hj]
      simp [va_up, hi]
  · rw [List.getElem?_eq_none (by simp [xv_w]; omega), List.getElem?_eq_none (by simp [xv_w]; omega)]
theorem xv_wcong {ad ad' : Nat → Nat} {cA cA' : Nat → ClassId} {h h' : xv_H} {n : Nat} (e : ∀ i, i < n → ad i = ad' i ∧ xv_c ad (cA i) (h i) = xv_c ad' (cA' i) (h' i)) : xv_w ad cA h n = xv_w ad' cA' h' n := by
  apply List.ext_getElem?
  intro j
  by_cases hj : j < n
  · rw [xv_wget hj, xv_wget hj, (e j hj).1, (e j hj).2]
  · rw [List.getElem?_eq_none (by simp [xv_w]; omega), List.getElem?_eq_none (by simp [xv_w]; omega)]
theorem xv_rcat (ad : Nat → Nat) (v : Value) : (xv_r ad v).category = v.category := by cases v <;> rfl
theorem xv_rrf (ad : Nat → Nat) (r : Option Nat) : xv_r ad (va_rf r) = va_rf (r.map ad) := by cases r <;> rfl
theorem xv_rext {ad ad' : Nat → Nat} {n : Nat} (e : ∀ i, i < n ∨ 1000 ≤ i → ad' i = ad i) {v : Value} (hv : xv_v n v) : xv_r ad' v = xv_r ad v := by
  cases v with
  | ref a => show Value.ref (ad' a) = Value.ref (ad a); rw [e a hv]
  | _ => rfl
theorem xv_vmono {n n' : Nat} (h : n ≤ n') {v : Value} (hv : xv_v n v) : xv_v n' v := by
  cases v with
  | ref a =>
    rcases hv with h1 | h1
    · exact Or.inl (Nat.lt_of_lt_of_le h1 h)
    · exact Or.inr h1
  | _ => trivial
theorem xv_vemono {n n' : Nat} (h : n ≤ n') {e : xv_E} (hv : xv_ve n e) : xv_ve n' e := by
  match e, hv with
  | .inl (_, _, .inr (.inr (.inr (.inr f)))), hv => exact fun k b hb => (hv k b hb).elim (fun q => Or.inl (Nat.lt_of_lt_of_le q h)) Or.inr
  | .inl (_, _, .inl _), _ => trivial
  | .inl (_, _, .inr (.inl _)), _ => trivial
  | .inl (_, _, .inr (.inr (.inl _))), _ => trivial
  | .inl (_, _, .inr (.inr (.inr (.inl _)))), _ => trivial
  | .inr o, hv => exact fun v hm => xv_vmono h (hv v hm)
-- locals
def xv_get : List (Nat × Value) → Nat → Option Value
  | [], _ => none
  | (j, v) :: r, i => if j = i then some v else xv_get r i
def xv_set (l : List (Nat × Value)) (i : Nat) (v : Value) : List (Nat × Value) := (i, v) :: l.filter (fun q => !(q.1 == i) && !(q.1 + 1 == i && q.2.category == 2))
def xv_setL (l : List (Nat × Value)) (i : Nat) (v : Value) : List (Nat × Value) := (i, v) :: l.filter (fun q => !(q.1 == i) && (!(q.1 == i + 1) && !(q.1 + 1 == i && q.2.category == 2)))
def xv_lr (ad : Nat → Nat) (l : List (Nat × Value)) : List (Nat × Value) := l.map fun q => (q.1, xv_r ad q.2)
theorem xv_gm {l : List (Nat × Value)} {i : Nat} {v : Value} (h : xv_get l i = some v) : (i, v) ∈ l := by
  induction l with
  | nil => cases h
  | cons q l ih =>
    obtain ⟨j, w⟩ := q
    by_cases hj : j = i
    · rw [xv_get, if_pos hj] at h
      cases h
      rw [hj]
      exact List.mem_cons_self
    · rw [xv_get, if_neg hj] at h
      exact List.mem_cons_of_mem _ (ih h)
theorem xv_lrm {ad : Nat → Nat} {l : List (Nat × Value)} {i : Nat} {v : Value} (h : (i, v) ∈ l) : (i, xv_r ad v) ∈ xv_lr ad l := List.mem_map.mpr ⟨(i, v), h, rfl⟩
theorem xv_lrset (ad : Nat → Nat) (l : List (Nat × Value)) (i : Nat) (v : Value) : (i, xv_r ad v) :: (xv_lr ad l).filter (fun q => !(q.1 == i) && !(q.1 + 1 == i && q.2.category == 2)) = xv_lr ad (xv_set l i v) := by
  show _ = (i, xv_r ad v) :: xv_lr ad (l.filter _)
  congr 1
  unfold xv_lr
  rw [List.filter_map]
  congr 1
  apply List.filter_congr
  intro q _
  simp [xv_rcat]
theorem xv_lrsetL (ad : Nat → Nat) (l : List (Nat × Value)) (i : Nat) (v : Value) : (i, xv_r ad v) :: (xv_lr ad l).filter (fun q => !(q.1 == i) && (!(q.1 == i + 1) && !(q.1 + 1 == i && q.2.category == 2))) = xv_lr ad (xv_setL l i v) := by
  show _ = (i, xv_r ad v) :: xv_lr ad (l.filter _)
  congr 1
  unfold xv_lr
  rw [List.filter_map]
  congr 1
  apply List.filter_congr
  intro q _
  simp [xv_rcat]
theorem xv_lrext {ad ad' : Nat → Nat} {n : Nat} (e : ∀ i, i < n ∨ 1000 ≤ i → ad' i = ad i) {l : List (Nat × Value)} (hl : ∀ q ∈ l, xv_v n q.2) : xv_lr ad' l = xv_lr ad l := List.map_congr_left fun q hq => by rw [xv_rext e (hl q hq)]
theorem xv_srext {ad ad' : Nat → Nat} {n : Nat} (e : ∀ i, i < n ∨ 1000 ≤ i → ad' i = ad i) {l : List Value} (hl : ∀ q ∈ l, xv_v n q) : l.map (xv_r ad') = l.map (xv_r ad) := List.map_congr_left fun q hq => xv_rext e (hl q hq)
-- what is read, and never written: the statics' arrays, the script
def xv_rf : List (String × List Int32) := [("LEAST_NUMBER", [0, 10, 0, -20, 0, -20, 1, 20, 1, 1, 0]), ("MOST_NUMBER", [20, 200, 11, 20, 100, 50, 100, 200, 100, 100, 500]), ("LATE", [0, -1, -2, -3, 1, 2, 3, 0, 0, 0, 0, 0, 0]), ("LEAK", [0, 0, 0, 0, 0, 0, 0, 5, 10, 20, 0, 0, 0]), ("CHOKED", [0, 0, 0, 0, 0, 0, 0, 0, 0, 0, 20, 50, 100]), ("COSINES", [10000, 9914, 9659, 9239, 8660, 7934, 7071, 6088, 5000, 3827, 2588, 1305, 0, -1305, -2588, -3827, -5000, -6088, -7071, -7934, -8660, -9239, -9659, -9914, -10000, -9914, -9659, -9239, -8660, -7934, -7071, -6088, -5000, -3827, -2588, -1305, 0, 1305, 2588, 3827, 5000, 6088, 7071, 7934, 8660, 9239, 9659, 9914])]
def xv_ro (X : Nat × (Nat → Int32)) (j : Nat) : Option (Nat × (Nat → Int32)) := if j = 6 then some X else (xv_rf[j]?).map fun q => (q.2.length, fun k => q.2.getD k 0)
def xv_nw : List Cond := lw_tbl.filter fun w => match w with
  | .methodLinkNest .. => true
  | .fieldLinkNest .. => true
  | .arrayOver _ => true
  | _ => false
def xv_g : List Cond := lw_tbl.filter goodWord
def xv_R (X : Nat × (Nat → Int32)) (A : Nat → Prop) (ad : Nat → Nat) (U : State) (H : Heap) : Prop :=
  (∀ j q, xv_ro X j = some q → va_T .int (ad (1000 + j)) q.1 (fun k => .int (q.2 k)) A U H) ∧ (∀ j q, xv_rf[j]? = some q → va_Z "ValveShop" q.1 "[I" (.ref (ad (1000 + j))) A U H) ∧ ∀ w ∈ xv_nw, va_Nw w U
abbrev xv_M : Type := String × ByteArray × Nat × Bool × Option FieldType × Room
abbrev xv_P : Type := Option Value → xv_H → Nat → Prop
def xv_ret (cc : ByteArray) (ret : Option FieldType) (pc : Nat) (v : Option Value) : Prop := match v with
  | none => ret = none ∧ decode cc pc = .ok (.return_, 1)
  | some (.int x) => ∃ ty, ret = some ty ∧ narrow ty (.int x) = .int x ∧ decode cc pc = .ok (.ireturn, 1)
  | some (.long _) => ret = some .long ∧ decode cc pc = .ok (.lreturn, 1)
  | some (.ref _) => (∃ C, ret = some (.object C)) ∧ decode cc pc = .ok (.areturn, 1)
  | some .null => (∃ C, ret = some (.object C)) ∧ decode cc pc = .ok (.areturn, 1)
  | _ => False
section XV
variable (X : Nat × (Nat → Int32)) (M : xv_M) (Post : xv_P)
def xv_C (p : Program) (l : Launch) (e : Env) (s : State) (m : MethodId) (args : Array Value) (below : List Frame) (meth : Method) (c : Code) (D : va_G) (A : Nat → Prop) (ad0 : Nat → Nat) (n0 : Nat) (Qf : State → Prop) : Prop :=
  p.tables.exec = Jvm.exec ∧ c.code = M.2.1 ∧ c.maxLocals = M.2.2.1 ∧ s.vm.findClass M.1 = some m.cls ∧ (∀ w ∈ xv_g, w.before args s = true) ∧ (M.2.2.2.1 = true → meth.name = "<init>") ∧ va_K D xv_cl [] s ∧ (∀ q, s.heap.size ≤ q → A q) ∧ xv_R X A ad0 s s.heap ∧
  (∀ (v : Option Value) (ad : Nat → Nat) (H : Heap) (locs : List Loc) (cells slots : Nat) (ls : Array Slot) (pc : Nat) (h : xv_H) (n : Nat), xv_ret M.2.1 M.2.2.2.2.1 pc v → n0 ≤ n → (∀ i, i < n0 ∨ 1000 ≤ i → ad i = ad0 i) → cells ≤ M.2.2.2.2.2.cells → slots ≤ M.2.2.2.2.2.slots → xv_W D A ad h n s H → (∀ w, v = some w → xv_v n w) → va_S A s.heap H locs → Post v h n →
    W p l e M.2.2.2.2.2 s m args below meth c H locs cells slots Qf (F0 m pc ls (v.toList.map (xv_r ad))))
def xv_Q (s : State) (D : va_G) (A : Nat → Prop) (ad0 : Nat → Nat) (n0 : Nat) (ad : Nat → Nat) (H : Heap) (locs : List Loc) (ls : Array Slot) (lv : List (Nat × Value)) (st : List Value) (h : xv_H) (n : Nat) : Prop :=
  n0 ≤ n ∧ (∀ i, i < n0 ∨ 1000 ≤ i → ad i = ad0 i) ∧ xv_W D A ad h n s H ∧ va_S A s.heap H locs ∧ lv_has ls M.2.2.1 (xv_lr ad lv) ∧ (∀ q ∈ lv, xv_v n q.2) ∧ ∀ v ∈ st, xv_v n v
def xv_V (cells slots pc : Nat) (lv : List (Nat × Value)) (st : List Value) (h : xv_H) (n : Nat) : Prop :=
  ∀ (p : Program) (l : Launch) (e : Env) (s : State) (m : MethodId) (args : Array Value) (below : List Frame) (meth : Method) (c : Code) (D : va_G) (A : Nat → Prop) (ad0 : Nat → Nat) (n0 : Nat) (Qf : State → Prop), xv_C X M Post p l e s m args below meth c D A ad0 n0 Qf →
    ∀ (ad : Nat → Nat) (H : Heap) (locs : List Loc) (ls : Array Slot), xv_Q M s D A ad0 n0 ad H locs ls lv st h n → W p l e M.2.2.2.2.2 s m args below meth c H locs cells slots Qf (F0 m pc ls (st.map (xv_r ad)))
end XV
section XR
variable {X : Nat × (Nat → Int32)} {M : xv_M} {Post : xv_P} {cells slots pc q : Nat} {lv lv' : List (Nat × Value)} {st : List Value} {h : xv_H} {n : Nat}
theorem xv_step {st' : List Value} (k : xv_V X M Post cells slots q lv st' h n) (f : ∀ (p : Program) (l : Launch) (e : Env) (s : State) (m : MethodId) (args : Array Value) (below : List Frame) (meth : Method) (c : Code) (Qf : State → Prop) (H : Heap) (locs : List Loc) (ls : Array Slot) (ad : Nat → Nat), p.tables.exec = Jvm.exec → c.code = M.2.1 → c.maxLocals = M.2.2.1 → s.vm.findClass M.1 = some m.cls → (∀ w ∈ xv_g, w.before args s = true) → ls.size = M.2.2.1 → (∀ i v, xv_get lv i = some v → ls[i]? = some (.val (xv_r ad v))) →
      W p l e M.2.2.2.2.2 s m args below meth c H locs cells slots Qf (F0 m q ls (st'.map (xv_r ad))) → W p l e M.2.2.2.2.2 s m args below meth c H locs cells slots Qf (F0 m pc ls (st.map (xv_r ad))))
    (hv : (∀ x ∈ lv, xv_v n x.2) → (∀ v ∈ st, xv_v n v) → ∀ v ∈ st', xv_v n v) : xv_V X M Post cells slots pc lv st h n :=
  fun p l e s m args below meth c D A ad0 n0 Qf C ad H locs ls Q => f p l e s m args below meth c Qf H locs ls ad C.1 C.2.1 C.2.2.1 C.2.2.2.1 C.2.2.2.2.1 Q.2.2.2.2.1.1 (fun i v g => Q.2.2.2.2.1.2.2 (i, xv_r ad v) (xv_lrm (xv_gm g)))
    (k p l e s m args below meth c D A ad0 n0 Qf C ad H locs ls ⟨Q.1, Q.2.1, Q.2.2.1, Q.2.2.2.1, Q.2.2.2.2.1, Q.2.2.2.2.2.1, hv Q.2.2.2.2.2.1 Q.2.2.2.2.2.2⟩)
theorem xv_2 {c : Prop} {st1 st2 : List Value} {q2 : Nat} (f : ∀ (p : Program) (l : Launch) (e : Env) (s : State) (m : MethodId) (args : Array Value) (below : List Frame) (meth : Method) (c0 : Code) (Qf : State → Prop) (H : Heap) (locs : List Loc) (ls : Array Slot) (ad : Nat → Nat), p.tables.exec = Jvm.exec → c0.code = M.2.1 →
      (c → W p l e M.2.2.2.2.2 s m args below meth c0 H locs cells slots Qf (F0 m q ls (st1.map (xv_r ad)))) → (¬ c → W p l e M.2.2.2.2.2 s m args below meth c0 H locs cells slots Qf (F0 m q2 ls (st1.map (xv_r ad)))) → W p l e M.2.2.2.2.2 s m args below meth c0 H locs cells slots Qf (F0 m pc ls (st2.map (xv_r ad))))
    (hv : ∀ v ∈ st1, v ∈ st2) (k1 : c → xv_V X M Post cells slots q lv st1 h n) (k2 : ¬ c → xv_V X M Post cells slots q2 lv st1 h n) : xv_V X M Post cells slots pc lv st2 h n :=
  fun p l e s m args below meth c D A ad0 n0 Qf C ad H locs ls Q => f p l e s m args below meth c Qf H locs ls ad C.1 C.2.1
    (fun z => k1 z p l e s m args below meth c D A ad0 n0 Qf C ad H locs ls ⟨Q.1, Q.2.1, Q.2.2.1, Q.2.2.2.1, Q.2.2.2.2.1, Q.2.2.2.2.2.1, fun v hm => Q.2.2.2.2.2.2 v (hv v hm)⟩)
    (fun z => k2 z p l e s m args below meth c D A ad0 n0 Qf C ad H locs ls ⟨Q.1, Q.2.1, Q.2.2.1, Q.2.2.2.1, Q.2.2.2.2.1, Q.2.2.2.2.2.1, fun v hm => Q.2.2.2.2.2.2 v (hv v hm)⟩)
/-- fewer locals, in any order -/
theorem xv_weak (hl : ∀ x ∈ lv', xv_get lv x.1 = some x.2) (k : xv_V X M Post cells slots pc lv' st h n) : xv_V X M Post cells slots pc lv st h n :=
  fun p l e s m args below meth c D A ad0 n0 Qf C ad H locs ls Q => k p l e s m args below meth c D A ad0 n0 Qf C ad H locs ls ⟨Q.1, Q.2.1, Q.2.2.1, Q.2.2.2.1, ⟨Q.2.2.2.2.1.1, Q.2.2.2.2.1.2.1, fun x hx => by
    obtain ⟨y, hy, rfl⟩ := List.mem_map.mp hx
    exact Q.2.2.2.2.1.2.2 _ (xv_lrm (xv_gm (hl y hy)))⟩, fun x hx => Q.2.2.2.2.2.1 (x.1, x.2) (xv_gm (hl x hx)), Q.2.2.2.2.2.2⟩
theorem xv_sumc (ad : Nat → Nat) (l : List Value) : ((l.map (xv_r ad)).map fun v => v.category).sum = (l.map fun v => v.category).sum := by
  rw [List.map_map]
  exact congrArg List.sum (List.map_congr_left fun v _ => xv_rcat ad v)
theorem xv_vint {n : Nat} {x : Int32} : xv_v n (.int x) := trivial
theorem xv_vlong {n : Nat} {x : Int64} : xv_v n (.long x) := trivial
theorem xv_cons {n : Nat} {v : Value} {l : List Value} (h : xv_v n v) (hl : ∀ w ∈ l, xv_v n w) : ∀ w ∈ v :: l, xv_v n w := fun w hw => (List.mem_cons.mp hw).elim (fun e => e ▸ h) (hl w)
theorem xv_tl {n : Nat} {v : Value} {l : List Value} (hl : ∀ w ∈ v :: l, xv_v n w) : ∀ w ∈ l, xv_v n w := fun w hw => hl w (List.mem_cons_of_mem _ hw)
-- constants
theorem xi_iconst {i : Int} {x : Int32} (hd : decode M.2.1 pc = .ok (.iconst i, 1)) (hx : Int32.ofInt i = x) (hq : pc + 1 = q) (k : xv_V X M Post cells slots q lv (.int x :: st) h n) : xv_V X M Post cells slots pc lv st h n := by
  subst hq
  exact xv_step k (fun _ _ _ _ _ _ _ _ _ _ _ _ _ _ e b _ _ _ _ _ w => lv_iconst e b hd hx w) (fun _ z => xv_cons trivial z)
theorem xi_bipush {i : Int} {x : Int32} (hd : decode M.2.1 pc = .ok (.bipush i, 2)) (hx : (Int8.ofInt i).toInt32 = x) (hq : pc + 2 = q) (k : xv_V X M Post cells slots q lv (.int x :: st) h n) : xv_V X M Post cells slots pc lv st h n := by
  subst hq
  exact xv_step k (fun _ _ _ _ _ _ _ _ _ _ _ _ _ _ e b _ _ _ _ _ w => lv_bipush e b hd hx w) (fun _ z => xv_cons trivial z)
theorem xi_sipush {i : Int} {x : Int32} (hd : decode M.2.1 pc = .ok (.sipush i, 3)) (hx : (Int16.ofInt i).toInt32 = x) (hq : pc + 3 = q) (k : xv_V X M Post cells slots q lv (.int x :: st) h n) : xv_V X M Post cells slots pc lv st h n := by
  subst hq
  exact xv_step k (fun _ _ _ _ _ _ _ _ _ _ _ _ _ _ e b _ _ _ _ _ w => lv_sipush e b hd hx w) (fun _ z => xv_cons trivial z)
theorem xi_lconst {i : Fin 2} {x : Int64} (hd : decode M.2.1 pc = .ok (.lconst i, 1)) (hx : Int64.ofNat i = x) (hq : pc + 1 = q) (k : xv_V X M Post cells slots q lv (.long x :: st) h n) : xv_V X M Post cells slots pc lv st h n := by
  subst hq
  exact xv_step k (fun _ _ _ _ _ _ _ _ _ _ _ _ _ _ e b _ _ _ _ _ w => lv_lconst e b hd hx w) (fun _ z => xv_cons trivial z)
theorem xi_null (hd : decode M.2.1 pc = .ok (.aconst_null, 1)) (hq : pc + 1 = q) (k : xv_V X M Post cells slots q lv (.null :: st) h n) : xv_V X M Post cells slots pc lv st h n := by
  subst hq
  exact xv_step k (fun _ _ _ _ _ _ _ _ _ _ _ _ _ _ e b _ _ _ _ _ w => lv_null e b hd w) (fun _ z => xv_cons trivial z)
theorem xi_ldc {i : Nat} {x : Int32} (hd : decode M.2.1 pc = .ok (.ldc i, 2)) (hw : Cond.constant M.1 i x ∈ xv_g) (hq : pc + 2 = q) (k : xv_V X M Post cells slots q lv (.int x :: st) h n) : xv_V X M Post cells slots pc lv st h n := by
  subst hq
  exact xv_step k (fun _ _ _ _ _ _ _ _ _ _ _ _ _ _ e b _ o t _ _ w => lv_ldc e b o (t _ hw) hd w) (fun _ z => xv_cons trivial z)
theorem xi_ldcw {i : Nat} {x : Int32} (hd : decode M.2.1 pc = .ok (.ldc_w i, 3)) (hw : Cond.constant M.1 i x ∈ xv_g) (hq : pc + 3 = q) (k : xv_V X M Post cells slots q lv (.int x :: st) h n) : xv_V X M Post cells slots pc lv st h n := by
  subst hq
  exact xv_step k (fun _ _ _ _ _ _ _ _ _ _ _ _ _ _ e b _ o t _ _ w => lv_ldcw e b o (t _ hw) hd w) (fun _ z => xv_cons trivial z)
theorem xi_ldc2 {i : Nat} {x : Int64} (hd : decode M.2.1 pc = .ok (.ldc2_w i, 3)) (hw : Cond.constantLong M.1 i x ∈ xv_g) (hq : pc + 3 = q) (k : xv_V X M Post cells slots q lv (.long x :: st) h n) : xv_V X M Post cells slots pc lv st h n := by
  subst hq
  exact xv_step k (fun _ _ _ _ _ _ _ _ _ _ _ _ _ _ e b _ o t _ _ w => lv_ldc2 e b o (t _ hw) hd w) (fun _ z => xv_cons trivial z)
-- locals
theorem xi_iload_n {i : Fin 4} {x : Int32} (hd : decode M.2.1 pc = .ok (.iload_n i, 1)) (hl : xv_get lv i = some (.int x)) (hq : pc + 1 = q) (k : xv_V X M Post cells slots q lv (.int x :: st) h n) : xv_V X M Post cells slots pc lv st h n := by
  subst hq
  exact xv_step k (fun _ _ _ _ _ _ _ _ _ _ _ _ _ _ e b _ _ _ _ g w => lv_iload_n e b hd rfl (g _ _ hl) w) (fun _ z => xv_cons trivial z)
theorem xi_iload {i : Nat} {x : Int32} (hd : decode M.2.1 pc = .ok (.iload i, 2)) (hl : xv_get lv i = some (.int x)) (hq : pc + 2 = q) (k : xv_V X M Post cells slots q lv (.int x :: st) h n) : xv_V X M Post cells slots pc lv st h n := by
  subst hq
  exact xv_step k (fun _ _ _ _ _ _ _ _ _ _ _ _ _ _ e b _ _ _ _ g w => lv_iload e b hd (g _ _ hl) w) (fun _ z => xv_cons trivial z)
theorem xi_lload_n {i : Fin 4} {x : Int64} (hd : decode M.2.1 pc = .ok (.lload_n i, 1)) (hl : xv_get lv i = some (.long x)) (hq : pc + 1 = q) (k : xv_V X M Post cells slots q lv (.long x :: st) h n) : xv_V X M Post cells slots pc lv st h n := by
  subst hq
  exact xv_step k (fun _ _ _ _ _ _ _ _ _ _ _ _ _ _ e b _ _ _ _ g w => lv_lload_n e b hd rfl (g _ _ hl) w) (fun _ z => xv_cons trivial z)
theorem xi_lload {i : Nat} {x : Int64} (hd : decode M.2.1 pc = .ok (.lload i, 2)) (hl : xv_get lv i = some (.long x)) (hq : pc + 2 = q) (k : xv_V X M Post cells slots q lv (.long x :: st) h n) : xv_V X M Post cells slots pc lv st h n := by
  subst hq
  exact xv_step k (fun _ _ _ _ _ _ _ _ _ _ _ _ _ _ e b _ _ _ _ g w => lv_lload e b hd (g _ _ hl) w) (fun _ z => xv_cons trivial z)
theorem xi_aload_n {i : Fin 4} {a : Nat} (hd : decode M.2.1 pc = .ok (.aload_n i, 1)) (hl : xv_get lv i = some (.ref a)) (hq : pc + 1 = q) (k : xv_V X M Post cells slots q lv (.ref a :: st) h n) : xv_V X M Post cells slots pc lv st h n := by
  subst hq
  exact xv_step k (fun _ _ _ _ _ _ _ _ _ _ _ _ _ _ e b _ _ _ _ g w => lv_aload_n e b hd rfl (g _ _ hl) w) (fun y z => xv_cons (y _ (xv_gm hl)) z)
theorem xi_aload {i : Nat} {a : Nat} (hd : decode M.2.1 pc = .ok (.aload i, 2)) (hl : xv_get lv i = some (.ref a)) (hq : pc + 2 = q) (k : xv_V X M Post cells slots q lv (.ref a :: st) h n) : xv_V X M Post cells slots pc lv st h n := by
  subst hq
  exact xv_step k (fun _ _ _ _ _ _ _ _ _ _ _ _ _ _ e b _ _ _ _ g w => lv_aload e b hd (g _ _ hl) w) (fun y z => xv_cons (y _ (xv_gm hl)) z)
theorem xi_aload_nN {i : Fin 4} (hd : decode M.2.1 pc = .ok (.aload_n i, 1)) (hl : xv_get lv i = some .null) (hq : pc + 1 = q) (k : xv_V X M Post cells slots q lv (.null :: st) h n) : xv_V X M Post cells slots pc lv st h n := by
  subst hq
  exact xv_step k (fun _ _ _ _ _ _ _ _ _ _ _ _ _ _ e b _ _ _ _ g w => lv_aload_nN e b hd rfl (g _ _ hl) w) (fun _ z => xv_cons trivial z)
theorem xi_aloadN {i : Nat} (hd : decode M.2.1 pc = .ok (.aload i, 2)) (hl : xv_get lv i = some .null) (hq : pc + 2 = q) (k : xv_V X M Post cells slots q lv (.null :: st) h n) : xv_V X M Post cells slots pc lv st h n := by
  subst hq
  exact xv_step k (fun _ _ _ _ _ _ _ _ _ _ _ _ _ _ e b _ _ _ _ g w => lv_aloadN e b hd (g _ _ hl) w) (fun _ z => xv_cons trivial z)
theorem xv_vset {n i : Nat} {v : Value} {l : List (Nat × Value)} (hv : xv_v n v) (hl : ∀ q ∈ l, xv_v n q.2) : ∀ q ∈ xv_set l i v, xv_v n q.2 := fun q hq => (List.mem_cons.mp hq).elim (fun e => by rw [e]; exact hv) (fun h => hl q ((List.mem_filter.mp h).1))
theorem xv_vsetL {n i : Nat} {v : Value} {l : List (Nat × Value)} (hv : xv_v n v) (hl : ∀ q ∈ l, xv_v n q.2) : ∀ q ∈ xv_setL l i v, xv_v n q.2 := fun q hq => (List.mem_cons.mp hq).elim (fun e => by rw [e]; exact hv) (fun h => hl q ((List.mem_filter.mp h).1))
/-- a store into a local -/
theorem xv_stl {v : Value} {lv1 : List (Nat × Value)} (f : ∀ (p : Program) (l : Launch) (e : Env) (s : State) (m : MethodId) (args : Array Value) (below : List Frame) (meth : Method) (c : Code) (Qf : State → Prop) (H : Heap) (locs : List Loc) (ls : Array Slot) (ad : Nat → Nat), p.tables.exec = Jvm.exec → c.code = M.2.1 → lv_has ls M.2.2.1 (xv_lr ad lv) →
      (∀ ls' : Array Slot, lv_has ls' M.2.2.1 (xv_lr ad lv1) → W p l e M.2.2.2.2.2 s m args below meth c H locs cells slots Qf (F0 m q ls' (st.map (xv_r ad)))) → W p l e M.2.2.2.2.2 s m args below meth c H locs cells slots Qf (F0 m pc ls ((v :: st).map (xv_r ad))))
    (hv : ∀ n, xv_v n v → (∀ q ∈ lv, xv_v n q.2) → ∀ q ∈ lv1, xv_v n q.2) (k : xv_V X M Post cells slots q lv1 st h n) : xv_V X M Post cells slots pc lv (v :: st) h n :=
  fun p l e s m args below meth c D A ad0 n0 Qf C ad H locs ls Q => f p l e s m args below meth c Qf H locs ls ad C.1 C.2.1 Q.2.2.2.2.1 fun ls' hl' =>
    k p l e s m args below meth c D A ad0 n0 Qf C ad H locs ls' ⟨Q.1, Q.2.1, Q.2.2.1, Q.2.2.2.1, hl', hv n (Q.2.2.2.2.2.2 v List.mem_cons_self) Q.2.2.2.2.2.1, xv_tl Q.2.2.2.2.2.2⟩
theorem xi_istore_n {i : Fin 4} {x : Int32} (hd : decode M.2.1 pc = .ok (.istore_n i, 1)) (hi : (i : Nat) < M.2.2.1) (hq : pc + 1 = q) (k : xv_V X M Post cells slots q (xv_set lv i (.int x)) st h n) : xv_V X M Post cells slots pc lv (.int x :: st) h n := by
  subst hq
  exact xv_stl (fun _ _ _ _ _ _ _ _ _ _ _ _ _ ad e b g w => lv_istore_n e b hd rfl g hi (xv_lrset ad lv i (.int x)) w) (fun _ a b => xv_vset a b) k
theorem xi_istore {i : Nat} {x : Int32} (hd : decode M.2.1 pc = .ok (.istore i, 2)) (hi : i < M.2.2.1) (hq : pc + 2 = q) (k : xv_V X M Post cells slots q (xv_set lv i (.int x)) st h n) : xv_V X M Post cells slots pc lv (.int x :: st) h n := by
  subst hq
  exact xv_stl (fun _ _ _ _ _ _ _ _ _ _ _ _ _ ad e b g w => lv_istore e b hd g hi (xv_lrset ad lv i (.int x)) w) (fun _ a b => xv_vset a b) k
theorem xi_astore_n {i : Fin 4} {x : Nat} (hd : decode M.2.1 pc = .ok (.astore_n i, 1)) (hi : (i : Nat) < M.2.2.1) (hq : pc + 1 = q) (k : xv_V X M Post cells slots q (xv_set lv i (.ref x)) st h n) : xv_V X M Post cells slots pc lv (.ref x :: st) h n := by
  subst hq
  exact xv_stl (fun _ _ _ _ _ _ _ _ _ _ _ _ _ ad e b g w => lv_astore_n e b hd rfl g hi (xv_lrset ad lv i (.ref x)) w) (fun _ a b => xv_vset a b) k
theorem xi_astore {i : Nat} {x : Nat} (hd : decode M.2.1 pc = .ok (.astore i, 2)) (hi : i < M.2.2.1) (hq : pc + 2 = q) (k : xv_V X M Post cells slots q (xv_set lv i (.ref x)) st h n) : xv_V X M Post cells slots pc lv (.ref x :: st) h n := by
  subst hq
  exact xv_stl (fun _ _ _ _ _ _ _ _ _ _ _ _ _ ad e b g w => lv_astore e b hd g hi (xv_lrset ad lv i (.ref x)) w) (fun _ a b => xv_vset a b) k
theorem xi_astore_nN {i : Fin 4} (hd : decode M.2.1 pc = .ok (.astore_n i, 1)) (hi : (i : Nat) < M.2.2.1) (hq : pc + 1 = q) (k : xv_V X M Post cells slots q (xv_set lv i .null) st h n) : xv_V X M Post cells slots pc lv (.null :: st) h n := by
  subst hq
  exact xv_stl (fun _ _ _ _ _ _ _ _ _ _ _ _ _ ad e b g w => lv_astore_nN e b hd rfl g hi (xv_lrset ad lv i .null) w) (fun _ a b => xv_vset a b) k
theorem xi_astoreN {i : Nat} (hd : decode M.2.1 pc = .ok (.astore i, 2)) (hi : i < M.2.2.1) (hq : pc + 2 = q) (k : xv_V X M Post cells slots q (xv_set lv i .null) st h n) : xv_V X M Post cells slots pc lv (.null :: st) h n := by
  subst hq
  exact xv_stl (fun _ _ _ _ _ _ _ _ _ _ _ _ _ ad e b g w => lv_astoreN e b hd g hi (xv_lrset ad lv i .null) w) (fun _ a b => xv_vset a b) k
theorem xi_lstore_n {i : Fin 4} {x : Int64} (hd : decode M.2.1 pc = .ok (.lstore_n i, 1)) (hi : (i : Nat) + 1 < M.2.2.1) (hq : pc + 1 = q) (k : xv_V X M Post cells slots q (xv_setL lv i (.long x)) st h n) : xv_V X M Post cells slots pc lv (.long x :: st) h n := by
  subst hq
  exact xv_stl (fun _ _ _ _ _ _ _ _ _ _ _ _ _ ad e b g w => lv_lstore_n e b hd rfl g hi (xv_lrsetL ad lv i (.long x)) w) (fun _ a b => xv_vsetL a b) k
theorem xi_lstore {i : Nat} {x : Int64} (hd : decode M.2.1 pc = .ok (.lstore i, 2)) (hi : i + 1 < M.2.2.1) (hq : pc + 2 = q) (k : xv_V X M Post cells slots q (xv_setL lv i (.long x)) st h n) : xv_V X M Post cells slots pc lv (.long x :: st) h n := by
  subst hq
  exact xv_stl (fun _ _ _ _ _ _ _ _ _ _ _ _ _ ad e b g w => lv_lstore e b hd g hi (xv_lrsetL ad lv i (.long x)) w) (fun _ a b => xv_vsetL a b) k
theorem xi_iinc {i : Nat} {d : Int} {x y : Int32} (hd : decode M.2.1 pc = .ok (.iinc i d, 3)) (hl : xv_get lv i = some (.int x)) (hy : x + Int32.ofInt d = y) (hi : i < M.2.2.1) (hq : pc + 3 = q) (k : xv_V X M Post cells slots q (xv_set lv i (.int y)) st h n) : xv_V X M Post cells slots pc lv st h n := by
  subst hq
  intro p l e s m args below meth c D A ad0 n0 Qf C ad H locs ls Q
  obtain ⟨kk, hk⟩ := List.getElem?_of_mem (xv_lrm (ad := ad) (xv_gm hl))
  exact lv_iinc C.1 C.2.1 hd Q.2.2.2.2.1 hk hy hi (xv_lrset ad lv i (.int y)) fun ls' hl' => k p l e s m args below meth c D A ad0 n0 Qf C ad H locs ls' ⟨Q.1, Q.2.1, Q.2.2.1, Q.2.2.2.1, hl', xv_vset trivial Q.2.2.2.2.2.1, Q.2.2.2.2.2.2⟩
theorem xi_iadd {x y : Int32} (hd : decode M.2.1 pc = .ok (.iadd, 1)) (hq : pc + 1 = q) (k : xv_V X M Post cells slots q lv (.int (x + y) :: st) h n) : xv_V X M Post cells slots pc lv (.int y :: .int x :: st) h n := by
  subst hq
  exact xv_step k (fun _ _ _ _ _ _ _ _ _ _ _ _ _ _ e b _ _ _ _ _ w => lv_iadd e b hd w) (fun _ z => xv_cons trivial (xv_tl (xv_tl z)))
theorem xi_isub {x y : Int32} (hd : decode M.2.1 pc = .ok (.isub, 1)) (hq : pc + 1 = q) (k : xv_V X M Post cells slots q lv (.int (x - y) :: st) h n) : xv_V X M Post cells slots pc lv (.int y :: .int x :: st) h n := by
  subst hq
  exact xv_step k (fun _ _ _ _ _ _ _ _ _ _ _ _ _ _ e b _ _ _ _ _ w => lv_isub e b hd w) (fun _ z => xv_cons trivial (xv_tl (xv_tl z)))
theorem xi_imul {x y : Int32} (hd : decode M.2.1 pc = .ok (.imul, 1)) (hq : pc + 1 = q) (k : xv_V X M Post cells slots q lv (.int (x * y) :: st) h n) : xv_V X M Post cells slots pc lv (.int y :: .int x :: st) h n := by
  subst hq
  exact xv_step k (fun _ _ _ _ _ _ _ _ _ _ _ _ _ _ e b _ _ _ _ _ w => lv_imul e b hd w) (fun _ z => xv_cons trivial (xv_tl (xv_tl z)))
theorem xi_iand {x y : Int32} (hd : decode M.2.1 pc = .ok (.iand, 1)) (hq : pc + 1 = q) (k : xv_V X M Post cells slots q lv (.int (x &&& y) :: st) h n) : xv_V X M Post cells slots pc lv (.int y :: .int x :: st) h n := by
  subst hq
  exact xv_step k (fun _ _ _ _ _ _ _ _ _ _ _ _ _ _ e b _ _ _ _ _ w => lv_iand e b hd w) (fun _ z => xv_cons trivial (xv_tl (xv_tl z)))
theorem xi_idiv {x y : Int32} (hd : decode M.2.1 pc = .ok (.idiv, 1)) (hne : ¬ y = 0) (hq : pc + 1 = q) (k : xv_V X M Post cells slots q lv (.int (x / y) :: st) h n) : xv_V X M Post cells slots pc lv (.int y :: .int x :: st) h n := by
  subst hq
  exact xv_step k (fun _ _ _ _ _ _ _ _ _ _ _ _ _ _ e b _ _ _ _ _ w => lv_idiv e b hd hne w) (fun _ z => xv_cons trivial (xv_tl (xv_tl z)))
theorem xi_irem {x y : Int32} (hd : decode M.2.1 pc = .ok (.irem, 1)) (hne : ¬ y = 0) (hq : pc + 1 = q) (k : xv_V X M Post cells slots q lv (.int (x - x / y * y) :: st) h n) : xv_V X M Post cells slots pc lv (.int y :: .int x :: st) h n := by
  subst hq
  exact xv_step k (fun _ _ _ _ _ _ _ _ _ _ _ _ _ _ e b _ _ _ _ _ w => lv_irem e b hd hne w) (fun _ z => xv_cons trivial (xv_tl (xv_tl z)))
theorem xi_ladd {x y : Int64} (hd : decode M.2.1 pc = .ok (.ladd, 1)) (hq : pc + 1 = q) (k : xv_V X M Post cells slots q lv (.long (x + y) :: st) h n) : xv_V X M Post cells slots pc lv (.long y :: .long x :: st) h n := by
  subst hq
  exact xv_step k (fun _ _ _ _ _ _ _ _ _ _ _ _ _ _ e b _ _ _ _ _ w => lv_ladd e b hd w) (fun _ z => xv_cons trivial (xv_tl (xv_tl z)))
theorem xi_lsub {x y : Int64} (hd : decode M.2.1 pc = .ok (.lsub, 1)) (hq : pc + 1 = q) (k : xv_V X M Post cells slots q lv (.long (x - y) :: st) h n) : xv_V X M Post cells slots pc lv (.long y :: .long x :: st) h n := by
  subst hq
  exact xv_step k (fun _ _ _ _ _ _ _ _ _ _ _ _ _ _ e b _ _ _ _ _ w => lv_lsub e b hd w) (fun _ z => xv_cons trivial (xv_tl (xv_tl z)))
theorem xi_lmul {x y : Int64} (hd : decode M.2.1 pc = .ok (.lmul, 1)) (hq : pc + 1 = q) (k : xv_V X M Post cells slots q lv (.long (x * y) :: st) h n) : xv_V X M Post cells slots pc lv (.long y :: .long x :: st) h n := by
  subst hq
  exact xv_step k (fun _ _ _ _ _ _ _ _ _ _ _ _ _ _ e b _ _ _ _ _ w => lv_lmul e b hd w) (fun _ z => xv_cons trivial (xv_tl (xv_tl z)))
theorem xi_ldiv {x y : Int64} (hd : decode M.2.1 pc = .ok (.ldiv, 1)) (hne : ¬ y = 0) (hq : pc + 1 = q) (k : xv_V X M Post cells slots q lv (.long (x / y) :: st) h n) : xv_V X M Post cells slots pc lv (.long y :: .long x :: st) h n := by
  subst hq
  exact xv_step k (fun _ _ _ _ _ _ _ _ _ _ _ _ _ _ e b _ _ _ _ _ w => lv_ldiv e b hd hne w) (fun _ z => xv_cons trivial (xv_tl (xv_tl z)))
theorem xi_ineg {x : Int32} (hd : decode M.2.1 pc = .ok (.ineg, 1)) (hq : pc + 1 = q) (k : xv_V X M Post cells slots q lv (.int (-x) :: st) h n) : xv_V X M Post cells slots pc lv (.int x :: st) h n := by
  subst hq
  exact xv_step k (fun _ _ _ _ _ _ _ _ _ _ _ _ _ _ e b _ _ _ _ _ w => lv_ineg e b hd w) (fun _ z => xv_cons trivial (xv_tl z))
theorem xi_lcmp {x y : Int64} (hd : decode M.2.1 pc = .ok (.lcmp, 1)) (hq : pc + 1 = q) (k : xv_V X M Post cells slots q lv (.int (lg_cmp x y) :: st) h n) : xv_V X M Post cells slots pc lv (.long y :: .long x :: st) h n := by
  subst hq
  exact xv_step k (fun _ _ _ _ _ _ _ _ _ _ _ _ _ _ e b _ _ _ _ _ w => W.lcmp e b hd w) (fun _ z => xv_cons trivial (xv_tl (xv_tl z)))
theorem xi_i2l {x : Int32} (hd : decode M.2.1 pc = .ok (.i2l, 1)) (hq : pc + 1 = q) (k : xv_V X M Post cells slots q lv (.long (x.toInt64) :: st) h n) : xv_V X M Post cells slots pc lv (.int x :: st) h n := by
  subst hq
  exact xv_step k (fun _ _ _ _ _ _ _ _ _ _ _ _ _ _ e b _ _ _ _ _ w => lv_i2l e b hd rfl w) (fun _ z => xv_cons trivial (xv_tl z))
theorem xi_l2i {x : Int64} (hd : decode M.2.1 pc = .ok (.l2i, 1)) (hq : pc + 1 = q) (k : xv_V X M Post cells slots q lv (.int (x.toInt32) :: st) h n) : xv_V X M Post cells slots pc lv (.long x :: st) h n := by
  subst hq
  exact xv_step k (fun _ _ _ _ _ _ _ _ _ _ _ _ _ _ e b _ _ _ _ _ w => lv_l2i e b hd rfl w) (fun _ z => xv_cons trivial (xv_tl z))
theorem xi_i2b {x : Int32} (hd : decode M.2.1 pc = .ok (.i2b, 1)) (hq : pc + 1 = q) (k : xv_V X M Post cells slots q lv (.int (x.toInt8.toInt32) :: st) h n) : xv_V X M Post cells slots pc lv (.int x :: st) h n := by
  subst hq
  exact xv_step k (fun _ _ _ _ _ _ _ _ _ _ _ _ _ _ e b _ _ _ _ _ w => lv_i2b e b hd rfl w) (fun _ z => xv_cons trivial (xv_tl z))
theorem xi_i2s {x : Int32} (hd : decode M.2.1 pc = .ok (.i2s, 1)) (hq : pc + 1 = q) (k : xv_V X M Post cells slots q lv (.int (x.toInt16.toInt32) :: st) h n) : xv_V X M Post cells slots pc lv (.int x :: st) h n := by
  subst hq
  exact xv_step k (fun _ _ _ _ _ _ _ _ _ _ _ _ _ _ e b _ _ _ _ _ w => lv_i2s e b hd rfl w) (fun _ z => xv_cons trivial (xv_tl z))
theorem xi_dup {v : Value} (hd : decode M.2.1 pc = .ok (.dup, 1)) (hv : v.category = 1) (hq : pc + 1 = q) (k : xv_V X M Post cells slots q lv (v :: v :: st) h n) : xv_V X M Post cells slots pc lv (v :: st) h n := by
  subst hq
  exact xv_step k (fun _ _ _ _ _ _ _ _ _ _ _ _ _ ad e b _ _ _ _ _ w => lv_dup e b hd (by rw [xv_rcat]; exact hv) w) (fun _ z => xv_cons (z v List.mem_cons_self) z)
theorem xi_if_eq {x : Int32} {off : Int} {q2 : Nat} (hd : decode M.2.1 pc = .ok (.ifCond .eq off, 3)) (ht : (pc : Int) + off = (q2 : Int)) (hq : pc + 3 = q) (k1 : x = 0 → xv_V X M Post cells slots q2 lv st h n) (k2 : ¬ (x = 0) → xv_V X M Post cells slots q lv st h n) : xv_V X M Post cells slots pc lv (.int x :: st) h n := by
  subst hq
  exact xv_2 (fun _ _ _ _ _ _ _ _ _ _ _ _ _ _ e b w1 w2 => lv_if_eq e b hd ht w1 w2) (fun v hm => List.mem_cons_of_mem _ hm) k1 k2
theorem xi_icmp_eq {x y : Int32} {off : Int} {q2 : Nat} (hd : decode M.2.1 pc = .ok (.if_icmp .eq off, 3)) (ht : (pc : Int) + off = (q2 : Int)) (hq : pc + 3 = q) (k1 : x = y → xv_V X M Post cells slots q2 lv st h n) (k2 : ¬ (x = y) → xv_V X M Post cells slots q lv st h n) : xv_V X M Post cells slots pc lv (.int y :: .int x :: st) h n := by
  subst hq
  exact xv_2 (fun _ _ _ _ _ _ _ _ _ _ _ _ _ _ e b w1 w2 => lv_icmp_eq e b hd ht w1 w2) (fun v hm => List.mem_cons_of_mem _ (List.mem_cons_of_mem _ hm)) k1 k2
theorem xi_if_ne {x : Int32} {off : Int} {q2 : Nat} (hd : decode M.2.1 pc = .ok (.ifCond .ne off, 3)) (ht : (pc : Int) + off = (q2 : Int)) (hq : pc + 3 = q) (k1 : ¬ x = 0 → xv_V X M Post cells slots q2 lv st h n) (k2 : x = 0 → xv_V X M Post cells slots q lv st h n) : xv_V X M Post cells slots pc lv (.int x :: st) h n := by
  subst hq
  exact xv_2 (fun _ _ _ _ _ _ _ _ _ _ _ _ _ _ e b w1 w2 => lv_if_ne e b hd ht w1 (fun z => w2 fun y => y z)) (fun v hm => List.mem_cons_of_mem _ hm) k1 (fun z => k2 (Decidable.of_not_not z))
theorem xi_icmp_ne {x y : Int32} {off : Int} {q2 : Nat} (hd : decode M.2.1 pc = .ok (.if_icmp .ne off, 3)) (ht : (pc : Int) + off = (q2 : Int)) (hq : pc + 3 = q) (k1 : ¬ x = y → xv_V X M Post cells slots q2 lv st h n) (k2 : x = y → xv_V X M Post cells slots q lv st h n) : xv_V X M Post cells slots pc lv (.int y :: .int x :: st) h n := by
  subst hq
  exact xv_2 (fun _ _ _ _ _ _ _ _ _ _ _ _ _ _ e b w1 w2 => lv_icmp_ne e b hd ht w1 (fun z => w2 fun y => y z)) (fun v hm => List.mem_cons_of_mem _ (List.mem_cons_of_mem _ hm)) k1 (fun z => k2 (Decidable.of_not_not z))
theorem xi_if_lt {x : Int32} {off : Int} {q2 : Nat} (hd : decode M.2.1 pc = .ok (.ifCond .lt off, 3)) (ht : (pc : Int) + off = (q2 : Int)) (hq : pc + 3 = q) (k1 : x < 0 → xv_V X M Post cells slots q2 lv st h n) (k2 : ¬ (x < 0) → xv_V X M Post cells slots q lv st h n) : xv_V X M Post cells slots pc lv (.int x :: st) h n := by
  subst hq
  exact xv_2 (fun _ _ _ _ _ _ _ _ _ _ _ _ _ _ e b w1 w2 => lv_if_lt e b hd ht w1 w2) (fun v hm => List.mem_cons_of_mem _ hm) k1 k2
theorem xi_icmp_lt {x y : Int32} {off : Int} {q2 : Nat} (hd : decode M.2.1 pc = .ok (.if_icmp .lt off, 3)) (ht : (pc : Int) + off = (q2 : Int)) (hq : pc + 3 = q) (k1 : x < y → xv_V X M Post cells slots q2 lv st h n) (k2 : ¬ (x < y) → xv_V X M Post cells slots q lv st h n) : xv_V X M Post cells slots pc lv (.int y :: .int x :: st) h n := by
  subst hq
  exact xv_2 (fun _ _ _ _ _ _ _ _ _ _ _ _ _ _ e b w1 w2 => lv_icmp_lt e b hd ht w1 w2) (fun v hm => List.mem_cons_of_mem _ (List.mem_cons_of_mem _ hm)) k1 k2
theorem xi_if_ge {x : Int32} {off : Int} {q2 : Nat} (hd : decode M.2.1 pc = .ok (.ifCond .ge off, 3)) (ht : (pc : Int) + off = (q2 : Int)) (hq : pc + 3 = q) (k1 : 0 ≤ x → xv_V X M Post cells slots q2 lv st h n) (k2 : ¬ (0 ≤ x) → xv_V X M Post cells slots q lv st h n) : xv_V X M Post cells slots pc lv (.int x :: st) h n := by
  subst hq
  exact xv_2 (fun _ _ _ _ _ _ _ _ _ _ _ _ _ _ e b w1 w2 => lv_if_ge e b hd ht w1 w2) (fun v hm => List.mem_cons_of_mem _ hm) k1 k2
theorem xi_icmp_ge {x y : Int32} {off : Int} {q2 : Nat} (hd : decode M.2.1 pc = .ok (.if_icmp .ge off, 3)) (ht : (pc : Int) + off = (q2 : Int)) (hq : pc + 3 = q) (k1 : y ≤ x → xv_V X M Post cells slots q2 lv st h n) (k2 : ¬ (y ≤ x) → xv_V X M Post cells slots q lv st h n) : xv_V X M Post cells slots pc lv (.int y :: .int x :: st) h n := by
  subst hq
  exact xv_2 (fun _ _ _ _ _ _ _ _ _ _ _ _ _ _ e b w1 w2 => lv_icmp_ge e b hd ht w1 w2) (fun v hm => List.mem_cons_of_mem _ (List.mem_cons_of_mem _ hm)) k1 k2
theorem xi_if_gt {x : Int32} {off : Int} {q2 : Nat} (hd : decode M.2.1 pc = .ok (.ifCond .gt off, 3)) (ht : (pc : Int) + off = (q2 : Int)) (hq : pc + 3 = q) (k1 : 0 < x → xv_V X M Post cells slots q2 lv st h n) (k2 : ¬ (0 < x) → xv_V X M Post cells slots q lv st h n) : xv_V X M Post cells slots pc lv (.int x :: st) h n := by
  subst hq
  exact xv_2 (fun _ _ _ _ _ _ _ _ _ _ _ _ _ _ e b w1 w2 => lv_if_gt e b hd ht w1 w2) (fun v hm => List.mem_cons_of_mem _ hm) k1 k2
theorem xi_icmp_gt {x y : Int32} {off : Int} {q2 : Nat} (hd : decode M.2.1 pc = .ok (.if_icmp .gt off, 3)) (ht : (pc : Int) + off = (q2 : Int)) (hq : pc + 3 = q) (k1 : y < x → xv_V X M Post cells slots q2 lv st h n) (k2 : ¬ (y < x) → xv_V X M Post cells slots q lv st h n) : xv_V X M Post cells slots pc lv (.int y :: .int x :: st) h n := by
  subst hq
  exact xv_2 (fun _ _ _ _ _ _ _ _ _ _ _ _ _ _ e b w1 w2 => lv_icmp_gt e b hd ht w1 w2) (fun v hm => List.mem_cons_of_mem _ (List.mem_cons_of_mem _ hm)) k1 k2
theorem xi_if_le {x : Int32} {off : Int} {q2 : Nat} (hd : decode M.2.1 pc = .ok (.ifCond .le off, 3)) (ht : (pc : Int) + off = (q2 : Int)) (hq : pc + 3 = q) (k1 : x ≤ 0 → xv_V X M Post cells slots q2 lv st h n) (k2 : ¬ (x ≤ 0) → xv_V X M Post cells slots q lv st h n) : xv_V X M Post cells slots pc lv (.int x :: st) h n := by
  subst hq
  exact xv_2 (fun _ _ _ _ _ _ _ _ _ _ _ _ _ _ e b w1 w2 => lv_if_le e b hd ht w1 w2) (fun v hm => List.mem_cons_of_mem _ hm) k1 k2
theorem xi_icmp_le {x y : Int32} {off : Int} {q2 : Nat} (hd : decode M.2.1 pc = .ok (.if_icmp .le off, 3)) (ht : (pc : Int) + off = (q2 : Int)) (hq : pc + 3 = q) (k1 : x ≤ y → xv_V X M Post cells slots q2 lv st h n) (k2 : ¬ (x ≤ y) → xv_V X M Post cells slots q lv st h n) : xv_V X M Post cells slots pc lv (.int y :: .int x :: st) h n := by
  subst hq
  exact xv_2 (fun _ _ _ _ _ _ _ _ _ _ _ _ _ _ e b w1 w2 => lv_icmp_le e b hd ht w1 w2) (fun v hm => List.mem_cons_of_mem _ (List.mem_cons_of_mem _ hm)) k1 k2
theorem xi_goto {off : Int} (hd : decode M.2.1 pc = .ok (.goto off, 3)) (ht : (pc : Int) + off = (q : Int)) (k : xv_V X M Post cells slots q lv st h n) : xv_V X M Post cells slots pc lv st h n :=
  xv_step k (fun _ _ _ _ _ _ _ _ _ _ _ _ _ _ e b _ _ _ _ _ w => lv_goto e b hd ht w) (fun _ z => z)
theorem xi_ifnonnull_r {a : Nat} {off : Int} (hd : decode M.2.1 pc = .ok (.ifnonnull off, 3)) (ht : (pc : Int) + off = (q : Int)) (k : xv_V X M Post cells slots q lv st h n) : xv_V X M Post cells slots pc lv (.ref a :: st) h n := by
  exact xv_step k (fun _ _ _ _ _ _ _ _ _ _ _ _ _ _ e b _ _ _ _ _ w => lv_ifnonnull e b hd ht w) (fun _ z => xv_tl z)
theorem xi_ifnonnull_n {off : Int} (hd : decode M.2.1 pc = .ok (.ifnonnull off, 3)) (hq : pc + 3 = q) (k : xv_V X M Post cells slots q lv st h n) : xv_V X M Post cells slots pc lv (.null :: st) h n := by
  subst hq
  exact xv_step k (fun _ _ _ _ _ _ _ _ _ _ _ _ _ _ e b _ _ _ _ _ w => lv_ifnonnullN e b hd  w) (fun _ z => xv_tl z)
theorem xi_ifnull_r {a : Nat} {off : Int} (hd : decode M.2.1 pc = .ok (.ifnull off, 3)) (hq : pc + 3 = q) (k : xv_V X M Post cells slots q lv st h n) : xv_V X M Post cells slots pc lv (.ref a :: st) h n := by
  subst hq
  exact xv_step k (fun _ _ _ _ _ _ _ _ _ _ _ _ _ _ e b _ _ _ _ _ w => lv_ifnull e b hd  w) (fun _ z => xv_tl z)
theorem xi_ifnull_n {off : Int} (hd : decode M.2.1 pc = .ok (.ifnull off, 3)) (ht : (pc : Int) + off = (q : Int)) (k : xv_V X M Post cells slots q lv st h n) : xv_V X M Post cells slots pc lv (.null :: st) h n := by
  exact xv_step k (fun _ _ _ _ _ _ _ _ _ _ _ _ _ _ e b _ _ _ _ _ w => lv_ifnullN e b hd ht w) (fun _ z => xv_tl z)
theorem xi_tableIn {dflt lo hi : Int} {offs : Array Int} {len : Nat} {x : Int32} {off : Int} (hd : decode M.2.1 pc = .ok (.tableswitch dflt lo hi offs, len)) (h1 : ¬ x.toInt < lo) (h2 : ¬ hi < x.toInt) (ho : offs[(x.toInt - lo).toNat]? = some off) (ht : (pc : Int) + off = (q : Int)) (k : xv_V X M Post cells slots q lv st h n) : xv_V X M Post cells slots pc lv (.int x :: st) h n :=
  xv_step k (fun _ _ _ _ _ _ _ _ _ _ _ _ _ _ e b _ _ _ _ _ w => lv_tableIn e b hd h1 h2 ho ht w) (fun _ z => xv_tl z)
theorem xi_tableOut {dflt lo hi : Int} {offs : Array Int} {len : Nat} {x : Int32} (hd : decode M.2.1 pc = .ok (.tableswitch dflt lo hi offs, len)) (h1 : x.toInt < lo ∨ hi < x.toInt) (ht : (pc : Int) + dflt = (q : Int)) (k : xv_V X M Post cells slots q lv st h n) : xv_V X M Post cells slots pc lv (.int x :: st) h n :=
  xv_step k (fun _ _ _ _ _ _ _ _ _ _ _ _ _ _ e b _ _ _ _ _ w => lv_tableOut e b hd h1 ht w) (fun _ z => xv_tl z)
theorem xi_mmax {x y : Int32} {i : Nat} (hd : decode M.2.1 pc = .ok (.invokestatic i, 3)) (hw : Cond.methodLink M.1 i Lib.Math.max.name ∈ xv_g ∧ Cond.static Lib.Math.max.name ∈ xv_g ∧ Cond.initialized "java/lang/Math" ∈ xv_g ∧ Cond.code Lib.Math.max.name Lib.Math.max.code 2 (some .int) ∈ xv_g) (hf : 1 ≤ M.2.2.2.2.2.frames) (hlo : (st.map fun v => v.category).sum + 13 ≤ M.2.2.2.2.2.locals) (hc : cells ≤ M.2.2.2.2.2.cells) (hs : slots ≤ M.2.2.2.2.2.slots) (hq : pc + 3 = q) (k : xv_V X M Post cells slots q lv (.int ((if x < y then y else x)) :: st) h n) : xv_V X M Post cells slots pc lv (.int y :: .int x :: st) h n := by
  subst hq
  exact xv_step k (fun _ _ _ _ _ _ _ _ _ _ _ _ _ ad e b ml o t z _ w => va_mmax e b (ml.trans z.symm) o (t _ hw.1) (t _ hw.2.1) (t _ hw.2.2.1) (t _ hw.2.2.2) hf (by rw [xv_sumc]; exact hlo) hc hs hd w) (fun _ z => xv_cons trivial (xv_tl (xv_tl z)))
theorem xi_mmin {x y : Int32} {i : Nat} (hd : decode M.2.1 pc = .ok (.invokestatic i, 3)) (hw : Cond.methodLink M.1 i Lib.Math.min.name ∈ xv_g ∧ Cond.static Lib.Math.min.name ∈ xv_g ∧ Cond.initialized "java/lang/Math" ∈ xv_g ∧ Cond.code Lib.Math.min.name Lib.Math.min.code 2 (some .int) ∈ xv_g) (hf : 1 ≤ M.2.2.2.2.2.frames) (hlo : (st.map fun v => v.category).sum + 13 ≤ M.2.2.2.2.2.locals) (hc : cells ≤ M.2.2.2.2.2.cells) (hs : slots ≤ M.2.2.2.2.2.slots) (hq : pc + 3 = q) (k : xv_V X M Post cells slots q lv (.int ((if y < x then y else x)) :: st) h n) : xv_V X M Post cells slots pc lv (.int y :: .int x :: st) h n := by
  subst hq
  exact xv_step k (fun _ _ _ _ _ _ _ _ _ _ _ _ _ ad e b ml o t z _ w => va_mmin e b (ml.trans z.symm) o (t _ hw.1) (t _ hw.2.1) (t _ hw.2.2.1) (t _ hw.2.2.2) hf (by rw [xv_sumc]; exact hlo) hc hs hd w) (fun _ z => xv_cons trivial (xv_tl (xv_tl z)))
theorem xi_mabs {x : Int32} {i : Nat} (hd : decode M.2.1 pc = .ok (.invokestatic i, 3)) (hw : Cond.methodLink M.1 i Lib.Math.abs.name ∈ xv_g ∧ Cond.static Lib.Math.abs.name ∈ xv_g ∧ Cond.initialized "java/lang/Math" ∈ xv_g ∧ Cond.code Lib.Math.abs.name Lib.Math.abs.code 1 (some .int) ∈ xv_g) (hf : 1 ≤ M.2.2.2.2.2.frames) (hlo : (st.map fun v => v.category).sum + 13 ≤ M.2.2.2.2.2.locals) (hc : cells ≤ M.2.2.2.2.2.cells) (hs : slots ≤ M.2.2.2.2.2.slots) (hq : pc + 3 = q) (k : xv_V X M Post cells slots q lv (.int ((if 0 ≤ x then x else 0 - x)) :: st) h n) : xv_V X M Post cells slots pc lv (.int x :: st) h n := by
  subst hq
  exact xv_step k (fun _ _ _ _ _ _ _ _ _ _ _ _ _ ad e b ml o t z _ w => va_mabs e b (ml.trans z.symm) o (t _ hw.1) (t _ hw.2.1) (t _ hw.2.2.1) (t _ hw.2.2.2) hf (by rw [xv_sumc]; exact hlo) hc hs hd w) (fun _ z => xv_cons trivial (xv_tl z))
end XR
section XH
variable {X : Nat × (Nat → Int32)} {M : xv_M} {Post : xv_P} {cells slots pc q : Nat} {lv lv' : List (Nat × Value)} {st : List Value} {h : xv_H} {n : Nat} {a : Nat}
theorem xv_cext {ad ad' : Nat → Nat} {n : Nat} (e : ∀ i, i < n ∨ 1000 ≤ i → ad' i = ad i) {c : ClassId} {x : xv_E} (hx : xv_ve n x) : xv_c ad' c x = xv_c ad c x := by
  match x, hx with
  | .inl (ty, m, .inr (.inr (.inr (.inr f)))), hx =>
    show Sum.inl (c, m, Sum.inr (Sum.inr (Sum.inr (Sum.inr (fun k => (f k).map ad'))))) = Sum.inl (c, m, Sum.inr (Sum.inr (Sum.inr (Sum.inr (fun k => (f k).map ad)))))
    have : (fun k => (f k).map ad') = fun k => (f k).map ad := by
      funext k
      cases hk : f k with
      | none => rfl
      | some b => show some (ad' b) = some (ad b); rw [e b (hx k b hk)]
    rw [this]
  | .inl (_, _, .inl _), _ => rfl
  | .inl (_, _, .inr (.inl _)), _ => rfl
  | .inl (_, _, .inr (.inr (.inl _))), _ => rfl
  | .inl (_, _, .inr (.inr (.inr (.inl _)))), _ => rfl
  | .inr o, hx =>
    show Sum.inr (o.1, o.2.map (xv_r ad')) = Sum.inr (o.1, o.2.map (xv_r ad))
    rw [xv_srext e hx]
/-- a world, one cell of it written -/
theorem xv_Wup {D : va_G} {A : Nat → Prop} {ad : Nat → Nat} {s : State} {H1 : Heap} {cA : Nat → ClassId} (hn : n ≤ 1000) (ht : xv_t s cA h n) (hv : ∀ i, i < n → xv_ve n (h i)) (e : xv_E)
    (hP : va_P D xv_cl ((xv_w ad cA h n).set a (ad a, xv_c ad (cA a) e)) H1) (hD : va_D A ((xv_w ad cA h n).set a (ad a, xv_c ad (cA a) e))) (ht' : ∀ ty x, e = .inl (ty, x) → ArrOfT s (cA a) ty ∧ va_RA s (cA a) ty) (hve : xv_ve n e) : xv_W D A ad (va_up h a e) n s H1 := by
  rw [xv_wset] at hP hD
  refine ⟨hn, cA, hP, hD, fun i hi ty x hx => ?_, fun i hi => ?_⟩
  · by_cases he : i = a
    · subst he
      rw [va_up_self] at hx
      exact ht' ty x hx
    · rw [va_up_ne _ _ he] at hx
      exact ht i hi ty x hx
  · by_cases he : i = a
    · subst he
      rw [va_up_self]
      exact hve
    · rw [va_up_ne _ _ he]
      exact hv i hi
def xv_fl (own : String) (i ci k : Nat) (fin : Bool) (ty : FieldType) : Prop := ∃ (C : String) (T : u_T) (N : Nat) (ty0 : Nat → FieldType), xv_cl[ci]? = some (C, T, N) ∧ (∀ w ∈ u_ws C T N, w ∈ xv_g) ∧ k < N ∧ Cond.fieldLink own i C (T k).2.1 (T k).2.2.1 ∈ xv_g ∧ (T k).1 = C ∧ (T k).2.2.2 = fin ∧ parseFieldDescriptor (T k).2.2.1 = some ty ∧
  (∀ k, k < N → parseFieldDescriptor (T k).2.2.1 = some (ty0 k)) ∧ ∀ a, a < N → ∀ b, b < N → a ≠ b → (T a).2.1 ≠ (T b).2.1
theorem xi_getf {i ci k : Nat} {fin : Bool} {ty : FieldType} {fs : List Value} {v : Value} (hd : decode M.2.1 pc = .ok (.getfield i, 3)) (fl : xv_fl M.1 i ci k fin ty) (hh : a < n ∧ h a = .inr (ci, fs)) (hv : fs[k]? = some v) (hq : pc + 3 = q) (kk : xv_V X M Post cells slots q lv (v :: st) h n) : xv_V X M Post cells slots pc lv (.ref a :: st) h n := by
  subst hq
  intro p l e s m args below meth c D A ad0 n0 Qf C ad H locs ls Q
  obtain ⟨CC, T, N, ty0, hc, hin, hk, hlink, hC, -⟩ := fl
  obtain ⟨hn, cA, hP, hD, ht, hve⟩ := Q.2.2.1
  have he : (xv_w ad cA h n)[a]? = some (ad a, .inr (ci, fs.map (xv_r ad))) := by rw [xv_wget hh.1, hh.2]; rfl
  refine va_get C.1 C.2.1 C.2.2.2.2.1 hin C.2.2.2.1 C.2.2.2.2.2.2.1 hP a he hc k hk (C.2.2.2.2.1 _ hlink) (fun x hx => by rw [← hC]; exact hx) (v := xv_r ad v) (by rw [List.getElem?_map, hv]; rfl) hd ?_
  have hvv : xv_v n v := by
    have := hve a hh.1
    rw [hh.2] at this
    exact this v (List.mem_of_getElem? hv)
  exact kk p l e s m args below meth c D A ad0 n0 Qf C ad H locs ls ⟨Q.1, Q.2.1, Q.2.2.1, Q.2.2.2.1, Q.2.2.2.2.1, Q.2.2.2.2.2.1, xv_cons hvv (xv_tl Q.2.2.2.2.2.2)⟩
theorem xi_putf {i ci k : Nat} {fin : Bool} {ty : FieldType} {fs : List Value} {v : Value} (hd : decode M.2.1 pc = .ok (.putfield i, 3)) (fl : xv_fl M.1 i ci k fin ty) (hh : a < n ∧ h a = .inr (ci, fs)) (hfin : fin = false ∨ (M.2.2.2.1 = true ∧ ∀ q, xv_cl[ci]? = some q → q.1 = M.1)) (hn : ∀ ad, narrow ty (xv_r ad v) = xv_r ad v) (hf : ∀ ad, fits ty (xv_r ad v) = true) (hl : k < fs.length) (hq : pc + 3 = q) (kk : xv_V X M Post cells slots q lv st (va_up h a (.inr (ci, fs.set k v))) n) : xv_V X M Post cells slots pc lv (v :: .ref a :: st) h n := by
  subst hq
  intro p l e s m args below meth c D A ad0 n0 Qf C ad H locs ls Q
  obtain ⟨CC, T, N, ty0, hc, hin, hk, hlink, hC, hfi, hty, hty0, hnm⟩ := fl
  obtain ⟨hn1, cA, hP, hD, ht, hve⟩ := Q.2.2.1
  have he : (xv_w ad cA h n)[a]? = some (ad a, .inr (ci, fs.map (xv_r ad))) := by rw [xv_wget hh.1, hh.2]; rfl
  have hvv : ∀ w ∈ fs.set k v, xv_v n w := fun w hw => by
    rcases List.mem_or_eq_of_mem_set hw with h1 | h1
    · have := hve a hh.1
      rw [hh.2] at this
      exact this w h1
    · rw [h1]; exact Q.2.2.2.2.2.2 v List.mem_cons_self
  have go : ∀ (H1 : Heap) (locs1 : List Loc), va_P D xv_cl ((xv_w ad cA h n).set a (ad a, .inr (ci, (fs.map (xv_r ad)).set k (xv_r ad v)))) H1 → va_D A ((xv_w ad cA h n).set a (ad a, .inr (ci, (fs.map (xv_r ad)).set k (xv_r ad v)))) → va_S A s.heap H1 locs1 → W p l e M.2.2.2.2.2 s m args below meth c H1 locs1 cells slots Qf (F0 m (pc + 3) ls (st.map (xv_r ad))) := by
    intro H1 locs1 hP1 hD1 hS1
    rw [← List.map_set] at hP1 hD1
    exact kk p l e s m args below meth c D A ad0 n0 Qf C ad H1 locs1 ls ⟨Q.1, Q.2.1, xv_Wup hn1 ht hve (.inr (ci, fs.set k v)) hP1 hD1 (fun _ _ h => by cases h) hvv, hS1, Q.2.2.2.2.1, Q.2.2.2.2.2.1, xv_tl (xv_tl Q.2.2.2.2.2.2)⟩
  rcases hfin with h0 | ⟨h0, h1⟩
  · exact va_put C.1 C.2.1 C.2.2.2.2.1 hin ty0 hty0 hnm C.2.2.2.1 C.2.2.2.2.2.2.1 hP hD Q.2.2.2.1 a he hc k hk (C.2.2.2.2.1 _ hlink) (fun x hx => by rw [← hC]; exact hx) (hfi.trans h0) hty (hn ad) (hf ad) (by rw [List.length_map]; exact hl) hd go
  · cases hfb : (T k).2.2.2 with
    | false => exact va_put C.1 C.2.1 C.2.2.2.2.1 hin ty0 hty0 hnm C.2.2.2.1 C.2.2.2.2.2.2.1 hP hD Q.2.2.2.1 a he hc k hk (C.2.2.2.2.1 _ hlink) (fun x hx => by rw [← hC]; exact hx) hfb hty (hn ad) (hf ad) (by rw [List.length_map]; exact hl) hd go
    | true => exact va_putF C.1 C.2.1 C.2.2.2.2.1 hin ty0 hty0 hnm C.2.2.2.1 C.2.2.2.2.2.2.1 hP hD Q.2.2.2.1 a he hc k hk (C.2.2.2.2.1 _ hlink) (fun x hx => by rw [← hC]; exact hx) hfb (C.2.2.2.2.2.1 h0) (hC.trans (h1 _ hc)) hty (hn ad) (hf ad) (by rw [List.length_map]; exact hl) hd go
theorem xi_iald {m0 : Nat} {f : Nat → Int32} {i : Int32} (hd : decode M.2.1 pc = .ok (.iaload, 1)) (hh : a < n ∧ h a = .inl (.int, m0, .inl f)) (hi : vp_in i m0) (hq : pc + 1 = q) (kk : xv_V X M Post cells slots q lv (.int (f i.toNatClampNeg) :: st) h n) : xv_V X M Post cells slots pc lv (.int i :: .ref a :: st) h n := by
  subst hq
  intro p l e s m args below meth c D A ad0 n0 Qf C ad H locs ls Q
  obtain ⟨hn, cA, hP, hD, ht, hve⟩ := Q.2.2.1
  have he : (xv_w ad cA h n)[a]? = some (ad a, .inl (cA a, m0, .inl f)) := by rw [xv_wget hh.1, hh.2]; rfl
  have hK : va_K D xv_cl [(cA a, .int)] s := ⟨C.2.2.2.2.2.2.1.1, fun k w hk => by
    match k, hk with
    | 0, hk => cases hk; exact ht a hh.1 _ _ hh.2
    | k + 1, hk => simp at hk⟩
  exact va_iald C.1 C.2.1 hK hP a 0 he rfl hi hd (kk p l e s m args below meth c D A ad0 n0 Qf C ad H locs ls ⟨Q.1, Q.2.1, Q.2.2.1, Q.2.2.2.1, Q.2.2.2.2.1, Q.2.2.2.2.2.1, xv_cons trivial (xv_tl (xv_tl Q.2.2.2.2.2.2))⟩)
theorem xi_zald {m0 : Nat} {f : Nat → Int32} {i : Int32} (hd : decode M.2.1 pc = .ok (.baload, 1)) (hh : a < n ∧ h a = .inl (.boolean, m0, .inl f)) (hi : vp_in i m0) (hq : pc + 1 = q) (kk : xv_V X M Post cells slots q lv (.int (f i.toNatClampNeg) :: st) h n) : xv_V X M Post cells slots pc lv (.int i :: .ref a :: st) h n := by
  subst hq
  intro p l e s m args below meth c D A ad0 n0 Qf C ad H locs ls Q
  obtain ⟨hn, cA, hP, hD, ht, hve⟩ := Q.2.2.1
  have he : (xv_w ad cA h n)[a]? = some (ad a, .inl (cA a, m0, .inl f)) := by rw [xv_wget hh.1, hh.2]; rfl
  have hK : va_K D xv_cl [(cA a, .boolean)] s := ⟨C.2.2.2.2.2.2.1.1, fun k w hk => by
    match k, hk with
    | 0, hk => cases hk; exact ht a hh.1 _ _ hh.2
    | k + 1, hk => simp at hk⟩
  exact va_zald C.1 C.2.1 hK hP a 0 he rfl hi hd (kk p l e s m args below meth c D A ad0 n0 Qf C ad H locs ls ⟨Q.1, Q.2.1, Q.2.2.1, Q.2.2.2.1, Q.2.2.2.2.1, Q.2.2.2.2.2.1, xv_cons trivial (xv_tl (xv_tl Q.2.2.2.2.2.2))⟩)
theorem xi_iast {m0 : Nat} {f : Nat → Int32} {i x : Int32} (hd : decode M.2.1 pc = .ok (.iastore, 1)) (hh : a < n ∧ h a = .inl (.int, m0, .inl f)) (hi : vp_in i m0) (hq : pc + 1 = q) (kk : xv_V X M Post cells slots q lv st (va_up h a (.inl (.int, m0, .inl (upd f i.toNatClampNeg x)))) n) : xv_V X M Post cells slots pc lv (.int x :: .int i :: .ref a :: st) h n := by
  subst hq
  intro p l e s m args below meth c D A ad0 n0 Qf C ad H locs ls Q
  obtain ⟨hn, cA, hP, hD, ht, hve⟩ := Q.2.2.1
  have he : (xv_w ad cA h n)[a]? = some (ad a, .inl (cA a, m0, .inl f)) := by rw [xv_wget hh.1, hh.2]; rfl
  have hK : va_K D xv_cl [(cA a, .int)] s := ⟨C.2.2.2.2.2.2.1.1, fun k w hk => by
    match k, hk with
    | 0, hk => cases hk; exact ht a hh.1 _ _ hh.2
    | k + 1, hk => simp at hk⟩
  exact va_iast C.1 C.2.1 hK hP hD Q.2.2.2.1 a 0 he rfl hi hd fun H1 locs1 hP1 hD1 hS1 => kk p l e s m args below meth c D A ad0 n0 Qf C ad H1 locs1 ls ⟨Q.1, Q.2.1, xv_Wup hn ht hve (.inl (.int, m0, .inl (upd f i.toNatClampNeg x))) hP1 hD1 (fun ty y e => by cases e; exact ht a hh.1 _ _ hh.2) trivial, hS1, Q.2.2.2.2.1, Q.2.2.2.2.2.1, xv_tl (xv_tl (xv_tl Q.2.2.2.2.2.2))⟩
theorem xi_zast {m0 : Nat} {f : Nat → Int32} {i x : Int32} (hd : decode M.2.1 pc = .ok (.bastore, 1)) (hh : a < n ∧ h a = .inl (.boolean, m0, .inl f)) (hi : vp_in i m0) (hx : vp_nar .boolean x = x) (hq : pc + 1 = q) (kk : xv_V X M Post cells slots q lv st (va_up h a (.inl (.boolean, m0, .inl (upd f i.toNatClampNeg x)))) n) : xv_V X M Post cells slots pc lv (.int x :: .int i :: .ref a :: st) h n := by
  subst hq
  intro p l e s m args below meth c D A ad0 n0 Qf C ad H locs ls Q
  obtain ⟨hn, cA, hP, hD, ht, hve⟩ := Q.2.2.1
  have he : (xv_w ad cA h n)[a]? = some (ad a, .inl (cA a, m0, .inl f)) := by rw [xv_wget hh.1, hh.2]; rfl
  have hK : va_K D xv_cl [(cA a, .boolean)] s := ⟨C.2.2.2.2.2.2.1.1, fun k w hk => by
    match k, hk with
    | 0, hk => cases hk; exact ht a hh.1 _ _ hh.2
    | k + 1, hk => simp at hk⟩
  exact va_zast C.1 C.2.1 hK hP hD Q.2.2.2.1 a 0 he rfl hi hd fun H1 locs1 hP1 hD1 hS1 => kk p l e s m args below meth c D A ad0 n0 Qf C ad H1 locs1 ls ⟨Q.1, Q.2.1, xv_Wup hn ht hve (.inl (.boolean, m0, .inl (upd f i.toNatClampNeg x))) (by rw [hx] at hP1; exact hP1) (by rw [hx] at hD1; exact hD1) (fun ty y e => by cases e; exact ht a hh.1 _ _ hh.2) trivial, hS1, Q.2.2.2.2.1, Q.2.2.2.2.2.1, xv_tl (xv_tl (xv_tl Q.2.2.2.2.2.2))⟩
theorem xi_aald {ty : FieldType} {m0 : Nat} {f : Nat → Option Nat} {i : Int32} {v : Value} (hd : decode M.2.1 pc = .ok (.aaload, 1)) (hh : a < n ∧ h a = .inl (ty, m0, .inr (.inr (.inr (.inr f))))) (hty : ty.isReference = true) (hi : vp_in i m0) (hv : va_rf (f i.toNatClampNeg) = v) (hq : pc + 1 = q) (kk : xv_V X M Post cells slots q lv (v :: st) h n) : xv_V X M Post cells slots pc lv (.int i :: .ref a :: st) h n := by
  subst hq
  subst hv
  intro p l e s m args below meth c D A ad0 n0 Qf C ad H locs ls Q
  obtain ⟨hn, cA, hP, hD, ht, hve⟩ := Q.2.2.1
  have he : (xv_w ad cA h n)[a]? = some (ad a, .inl (cA a, m0, .inr (.inr (.inr (.inr (fun k => (f k).map ad)))))) := by rw [xv_wget hh.1, hh.2]; rfl
  have hlt : i.toNatClampNeg < m0 := Nat.not_le.mp fun z => hi (Or.inr z)
  have hvv : xv_v n (va_rf (f i.toNatClampNeg)) := by
    have := hve a hh.1
    rw [hh.2] at this
    cases hfi : f i.toNatClampNeg with
    | none => trivial
    | some b => exact this _ b hfi
  refine W.aald (v := xv_r ad (va_rf (f i.toNatClampNeg))) (ty := ty) C.1 C.2.1 (hP a _ he) ((ht a hh.1 _ _ hh.2).1 m0 (fun j => va_rf ((f j).map ad))) hty (fun z => by cases z) (by show ¬ (i < 0 ∨ (arrV _ _ _).slots.size ≤ _); rw [arrV_size]; exact hi) (by show (arrV _ _ _).slots[_]? = _; rw [arrV_read _ _ hlt, xv_rrf]) rfl rfl hd ?_
  exact kk p l e s m args below meth c D A ad0 n0 Qf C ad H locs ls ⟨Q.1, Q.2.1, Q.2.2.1, Q.2.2.2.1, Q.2.2.2.2.1, Q.2.2.2.2.2.1, xv_cons hvv (xv_tl (xv_tl Q.2.2.2.2.2.2))⟩
theorem xi_aast {m0 b ci : Nat} {CC : String} {T : u_T} {N : Nat} {vs : List Value} {f : Nat → Option Nat} {i : Int32} (hd : decode M.2.1 pc = .ok (.aastore, 1)) (hc : xv_cl[ci]? = some (CC, T, N)) (hh : a < n ∧ h a = .inl (.object CC, m0, .inr (.inr (.inr (.inr f))))) (hb : b < n ∧ h b = .inr (ci, vs)) (hi : vp_in i m0) (hq : pc + 1 = q) (kk : xv_V X M Post cells slots q lv st (va_up h a (.inl (.object CC, m0, .inr (.inr (.inr (.inr (va_up f i.toNatClampNeg (some b)))))))) n) : xv_V X M Post cells slots pc lv (.ref b :: .int i :: .ref a :: st) h n := by
  subst hq
  intro p l e s m args below meth c D A ad0 n0 Qf C ad H locs ls Q
  obtain ⟨hn, cA, hP, hD, ht, hve⟩ := Q.2.2.1
  have he : (xv_w ad cA h n)[a]? = some (ad a, .inl (cA a, m0, .inr (.inr (.inr (.inr (fun k => (f k).map ad)))))) := by rw [xv_wget hh.1, hh.2]; rfl
  have hb2 : (xv_w ad cA h n)[b]? = some (ad b, .inr (ci, vs.map (xv_r ad))) := by rw [xv_wget hb.1, hb.2]; rfl
  have hK : va_K D xv_cl [(cA a, .object CC)] s := ⟨C.2.2.2.2.2.2.1.1, fun k w hk => by
    match k, hk with
    | 0, hk => cases hk; exact ht a hh.1 _ _ hh.2
    | k + 1, hk => simp at hk⟩
  have heq : (va_up (fun k => (f k).map ad) i.toNatClampNeg (some (ad b))) = fun k => ((va_up f i.toNatClampNeg (some b)) k).map ad := by
    funext k
    by_cases hk : k = i.toNatClampNeg
    · simp [va_up, hk]
    · simp [va_up, hk]
  refine va_astq C.1 C.2.1 hK hP hD Q.2.2.2.1 a 0 b ci (r := (CC, T, N)) he rfl hb2 hc hi hd fun H1 locs1 hP1 hD1 hS1 => ?_
  rw [heq] at hP1 hD1
  exact kk p l e s m args below meth c D A ad0 n0 Qf C ad H1 locs1 ls ⟨Q.1, Q.2.1, xv_Wup hn ht hve (.inl (.object CC, m0, .inr (.inr (.inr (.inr (va_up f i.toNatClampNeg (some b))))))) hP1 hD1 (fun ty y e => by cases e; exact ht a hh.1 _ _ hh.2) (fun k z hz => by
    by_cases hk : k = i.toNatClampNeg
    · rw [hk, va_up_self] at hz
      cases hz
      exact Or.inl hb.1
    · rw [va_up_ne _ _ hk] at hz
      have := hve a hh.1
      rw [hh.2] at this
      exact this k z hz), hS1, Q.2.2.2.2.1, Q.2.2.2.2.2.1, xv_tl (xv_tl (xv_tl Q.2.2.2.2.2.2))⟩
theorem xi_alen {ty : FieldType} {x : vp_A} {v : Int32} (hd : decode M.2.1 pc = .ok (.arraylength, 1)) (hh : a < n ∧ h a = .inl (ty, x)) (hv : Int32.ofNat x.1 = v) (hq : pc + 1 = q) (kk : xv_V X M Post cells slots q lv (.int v :: st) h n) : xv_V X M Post cells slots pc lv (.ref a :: st) h n := by
  subst hq
  intro p l e s m args below meth c D A ad0 n0 Qf C ad H locs ls Q
  obtain ⟨hn, cA, hP, hD, ht, hve⟩ := Q.2.2.1
  have he : (xv_w ad cA h n)[a]? = some (ad a, .inl (cA a, xv_a ad x)) := by rw [xv_wget hh.1, hh.2]; rfl
  have h1 : (xv_a ad x).1 = x.1 := by
    match x with
    | (_, .inr (.inr (.inr (.inr f)))) => rfl
    | (_, .inl _) => rfl
    | (_, .inr (.inl _)) => rfl
    | (_, .inr (.inr (.inl _))) => rfl
    | (_, .inr (.inr (.inr (.inl _)))) => rfl
  have hK : va_K D xv_cl [(cA a, ty)] s := ⟨C.2.2.2.2.2.2.1.1, fun k w hk => by
    match k, hk with
    | 0, hk => cases hk; exact ht a hh.1 _ _ hh.2
    | k + 1, hk => simp at hk⟩
  exact va_alen C.1 C.2.1 hK hP a 0 he rfl (by rw [h1]; exact hv) hd (kk p l e s m args below meth c D A ad0 n0 Qf C ad H locs ls ⟨Q.1, Q.2.1, Q.2.2.1, Q.2.2.2.1, Q.2.2.2.2.1, Q.2.2.2.2.2.1, xv_cons trivial (xv_tl Q.2.2.2.2.2.2)⟩)
-- what is read alone
theorem xi_gets {i j : Nat} {w : String × List Int32} (hd : decode M.2.1 pc = .ok (.getstatic i, 3)) (hj : xv_rf[j]? = some w) (hw : Cond.fieldLink M.1 i "ValveShop" w.1 "[I" ∈ xv_g ∨ Cond.fieldLinkNest M.1 i "ValveShop" w.1 "[I" "ValveShop" ∈ xv_nw) (hq : pc + 3 = q) (kk : xv_V X M Post cells slots q lv (.ref (1000 + j) :: st) h n) : xv_V X M Post cells slots pc lv st h n := by
  subst hq
  intro p l e s m args below meth c D A ad0 n0 Qf C ad H locs ls Q
  have hz := C.2.2.2.2.2.2.2.2.1.2.1 j w hj
  rw [← Q.2.1 (1000 + j) (Or.inr (Nat.le_add_right _ _))] at hz
  have hk := kk p l e s m args below meth c D A ad0 n0 Qf C ad H locs ls ⟨Q.1, Q.2.1, Q.2.2.1, Q.2.2.2.1, Q.2.2.2.2.1, Q.2.2.2.2.2.1, xv_cons (Or.inr (Nat.le_add_right _ _)) Q.2.2.2.2.2.2⟩
  rcases hw with hw | hw
  · exact va_gets C.1 C.2.1 hz Q.2.2.2.1 C.2.2.2.1 (C.2.2.2.2.1 _ hw) (fun _ h9 => h9) hd hk
  · exact va_getsN C.1 C.2.1 hz Q.2.2.2.1 C.2.2.2.1 (va_Nw.use rfl (C.2.2.2.2.2.2.2.2.1.2.2 _ hw)) (fun _ h9 => h9) hd hk
theorem xi_roald {j : Nat} {w : Nat × (Nat → Int32)} {i x : Int32} (hd : decode M.2.1 pc = .ok (.iaload, 1)) (hj : xv_ro X j = some w) (hi : vp_in i w.1) (hx : w.2 i.toNatClampNeg = x) (hq : pc + 1 = q) (kk : xv_V X M Post cells slots q lv (.int x :: st) h n) : xv_V X M Post cells slots pc lv (.int i :: .ref (1000 + j) :: st) h n := by
  subst hq
  subst hx
  intro p l e s m args below meth c D A ad0 n0 Qf C ad H locs ls Q
  have hz := C.2.2.2.2.2.2.2.2.1.1 j w hj
  rw [← Q.2.1 (1000 + j) (Or.inr (Nat.le_add_right _ _))] at hz
  exact va_ti C.1 C.2.1 hz Q.2.2.2.1 hi rfl hd (kk p l e s m args below meth c D A ad0 n0 Qf C ad H locs ls ⟨Q.1, Q.2.1, Q.2.2.1, Q.2.2.2.1, Q.2.2.2.2.1, Q.2.2.2.2.2.1, xv_cons trivial (xv_tl (xv_tl Q.2.2.2.2.2.2))⟩)
theorem xi_rolen {j : Nat} {w : Nat × (Nat → Int32)} {x : Int32} (hd : decode M.2.1 pc = .ok (.arraylength, 1)) (hj : xv_ro X j = some w) (hx : Int32.ofNat w.1 = x) (hq : pc + 1 = q) (kk : xv_V X M Post cells slots q lv (.int x :: st) h n) : xv_V X M Post cells slots pc lv (.ref (1000 + j) :: st) h n := by
  subst hq
  intro p l e s m args below meth c D A ad0 n0 Qf C ad H locs ls Q
  have hz := C.2.2.2.2.2.2.2.2.1.1 j w hj
  rw [← Q.2.1 (1000 + j) (Or.inr (Nat.le_add_right _ _))] at hz
  exact va_tlen C.1 C.2.1 hz Q.2.2.2.1 hx hd (kk p l e s m args below meth c D A ad0 n0 Qf C ad H locs ls ⟨Q.1, Q.2.1, Q.2.2.1, Q.2.2.2.1, Q.2.2.2.2.1, Q.2.2.2.2.2.1, xv_cons trivial (xv_tl Q.2.2.2.2.2.2)⟩)
theorem xi_copy {i a0 n0' n1' : Nat} {f g : Nat → Int32} {sp dp k : Int32} (hd : decode M.2.1 pc = .ok (.invokestatic i, 3)) (hw : Cond.methodLink M.1 i arraycopyName ∈ xv_g ∧ Cond.native arraycopyName ∈ xv_g ∧ Cond.static arraycopyName ∈ xv_g ∧ Cond.initialized "java/lang/System" ∈ xv_g) (hf : 1 ≤ M.2.2.2.2.2.frames) (hlo : (st.map fun v => v.category).sum + (nativeFrameWords "java/lang/System" "arraycopy" 5 + 11) ≤ M.2.2.2.2.2.locals)
    (h0 : a0 < n ∧ h a0 = .inl (.int, n0', .inl f)) (h1 : a < n ∧ h a = .inl (.int, n1', .inl g)) (g1 : ¬ sp < 0) (g2 : ¬ dp < 0) (g3 : ¬ k < 0) (g4 : sp.toNatClampNeg + k.toNatClampNeg ≤ n0') (g5 : dp.toNatClampNeg + k.toNatClampNeg ≤ n1') (hq : pc + 3 = q)
    (kk : xv_V X M Post cells slots q lv st (va_up h a (.inl (.int, n1', .inl (va_cpy f g sp.toNatClampNeg dp.toNatClampNeg k.toNatClampNeg)))) n) : xv_V X M Post cells slots pc lv (.int k :: .int dp :: .ref a :: .int sp :: .ref a0 :: st) h n := by
  subst hq
  intro p l e s m args below meth c D A ad0 n0 Qf C ad H locs ls Q
  obtain ⟨hn, cA, hP, hD, ht, hve⟩ := Q.2.2.1
  have he0 : (xv_w ad cA h n)[a0]? = some (ad a0, .inl (cA a0, n0', .inl f)) := by rw [xv_wget h0.1, h0.2]; rfl
  have he1 : (xv_w ad cA h n)[a]? = some (ad a, .inl (cA a, n1', .inl g)) := by rw [xv_wget h1.1, h1.2]; rfl
  have hK : va_K D xv_cl [(cA a0, .int), (cA a, .int)] s := ⟨C.2.2.2.2.2.2.1.1, fun k w hk => by
    match k, hk with
    | 0, hk => cases hk; exact ht a0 h0.1 _ _ h0.2
    | 1, hk => cases hk; exact ht a h1.1 _ _ h1.2
    | k + 2, hk => simp at hk⟩
  exact va_copyi C.1 C.2.1 (C.2.2.1.trans Q.2.2.2.2.1.1.symm) C.2.2.2.1 (C.2.2.2.2.1 _ hw.1) (C.2.2.2.2.1 _ hw.2.1) (C.2.2.2.2.1 _ hw.2.2.1) (C.2.2.2.2.1 _ hw.2.2.2) hK hP hD Q.2.2.2.1 a0 a 0 1 he0 he1 rfl rfl rfl g1 g2 g3 g4 g5 (fun _ _ => rfl) hf (by rw [xv_sumc]; exact hlo) hd fun H1 locs1 hP1 hD1 hS1 =>
    kk p l e s m args below meth c D A ad0 n0 Qf C ad H1 locs1 ls ⟨Q.1, Q.2.1, xv_Wup hn ht hve (.inl (.int, n1', .inl (va_cpy f g sp.toNatClampNeg dp.toNatClampNeg k.toNatClampNeg))) hP1 hD1 (fun ty y e => by cases e; exact ht a h1.1 _ _ h1.2) trivial, hS1, Q.2.2.2.2.1, Q.2.2.2.2.2.1, xv_tl (xv_tl (xv_tl (xv_tl (xv_tl Q.2.2.2.2.2.2))))⟩
-- ends
theorem xi_ret {v : Value} (hr : xv_ret M.2.1 M.2.2.2.2.1 pc (some v)) (hc : cells ≤ M.2.2.2.2.2.cells) (hs : slots ≤ M.2.2.2.2.2.slots) (hp : Post (some v) h n) : xv_V X M Post cells slots pc lv [v] h n :=
  fun p l e s m args below meth c D A ad0 n0 Qf C ad H locs ls Q => C.2.2.2.2.2.2.2.2.2 (some v) ad H locs cells slots ls pc h n hr Q.1 Q.2.1 hc hs Q.2.2.1 (fun w hw => by cases hw; exact Q.2.2.2.2.2.2 v List.mem_cons_self) Q.2.2.2.1 hp
theorem xi_vret (hr : xv_ret M.2.1 M.2.2.2.2.1 pc none) (hc : cells ≤ M.2.2.2.2.2.cells) (hs : slots ≤ M.2.2.2.2.2.slots) (hp : Post none h n) : xv_V X M Post cells slots pc lv [] h n :=
  fun p l e s m args below meth c D A ad0 n0 Qf C ad H locs ls Q => C.2.2.2.2.2.2.2.2.2 none ad H locs cells slots ls pc h n hr Q.1 Q.2.1 hc hs Q.2.2.1 (fun w hw => by cases hw) Q.2.2.2.1 hp
end XH
end
section
section XA
variable {X : Nat × (Nat → Int32)} {M : xv_M} {Post : xv_P} {cells slots pc q : Nat} {lv lv' : List (Nat × Value)} {st : List Value} {h : xv_H} {n : Nat} {a : Nat}
/-- a world, one cell more -/
theorem xv_Wnew {D : va_G} {A : Nat → Prop} {ad : Nat → Nat} {s : State} {H1 : Heap} {cA : Nat → ClassId} {qa : Nat} {cy : ClassId} (hn : n < 1000) (ht : xv_t s cA h n) (hv : ∀ i, i < n → xv_ve n (h i)) (e : xv_E)
    (hP : va_P D xv_cl (xv_w ad cA h n ++ [(qa, xv_c ad cy e)]) H1) (hD : va_D A (xv_w ad cA h n ++ [(qa, xv_c ad cy e)])) (ht' : ∀ ty x, e = .inl (ty, x) → ArrOfT s cy ty ∧ va_RA s cy ty) (hve : xv_ve n e) : (∀ i, i < n ∨ 1000 ≤ i → va_up ad n qa i = ad i) ∧ xv_W D A (va_up ad n qa) (va_up h n e) (n + 1) s H1 := by
  have hx : ∀ i, i < n ∨ 1000 ≤ i → va_up ad n qa i = ad i := fun i hi => va_up_ne _ _ (by omega)
  have hw : xv_w ad cA h n ++ [(qa, xv_c ad cy e)] = xv_w (va_up ad n qa) (va_up cA n cy) (va_up h n e) (n + 1) := by
    show _ = (List.range (n + 1)).map _
    rw [List.range_succ, List.map_append]
    congr 1
    · apply List.map_congr_left
      intro i hi
      have hi := List.mem_range.mp hi
      rw [hx i (Or.inl hi), va_up_ne cA _ (by omega), va_up_ne h _ (by omega), xv_cext hx (hv i hi)]
    · show [(qa, xv_c ad cy e)] = [(va_up ad n qa n, xv_c (va_up ad n qa) (va_up cA n cy n) (va_up h n e n))]
      rw [va_up_self, va_up_self, va_up_self, xv_cext hx hve]
  rw [hw] at hP hD
  refine ⟨hx, by omega, va_up cA n cy, hP, hD, fun i hi ty x he => ?_, fun i hi => ?_⟩
  · by_cases hin : i = n
    · subst hin
      rw [va_up_self] at he ⊢
      exact ht' ty x he
    · rw [va_up_ne _ _ hin] at he ⊢
      exact ht i (by omega) ty x he
  · by_cases hin : i = n
    · subst hin
      rw [va_up_self]
      exact xv_vemono (Nat.le_succ _) hve
    · rw [va_up_ne _ _ hin]
      exact xv_vemono (Nat.le_succ _) (hv i (by omega))
/-- the state of a frame, behind a making -/
theorem xv_Qnew {s : State} {D : va_G} {A : Nat → Prop} {ad0 : Nat → Nat} {n0 : Nat} {ad ad' : Nat → Nat} {H H1 : Heap} {locs locs1 : List Loc} {ls : Array Slot} {st' : List Value} {h' : xv_H} {n' : Nat} (Q : xv_Q M s D A ad0 n0 ad H locs ls lv st h n) (hn : n ≤ n') (hx : ∀ i, i < n ∨ 1000 ≤ i → ad' i = ad i) (hW : xv_W D A ad' h' n' s H1) (hS : va_S A s.heap H1 locs1) (hst : ∀ v ∈ st', xv_v n' v) : xv_Q M s D A ad0 n0 ad' H1 locs1 ls lv st' h' n' := by
  refine ⟨Nat.le_trans Q.1 hn, fun i hi => ?_, hW, hS, ?_, fun x hx => xv_vmono hn (Q.2.2.2.2.2.1 x hx), hst⟩
  · rw [hx i (hi.elim (fun z => Or.inl (Nat.lt_of_lt_of_le z Q.1)) Or.inr), Q.2.1 i hi]
  · rw [xv_lrext hx Q.2.2.2.2.2.1]
    exact Q.2.2.2.2.1
theorem xi_new {i ci N : Nat} {CC : String} {T : u_T} {ty0 : Nat → FieldType} {fs : List Value} (hd : decode M.2.1 pc = .ok (.new i, 3)) (hc : xv_cl[ci]? = some (CC, T, N)) (hin : ∀ w ∈ u_ws CC T N, w ∈ xv_g) (hty : ∀ k, k < N → parseFieldDescriptor (T k).2.2.1 = some (ty0 k)) (hw : Cond.classLink M.1 i CC ∈ xv_g ∧ Cond.instantiable CC N ∈ xv_g ∧ Cond.initialized CC ∈ xv_g) (hfs : ∀ j, j < N → defaultValue (ty0 j) = vp_V fs j) (hall : ∀ v ∈ fs, v = .null ∨ v = .int 0 ∨ v = .long 0) (hn : n < 1000) (hcl : cells + 1 ≤ M.2.2.2.2.2.cells) (hsl : slots + N ≤ M.2.2.2.2.2.slots) (hq : pc + 3 = q)
    (kk : xv_V X M Post (cells + 1) (slots + N) q lv (.ref n :: st) (va_up h n (.inr (ci, fs))) (n + 1)) : xv_V X M Post cells slots pc lv st h n := by
  subst hq
  intro p l e s m args below meth c D A ad0 n0 Qf C ad H locs ls Q
  obtain ⟨hn1, cA, hP, hD, ht, hve⟩ := Q.2.2.1
  refine va_new C.1 C.2.1 C.2.2.2.2.1 hin ty0 hty C.2.2.2.1 (C.2.2.2.2.1 _ hw.1) (C.2.2.2.2.1 _ hw.2.1) (C.2.2.2.2.1 _ hw.2.2) C.2.2.2.2.2.2.1 hP hD Q.2.2.2.1 C.2.2.2.2.2.2.2.1 hc hfs hcl hsl hd fun qa H1 hP1 hD1 hS1 => ?_
  have hfr : fs.map (xv_r ad) = fs := by
    conv => rhs; rw [← List.map_id fs]
    refine List.map_congr_left fun v hv => ?_
    rcases hall v hv with rfl | rfl | rfl <;> rfl
  have hv0 : xv_ve n (.inr (ci, fs)) := fun v hv => by rcases hall v hv with rfl | rfl | rfl <;> trivial
  obtain ⟨hx, hW⟩ := xv_Wnew (cy := 0) (ad := ad) hn ht hve (.inr (ci, fs)) (by show va_P _ _ (_ ++ [(qa, Sum.inr (ci, fs.map (xv_r ad)))]) _; rw [hfr]; exact hP1) (by show va_D _ (_ ++ [(qa, Sum.inr (ci, fs.map (xv_r ad)))]); rw [hfr]; exact hD1) (fun _ _ h => by cases h) hv0
  have hk := kk p l e s m args below meth c D A ad0 n0 Qf C _ H1 locs ls (xv_Qnew Q (Nat.le_succ n) hx hW hS1 (xv_cons (Or.inl (Nat.lt_succ_self n)) (fun w hw => xv_vmono (Nat.le_succ n) (Q.2.2.2.2.2.2 w hw))))
  rw [List.map_cons, xv_srext hx Q.2.2.2.2.2.2, show xv_r (va_up ad n qa) (.ref n) = .ref qa from congrArg Value.ref (va_up_self ad n qa)] at hk
  exact hk
theorem xi_newa {at_ : ArrayType} {ty : FieldType} {k : Int32} {N : Nat} (hd : decode M.2.1 pc = .ok (.newarray at_, 2)) (hty : newarray.typeOf at_ = ty) (hw : Cond.arrayClass ty ∈ xv_g) (ha : ∀ cA : ClassId, vp_cell cA (N, .inl (fun _ => 0)) = arrV cA N (fun _ => defaultValue ty)) (hk0 : ¬ k < 0) (hN : k.toNatClampNeg = N) (hb : N * componentBytes ty ≤ 536870912) (hn : n < 1000) (hcl : cells + 1 ≤ M.2.2.2.2.2.cells) (hsl : slots + N ≤ M.2.2.2.2.2.slots) (hq : pc + 2 = q)
    (kk : xv_V X M Post (cells + 1) (slots + N) q lv (.ref n :: st) (va_up h n (.inl (ty, N, .inl (fun _ => 0)))) (n + 1)) : xv_V X M Post cells slots pc lv (.int k :: st) h n := by
  subst hq
  intro p l e s m args below meth c D A ad0 n0 Qf C ad H locs ls Q
  obtain ⟨hn1, cA, hP, hD, ht, hve⟩ := Q.2.2.1
  refine va_newa C.1 C.2.1 (atype := at_) (by rw [hty]; exact C.2.2.2.2.1 _ hw) hty C.2.2.2.2.2.2.1 hP hD Q.2.2.2.1 C.2.2.2.2.2.2.2.1 ha hk0 hN hb hcl hsl hd fun qa cy H1 hK1 hP1 hD1 hS1 => ?_
  have hcy : ArrOfT s cy ty ∧ va_RA s cy ty := hK1.2 0 _ rfl
  obtain ⟨hx, hW⟩ := xv_Wnew (cy := cy) (ad := ad) hn ht hve (.inl (ty, N, .inl (fun _ => 0))) hP1 hD1 (fun _ _ h => by cases h; exact hcy) trivial
  have hk := kk p l e s m args below meth c D A ad0 n0 Qf C _ H1 locs ls (xv_Qnew Q (Nat.le_succ n) hx hW hS1 (xv_cons (Or.inl (Nat.lt_succ_self n)) (fun w hw => xv_vmono (Nat.le_succ n) (xv_tl Q.2.2.2.2.2.2 w hw))))
  rw [List.map_cons, xv_srext hx (xv_tl Q.2.2.2.2.2.2), show xv_r (va_up ad n qa) (.ref n) = .ref qa from congrArg Value.ref (va_up_self ad n qa)] at hk
  exact hk
theorem xi_anewa {i : Nat} {CC : String} {k : Int32} {N : Nat} (hd : decode M.2.1 pc = .ok (.anewarray i, 3)) (hw : Cond.classLink M.1 i CC ∈ xv_g) (hov : Cond.arrayOver (.object CC) ∈ xv_nw) (hk0 : ¬ k < 0) (hN : k.toNatClampNeg = N) (hb : N * 4 ≤ 536870912) (hn : n < 1000) (hcl : cells + 1 ≤ M.2.2.2.2.2.cells) (hsl : slots + N ≤ M.2.2.2.2.2.slots) (hq : pc + 3 = q)
    (kk : xv_V X M Post (cells + 1) (slots + N) q lv (.ref n :: st) (va_up h n (.inl (.object CC, N, .inr (.inr (.inr (.inr (fun _ => none))))))) (n + 1)) : xv_V X M Post cells slots pc lv (.int k :: st) h n := by
  subst hq
  intro p l e s m args below meth c D A ad0 n0 Qf C ad H locs ls Q
  obtain ⟨hn1, cA, hP, hD, ht, hve⟩ := Q.2.2.1
  refine va_newq C.1 C.2.1 C.2.2.2.1 (C.2.2.2.2.1 _ hw) (va_AO.of (C.2.2.2.2.2.2.2.2.1.2.2 _ hov)) C.2.2.2.2.2.2.1 hP hD Q.2.2.2.1 C.2.2.2.2.2.2.2.1 hk0 hN hb hcl hsl hd fun qa cy H1 hK1 hP1 hD1 hS1 => ?_
  have hcy : ArrOfT s cy (.object CC) ∧ va_RA s cy (.object CC) := hK1.2 0 _ rfl
  obtain ⟨hx, hW⟩ := xv_Wnew (cy := cy) (ad := ad) hn ht hve (.inl (.object CC, N, .inr (.inr (.inr (.inr (fun _ => none)))))) hP1 hD1 (fun _ _ h => by cases h; exact hcy) (fun _ _ h => by cases h)
  have hk := kk p l e s m args below meth c D A ad0 n0 Qf C _ H1 locs ls (xv_Qnew Q (Nat.le_succ n) hx hW hS1 (xv_cons (Or.inl (Nat.lt_succ_self n)) (fun w hw => xv_vmono (Nat.le_succ n) (xv_tl Q.2.2.2.2.2.2 w hw))))
  rw [List.map_cons, xv_srext hx (xv_tl Q.2.2.2.2.2.2), show xv_r (va_up ad n qa) (.ref n) = .ref qa from congrArg Value.ref (va_up_self ad n qa)] at hk
  exact hk
theorem xi_objInit {i : Nat} (hd : decode M.2.1 pc = .ok (.invokespecial i, 3)) (hw : Cond.methodLink M.1 i Lib.objectInit ∈ xv_g ∧ Cond.instanceMethod Lib.objectInit ∈ xv_g ∧ Cond.code Lib.objectInit ⟨#[0xb1]⟩ 1 none ∈ xv_g) (hf : 1 ≤ M.2.2.2.2.2.frames) (hlo : (st.map fun v => v.category).sum + 12 ≤ M.2.2.2.2.2.locals) (hq : pc + 3 = q) (kk : xv_V X M Post cells slots q lv st h n) : xv_V X M Post cells slots pc lv (.ref a :: st) h n := by
  subst hq
  refine xv_step kk (fun p l e s m args below meth c Qf H locs ls ad hx hb hml ho ht hz _ w => ?_) (fun _ z => xv_tl z)
  exact W.objInit hx hb ho (ht _ hw.1) (ht _ hw.2.1) (ht _ hw.2.2) rfl (hz.trans hml.symm) (a := ad a) (rest := st.map (xv_r ad)) rfl hd hf (by rw [xv_sumc]; show 2 * 0 + _ + 12 ≤ _; omega) w
end XA
end
section
def va_AOA (ty : FieldType) (U : State) : Prop := (Cond.arrayOver (.array ty)).before #[] U = true
theorem va_AOA.use {ty : FieldType} {A : Array Value} {U : State} (h : va_AOA ty U) : (Cond.arrayOver (.array ty)).before A U = true := h
/-! ===== BEGIN new T[n][m]: the outer array a place, the inner ones among the pooled ===== -/
/-- f, but v at every address of l -/
def vr_up {α : Type} (f : Nat → α) (l : List Nat) (v : α) : Nat → α := fun a => if a ∈ l then v else f a
theorem vr_up_in {α : Type} {f : Nat → α} {l : List Nat} {v : α} {a : Nat} (h : a ∈ l) : vr_up f l v a = v := if_pos h
theorem vr_up_ne {α : Type} {f : Nat → α} {l : List Nat} {v : α} {a : Nat} (h : a ∉ l) : vr_up f l v a = f a := if_neg h
theorem vr_rows {L l : List Nat} {f : Nat → va_E} {e : va_E} (h : ∀ a, a ∈ l → a ∉ L) : va_pl L f ++ l.map (fun a => (a, e)) = va_pl (L ++ l) (vr_up f l e) := by
  unfold va_pl
  rw [List.map_append]
  congr 1
  · apply List.map_congr_left
    intro a ha
    rw [vr_up_ne (fun q => h a q ha)]
  · apply List.map_congr_left
    intro a ha
    rw [vr_up_in ha]
theorem vr_lay {X rows : va_W} {x : Nat × va_E} {pl : va_W} {D : va_G} {cl : List vw_C} {H : Heap} (hP : va_P D cl (((X ++ pl) ++ [x]) ++ rows) H) : va_P D cl ((X ++ [x]) ++ (pl ++ rows)) H := by
  rw [List.append_assoc (X ++ pl)] at hP
  have h := va_P.swap hP
  rw [← List.append_assoc X] at h
  have h2 := va_P.swap h
  rw [List.append_assoc (X ++ [x])] at h2
  exact h2
theorem vr_layD {X rows : va_W} {x : Nat × va_E} {pl : va_W} {A : Nat → Prop} (hD : va_D A (((X ++ pl) ++ [x]) ++ rows)) : va_D A ((X ++ [x]) ++ (pl ++ rows)) := by
  rw [List.append_assoc (X ++ pl)] at hD
  have h := va_D.swap hD
  rw [← List.append_assoc X] at h
  have h2 := va_D.swap h
  rw [List.append_assoc (X ++ [x])] at h2
  exact h2
theorem vr_outer (c : ClassId) (N h0 : Nat) : ∀ i : Nat, Jvm.Free.Multi.outerC c N h0 i = arrV c N (fun j => va_rf (if j < i then some (h0 + 1 + j) else none))
  | 0 => by
    show ({ cls := c, slots := Array.replicate N .null, vm := .none } : Cell) = _
    rw [arrV_new]
    refine congrArg (arrV c N) (funext fun j => ?_)
    simp [va_rf]
  | i + 1 => by
    show (Jvm.Free.Multi.outerC c N h0 i).setSlot i (.ref (h0 + 1 + i)) = _
    rw [vr_outer c N h0 i, arrV_store]
    refine congrArg (arrV c N) (funext fun j => ?_)
    by_cases e : j = i
    · subst e
      simp [updV, va_rf]
    · by_cases h : j < i
      · simp [updV, e, h, Nat.lt_succ_of_lt h]
      · simp [updV, e, h, show ¬ j < i + 1 by omega]
section VGM
variable {p : Program} {l : Launch} {e : Env} {R : Room} {s : State} {m : MethodId} {args : Array Value} {below : List Frame} {meth : Method} {c : Code} {H : Heap} {locs : List Loc} {cells slots : Nat} {Q : State → Prop}
variable {cc : ByteArray} {pc : Nat} {ls : Array Slot} {rest : List Value} {D : va_G} {cl : List vw_C} {A : Nat → Prop} {a : Nat} {tys : List (ClassId × FieldType)} {ws : va_W} {H0 : Heap}
theorem va_mna {X : va_W} {L : List Nat} {f : Nat → va_E} {cc : ByteArray} (hexec : p.tables.exec = Jvm.exec) (hb : c.code = cc) {own : String} {index : Nat} {ty : FieldType} {cy : ClassId} (hown : s.vm.findClass own = some m.cls) (hclink : (Cond.classLink own index ("[" ++ (FieldType.array ty).toString)).before args s = true) (hover : va_AOA ty s) (harr : (Cond.arrayClass ty).before args s = true) (hcy : s.vm.findClass (FieldType.array ty).toString = some cy)
    (hK : va_K D cl tys s) (hP : va_P D cl (X ++ va_pl L f) H) (hD : va_D A (X ++ va_pl L f)) (hS : va_S A H0 H locs) (hA : ∀ q, H0.size ≤ q → A q) {n k : Int32} {N' K' : Nat} {z : vp_A} (hn : ¬ n < 0) (hk : ¬ k < 0) (hN : n.toNatClampNeg = N') (hM : k.toNatClampNeg = K')
    (hb1 : N' * 4 ≤ 536870912) (hb2 : K' * componentBytes ty ≤ 536870912) (hb3 : K' ≤ 536870912) (hdf : fits ty (defaultValue ty) = true) (hdd : (defaultValue ty).isDefault = true) (hcells : cells + (1 + N') ≤ R.cells) (hslots : slots + (N' + N' * K') ≤ R.slots) (hz : ∀ c : ClassId, Jvm.Free.Multi.innerC c K' (defaultValue ty) = vp_cell c z) (hdg : decode cc pc = .ok (.multianewarray index 2, 4))
    (kk : ∀ (q : Nat) (r : Nat → Nat) (cA : ClassId) (H1 : Heap), (∀ i j : Nat, i < N' → j < N' → r i = r j → i = j) → (∀ i : Nat, i < N' → r i ∉ L) → va_K D cl (tys ++ [(cA, .array ty)]) s →
      va_P D cl ((X ++ [(q, .inl (cA, N', .inr (.inr (.inr (.inr (fun i => if i < N' then some (r i) else none))))))]) ++ va_pl (L ++ (List.range N').map r) (vr_up f ((List.range N').map r) (.inl (cy, z)))) H1 → va_D A ((X ++ [(q, .inl (cA, N', .inr (.inr (.inr (.inr (fun i => if i < N' then some (r i) else none))))))]) ++ va_pl (L ++ (List.range N').map r) (vr_up f ((List.range N').map r) (.inl (cy, z)))) → va_S A H0 H1 locs →
      W p l e R s m args below meth c H1 locs (cells + 1 + N') (slots + N' + N' * K') Q (F0 m (pc + 4) ls (.ref q :: rest))) : W p l e R s m args below meth c H locs cells slots Q (F0 m pc ls (.int k :: .int n :: rest)) := by
  subst hN
  subst hM
  intro T hT Xs
  obtain ⟨vm₁, cA, comp, -, fA, fC, hO, -, X', step⟩ := Xs.multianewarray2F hexec hown hclink (va_AOA.use hover) harr (g := F0 m pc ls (.int k :: .int n :: rest)) rfl (by rw [hb]; exact hdg) rfl hn hk hb1 hb2 hb3 hdf hdd hcells hslots
  have ec : some cy = some comp := hcy.symm.trans fC
  cases ec
  generalize hF : Jvm.Free.Multi.fill (T.setVm vm₁) cA cy n.toNatClampNeg k.toNatClampNeg (defaultValue ty) n.toNatClampNeg = F at X' step
  have hTh : (T.setVm vm₁).heap = H := hT
  obtain ⟨f1, f2, -, -⟩ := Jvm.Free.Multi.fill_facts (T.setVm vm₁) cA cy n.toNatClampNeg k.toNatClampNeg (defaultValue ty) n.toNatClampNeg
  rw [hF, hTh] at f1 f2
  have hold : ∀ x : Nat, x < H.size → F.heap[x]? = H[x]? := fun x hx => by
    have := Jvm.Free.Multi.fill_old (T.setVm vm₁) cA cy n.toNatClampNeg k.toNatClampNeg (defaultValue ty) (a := x) (by rw [hTh]; exact hx) n.toNatClampNeg
    rw [hF, hTh] at this
    exact this
  have hrow : ∀ j : Nat, j < n.toNatClampNeg → F.heap[H.size + 1 + j]? = some (vp_cell cy z) := fun j hj => by
    have := Jvm.Free.Multi.fill_inner (T.setVm vm₁) cA cy n.toNatClampNeg k.toNatClampNeg (defaultValue ty) n.toNatClampNeg j hj
    rw [hF, hTh, hz] at this
    exact this
  have hout : Jvm.Free.Multi.outerC cA n.toNatClampNeg H.size n.toNatClampNeg = vp_cell cA (n.toNatClampNeg, .inr (.inr (.inr (.inr (fun i => if i < n.toNatClampNeg then some (H.size + 1 + i) else none))))) := by
    rw [vp_cell_q]
    exact vr_outer cA n.toNatClampNeg H.size n.toNatClampNeg
  rw [hout] at f2
  have hlt : ∀ a, a ∈ L → a < H.size := fun a ha => by
    obtain ⟨k9, hk9⟩ := va_pl_get (X := X) (f := f) ha
    exact (hP k9 _ hk9).lt
  have hnl : ∀ i : Nat, i < n.toNatClampNeg → H.size + 1 + i ∉ L := fun i _ h => by
    have := hlt _ h
    omega
  have hnm : ∀ a, a ∈ (List.range n.toNatClampNeg).map (fun i => H.size + 1 + i) → a ∉ L := fun a ha h => by
    obtain ⟨i, -, rfl⟩ := List.mem_map.mp ha
    have := hlt _ h
    omega
  have hP0 : va_P D cl (X ++ va_pl L f) F.heap := hP.kept (fun k9 x hx => hold x.1 ((hP k9 x hx).lt))
  have hP1 : va_P D cl ((X ++ va_pl L f) ++ [(H.size, .inl (cA, n.toNatClampNeg, .inr (.inr (.inr (.inr (fun i => if i < n.toNatClampNeg then some (H.size + 1 + i) else none))))))]) F.heap := hP0.app (fun k9 x hx => by
    have h0 : k9 < 1 := (List.getElem?_eq_some_iff.mp hx).1
    rw [show k9 = 0 by omega] at hx
    cases hx
    exact f2)
  have hP2 : va_P D cl (((X ++ va_pl L f) ++ [(H.size, .inl (cA, n.toNatClampNeg, .inr (.inr (.inr (.inr (fun i => if i < n.toNatClampNeg then some (H.size + 1 + i) else none))))))]) ++ ((List.range n.toNatClampNeg).map (fun i => H.size + 1 + i)).map (fun a => (a, .inl (cy, z)))) F.heap := hP1.app (fun k9 x hx => by
    obtain ⟨a, ha, rfl⟩ := List.mem_map.mp (List.mem_of_getElem? hx)
    obtain ⟨i, hi, rfl⟩ := List.mem_map.mp ha
    exact hrow i (List.mem_range.mp hi))
  have hD2 : va_D A (((X ++ va_pl L f) ++ [(H.size, .inl (cA, n.toNatClampNeg, .inr (.inr (.inr (.inr (fun i => if i < n.toNatClampNeg then some (H.size + 1 + i) else none))))))]) ++ ((List.range n.toNatClampNeg).map (fun i => H.size + 1 + i)).map (fun a => (a, .inl (cy, z)))) := by
    have hD1 := hD.push (e := .inl (cA, n.toNatClampNeg, .inr (.inr (.inr (.inr (fun i => if i < n.toNatClampNeg then some (H.size + 1 + i) else none)))))) hP rfl (hA _ hS.1)
    generalize hW1 : (X ++ va_pl L f) ++ [(H.size, .inl (cA, n.toNatClampNeg, .inr (.inr (.inr (.inr (fun i => if i < n.toNatClampNeg then some (H.size + 1 + i) else none))))))] = W1 at hD1 hP1 ⊢
    have hle : ∀ (k9 : Nat) (x : Nat × va_E), W1[k9]? = some x → x.1 ≤ H.size := fun k9 x hx => by
      rw [← hW1] at hx
      by_cases hl : k9 < (X ++ va_pl L f).length
      · rw [List.getElem?_append_left hl] at hx
        exact Nat.le_of_lt ((hP k9 x hx).lt)
      · rw [List.getElem?_append_right (by omega)] at hx
        have h0 : k9 - (X ++ va_pl L f).length < 1 := (List.getElem?_eq_some_iff.mp hx).1
        rw [show k9 - (X ++ va_pl L f).length = 0 by omega] at hx
        cases hx
        exact Nat.le_refl _
    have hr : ∀ (k9 : Nat) (x : Nat × va_E), (((List.range n.toNatClampNeg).map (fun i => H.size + 1 + i)).map (fun a => ((a, .inl (cy, z)) : Nat × va_E)))[k9]? = some x → x.1 = H.size + 1 + k9 := fun k9 x hx => by
      rw [List.getElem?_map, List.getElem?_map] at hx
      by_cases h9 : k9 < n.toNatClampNeg
      · rw [List.getElem?_range h9] at hx
        cases hx
        rfl
      · have hn0 : (List.range n.toNatClampNeg)[k9]? = none := List.getElem?_eq_none (by rw [List.length_range]; omega)
        rw [hn0] at hx
        cases hx
    refine ⟨fun i j x y hi hj hxy => ?_, fun k9 x hx => ?_⟩
    · by_cases h1 : i < W1.length <;> by_cases h2 : j < W1.length
      · rw [List.getElem?_append_left h1] at hi
        rw [List.getElem?_append_left h2] at hj
        exact hD1.1 i j x y hi hj hxy
      · rw [List.getElem?_append_left h1] at hi
        rw [List.getElem?_append_right (by omega)] at hj
        have := hle _ _ hi
        have := hr _ _ hj
        omega
      · rw [List.getElem?_append_right (by omega)] at hi
        rw [List.getElem?_append_left h2] at hj
        have := hle _ _ hj
        have := hr _ _ hi
        omega
      · rw [List.getElem?_append_right (by omega)] at hi hj
        have := hr _ _ hi
        have := hr _ _ hj
        omega
    · by_cases h1 : k9 < W1.length
      · rw [List.getElem?_append_left h1] at hx
        exact hD1.2 k9 x hx
      · rw [List.getElem?_append_right (by omega)] at hx
        have := hr _ _ hx
        exact hA _ (by have := hS.1; omega)
  have hAr : ArrOfT s cA (.array ty) := fun N9 z9 => by
    obtain ⟨-, k9, hk9, cm9, hkk9⟩ := (hO 0 0 0).1
    exact ⟨(fun q hq => by cases hq), k9, hk9, cm9, hkk9⟩
  have hK2 : va_K D cl (tys ++ [(cA, .array ty)]) s := ⟨hK.1, fun k9 x hx => by
    by_cases hl : k9 < tys.length
    · rw [List.getElem?_append_left hl] at hx
      exact hK.2 k9 x hx
    · rw [List.getElem?_append_right (by omega)] at hx
      have h0 : k9 - tys.length < 1 := (List.getElem?_eq_some_iff.mp hx).1
      rw [show k9 - tys.length = 0 by omega] at hx
      cases hx
      exact ⟨hAr, fA⟩⟩
  obtain ⟨t, a1, b1⟩ := kk H.size (fun i => H.size + 1 + i) cA F.heap (fun i j _ _ h => by have h9 : H.size + 1 + i = H.size + 1 + j := h; omega) hnl hK2 (by rw [← vr_rows hnm]; exact vr_lay hP2) (by rw [← vr_rows hnm]; exact vr_layD hD2) ⟨by rw [f1]; have := hS.1; omega, fun x h1 h2 => (hold x (Nat.lt_of_lt_of_le h1 hS.1)).trans (hS.2.1 x h1 h2), hS.2.2⟩ F rfl X'
  refine ⟨t, step t ?_, b1⟩
  have e : T.heap.size = H.size := by rw [hT]
  rw [e]
  exact a1
end VGM
/-! ===== END ===== -/
end
section
section XM
variable {X : Nat × (Nat → Int32)} {M : xv_M} {Post : xv_P} {cells slots pc q : Nat} {lv lv' : List (Nat × Value)} {st : List Value} {h : xv_H} {n : Nat} {a : Nat}
/-- the heap behind new int[N][K]: the outer array at n, its rows behind it -/
def xv_mh (h : xv_H) (n N K : Nat) : xv_H := fun j => if j = n then .inl (.array .int, N, .inr (.inr (.inr (.inr (fun k => if k < N then some (n + 1 + k) else none))))) else if n < j ∧ j ≤ n + N then .inl (.int, K, .inl (fun _ => 0)) else h j
def xv_ma (ad : Nat → Nat) (n N q0 : Nat) (r : Nat → Nat) : Nat → Nat := fun j => if j = n then q0 else if n < j ∧ j ≤ n + N then r (j - n - 1) else ad j
theorem xv_mlist {ad : Nat → Nat} {cA : Nat → ClassId} {h : xv_H} {n N K q0 : Nat} {r : Nat → Nat} {cO cy : ClassId} {f : Nat → va_E} (hv : ∀ i, i < n → xv_ve n (h i)) (hn : n + 1 + N ≤ 1000) :
    (xv_w ad cA h n ++ [(q0, .inl (cO, N, .inr (.inr (.inr (.inr (fun i => if i < N then some (r i) else none))))))]) ++ va_pl ([] ++ (List.range N).map r) (vr_up f ((List.range N).map r) (.inl (cy, K, .inl (fun _ => 0)))) = xv_w (xv_ma ad n N q0 r) (fun j => if j = n then cO else if n < j then cy else cA j) (xv_mh h n N K) (n + 1 + N) := by
  have hx : ∀ i, i < n ∨ 1000 ≤ i → xv_ma ad n N q0 r i = ad i := fun i hi => by
    unfold xv_ma
    rw [if_neg (by omega), if_neg (by omega)]
  show _ = (List.range (n + 1 + N)).map _
  rw [List.range_add, List.map_append, List.range_succ, List.map_append]
  congr 1
  · congr 1
    · apply List.map_congr_left
      intro i hi
      have hi := List.mem_range.mp hi
      show (ad i, xv_c ad (cA i) (h i)) = (xv_ma ad n N q0 r i, xv_c (xv_ma ad n N q0 r) (if i = n then cO else if n < i then cy else cA i) (xv_mh h n N K i))
      rw [hx i (Or.inl hi), if_neg (by omega), if_neg (by omega), show xv_mh h n N K i = h i by unfold xv_mh; rw [if_neg (by omega), if_neg (by omega)], xv_cext hx (hv i hi)]
    · show [(q0, _)] = [(xv_ma ad n N q0 r n, xv_c (xv_ma ad n N q0 r) (if n = n then cO else if n < n then cy else cA n) (xv_mh h n N K n))]
      rw [if_pos rfl, show xv_ma ad n N q0 r n = q0 by unfold xv_ma; rw [if_pos rfl], show xv_mh h n N K n = .inl (.array .int, N, .inr (.inr (.inr (.inr (fun k => if k < N then some (n + 1 + k) else none))))) by unfold xv_mh; rw [if_pos rfl]]
      show [(q0, _)] = [(q0, Sum.inl (cO, N, Sum.inr (Sum.inr (Sum.inr (Sum.inr (fun k => (if k < N then some (n + 1 + k) else none).map (xv_ma ad n N q0 r)))))))]
      have : (fun i => if i < N then some (r i) else none) = fun k => (if k < N then some (n + 1 + k) else none).map (xv_ma ad n N q0 r) := by
        funext k
        by_cases hk : k < N
        · rw [if_pos hk, if_pos hk]
          show some (r k) = some (xv_ma ad n N q0 r (n + 1 + k))
          unfold xv_ma
          rw [if_neg (by omega), if_pos (by omega), show n + 1 + k - n - 1 = k by omega]
        · rw [if_neg hk, if_neg hk]
          rfl
      rw [this]
  · rw [List.nil_append]
    show List.map (fun a => (a, vr_up f ((List.range N).map r) (.inl (cy, K, .inl (fun _ => 0))) a)) ((List.range N).map r) = _
    rw [List.map_map, List.map_map]
    apply List.map_congr_left
    intro k hk
    have hk2 := List.mem_range.mp hk
    show (r k, vr_up f ((List.range N).map r) (.inl (cy, K, .inl (fun _ => 0))) (r k)) = (xv_ma ad n N q0 r (n + 1 + k), xv_c (xv_ma ad n N q0 r) (if n + 1 + k = n then cO else if n < n + 1 + k then cy else cA (n + 1 + k)) (xv_mh h n N K (n + 1 + k)))
    rw [vr_up_in (List.mem_map.mpr ⟨k, hk, rfl⟩), if_neg (by omega), if_pos (by omega), show xv_ma ad n N q0 r (n + 1 + k) = r k by unfold xv_ma; rw [if_neg (by omega), if_pos (by omega), show n + 1 + k - n - 1 = k by omega], show xv_mh h n N K (n + 1 + k) = .inl (.int, K, .inl (fun _ => 0)) by unfold xv_mh; rw [if_neg (by omega), if_pos (by omega)]]
    rfl
theorem xi_mna {i : Nat} {k nn : Int32} {N K : Nat} (hd : decode M.2.1 pc = .ok (.multianewarray i 2, 4)) (hw : Cond.classLink M.1 i ("[" ++ (FieldType.array .int).toString) ∈ xv_g ∧ Cond.arrayClass .int ∈ xv_g) (hov : Cond.arrayOver (.array .int) ∈ xv_nw) (hn0 : ¬ nn < 0) (hk0 : ¬ k < 0) (hN : nn.toNatClampNeg = N) (hK' : k.toNatClampNeg = K) (hb1 : N * 4 ≤ 536870912) (hb2 : K * componentBytes .int ≤ 536870912) (hb3 : K ≤ 536870912) (hn : n + 1 + N ≤ 1000) (hcl : cells + (1 + N) ≤ M.2.2.2.2.2.cells) (hsl : slots + (N + N * K) ≤ M.2.2.2.2.2.slots) (hq : pc + 4 = q)
    (kk : xv_V X M Post (cells + 1 + N) (slots + N + N * K) q lv (.ref n :: st) (xv_mh h n N K) (n + 1 + N)) : xv_V X M Post cells slots pc lv (.int k :: .int nn :: st) h n := by
  subst hq
  intro p l e s m args below meth c D A ad0 n0 Qf C ad H locs ls Q
  obtain ⟨hn1, cA, hP, hD, ht, hve⟩ := Q.2.2.1
  obtain ⟨cy, f1, f2⟩ : ∃ cy, ArrOfT s cy .int ∧ s.vm.findClass (FieldType.array .int).toString = some cy := by
    obtain ⟨cA, kA, comp, hfind, hk, hkind⟩ := Cond.arrayClass_spec (C.2.2.2.2.1 _ hw.2)
    exact ⟨cA, fun N z => ⟨(fun k h => by cases h), kA, hk, comp, hkind⟩, hfind⟩
  refine va_mna (X := xv_w ad cA h n) (L := []) (f := fun _ => .inr (0, [])) (z := (K, .inl (fun _ => 0))) C.1 C.2.1 C.2.2.2.1 (C.2.2.2.2.1 _ hw.1) (C.2.2.2.2.2.2.2.2.1.2.2 _ hov) (C.2.2.2.2.1 _ hw.2) f2 C.2.2.2.2.2.2.1 (by rw [show va_pl [] (fun _ => (.inr (0, []) : va_E)) = [] from rfl, List.append_nil]; exact hP) (by rw [show va_pl [] (fun _ => (.inr (0, []) : va_E)) = [] from rfl, List.append_nil]; exact hD) Q.2.2.2.1 C.2.2.2.2.2.2.2.1 hn0 hk0 hN hK' hb1 hb2 hb3 rfl rfl hcl hsl (fun cc => by show ({ cls := cc, slots := Array.replicate K (defaultValue .int), vm := .none } : Cell) = arrV cc K (fun _ => .int 0); rw [← arrV_new]; rfl) hd fun qa r cO H1 hr hr2 hK1 hP1 hD1 hS1 => ?_
  have hcO : ArrOfT s cO (.array .int) ∧ va_RA s cO (.array .int) := hK1.2 0 _ rfl
  rw [xv_mlist hve hn] at hP1 hD1
  have hx : ∀ i, i < n ∨ 1000 ≤ i → xv_ma ad n N qa r i = ad i := fun i hi => by
    unfold xv_ma
    rw [if_neg (by omega), if_neg (by omega)]
  have hW : xv_W D A (xv_ma ad n N qa r) (xv_mh h n N K) (n + 1 + N) s H1 := by
    refine ⟨hn, _, hP1, hD1, fun i hi ty x he => ?_, fun i hi => ?_⟩
    · show ArrOfT s (if i = n then cO else if n < i then cy else cA i) ty ∧ va_RA s (if i = n then cO else if n < i then cy else cA i) ty
      unfold xv_mh at he
      by_cases h1 : i = n
      · rw [if_pos h1] at he ⊢
        cases he
        exact hcO
      · rw [if_neg h1] at he ⊢
        by_cases h2 : n < i
        · rw [if_pos (by omega)] at he
          rw [if_pos h2]
          cases he
          exact ⟨f1, f2⟩
        · rw [if_neg (by omega)] at he
          rw [if_neg h2]
          exact ht i (by omega) ty x he
    · unfold xv_mh
      by_cases h1 : i = n
      · rw [if_pos h1]
        intro k b hb
        have hb : (if k < N then some (n + 1 + k) else none) = some b := hb
        by_cases hk : k < N
        · rw [if_pos hk] at hb
          cases hb
          left
          omega
        · rw [if_neg hk] at hb
          cases hb
      · rw [if_neg h1]
        by_cases h2 : n < i
        · rw [if_pos (by omega)]
          trivial
        · rw [if_neg (by omega)]
          exact xv_vemono (by omega) (hve i (by omega))
  have hk := kk p l e s m args below meth c D A ad0 n0 Qf C _ H1 locs ls (xv_Qnew Q (by omega) hx hW hS1 (xv_cons (Or.inl (show n < n + 1 + N by omega)) (fun w hw => xv_vmono (by omega) (xv_tl (xv_tl Q.2.2.2.2.2.2) w hw))))
  rw [List.map_cons, xv_srext hx (xv_tl (xv_tl Q.2.2.2.2.2.2)), show xv_r (xv_ma ad n N qa r) (.ref n) = .ref qa from congrArg Value.ref (by unfold xv_ma; rw [if_pos rfl])] at hk
  exact hk
end XM
end
section
section XK
variable {X : Nat × (Nat → Int32)} {M : xv_M} {Post : xv_P} {cells slots pc q : Nat} {lv lv' : List (Nat × Value)} {st : List Value} {h : xv_H} {n : Nat} {a : Nat}
theorem xv_aom {ty : FieldType} {u U : State} (hvm : u.vm.Alike U.vm) (h : va_Nw (.arrayOver ty) u) : va_Nw (.arrayOver ty) U := by
  have hf : ∀ s : String, U.vm.findClass s = u.vm.findClass s := fun s => by rw [hvm.findClass]
  unfold va_Nw Cond.before Cond.holds at h ⊢
  simp only [Cond.value, beq_iff_eq, Option.bind_eq_some_iff, Option.map_eq_some_iff] at h ⊢
  obtain ⟨comp, h1, c, h2, k, h3, h4⟩ := h
  have hi := (va_idx_bare U.vm comp).symm.trans ((congrArg (fun vm : Vm => vm.classes.findIdx? _) (show U.vm.bare = u.vm.bare by first | rw [hvm.bare_eq] | rw [← hvm.bare_eq])).trans (va_idx_bare u.vm comp))
  obtain ⟨k', hk', he⟩ := hvm.2.2 _ _ h3
  have hkd : k'.kind = k.kind := by rw [he]
  refine ⟨comp, ?_, c, hi.trans h2, k', hk', ?_⟩
  · cases ty <;> first | exact h1 | exact (hf _).trans h1
  · rw [hkd, hf]
    exact h4
theorem xv_nwm {u U : State} (hW : u.WarmedH U.vm) (h : ∀ w ∈ xv_nw, va_Nw w u) : ∀ w ∈ xv_nw, va_Nw w U := by
  intro w hw
  have h0 := h w hw
  have h1 := (List.mem_filter.mp hw).2
  match w, h0, h1 with
  | .methodLinkNest _ _ _ _, h0, _ => exact va_Nw.warmM hW h0
  | .fieldLinkNest _ _ _ _ _ _, h0, _ => exact va_Nw.warmF hW h0
  | .arrayOver _, h0, _ => exact xv_aom hW.alike h0
theorem xv_nwv {u U : State} (hv : u.vm = U.vm) (h : ∀ w ∈ xv_nw, va_Nw w u) : ∀ w ∈ xv_nw, va_Nw w U := by
  intro w hw
  have h0 := h w hw
  have h1 := (List.mem_filter.mp hw).2
  match w, h0, h1 with
  | .methodLinkNest _ _ _ _, h0, _ => exact va_tabs rfl hv h0
  | .fieldLinkNest _ _ _ _ _ _, h0, _ => exact va_tabs rfl hv h0
  | .arrayOver _, h0, _ => exact xv_aom (by rw [hv]; exact Vm.Alike.refl _) h0
theorem xv_Wm {D : va_G} {A : Nat → Prop} {ad : Nat → Nat} {h : xv_H} {n : Nat} {u U : State} {H : Heap} (hvm : u.vm.Alike U.vm) (hW : xv_W D A ad h n u H) : xv_W D A ad h n U H := by
  obtain ⟨h0, cA, h1, h2, h3, h4⟩ := hW
  exact ⟨h0, cA, h1, h2, fun i hi ty x he => ⟨arrOfT_moved hvm (h3 i hi ty x he).1, (h3 i hi ty x he).2.moved hvm⟩, h4⟩
def xv_A (ad : Nat → Nat) (n sz : Nat) : Nat → Prop := fun q => (∃ i, i < n ∧ q = ad i) ∨ sz ≤ q
def xv_Pc (X : Nat × (Nat → Int32)) (D : va_G) (ad : Nat → Nat) (as : List Value) (h : xv_H) (n sz : Nat) : Array Value → State → Prop := fun v U => v = (as.map (xv_r ad)).toArray ∧ U.heap.size = sz ∧ xv_W D (xv_A ad n sz) ad h n U U.heap ∧ va_K D xv_cl [] U ∧ xv_R X (xv_A ad n sz) ad U U.heap ∧ ∀ w ∈ as, xv_v n w
def xv_Qc (D : va_G) (ad : Nat → Nat) (n sz : Nat) (Post : xv_P) : Array Value → State → Outcome → State → Prop := fun _ s o t => (∃ (v : Option Value) (ad' : Nat → Nat) (h' : xv_H) (n' : Nat), o = .returned (v.map (xv_r ad')) ∧ n ≤ n' ∧ (∀ i, i < n ∨ 1000 ≤ i → ad' i = ad i) ∧ xv_W D (xv_A ad n sz) ad' h' n' t t.heap ∧ (∀ w, v = some w → xv_v n' w) ∧ Post v h' n') ∧ va_F (xv_A ad n sz) s t
/-- a method's contract -/
def xv_K (y : MethodName) (M : xv_M) (Pre : List Value → xv_H → Nat → xv_P → Prop) : Prop := ∀ (l : Launch) (X : Nat × (Nat → Int32)) (D : va_G) (ad : Nat → Nat) (as : List Value) (h : xv_H) (n sz : Nat) (Post : xv_P), Pre as h n Post →
  Met l y (Cond.code y M.2.1 M.2.2.1 M.2.2.2.2.1 :: xv_g) M.2.2.2.2.2 (xv_Pc X D ad as h n sz) (xv_Qc D ad n sz Post) M.2.2.2.2.2.cells M.2.2.2.2.2.slots (xv_A ad n sz)
theorem xv_slr (ad : Nat → Nat) (as : List Value) : (lg_sl (as.map (xv_r ad))).length = (lg_sl as).length := by
  induction as with
  | nil => rfl
  | cons v as ih =>
    show (List.flatMap _ (_ :: _)).length = (List.flatMap _ (_ :: _)).length
    rw [List.flatMap_cons, List.flatMap_cons, List.length_append, List.length_append]
    congr 1
    rw [xv_rcat]
    by_cases hc : v.category = 2
    · rw [if_pos hc, if_pos hc]
      rfl
    · rw [if_neg hc, if_neg hc]
      rfl
theorem xv_argr (ad : Nat → Nat) : ∀ (as : List Value) (i : Nat), lv_args i (as.map (xv_r ad)) = xv_lr ad (lv_args i as)
  | [], _ => rfl
  | v :: as, i => by
    show (i, xv_r ad v) :: lv_args (if (xv_r ad v).category = 2 then i + 2 else i + 1) (as.map (xv_r ad)) = (i, xv_r ad v) :: xv_lr ad (lv_args (if v.category = 2 then i + 2 else i + 1) as)
    rw [xv_rcat, xv_argr ad as]
theorem xv_argv {n : Nat} : ∀ (as : List Value) (i : Nat), (∀ w ∈ as, xv_v n w) → ∀ q ∈ lv_args i as, xv_v n q.2
  | [], _, _, q, hq => by cases hq
  | v :: as, i, h, q, hq => by
    rcases List.mem_cons.mp hq with e | e
    · rw [e]; exact h v List.mem_cons_self
    · exact xv_argv as _ (xv_tl h) q e
theorem xv_entry {y : MethodName} {Pre : List Value → xv_H → Nat → xv_P → Prop} (hy : plainName y.cls = true) (hc : y.cls = M.1) (hini : M.2.2.2.1 = true → y.name = "<init>") (body : ∀ (X : Nat × (Nat → Int32)) (as : List Value) (h : xv_H) (n : Nat) (Post : xv_P), Pre as h n Post → (lg_sl as).length ≤ M.2.2.1 ∧ xv_V X M Post 0 0 0 (lv_args 0 as) [] h n) : xv_K y M Pre := by
  intro l X D ad as h n sz Post hpre
  obtain ⟨hlen, hV⟩ := body X as h n Post hpre
  refine Met.ofW (cc := M.2.1) (maxL := M.2.2.1) (ret := M.2.2.2.2.1) hy rfl ?_
  intro p e s m args below meth c s₁ B hml hv
  obtain ⟨rfl, hsz, hW, hK, hR, hva⟩ := hv
  subst hsz
  have hlocks := B.notSynchronized
  have hx := B.exec
  have hb := B.bytes
  have hr := B.returns
  have hts := atoms_spec (ws := Cond.code y M.2.1 M.2.2.1 M.2.2.2.2.1 :: xv_g) B.pre
  have hown : s.vm.findClass M.1 = some m.cls := by rw [← hc]; exact findClass_of_methodNamed B.named
  have hnm : meth.name = y.name := (name_of_methodNamed B.named B.method).1
  have hl := lv_entry (as.map (xv_r ad)) (n := M.2.2.1) (by rw [xv_slr]; exact hlen)
  rw [lg_entry_eq]
  generalize (lg_sl (as.map (xv_r ad)) ++ List.replicate (M.2.2.1 - (lg_sl (as.map (xv_r ad))).length) Slot.unset).toArray = ls at hl ⊢
  rw [xv_argr] at hl
  refine hV p l e s m _ below meth c D (xv_A ad n s.heap.size) ad n (MQ below (xv_Qc D ad n s.heap.size Post) _ s M.2.2.2.2.2.cells M.2.2.2.2.2.slots (xv_A ad n s.heap.size)) ⟨hx, hb, hml, hown, fun w hw => hts w (List.mem_cons_of_mem _ hw), fun hi => by rw [hnm]; exact hini hi, hK, fun q hq => Or.inr hq, hR, ?_⟩ ad s.heap [] ls ⟨Nat.le_refl _, fun _ _ => rfl, hW, va_S.rf, hl, xv_argv as 0 hva, fun v hv => by cases hv⟩
  intro v ad1 H locs cells slots ls1 pc h1 n1 hret hn1 hext hcl hsl hW1 hvv hS1 hpost
  refine W.widen hcl hsl ?_
  have fin : ∀ t : State, t.heap = H → s.WarmedH t.vm → xv_Qc D ad n s.heap.size Post (as.map (xv_r ad)).toArray s (.returned (v.map (xv_r ad1))) t := fun t ht hwt => ⟨⟨v, ad1, h1, n1, rfl, hn1, hext, by rw [ht]; exact xv_Wm hwt.alike hW1, hvv, hpost⟩, hS1.F ht⟩
  match v, hret, fin with
  | none, hret, fin => exact W.vret hx hb (hr.trans hret.1) fin hS1.2.2 hret.2
  | some (.int x), hret, fin =>
    obtain ⟨ty, h1, h2, h3⟩ := hret
    exact W.zret (v := x) hx hb (hr.trans h1) h2 fin hS1.2.2 h3
  | some (.long x), hret, fin => exact W.lret (v := x) hx hb (hr.trans hret.1) fin hS1.2.2 hret.2
  | some (.ref x), hret, fin =>
    obtain ⟨⟨C, h1⟩, h2⟩ := hret
    exact W.aret (v := .ref (ad1 x)) hx hb (hr.trans h1) (Or.inl ⟨_, rfl⟩) (Or.inr ⟨_, rfl⟩) fin hS1.2.2 h2
  | some .null, hret, fin =>
    obtain ⟨⟨C, h1⟩, h2⟩ := hret
    exact W.aret (v := .null) hx hb (hr.trans h1) (Or.inl ⟨_, rfl⟩) (Or.inl rfl) fin hS1.2.2 h2
/-- what a call needs of its caller's state, for the callee's start -/
theorem xv_pre {p : Program} {l : Launch} {e : Env} {s : State} {m : MethodId} {args : Array Value} {below : List Frame} {meth : Method} {c : Code} {D : va_G} {A : Nat → Prop} {ad0 : Nat → Nat} {n0 : Nat} {Qf : State → Prop} {ad : Nat → Nat} {H : Heap} {locs : List Loc} {ls : Array Slot} (C : xv_C X M Post p l e s m args below meth c D A ad0 n0 Qf) (Q : xv_Q M s D A ad0 n0 ad H locs ls lv st h n) {as : List Value} (has : ∀ w ∈ as, xv_v n w) :
    (∀ q, xv_A ad n H.size q → A q) ∧ FrameBlind (xv_Pc X D ad as h n H.size) ∧ ∀ U : State, U.heap = H → s.WarmedH U.vm → xv_Pc X D ad as h n H.size (as.map (xv_r ad)).toArray U := by
  obtain ⟨hn1, cA, hP, hD, ht, hve⟩ := Q.2.2.1
  have hAA : ∀ q, xv_A ad n H.size q → A q := fun q hq => by
    rcases hq with ⟨i, hi, rfl⟩ | hq
    · exact hD.2 i _ (xv_wget hi)
    · exact C.2.2.2.2.2.2.2.1 q (Nat.le_trans Q.2.2.2.1.1 hq)
  refine ⟨hAA, ?_, ?_⟩
  · rintro a U g mk ⟨q0, q1, q2, q3, q4, q5⟩
    refine ⟨q0, q1, xv_Wm (u := U) (U := U.calling g mk a) (Vm.Alike.refl U.vm) q2, va_K.moved (u := U) (U := U.calling g mk a) (Vm.Alike.refl U.vm) q3, ⟨fun j q hq => va_T.moved (u := U) (U := U.calling g mk a) (Vm.Alike.refl U.vm) (q4.1 j q hq), fun j q hq => va_Z.moved (u := U) (U := U.calling g mk a) (Vm.Alike.refl U.vm) (q4.2.1 j q hq), xv_nwv (u := U) (U := U.calling g mk a) rfl q4.2.2⟩, q5⟩
  · intro U hU hWU
    have hR := C.2.2.2.2.2.2.2.2.1
    have hadj : ∀ j, ad (1000 + j) = ad0 (1000 + j) := fun j => Q.2.1 _ (Or.inr (Nat.le_add_right _ _))
    refine ⟨rfl, by rw [hU], ?_, va_K.moved hWU.alike C.2.2.2.2.2.2.1, ⟨fun j q hq => ?_, fun j q hq => ?_, xv_nwm hWU hR.2.2⟩, has⟩
    · rw [hU]
      refine xv_Wm hWU.alike ⟨hn1, cA, hP, ⟨hD.1, fun k q hk => ?_⟩, ht, hve⟩
      obtain ⟨hk1, rfl⟩ := xv_wlt hk
      exact Or.inl ⟨k, hk1, rfl⟩
    · rw [hU, hadj]
      exact ((va_T.kept (hR.1 j q hq) (fun a h1 h2 => Q.2.2.2.1.2.1 a h1 h2)).narrow hAA).moved hWU.alike
    · rw [hU, hadj]
      exact ((va_Z.kept (hR.2.1 j q hq) (fun a h1 h2 => Q.2.2.2.1.2.1 a h1 h2)).narrow hAA).moved hWU.alike
abbrev xv_pu (v : Option Value) (st : List Value) : List Value := match v with
  | some w => w :: st
  | none => st
/-- behind a call -/
theorem xv_back {p : Program} {l : Launch} {e : Env} {s : State} {m : MethodId} {args : Array Value} {below : List Frame} {meth : Method} {c : Code} {D : va_G} {A : Nat → Prop} {ad0 : Nat → Nat} {n0 : Nat} {Qf : State → Prop} {ad : Nat → Nat} {H : Heap} {locs : List Loc} {ls : Array Slot} {st0 : List Value} {mc ms : Nat} {aa : Array Value} (C : xv_C X M Post p l e s m args below meth c D A ad0 n0 Qf) (Q : xv_Q M s D A ad0 n0 ad H locs ls lv st h n) (hAA : ∀ q, xv_A ad n H.size q → A q)
    (hr : va_Run p l e M.2.2.2.2.2 s m args below meth c H locs cells slots mc ms (F0 m pc ls st0) (st.map (xv_r ad)) (xv_Qc D ad n H.size (fun v h' n' => xv_V X M Post (cells + mc) (slots + ms) (pc + 3) lv (xv_pu v st) h' n') aa) (xv_A ad n H.size)) : W p l e M.2.2.2.2.2 s m args below meth c H locs cells slots Qf (F0 m pc ls st0) := by
  intro T hT Xs
  obtain ⟨v, st₀, t, T', L, h0, X', hL, e1, e2, ⟨⟨w, ad', h', n', hv, hn', hext, hW', hvv, hk⟩, hz, hkp⟩, stp⟩ := hr T hT Xs
  cases hv
  rw [h0] at hz hkp
  have hS' : va_S A s.heap T'.heap (locs ++ L) := ⟨Nat.le_trans Q.2.2.2.1.1 (by rw [e1]; exact hz), fun q h1 h2 => by rw [e1, hkp q (Nat.lt_of_lt_of_le h1 Q.2.2.2.1.1) (fun z => h2 (hAA q z))]; exact Q.2.2.2.1.2.1 q h1 h2, fun q hq => by
      rcases List.mem_append.mp hq with h | h
      · exact Q.2.2.2.1.2.2 q h
      · exact hAA _ (hL q h)⟩
  have hal : t.vm.Alike s.vm := by rw [← e2]; exact X'.warmed.alike.symm
  have hW'' : xv_W D A ad' h' n' s T'.heap := by
    rw [e1]
    obtain ⟨g0, cA, g1, g2, g3, g4⟩ := xv_Wm hal hW'
    exact ⟨g0, cA, g1, ⟨g2.1, fun k q hk => hAA _ (g2.2 k q hk)⟩, g3, g4⟩
  have hst : ∀ v ∈ xv_pu w st, xv_v n' v := by
    cases w with
    | none => exact fun v hv => xv_vmono hn' (Q.2.2.2.2.2.2 v hv)
    | some w => exact xv_cons (hvv w rfl) (fun v hv => xv_vmono hn' (Q.2.2.2.2.2.2 v hv))
  have hfin := hk p l e s m args below meth c D A ad0 n0 Qf C ad' T'.heap (locs ++ L) ls (xv_Qnew Q hn' hext hW'' hS' hst)
  have hl : (xv_pu w st).map (xv_r ad') = (w.map (xv_r ad')).toList ++ st.map (xv_r ad) := by
    cases w with
    | none => exact xv_srext hext Q.2.2.2.2.2.2
    | some w => show xv_r ad' w :: st.map (xv_r ad') = _; rw [xv_srext hext Q.2.2.2.2.2.2]; rfl
  rw [hl] at hfin
  obtain ⟨t2, a1, b1⟩ := hfin T' rfl X'
  exact ⟨t2, stp t2 a1, b1⟩
/-- how the callee's room fits the caller's -/
def xv_fit (R R' : Room) (maxL : Nat) : Prop := R'.frames + 1 ≤ R.frames ∧ 8 + (maxL + 11) + R'.locals ≤ R.locals
def xv_lV (own : String) (i : Nat) (y : MethodName) (M' : xv_M) (k : Nat) : Prop := Cond.methodLink own i y ∈ xv_g ∧ Cond.instanceMethod y ∈ xv_g ∧ Cond.selects M'.1 y y ∈ xv_g ∧ Cond.initialized M'.1 ∈ xv_g ∧ Cond.code y M'.2.1 M'.2.2.1 M'.2.2.2.2.1 ∈ xv_g ∧
  y.cls = M'.1 ∧ y.cls ≠ "java/lang/invoke/MethodHandle" ∧ y.cls ≠ "java/lang/invoke/VarHandle" ∧ (parseMethodDescriptor y.desc).map (fun d => d.parameters.length) = some k
def xv_lS (own : String) (i : Nat) (y : MethodName) (M' : xv_M) (k : Nat) : Prop := (Cond.methodLink own i y ∈ xv_g ∧ y.cls = own ∨ Cond.methodLinkNest own i y "ValveShop" ∈ xv_nw) ∧ Cond.static y ∈ xv_g ∧ Cond.initialized y.cls ∈ xv_g ∧ Cond.code y M'.2.1 M'.2.2.1 M'.2.2.2.2.1 ∈ xv_g ∧
  y.cls ≠ "java/lang/invoke/MethodHandle" ∧ y.cls ≠ "java/lang/invoke/VarHandle" ∧ (parseMethodDescriptor y.desc).map (fun d => d.parameters.length) = some k
def xv_lI (own : String) (i : Nat) (y : MethodName) (M' : xv_M) (k : Nat) : Prop := (Cond.methodLink own i y ∈ xv_g ∨ Cond.methodLinkNest own i y "ValveShop" ∈ xv_nw) ∧ Cond.instanceMethod y ∈ xv_g ∧ Cond.initialized y.cls ∈ xv_g ∧ Cond.code y M'.2.1 M'.2.2.1 none ∈ xv_g ∧ M'.2.2.2.2.1 = none ∧ y.name = "<init>" ∧
  y.cls ≠ "java/lang/invoke/MethodHandle" ∧ y.cls ≠ "java/lang/invoke/VarHandle" ∧ (parseMethodDescriptor y.desc).map (fun d => d.parameters.length) = some k
theorem xv_good {y : MethodName} {cc : ByteArray} {k : Nat} {ret : Option FieldType} (h : Cond.code y cc k ret ∈ xv_g) : GoodIn xv_g (Cond.code y cc k ret :: xv_g) := fun w hw => by
  have hm : w ∈ xv_g := (List.mem_cons.mp hw).elim (fun e => e ▸ h) id
  exact ⟨hm, good_of_word (List.mem_filter.mp hm).2⟩
theorem xv_callV {i ci : Nat} {fs : List Value} {y : MethodName} {M' : xv_M} {Pre : List Value → xv_H → Nat → xv_P → Prop} {as st0 : List Value} (hK : xv_K y M' Pre) (hL : xv_lV M.1 i y M' as.length) (hd : decode M.2.1 pc = .ok (.invokevirtual i, 3)) (hst0 : st0 = as.reverse ++ .ref a :: st) (hh : a < n ∧ h a = .inr (ci, fs)) (hci : (xv_cl[ci]?).map (·.1) = some M'.1) (hfit : xv_fit M.2.2.2.2.2 M'.2.2.2.2.2 M'.2.2.1) (hcat : (st.map fun v => v.category).sum ≤ 8) (hcl : cells + M'.2.2.2.2.2.cells ≤ M.2.2.2.2.2.cells) (hsl : slots + M'.2.2.2.2.2.slots ≤ M.2.2.2.2.2.slots) (hq : pc + 3 = q)
    (hpre : Pre (.ref a :: as) h n (fun v h' n' => xv_V X M Post (cells + M'.2.2.2.2.2.cells) (slots + M'.2.2.2.2.2.slots) q lv (xv_pu v st) h' n')) : xv_V X M Post cells slots pc lv st0 h n := by
  subst hq
  subst hst0
  intro p l e s m args below meth c D A ad0 n0 Qf C ad H locs ls Q
  have Q2 : xv_Q M s D A ad0 n0 ad H locs ls lv st h n := ⟨Q.1, Q.2.1, Q.2.2.1, Q.2.2.2.1, Q.2.2.2.2.1, Q.2.2.2.2.2.1, fun v hv => Q.2.2.2.2.2.2 v (List.mem_append_right _ (List.mem_cons_of_mem _ hv))⟩
  obtain ⟨hAA, hfb, hpc⟩ := xv_pre C Q2 (as := .ref a :: as) (fun v hv => (List.mem_cons.mp hv).elim (fun e => by rw [e]; exact Or.inl hh.1) (fun hm => Q.2.2.2.2.2.2 v (List.mem_append_left _ (List.mem_reverse.mpr hm))))
  obtain ⟨hn1, cA, hP, hD, ht, hve⟩ := Q.2.2.1
  have he : (xv_w ad cA h n)[a]? = some (ad a, .inr (ci, fs.map (xv_r ad))) := by rw [xv_wget hh.1, hh.2]; rfl
  obtain ⟨qc, hqc, hqc1⟩ := Option.map_eq_some_iff.mp hci
  obtain ⟨l1, l2, l3, l4, l5, l6⟩ := hL
  refine xv_back (aa := (Value.ref (ad a) :: as.map (xv_r ad)).toArray) C Q2 hAA (va_runV (As := as.map (xv_r ad)) (b := ad a) (C := M'.1) ⟨C.1, C.2.1, C.2.2.1, C.2.2.2.1, C.2.2.2.2.1⟩ (hK l X D ad (.ref a :: as) h n H.size _ hpre) (cwV as.length C.2.2.2.2.1 (fun w hw => ?_) rfl rfl rfl l6 hfit) ⟨hfb, by rw [← hqc1]; exact va_recv C.2.2.2.2.2.2.1 hP hqc he, hpc⟩ rfl (by rw [List.length_map]) Q.2.2.2.2.1.1 (by rw [List.map_append, List.map_reverse]; rfl) (lv_room (by rw [xv_sumc]; exact hcat)) hd ⟨hcl, hsl⟩)
  rcases List.mem_append.mp hw with hw | hw
  · have hw2 : w ∈ xv_g := by
      rcases List.mem_cons.mp hw with rfl | hw
      · exact l1
      rcases List.mem_cons.mp hw with rfl | hw
      · exact l2
      rcases List.mem_cons.mp hw with rfl | hw
      · exact l3
      rcases List.mem_cons.mp hw with rfl | hw
      · exact l4
      cases hw
    exact ⟨hw2, good_of_word (List.mem_filter.mp hw2).2⟩
  · exact xv_good l5 w hw
theorem xv_callS {i : Nat} {y : MethodName} {M' : xv_M} {Pre : List Value → xv_H → Nat → xv_P → Prop} {as st0 : List Value} (hK : xv_K y M' Pre) (hL : xv_lS M.1 i y M' as.length) (hd : decode M.2.1 pc = .ok (.invokestatic i, 3)) (hst0 : st0 = as.reverse ++ st) (hfit : xv_fit M.2.2.2.2.2 M'.2.2.2.2.2 M'.2.2.1) (hcat : (st.map fun v => v.category).sum ≤ 8) (hcl : cells + M'.2.2.2.2.2.cells ≤ M.2.2.2.2.2.cells) (hsl : slots + M'.2.2.2.2.2.slots ≤ M.2.2.2.2.2.slots) (hq : pc + 3 = q)
    (hpre : Pre as h n (fun v h' n' => xv_V X M Post (cells + M'.2.2.2.2.2.cells) (slots + M'.2.2.2.2.2.slots) q lv (xv_pu v st) h' n')) : xv_V X M Post cells slots pc lv st0 h n := by
  subst hq
  subst hst0
  intro p l e s m args below meth c D A ad0 n0 Qf C ad H locs ls Q
  have Q2 : xv_Q M s D A ad0 n0 ad H locs ls lv st h n := ⟨Q.1, Q.2.1, Q.2.2.1, Q.2.2.2.1, Q.2.2.2.2.1, Q.2.2.2.2.2.1, fun v hv => Q.2.2.2.2.2.2 v (List.mem_append_right _ hv)⟩
  obtain ⟨hAA, hfb, hpc⟩ := xv_pre C Q2 (as := as) (fun v hm => Q.2.2.2.2.2.2 v (List.mem_append_left _ (List.mem_reverse.mpr hm)))
  obtain ⟨l1, l2, l3, l4, l5⟩ := hL
  rcases l1 with ⟨l1, l0⟩ | l1
  · refine xv_back (aa := (as.map (xv_r ad)).toArray) C Q2 hAA (va_runS (As := as.map (xv_r ad)) ⟨C.1, C.2.1, C.2.2.1, C.2.2.2.1, C.2.2.2.2.1⟩ (hK l X D ad as h n H.size _ hpre) (cwS as.length C.2.2.2.2.1 (fun w hw => ?_) rfl rfl rfl ⟨l0, l5⟩ hfit) ⟨hfb, hpc⟩ rfl (by rw [List.length_map]) Q.2.2.2.2.1.1 (by rw [List.map_append, List.map_reverse]) (lv_room (by rw [xv_sumc]; exact hcat)) hd ⟨hcl, hsl⟩)
    rcases List.mem_append.mp hw with hw | hw
    · have hw2 : w ∈ xv_g := by
        rcases List.mem_cons.mp hw with rfl | hw
        · exact l1
        rcases List.mem_cons.mp hw with rfl | hw
        · exact l2
        rcases List.mem_cons.mp hw with rfl | hw
        · rw [← l0]; exact l3
        cases hw
      exact ⟨hw2, good_of_word (List.mem_filter.mp hw2).2⟩
    · exact xv_good l4 w hw
  · exact xv_back (aa := (as.map (xv_r ad)).toArray) C Q2 hAA (va_runSN (As := as.map (xv_r ad)) (host := "ValveShop") ⟨C.1, C.2.1, C.2.2.1, C.2.2.2.1, C.2.2.2.2.1⟩ (hK l X D ad as h n H.size _ hpre) ⟨va_cnB as.length C.2.2.2.2.1 (xv_good l4) rfl rfl rfl (C.2.2.2.2.2.2.2.2.1.2.2 _ l1) (C.2.2.2.2.1 _ l3) l5 hfit, C.2.2.2.2.1 _ l2, trivial⟩ ⟨hfb, hpc⟩ rfl (by rw [List.length_map]) Q.2.2.2.2.1.1 (by rw [List.map_append, List.map_reverse]) (lv_room (by rw [xv_sumc]; exact hcat)) hd ⟨hcl, hsl⟩)
theorem xv_callI {i : Nat} {y : MethodName} {M' : xv_M} {Pre : List Value → xv_H → Nat → xv_P → Prop} {as st0 : List Value} (hK : xv_K y M' Pre) (hL : xv_lI M.1 i y M' as.length) (hd : decode M.2.1 pc = .ok (.invokespecial i, 3)) (hst0 : st0 = as.reverse ++ .ref a :: st) (hfit : xv_fit M.2.2.2.2.2 M'.2.2.2.2.2 M'.2.2.1) (hcat : (st.map fun v => v.category).sum ≤ 8) (hcl : cells + M'.2.2.2.2.2.cells ≤ M.2.2.2.2.2.cells) (hsl : slots + M'.2.2.2.2.2.slots ≤ M.2.2.2.2.2.slots) (hq : pc + 3 = q)
    (hpre : Pre (.ref a :: as) h n (fun v h' n' => xv_V X M Post (cells + M'.2.2.2.2.2.cells) (slots + M'.2.2.2.2.2.slots) q lv (xv_pu v st) h' n')) : xv_V X M Post cells slots pc lv st0 h n := by
  subst hq
  subst hst0
  intro p l e s m args below meth c D A ad0 n0 Qf C ad H locs ls Q
  have Q2 : xv_Q M s D A ad0 n0 ad H locs ls lv st h n := ⟨Q.1, Q.2.1, Q.2.2.1, Q.2.2.2.1, Q.2.2.2.2.1, Q.2.2.2.2.2.1, fun v hv => Q.2.2.2.2.2.2 v (List.mem_append_right _ (List.mem_cons_of_mem _ hv))⟩
  obtain ⟨hAA, hfb, hpc⟩ := xv_pre C Q2 (as := .ref a :: as) (fun v hv => (List.mem_cons.mp hv).elim (fun e => by rw [e]; exact Q.2.2.2.2.2.2 _ (List.mem_append_right _ List.mem_cons_self)) (fun hm => Q.2.2.2.2.2.2 v (List.mem_append_left _ (List.mem_reverse.mpr hm))))
  obtain ⟨l1, l2, l3, l4, l7, l8, l5⟩ := hL
  have hKK := hK l X D ad (.ref a :: as) h n H.size _ hpre
  rw [l7] at hKK
  rcases l1 with l1 | l1
  · exact xv_back (aa := (Value.ref (ad a) :: as.map (xv_r ad)).toArray) C Q2 hAA (va_runI (As := as.map (xv_r ad)) (b := ad a) ⟨C.1, C.2.1, C.2.2.1, C.2.2.2.1, C.2.2.2.2.1⟩ hKK (cwI as.length C.2.2.2.2.1 (xv_good l4) rfl rfl rfl (C.2.2.2.2.1 _ l3) (C.2.2.2.2.1 _ l1) (C.2.2.2.2.1 _ l2) l8 l5 hfit) ⟨hfb, hpc⟩ rfl (by rw [List.length_map]) Q.2.2.2.2.1.1 (by rw [List.map_append, List.map_reverse]; rfl) (lv_room (by rw [xv_sumc]; exact hcat)) hd ⟨hcl, hsl⟩)
  · exact xv_back (aa := (Value.ref (ad a) :: as.map (xv_r ad)).toArray) C Q2 hAA (va_runIN (As := as.map (xv_r ad)) (b := ad a) (host := "ValveShop") ⟨C.1, C.2.1, C.2.2.1, C.2.2.2.1, C.2.2.2.2.1⟩ hKK ⟨va_cnB as.length C.2.2.2.2.1 (xv_good l4) rfl rfl rfl (C.2.2.2.2.2.2.2.2.1.2.2 _ l1) (C.2.2.2.2.1 _ l3) l5 hfit, l8, C.2.2.2.2.1 _ l2⟩ ⟨hfb, hpc⟩ rfl (by rw [List.length_map]) Q.2.2.2.2.1.1 (by rw [List.map_append, List.map_reverse]; rfl) (lv_room (by rw [xv_sumc]; exact hcat)) hd ⟨hcl, hsl⟩)
end XK
end
