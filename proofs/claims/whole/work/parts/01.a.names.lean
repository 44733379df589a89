-- ===== PART A: goes FIRST, ahead of the names: the tables' words, and 'selects' of the private methods out of them =====
/-- a private method of a class that the tables say can be made, by its rows of tables_1 -/
def lw_okq (q : MethodName × Nat) : Prop := (q.1.cls ≠ "java/lang/invoke/MethodHandle" ∧ q.1.cls ≠ "java/lang/invoke/VarHandle") ∧ Cond.instantiable q.1.cls q.2 ∈ tables_1 ∧ Cond.privateMethod q.1 ∈ tables_1 ∧ Cond.instanceMethod q.1 ∈ tables_1
theorem lw_p0 : lw_okq (⟨"SquareRooms", "refuse", "(I)I"⟩, 11) := ⟨⟨by decide +kernel, by decide +kernel⟩, List.mem_of_getElem? (i := 15) (by decide +kernel), List.mem_of_getElem? (i := 259) (by decide +kernel), List.mem_of_getElem? (i := 260) (by decide +kernel)⟩
theorem lw_p1 : lw_okq (⟨"SquareRooms$Letters", "comeOn", "(LSquareRooms$State;I)Z"⟩, 2) := ⟨⟨by decide +kernel, by decide +kernel⟩, List.mem_of_getElem? (i := 130) (by decide +kernel), List.mem_of_getElem? (i := 303) (by decide +kernel), List.mem_of_getElem? (i := 304) (by decide +kernel)⟩
theorem lw_p2 : lw_okq (⟨"SquareRooms$Letters", "number", "(II)I"⟩, 2) := ⟨⟨by decide +kernel, by decide +kernel⟩, List.mem_of_getElem? (i := 130) (by decide +kernel), List.mem_of_getElem? (i := 307) (by decide +kernel), List.mem_of_getElem? (i := 308) (by decide +kernel)⟩
theorem lw_p3 : lw_okq (⟨"SquareRooms$Pairs", "numberBits", "()I"⟩, 5) := ⟨⟨by decide +kernel, by decide +kernel⟩, List.mem_of_getElem? (i := 29) (by decide +kernel), List.mem_of_getElem? (i := 443) (by decide +kernel), List.mem_of_getElem? (i := 444) (by decide +kernel)⟩
theorem lw_p4 : lw_okq (⟨"SquareRooms$Pairs", "allButZero", "()I"⟩, 5) := ⟨⟨by decide +kernel, by decide +kernel⟩, List.mem_of_getElem? (i := 29) (by decide +kernel), List.mem_of_getElem? (i := 447) (by decide +kernel), List.mem_of_getElem? (i := 448) (by decide +kernel)⟩
theorem lw_p5 : lw_okq (⟨"SquareRooms$Pairs", "sumBits", "()I"⟩, 5) := ⟨⟨by decide +kernel, by decide +kernel⟩, List.mem_of_getElem? (i := 29) (by decide +kernel), List.mem_of_getElem? (i := 459) (by decide +kernel), List.mem_of_getElem? (i := 460) (by decide +kernel)⟩
theorem lw_p6 : lw_okq (⟨"SquareRooms$Search", "begin", "(I)V"⟩, 5) := ⟨⟨by decide +kernel, by decide +kernel⟩, List.mem_of_getElem? (i := 191) (by decide +kernel), List.mem_of_getElem? (i := 494) (by decide +kernel), List.mem_of_getElem? (i := 495) (by decide +kernel)⟩
theorem lw_p7 : lw_okq (⟨"SquareRooms$Pairs", "numberAhead", "(I)I"⟩, 5) := ⟨⟨by decide +kernel, by decide +kernel⟩, List.mem_of_getElem? (i := 29) (by decide +kernel), List.mem_of_getElem? (i := 522) (by decide +kernel), List.mem_of_getElem? (i := 523) (by decide +kernel)⟩
theorem lw_p8 : lw_okq (⟨"SquareRooms$Room", "lay", "(III)I"⟩, 3) := ⟨⟨by decide +kernel, by decide +kernel⟩, List.mem_of_getElem? (i := 94) (by decide +kernel), List.mem_of_getElem? (i := 542) (by decide +kernel), List.mem_of_getElem? (i := 543) (by decide +kernel)⟩
theorem lw_p9 : lw_okq (⟨"SquareRooms$Room", "isFilled", "(II)Z"⟩, 3) := ⟨⟨by decide +kernel, by decide +kernel⟩, List.mem_of_getElem? (i := 94) (by decide +kernel), List.mem_of_getElem? (i := 546) (by decide +kernel), List.mem_of_getElem? (i := 547) (by decide +kernel)⟩
theorem lw_p10 : lw_okq (⟨"SquareRooms", "refusalOfCell", "(IIII)I"⟩, 11) := ⟨⟨by decide +kernel, by decide +kernel⟩, List.mem_of_getElem? (i := 15) (by decide +kernel), List.mem_of_getElem? (i := 559) (by decide +kernel), List.mem_of_getElem? (i := 560) (by decide +kernel)⟩
theorem lw_p11 : lw_okq (⟨"SquareRooms$Search", "noteStarter", "()V"⟩, 5) := ⟨⟨by decide +kernel, by decide +kernel⟩, List.mem_of_getElem? (i := 191) (by decide +kernel), List.mem_of_getElem? (i := 634) (by decide +kernel), List.mem_of_getElem? (i := 635) (by decide +kernel)⟩
theorem lw_p12 : lw_okq (⟨"SquareRooms", "refuseLong", "(I)J"⟩, 11) := ⟨⟨by decide +kernel, by decide +kernel⟩, List.mem_of_getElem? (i := 15) (by decide +kernel), List.mem_of_getElem? (i := 658) (by decide +kernel), List.mem_of_getElem? (i := 659) (by decide +kernel)⟩
theorem lw_p13 : lw_okq (⟨"SquareRooms", "turnInThought", "()V"⟩, 11) := ⟨⟨by decide +kernel, by decide +kernel⟩, List.mem_of_getElem? (i := 15) (by decide +kernel), List.mem_of_getElem? (i := 701) (by decide +kernel), List.mem_of_getElem? (i := 702) (by decide +kernel)⟩
theorem lw_p14 : lw_okq (⟨"SquareRooms", "refusalOfPlace", "(III)I"⟩, 11) := ⟨⟨by decide +kernel, by decide +kernel⟩, List.mem_of_getElem? (i := 15) (by decide +kernel), List.mem_of_getElem? (i := 756) (by decide +kernel), List.mem_of_getElem? (i := 757) (by decide +kernel)⟩
theorem lw_p15 : lw_okq (⟨"SquareRooms", "refusalOfList", "(I)I"⟩, 11) := ⟨⟨by decide +kernel, by decide +kernel⟩, List.mem_of_getElem? (i := 15) (by decide +kernel), List.mem_of_getElem? (i := 760) (by decide +kernel), List.mem_of_getElem? (i := 761) (by decide +kernel)⟩
def lw_privs_1 : List (MethodName × Nat) := [(⟨"SquareRooms", "refuse", "(I)I"⟩, 11), (⟨"SquareRooms$Letters", "comeOn", "(LSquareRooms$State;I)Z"⟩, 2), (⟨"SquareRooms$Letters", "number", "(II)I"⟩, 2), (⟨"SquareRooms$Pairs", "numberBits", "()I"⟩, 5), (⟨"SquareRooms$Pairs", "allButZero", "()I"⟩, 5), (⟨"SquareRooms$Pairs", "sumBits", "()I"⟩, 5), (⟨"SquareRooms$Search", "begin", "(I)V"⟩, 5), (⟨"SquareRooms$Pairs", "numberAhead", "(I)I"⟩, 5), (⟨"SquareRooms$Room", "lay", "(III)I"⟩, 3), (⟨"SquareRooms$Room", "isFilled", "(II)Z"⟩, 3), (⟨"SquareRooms", "refusalOfCell", "(IIII)I"⟩, 11), (⟨"SquareRooms$Search", "noteStarter", "()V"⟩, 5), (⟨"SquareRooms", "refuseLong", "(I)J"⟩, 11), (⟨"SquareRooms", "turnInThought", "()V"⟩, 11), (⟨"SquareRooms", "refusalOfPlace", "(III)I"⟩, 11), (⟨"SquareRooms", "refusalOfList", "(I)I"⟩, 11)]
theorem lw_r1 : ∀ q ∈ lw_privs_1, lw_okq q := List.forall_mem_cons.mpr ⟨lw_p0, List.forall_mem_cons.mpr ⟨lw_p1, List.forall_mem_cons.mpr ⟨lw_p2, List.forall_mem_cons.mpr ⟨lw_p3, List.forall_mem_cons.mpr ⟨lw_p4, List.forall_mem_cons.mpr ⟨lw_p5, List.forall_mem_cons.mpr ⟨lw_p6, List.forall_mem_cons.mpr ⟨lw_p7, List.forall_mem_cons.mpr ⟨lw_p8, List.forall_mem_cons.mpr ⟨lw_p9, List.forall_mem_cons.mpr ⟨lw_p10, List.forall_mem_cons.mpr ⟨lw_p11, List.forall_mem_cons.mpr ⟨lw_p12, List.forall_mem_cons.mpr ⟨lw_p13, List.forall_mem_cons.mpr ⟨lw_p14, List.forall_mem_cons.mpr ⟨lw_p15, fun _ h => absurd h List.not_mem_nil⟩⟩⟩⟩⟩⟩⟩⟩⟩⟩⟩⟩⟩⟩⟩⟩
theorem lw_p16 : lw_okq (⟨"SquareRoomsModel", "empties", "()V"⟩, 35) := ⟨⟨by decide +kernel, by decide +kernel⟩, List.mem_of_getElem? (i := 821) (by decide +kernel), List.mem_of_getElem? (i := 827) (by decide +kernel), List.mem_of_getElem? (i := 828) (by decide +kernel)⟩
theorem lw_p17 : lw_okq (⟨"SquareRoomsModel", "refused", "(I)I"⟩, 35) := ⟨⟨by decide +kernel, by decide +kernel⟩, List.mem_of_getElem? (i := 821) (by decide +kernel), List.mem_of_getElem? (i := 941) (by decide +kernel), List.mem_of_getElem? (i := 942) (by decide +kernel)⟩
theorem lw_p18 : lw_okq (⟨"SquareRoomsModel", "becomesSize", "(I)V"⟩, 35) := ⟨⟨by decide +kernel, by decide +kernel⟩, List.mem_of_getElem? (i := 821) (by decide +kernel), List.mem_of_getElem? (i := 960) (by decide +kernel), List.mem_of_getElem? (i := 961) (by decide +kernel)⟩
theorem lw_p19 : lw_okq (⟨"SquareRoomsModel", "half", "()I"⟩, 35) := ⟨⟨by decide +kernel, by decide +kernel⟩, List.mem_of_getElem? (i := 821) (by decide +kernel), List.mem_of_getElem? (i := 968) (by decide +kernel), List.mem_of_getElem? (i := 969) (by decide +kernel)⟩
theorem lw_p20 : lw_okq (⟨"SquareRoomsModel", "comes", "(III)V"⟩, 35) := ⟨⟨by decide +kernel, by decide +kernel⟩, List.mem_of_getElem? (i := 821) (by decide +kernel), List.mem_of_getElem? (i := 972) (by decide +kernel), List.mem_of_getElem? (i := 973) (by decide +kernel)⟩
theorem lw_p21 : lw_okq (⟨"SquareRoomsModel", "isPair", "(I)Z"⟩, 35) := ⟨⟨by decide +kernel, by decide +kernel⟩, List.mem_of_getElem? (i := 821) (by decide +kernel), List.mem_of_getElem? (i := 984) (by decide +kernel), List.mem_of_getElem? (i := 985) (by decide +kernel)⟩
theorem lw_p22 : lw_okq (⟨"SquareRoomsModel", "remembers", "()V"⟩, 35) := ⟨⟨by decide +kernel, by decide +kernel⟩, List.mem_of_getElem? (i := 821) (by decide +kernel), List.mem_of_getElem? (i := 988) (by decide +kernel), List.mem_of_getElem? (i := 989) (by decide +kernel)⟩
theorem lw_p23 : lw_okq (⟨"SquareRoomsModel", "whole", "(I)I"⟩, 35) := ⟨⟨by decide +kernel, by decide +kernel⟩, List.mem_of_getElem? (i := 821) (by decide +kernel), List.mem_of_getElem? (i := 997) (by decide +kernel), List.mem_of_getElem? (i := 998) (by decide +kernel)⟩
theorem lw_p24 : lw_okq (⟨"SquareRoomsModel", "sumOf", "(I)I"⟩, 35) := ⟨⟨by decide +kernel, by decide +kernel⟩, List.mem_of_getElem? (i := 821) (by decide +kernel), List.mem_of_getElem? (i := 1001) (by decide +kernel), List.mem_of_getElem? (i := 1002) (by decide +kernel)⟩
theorem lw_p25 : lw_okq (⟨"SquareRoomsModel", "isOne", "()Z"⟩, 35) := ⟨⟨by decide +kernel, by decide +kernel⟩, List.mem_of_getElem? (i := 821) (by decide +kernel), List.mem_of_getElem? (i := 1010) (by decide +kernel), List.mem_of_getElem? (i := 1011) (by decide +kernel)⟩
theorem lw_p26 : lw_okq (⟨"SquareRoomsModel", "areUnlike", "([IIZ)Z"⟩, 35) := ⟨⟨by decide +kernel, by decide +kernel⟩, List.mem_of_getElem? (i := 821) (by decide +kernel), List.mem_of_getElem? (i := 1017) (by decide +kernel), List.mem_of_getElem? (i := 1018) (by decide +kernel)⟩
theorem lw_p27 : lw_okq (⟨"SquareRoomsModel", "isAdded", "()Z"⟩, 35) := ⟨⟨by decide +kernel, by decide +kernel⟩, List.mem_of_getElem? (i := 821) (by decide +kernel), List.mem_of_getElem? (i := 1021) (by decide +kernel), List.mem_of_getElem? (i := 1022) (by decide +kernel)⟩
theorem lw_p28 : lw_okq (⟨"SquareRoomsModel", "findsStarters", "(I)V"⟩, 35) := ⟨⟨by decide +kernel, by decide +kernel⟩, List.mem_of_getElem? (i := 821) (by decide +kernel), List.mem_of_getElem? (i := 1030) (by decide +kernel), List.mem_of_getElem? (i := 1031) (by decide +kernel)⟩
theorem lw_p29 : lw_okq (⟨"SquareRoomsModel", "searches", "(III)V"⟩, 35) := ⟨⟨by decide +kernel, by decide +kernel⟩, List.mem_of_getElem? (i := 821) (by decide +kernel), List.mem_of_getElem? (i := 1034) (by decide +kernel), List.mem_of_getElem? (i := 1035) (by decide +kernel)⟩
theorem lw_p30 : lw_okq (⟨"SquareRoomsModel", "findsAdders", "(I)V"⟩, 35) := ⟨⟨by decide +kernel, by decide +kernel⟩, List.mem_of_getElem? (i := 821) (by decide +kernel), List.mem_of_getElem? (i := 1046) (by decide +kernel), List.mem_of_getElem? (i := 1047) (by decide +kernel)⟩
theorem lw_p31 : lw_okq (⟨"SquareRoomsModel", "searchesAdders", "(III)V"⟩, 35) := ⟨⟨by decide +kernel, by decide +kernel⟩, List.mem_of_getElem? (i := 821) (by decide +kernel), List.mem_of_getElem? (i := 1050) (by decide +kernel), List.mem_of_getElem? (i := 1051) (by decide +kernel)⟩
def lw_privs_2 : List (MethodName × Nat) := [(⟨"SquareRoomsModel", "empties", "()V"⟩, 35), (⟨"SquareRoomsModel", "refused", "(I)I"⟩, 35), (⟨"SquareRoomsModel", "becomesSize", "(I)V"⟩, 35), (⟨"SquareRoomsModel", "half", "()I"⟩, 35), (⟨"SquareRoomsModel", "comes", "(III)V"⟩, 35), (⟨"SquareRoomsModel", "isPair", "(I)Z"⟩, 35), (⟨"SquareRoomsModel", "remembers", "()V"⟩, 35), (⟨"SquareRoomsModel", "whole", "(I)I"⟩, 35), (⟨"SquareRoomsModel", "sumOf", "(I)I"⟩, 35), (⟨"SquareRoomsModel", "isOne", "()Z"⟩, 35), (⟨"SquareRoomsModel", "areUnlike", "([IIZ)Z"⟩, 35), (⟨"SquareRoomsModel", "isAdded", "()Z"⟩, 35), (⟨"SquareRoomsModel", "findsStarters", "(I)V"⟩, 35), (⟨"SquareRoomsModel", "searches", "(III)V"⟩, 35), (⟨"SquareRoomsModel", "findsAdders", "(I)V"⟩, 35), (⟨"SquareRoomsModel", "searchesAdders", "(III)V"⟩, 35)]
theorem lw_r2 : ∀ q ∈ lw_privs_2, lw_okq q := List.forall_mem_cons.mpr ⟨lw_p16, List.forall_mem_cons.mpr ⟨lw_p17, List.forall_mem_cons.mpr ⟨lw_p18, List.forall_mem_cons.mpr ⟨lw_p19, List.forall_mem_cons.mpr ⟨lw_p20, List.forall_mem_cons.mpr ⟨lw_p21, List.forall_mem_cons.mpr ⟨lw_p22, List.forall_mem_cons.mpr ⟨lw_p23, List.forall_mem_cons.mpr ⟨lw_p24, List.forall_mem_cons.mpr ⟨lw_p25, List.forall_mem_cons.mpr ⟨lw_p26, List.forall_mem_cons.mpr ⟨lw_p27, List.forall_mem_cons.mpr ⟨lw_p28, List.forall_mem_cons.mpr ⟨lw_p29, List.forall_mem_cons.mpr ⟨lw_p30, List.forall_mem_cons.mpr ⟨lw_p31, fun _ h => absurd h List.not_mem_nil⟩⟩⟩⟩⟩⟩⟩⟩⟩⟩⟩⟩⟩⟩⟩⟩
theorem lw_p32 : lw_okq (⟨"SquareRoomsModel", "shift", "(I)I"⟩, 35) := ⟨⟨by decide +kernel, by decide +kernel⟩, List.mem_of_getElem? (i := 821) (by decide +kernel), List.mem_of_getElem? (i := 1070) (by decide +kernel), List.mem_of_getElem? (i := 1071) (by decide +kernel)⟩
theorem lw_p33 : lw_okq (⟨"SquareRoomsModel", "cellAt", "(II)I"⟩, 35) := ⟨⟨by decide +kernel, by decide +kernel⟩, List.mem_of_getElem? (i := 821) (by decide +kernel), List.mem_of_getElem? (i := 1078) (by decide +kernel), List.mem_of_getElem? (i := 1079) (by decide +kernel)⟩
theorem lw_p34 : lw_okq (⟨"SquareRoomsModel", "fills", "(III)V"⟩, 35) := ⟨⟨by decide +kernel, by decide +kernel⟩, List.mem_of_getElem? (i := 821) (by decide +kernel), List.mem_of_getElem? (i := 1082) (by decide +kernel), List.mem_of_getElem? (i := 1083) (by decide +kernel)⟩
theorem lw_p35 : lw_okq (⟨"SquareRoomsModel", "isCell", "(II)Z"⟩, 35) := ⟨⟨by decide +kernel, by decide +kernel⟩, List.mem_of_getElem? (i := 821) (by decide +kernel), List.mem_of_getElem? (i := 1090) (by decide +kernel), List.mem_of_getElem? (i := 1091) (by decide +kernel)⟩
theorem lw_p36 : lw_okq (⟨"SquareRoomsModel", "pairFaults", "()I"⟩, 35) := ⟨⟨by decide +kernel, by decide +kernel⟩, List.mem_of_getElem? (i := 821) (by decide +kernel), List.mem_of_getElem? (i := 1103) (by decide +kernel), List.mem_of_getElem? (i := 1104) (by decide +kernel)⟩
theorem lw_p37 : lw_okq (⟨"SquareRoomsModel", "lineFaults", "(II)I"⟩, 35) := ⟨⟨by decide +kernel, by decide +kernel⟩, List.mem_of_getElem? (i := 821) (by decide +kernel), List.mem_of_getElem? (i := 1107) (by decide +kernel), List.mem_of_getElem? (i := 1108) (by decide +kernel)⟩
theorem lw_p38 : lw_okq (⟨"SquareRoomsModel", "otherThanOne", "(I)I"⟩, 35) := ⟨⟨by decide +kernel, by decide +kernel⟩, List.mem_of_getElem? (i := 821) (by decide +kernel), List.mem_of_getElem? (i := 1111) (by decide +kernel), List.mem_of_getElem? (i := 1112) (by decide +kernel)⟩
theorem lw_p39 : lw_okq (⟨"SquareRoomsModel", "draws", "(I)I"⟩, 35) := ⟨⟨by decide +kernel, by decide +kernel⟩, List.mem_of_getElem? (i := 821) (by decide +kernel), List.mem_of_getElem? (i := 1133) (by decide +kernel), List.mem_of_getElem? (i := 1134) (by decide +kernel)⟩
theorem lw_p40 : lw_okq (⟨"SquareRoomsModel", "turnsAll", "()V"⟩, 35) := ⟨⟨by decide +kernel, by decide +kernel⟩, List.mem_of_getElem? (i := 821) (by decide +kernel), List.mem_of_getElem? (i := 1153) (by decide +kernel), List.mem_of_getElem? (i := 1154) (by decide +kernel)⟩
theorem lw_p41 : lw_okq (⟨"SquareRoomsModel", "turnsBy", "(II)V"⟩, 35) := ⟨⟨by decide +kernel, by decide +kernel⟩, List.mem_of_getElem? (i := 821) (by decide +kernel), List.mem_of_getElem? (i := 1157) (by decide +kernel), List.mem_of_getElem? (i := 1158) (by decide +kernel)⟩
theorem lw_p42 : lw_okq (⟨"SquareRoomsModel", "wrongPlace", "()I"⟩, 35) := ⟨⟨by decide +kernel, by decide +kernel⟩, List.mem_of_getElem? (i := 821) (by decide +kernel), List.mem_of_getElem? (i := 1173) (by decide +kernel), List.mem_of_getElem? (i := 1174) (by decide +kernel)⟩
theorem lw_p43 : lw_okq (⟨"SquareRoomsModel", "does", "(I)Z"⟩, 35) := ⟨⟨by decide +kernel, by decide +kernel⟩, List.mem_of_getElem? (i := 821) (by decide +kernel), List.mem_of_getElem? (i := 1182) (by decide +kernel), List.mem_of_getElem? (i := 1183) (by decide +kernel)⟩
theorem lw_p44 : lw_okq (⟨"SquareRoomsModel", "numberAt", "(II)I"⟩, 35) := ⟨⟨by decide +kernel, by decide +kernel⟩, List.mem_of_getElem? (i := 821) (by decide +kernel), List.mem_of_getElem? (i := 1186) (by decide +kernel), List.mem_of_getElem? (i := 1187) (by decide +kernel)⟩
theorem lw_p45 : lw_okq (⟨"SquareRoomsModel", "filled", "()I"⟩, 35) := ⟨⟨by decide +kernel, by decide +kernel⟩, List.mem_of_getElem? (i := 821) (by decide +kernel), List.mem_of_getElem? (i := 1231) (by decide +kernel), List.mem_of_getElem? (i := 1232) (by decide +kernel)⟩
def lw_privs_3 : List (MethodName × Nat) := [(⟨"SquareRoomsModel", "shift", "(I)I"⟩, 35), (⟨"SquareRoomsModel", "cellAt", "(II)I"⟩, 35), (⟨"SquareRoomsModel", "fills", "(III)V"⟩, 35), (⟨"SquareRoomsModel", "isCell", "(II)Z"⟩, 35), (⟨"SquareRoomsModel", "pairFaults", "()I"⟩, 35), (⟨"SquareRoomsModel", "lineFaults", "(II)I"⟩, 35), (⟨"SquareRoomsModel", "otherThanOne", "(I)I"⟩, 35), (⟨"SquareRoomsModel", "draws", "(I)I"⟩, 35), (⟨"SquareRoomsModel", "turnsAll", "()V"⟩, 35), (⟨"SquareRoomsModel", "turnsBy", "(II)V"⟩, 35), (⟨"SquareRoomsModel", "wrongPlace", "()I"⟩, 35), (⟨"SquareRoomsModel", "does", "(I)Z"⟩, 35), (⟨"SquareRoomsModel", "numberAt", "(II)I"⟩, 35), (⟨"SquareRoomsModel", "filled", "()I"⟩, 35)]
theorem lw_r3 : ∀ q ∈ lw_privs_3, lw_okq q := List.forall_mem_cons.mpr ⟨lw_p32, List.forall_mem_cons.mpr ⟨lw_p33, List.forall_mem_cons.mpr ⟨lw_p34, List.forall_mem_cons.mpr ⟨lw_p35, List.forall_mem_cons.mpr ⟨lw_p36, List.forall_mem_cons.mpr ⟨lw_p37, List.forall_mem_cons.mpr ⟨lw_p38, List.forall_mem_cons.mpr ⟨lw_p39, List.forall_mem_cons.mpr ⟨lw_p40, List.forall_mem_cons.mpr ⟨lw_p41, List.forall_mem_cons.mpr ⟨lw_p42, List.forall_mem_cons.mpr ⟨lw_p43, List.forall_mem_cons.mpr ⟨lw_p44, List.forall_mem_cons.mpr ⟨lw_p45, fun _ h => absurd h List.not_mem_nil⟩⟩⟩⟩⟩⟩⟩⟩⟩⟩⟩⟩⟩⟩
def lw_privs : List (MethodName × Nat) := lw_privs_1 ++ (lw_privs_2 ++ (lw_privs_3))
def lw_tbl : List Cond := k2_sels lw_privs ++ tables_1
theorem lw_privs_ok : ∀ q ∈ lw_privs, lw_okq q := by
  show ∀ q ∈ lw_privs_1 ++ (lw_privs_2 ++ (lw_privs_3)), lw_okq q
  exact List.forall_mem_append.mpr ⟨lw_r1, List.forall_mem_append.mpr ⟨lw_r2, lw_r3⟩⟩

/-- wanting in the names' text: the word of arrays of arrays -/
def va_AOA (ty : FieldType) (U : State) : Prop := (Cond.arrayOver (.array ty)).before #[] U = true
theorem va_AOA.use {ty : FieldType} {A : Array Value} {U : State} (h : va_AOA ty U) : (Cond.arrayOver (.array ty)).before A U = true := h
/-! ===== BEGIN new T[n][m]: the outer array a place, the inner ones among the pooled ===== -/
/-- f, but v at every address of l -/
def vr_up {α : Type} (f : Nat → α) (l : List Nat) (v : α) : Nat → α := fun a => if a ∈ l then v else f a
theorem vr_up_in {α : Type} {f : Nat → α} {l : List Nat} {v : α} {a : Nat} (h : a ∈ l) : vr_up f l v a = v := if_pos h
theorem vr_up_ne {α : Type} {f : Nat → α} {l : List Nat} {v : α} {a : Nat} (h : a ∉ l) : vr_up f l v a = f a := if_neg h
theorem vr_rows {L l : List Nat} {f : Nat → va_E} {e : va_E} (h : ∀ a, a ∈ l → a ∉ L) : va_pl L f ++ l.map (fun a => (a, e)) = va_pl (L ++ l) (vr_up f l e) := by
  unfold va_pl
  rw [List.map_append]
  congr 1
  · apply List.map_congr_left
    intro a ha
    rw [vr_up_ne (fun q => h a q ha)]
  · apply List.map_congr_left
    intro a ha
    rw [vr_up_in ha]
theorem vr_lay {X rows : va_W} {x : Nat × va_E} {pl : va_W} {D : va_G} {cl : List vw_C} {H : Heap} (hP : va_P D cl (((X ++ pl) ++ [x]) ++ rows) H) : va_P D cl ((X ++ [x]) ++ (pl ++ rows)) H := by
  rw [List.append_assoc (X ++ pl)] at hP
  have h := va_P.swap hP
  rw [← List.append_assoc X] at h
  have h2 := va_P.swap h
  rw [List.append_assoc (X ++ [x])] at h2
  exact h2
theorem vr_layD {X rows : va_W} {x : Nat × va_E} {pl : va_W} {A : Nat → Prop} (hD : va_D A (((X ++ pl) ++ [x]) ++ rows)) : va_D A ((X ++ [x]) ++ (pl ++ rows)) := by
  rw [List.append_assoc (X ++ pl)] at hD
  have h := va_D.swap hD
  rw [← List.append_assoc X] at h
  have h2 := va_D.swap h
  rw [List.append_assoc (X ++ [x])] at h2
  exact h2
theorem vr_outer (c : ClassId) (N h0 : Nat) : ∀ i : Nat, Jvm.Free.Multi.outerC c N h0 i = arrV c N (fun j => va_rf (if j < i then some (h0 + 1 + j) else none))
  | 0 => by
    show ({ cls := c, slots := Array.replicate N .null, vm := .none } : Cell) = _
    rw [arrV_new]
    refine congrArg (arrV c N) (funext fun j => ?_)
    simp [va_rf]
  | i + 1 => by
    show (Jvm.Free.Multi.outerC c N h0 i).setSlot i (.ref (h0 + 1 + i)) = _
    rw [vr_outer c N h0 i, arrV_store]
    refine congrArg (arrV c N) (funext fun j => ?_)
    by_cases e : j = i
    · subst e
      simp [updV, va_rf]
    · by_cases h : j < i
      · simp [updV, e, h, Nat.lt_succ_of_lt h]
      · simp [updV, e, h, show ¬ j < i + 1 by omega]
section VGM
variable {p : Program} {l : Launch} {e : Env} {R : Room} {s : State} {m : MethodId} {args : Array Value} {below : List Frame} {meth : Method} {c : Code} {H : Heap} {locs : List Loc} {cells slots : Nat} {Q : State → Prop}
variable {cc : ByteArray} {pc : Nat} {ls : Array Slot} {rest : List Value} {D : va_G} {cl : List vw_C} {A : Nat → Prop} {a : Nat} {tys : List (ClassId × FieldType)} {ws : va_W} {H0 : Heap}
theorem va_mna {X : va_W} {L : List Nat} {f : Nat → va_E} {cc : ByteArray} (hexec : p.tables.exec = Jvm.exec) (hb : c.code = cc) {own : String} {index : Nat} {ty : FieldType} {cy : ClassId} (hown : s.vm.findClass own = some m.cls) (hclink : (Cond.classLink own index ("[" ++ (FieldType.array ty).toString)).before args s = true) (hover : va_AOA ty s) (harr : (Cond.arrayClass ty).before args s = true) (hcy : s.vm.findClass (FieldType.array ty).toString = some cy)
    (hK : va_K D cl tys s) (hP : va_P D cl (X ++ va_pl L f) H) (hD : va_D A (X ++ va_pl L f)) (hS : va_S A H0 H locs) (hA : ∀ q, H0.size ≤ q → A q) {n k : Int32} {N' K' : Nat} {z : vp_A} (hn : ¬ n < 0) (hk : ¬ k < 0) (hN : n.toNatClampNeg = N') (hM : k.toNatClampNeg = K')
    (hb1 : N' * 4 ≤ 536870912) (hb2 : K' * componentBytes ty ≤ 536870912) (hb3 : K' ≤ 536870912) (hdf : fits ty (defaultValue ty) = true) (hdd : (defaultValue ty).isDefault = true) (hcells : cells + (1 + N') ≤ R.cells) (hslots : slots + (N' + N' * K') ≤ R.slots) (hz : ∀ c : ClassId, Jvm.Free.Multi.innerC c K' (defaultValue ty) = vp_cell c z) (hdg : decode cc pc = .ok (.multianewarray index 2, 4))
    (kk : ∀ (q : Nat) (r : Nat → Nat) (cA : ClassId) (H1 : Heap), (∀ i j : Nat, i < N' → j < N' → r i = r j → i = j) → (∀ i : Nat, i < N' → r i ∉ L) → va_K D cl (tys ++ [(cA, .array ty)]) s →
      va_P D cl ((X ++ [(q, .inl (cA, N', .inr (.inr (.inr (.inr (fun i => if i < N' then some (r i) else none))))))]) ++ va_pl (L ++ (List.range N').map r) (vr_up f ((List.range N').map r) (.inl (cy, z)))) H1 → va_D A ((X ++ [(q, .inl (cA, N', .inr (.inr (.inr (.inr (fun i => if i < N' then some (r i) else none))))))]) ++ va_pl (L ++ (List.range N').map r) (vr_up f ((List.range N').map r) (.inl (cy, z)))) → va_S A H0 H1 locs →
      W p l e R s m args below meth c H1 locs (cells + 1 + N') (slots + N' + N' * K') Q (F0 m (pc + 4) ls (.ref q :: rest))) : W p l e R s m args below meth c H locs cells slots Q (F0 m pc ls (.int k :: .int n :: rest)) := by
  subst hN
  subst hM
  intro T hT Xs
  obtain ⟨vm₁, cA, comp, -, fA, fC, hO, -, X', step⟩ := Xs.multianewarray2F hexec hown hclink (va_AOA.use hover) harr (g := F0 m pc ls (.int k :: .int n :: rest)) rfl (by rw [hb]; exact hdg) rfl hn hk hb1 hb2 hb3 hdf hdd hcells hslots
  have ec : some cy = some comp := hcy.symm.trans fC
  cases ec
  generalize hF : Jvm.Free.Multi.fill (T.setVm vm₁) cA cy n.toNatClampNeg k.toNatClampNeg (defaultValue ty) n.toNatClampNeg = F at X' step
  have hTh : (T.setVm vm₁).heap = H := hT
  obtain ⟨f1, f2, -, -⟩ := Jvm.Free.Multi.fill_facts (T.setVm vm₁) cA cy n.toNatClampNeg k.toNatClampNeg (defaultValue ty) n.toNatClampNeg
  rw [hF, hTh] at f1 f2
  have hold : ∀ x : Nat, x < H.size → F.heap[x]? = H[x]? := fun x hx => by
    have := Jvm.Free.Multi.fill_old (T.setVm vm₁) cA cy n.toNatClampNeg k.toNatClampNeg (defaultValue ty) (a := x) (by rw [hTh]; exact hx) n.toNatClampNeg
    rw [hF, hTh] at this
    exact this
  have hrow : ∀ j : Nat, j < n.toNatClampNeg → F.heap[H.size + 1 + j]? = some (vp_cell cy z) := fun j hj => by
    have := Jvm.Free.Multi.fill_inner (T.setVm vm₁) cA cy n.toNatClampNeg k.toNatClampNeg (defaultValue ty) n.toNatClampNeg j hj
    rw [hF, hTh, hz] at this
    exact this
  have hout : Jvm.Free.Multi.outerC cA n.toNatClampNeg H.size n.toNatClampNeg = vp_cell cA (n.toNatClampNeg, .inr (.inr (.inr (.inr (fun i => if i < n.toNatClampNeg then some (H.size + 1 + i) else none))))) := by
    rw [vp_cell_q]
    exact vr_outer cA n.toNatClampNeg H.size n.toNatClampNeg
  rw [hout] at f2
  have hlt : ∀ a, a ∈ L → a < H.size := fun a ha => by
    obtain ⟨k9, hk9⟩ := va_pl_get (X := X) (f := f) ha
    exact (hP k9 _ hk9).lt
  have hnl : ∀ i : Nat, i < n.toNatClampNeg → H.size + 1 + i ∉ L := fun i _ h => by
    have := hlt _ h
    omega
  have hnm : ∀ a, a ∈ (List.range n.toNatClampNeg).map (fun i => H.size + 1 + i) → a ∉ L := fun a ha h => by
    obtain ⟨i, -, rfl⟩ := List.mem_map.mp ha
    have := hlt _ h
    omega
  have hP0 : va_P D cl (X ++ va_pl L f) F.heap := hP.kept (fun k9 x hx => hold x.1 ((hP k9 x hx).lt))
  have hP1 : va_P D cl ((X ++ va_pl L f) ++ [(H.size, .inl (cA, n.toNatClampNeg, .inr (.inr (.inr (.inr (fun i => if i < n.toNatClampNeg then some (H.size + 1 + i) else none))))))]) F.heap := hP0.app (fun k9 x hx => by
    have h0 : k9 < 1 := (List.getElem?_eq_some_iff.mp hx).1
    rw [show k9 = 0 by omega] at hx
    cases hx
    exact f2)
  have hP2 : va_P D cl (((X ++ va_pl L f) ++ [(H.size, .inl (cA, n.toNatClampNeg, .inr (.inr (.inr (.inr (fun i => if i < n.toNatClampNeg then some (H.size + 1 + i) else none))))))]) ++ ((List.range n.toNatClampNeg).map (fun i => H.size + 1 + i)).map (fun a => (a, .inl (cy, z)))) F.heap := hP1.app (fun k9 x hx => by
    obtain ⟨a, ha, rfl⟩ := List.mem_map.mp (List.mem_of_getElem? hx)
    obtain ⟨i, hi, rfl⟩ := List.mem_map.mp ha
    exact hrow i (List.mem_range.mp hi))
  have hD2 : va_D A (((X ++ va_pl L f) ++ [(H.size, .inl (cA, n.toNatClampNeg, .inr (.inr (.inr (.inr (fun i => if i < n.toNatClampNeg then some (H.size + 1 + i) else none))))))]) ++ ((List.range n.toNatClampNeg).map (fun i => H.size + 1 + i)).map (fun a => (a, .inl (cy, z)))) := by
    have hD1 := hD.push (e := .inl (cA, n.toNatClampNeg, .inr (.inr (.inr (.inr (fun i => if i < n.toNatClampNeg then some (H.size + 1 + i) else none)))))) hP rfl (hA _ hS.1)
    generalize hW1 : (X ++ va_pl L f) ++ [(H.size, .inl (cA, n.toNatClampNeg, .inr (.inr (.inr (.inr (fun i => if i < n.toNatClampNeg then some (H.size + 1 + i) else none))))))] = W1 at hD1 hP1 ⊢
    have hle : ∀ (k9 : Nat) (x : Nat × va_E), W1[k9]? = some x → x.1 ≤ H.size := fun k9 x hx => by
      rw [← hW1] at hx
      by_cases hl : k9 < (X ++ va_pl L f).length
      · rw [List.getElem?_append_left hl] at hx
        exact Nat.le_of_lt ((hP k9 x hx).lt)
      · rw [List.getElem?_append_right (by omega)] at hx
        have h0 : k9 - (X ++ va_pl L f).length < 1 := (List.getElem?_eq_some_iff.mp hx).1
        rw [show k9 - (X ++ va_pl L f).length = 0 by omega] at hx
        cases hx
        exact Nat.le_refl _
    have hr : ∀ (k9 : Nat) (x : Nat × va_E), (((List.range n.toNatClampNeg).map (fun i => H.size + 1 + i)).map (fun a => ((a, .inl (cy, z)) : Nat × va_E)))[k9]? = some x → x.1 = H.size + 1 + k9 := fun k9 x hx => by
      rw [List.getElem?_map, List.getElem?_map] at hx
      by_cases h9 : k9 < n.toNatClampNeg
      · rw [List.getElem?_range h9] at hx
        cases hx
        rfl
      · have hn0 : (List.range n.toNatClampNeg)[k9]? = none := List.getElem?_eq_none (by rw [List.length_range]; omega)
        rw [hn0] at hx
        cases hx
    refine ⟨fun i j x y hi hj hxy => ?_, fun k9 x hx => ?_⟩
    · by_cases h1 : i < W1.length <;> by_cases h2 : j < W1.length
      · rw [List.getElem?_append_left h1] at hi
        rw [List.getElem?_append_left h2] at hj
        exact hD1.1 i j x y hi hj hxy
      · rw [List.getElem?_append_left h1] at hi
        rw [List.getElem?_append_right (by omega)] at hj
        have := hle _ _ hi
        have := hr _ _ hj
        omega
      · rw [List.getElem?_append_right (by omega)] at hi
        rw [List.getElem?_append_left h2] at hj
        have := hle _ _ hj
        have := hr _ _ hi
        omega
      · rw [List.getElem?_append_right (by omega)] at hi hj
        have := hr _ _ hi
        have := hr _ _ hj
        omega
    · by_cases h1 : k9 < W1.length
      · rw [List.getElem?_append_left h1] at hx
        exact hD1.2 k9 x hx
      · rw [List.getElem?_append_right (by omega)] at hx
        have := hr _ _ hx
        exact hA _ (by have := hS.1; omega)
  have hAr : ArrOfT s cA (.array ty) := fun N9 z9 => by
    obtain ⟨-, k9, hk9, cm9, hkk9⟩ := (hO 0 0 0).1
    exact ⟨(fun q hq => by cases hq), k9, hk9, cm9, hkk9⟩
  have hK2 : va_K D cl (tys ++ [(cA, .array ty)]) s := ⟨hK.1, fun k9 x hx => by
    by_cases hl : k9 < tys.length
    · rw [List.getElem?_append_left hl] at hx
      exact hK.2 k9 x hx
    · rw [List.getElem?_append_right (by omega)] at hx
      have h0 : k9 - tys.length < 1 := (List.getElem?_eq_some_iff.mp hx).1
      rw [show k9 - tys.length = 0 by omega] at hx
      cases hx
      exact ⟨hAr, fA⟩⟩
  obtain ⟨t, a1, b1⟩ := kk H.size (fun i => H.size + 1 + i) cA F.heap (fun i j _ _ h => by have h9 : H.size + 1 + i = H.size + 1 + j := h; omega) hnl hK2 (by rw [← vr_rows hnm]; exact vr_lay hP2) (by rw [← vr_rows hnm]; exact vr_layD hD2) ⟨by rw [f1]; have := hS.1; omega, fun x h1 h2 => (hold x (Nat.lt_of_lt_of_le h1 hS.1)).trans (hS.2.1 x h1 h2), hS.2.2⟩ F rfl X'
  refine ⟨t, step t ?_, b1⟩
  have e : T.heap.size = H.size := by rw [hT]
  rw [e]
  exact a1
end VGM
/-! ===== END ===== -/


/-! ===== BEGIN printed: names, fields, word lists, decode rows ===== -/
def RX0 : String := "SquareRooms$History"
def TX0 : u_T := fun k => match k with
  | 0 => ("SquareRooms$History", "firsts", "[[I", true)
  | 1 => ("SquareRooms$History", "seconds", "[[I", true)
  | 2 => ("SquareRooms$History", "adders", "[[I", true)
  | 3 => ("SquareRooms$History", "places", "[I", true)
  | 4 => ("SquareRooms$History", "codes", "[I", true)
  | 5 => ("SquareRooms$History", "next", "I", false)
  | _ => ("SquareRooms$History", "amount", "I", false)
def tyX0 : Nat → FieldType := fun k => match k with
  | 0 => .array (.array .int)
  | 1 => .array (.array .int)
  | 2 => .array (.array .int)
  | 3 => .array .int
  | 4 => .array .int
  | 5 => .int
  | _ => .int
abbrev wsX00 : List Cond := u_ws RX0 TX0 7
theorem nmX0 : ∀ a, a < 7 → ∀ b, b < 7 → a ≠ b → (TX0 a).2.1 ≠ (TX0 b).2.1 := by decide +kernel
theorem tyX0_ok : ∀ k, k < 7 → parseFieldDescriptor (TX0 k).2.2.1 = some (tyX0 k) := by decide +kernel
abbrev cX0_init : ByteArray := prog_2_method_1_code
def yX0_init : MethodName := ⟨RX0, "<init>", "()V"⟩
abbrev cX0_forget : ByteArray := prog_2_method_2_code
def yX0_forget : MethodName := ⟨RX0, "forget", "()V"⟩
abbrev cX0_keep : ByteArray := prog_2_method_3_code
def yX0_keep : MethodName := ⟨RX0, "keep", "(LSquareRooms$Pairs;)V"⟩
abbrev cX0_keepCell : ByteArray := prog_2_method_4_code
def yX0_keepCell : MethodName := ⟨RX0, "keepCell", "(LSquareRooms$Pairs;II)V"⟩
abbrev cX0_goBack : ByteArray := prog_2_method_5_code
def yX0_goBack : MethodName := ⟨RX0, "goBack", "(LSquareRooms$State;)V"⟩
def RX1 : String := "SquareRooms$Letters"
def TX1 : u_T := fun k => match k with
  | 0 => ("SquareRooms$Letters", "signs", "[I", true)
  | _ => ("SquareRooms$Letters", "amount", "I", false)
def tyX1 : Nat → FieldType := fun k => match k with
  | 0 => .array .int
  | _ => .int
abbrev wsX10 : List Cond := u_ws RX1 TX1 2
theorem nmX1 : ∀ a, a < 2 → ∀ b, b < 2 → a ≠ b → (TX1 a).2.1 ≠ (TX1 b).2.1 := by decide +kernel
theorem tyX1_ok : ∀ k, k < 2 → parseFieldDescriptor (TX1 k).2.2.1 = some (tyX1 k) := by decide +kernel
abbrev cX1_init : ByteArray := prog_3_method_1_code
def yX1_init : MethodName := ⟨RX1, "<init>", "()V"⟩
abbrev cX1_come : ByteArray := prog_3_method_2_code
def yX1_come : MethodName := ⟨RX1, "come", "(I)I"⟩
abbrev cX1_lengthOf : ByteArray := prog_3_method_3_code
def yX1_lengthOf : MethodName := ⟨RX1, "lengthOf", "(I)I"⟩
abbrev cX1_wrongPlace : ByteArray := prog_3_method_4_code
def yX1_wrongPlace : MethodName := ⟨RX1, "wrongPlace", "()I"⟩
abbrev cX1_layOn : ByteArray := prog_3_method_5_code
def yX1_layOn : MethodName := ⟨RX1, "layOn", "(LSquareRooms$State;)I"⟩
abbrev cX1_comeOn : ByteArray := prog_3_method_6_code
def yX1_comeOn : MethodName := ⟨RX1, "comeOn", "(LSquareRooms$State;I)Z"⟩
abbrev cX1_number : ByteArray := prog_3_method_7_code
def yX1_number : MethodName := ⟨RX1, "number", "(II)I"⟩
abbrev cX1_resize : ByteArray := prog_3_method_8_code
def yX1_resize : MethodName := ⟨RX1, "resize", "(LSquareRooms$State;I)Z"⟩
abbrev cX1_addPair : ByteArray := prog_3_method_9_code
def yX1_addPair : MethodName := ⟨RX1, "addPair", "(LSquareRooms$State;II)Z"⟩
abbrev cX1_setAdder : ByteArray := prog_3_method_10_code
def yX1_setAdder : MethodName := ⟨RX1, "setAdder", "(LSquareRooms$State;II)Z"⟩
abbrev cX1_addTurn : ByteArray := prog_3_method_11_code
def yX1_addTurn : MethodName := ⟨RX1, "addTurn", "(LSquareRooms$State;II)Z"⟩
def RX2 : String := "SquareRooms$Lists"
def TX2 : u_T := fun k => match k with
  | 0 => ("SquareRooms$Lists", "rows", "[[I", true)
  | _ => ("SquareRooms$Lists", "lengths", "[I", true)
def tyX2 : Nat → FieldType := fun k => match k with
  | 0 => .array (.array .int)
  | _ => .array .int
abbrev wsX20 : List Cond := u_ws RX2 TX2 2
theorem nmX2 : ∀ a, a < 2 → ∀ b, b < 2 → a ≠ b → (TX2 a).2.1 ≠ (TX2 b).2.1 := by decide +kernel
theorem tyX2_ok : ∀ k, k < 2 → parseFieldDescriptor (TX2 k).2.2.1 = some (tyX2 k) := by decide +kernel
abbrev cX2_init : ByteArray := prog_4_method_1_code
def yX2_init : MethodName := ⟨RX2, "<init>", "()V"⟩
abbrev cX2_has : ByteArray := prog_4_method_2_code
def yX2_has : MethodName := ⟨RX2, "has", "(I)Z"⟩
abbrev cX2_make : ByteArray := prog_4_method_3_code
def yX2_make : MethodName := ⟨RX2, "make", "(II)V"⟩
abbrev cX2_firstOtherwise : ByteArray := prog_4_method_4_code
def yX2_firstOtherwise : MethodName := ⟨RX2, "firstOtherwise", "(ILSquareRooms$Pairs;)I"⟩
abbrev cX2_sizesOfStarter : ByteArray := prog_4_method_5_code
def yX2_sizesOfStarter : MethodName := ⟨RX2, "sizesOfStarter", "(ILSquareRooms$Pairs;)I"⟩
def RX3 : String := "SquareRooms$Pairs"
def TX3 : u_T := fun k => match k with
  | 0 => ("SquareRooms$Pairs", "firsts", "[I", true)
  | 1 => ("SquareRooms$Pairs", "seconds", "[I", true)
  | 2 => ("SquareRooms$Pairs", "adders", "[I", true)
  | 3 => ("SquareRooms$Pairs", "modulus", "I", false)
  | _ => ("SquareRooms$Pairs", "amount", "I", false)
def tyX3 : Nat → FieldType := fun k => match k with
  | 0 => .array .int
  | 1 => .array .int
  | 2 => .array .int
  | 3 => .int
  | _ => .int
abbrev wsX30 : List Cond := u_ws RX3 TX3 5
theorem nmX3 : ∀ a, a < 5 → ∀ b, b < 5 → a ≠ b → (TX3 a).2.1 ≠ (TX3 b).2.1 := by decide +kernel
theorem tyX3_ok : ∀ k, k < 5 → parseFieldDescriptor (TX3 k).2.2.1 = some (tyX3 k) := by decide +kernel
abbrev cX3_init : ByteArray := prog_5_method_1_code
def yX3_init : MethodName := ⟨RX3, "<init>", "()V"⟩
abbrev cX3_copyFrom : ByteArray := prog_5_method_2_code
def yX3_copyFrom : MethodName := ⟨RX3, "copyFrom", "(LSquareRooms$Pairs;)V"⟩
abbrev cX3_becomeEmpty : ByteArray := prog_5_method_3_code
def yX3_becomeEmpty : MethodName := ⟨RX3, "becomeEmpty", "(I)V"⟩
abbrev cX3_becomeBook : ByteArray := prog_5_method_4_code
def yX3_becomeBook : MethodName := ⟨RX3, "becomeBook", "(I)V"⟩
abbrev cX3_append : ByteArray := prog_5_method_5_code
def yX3_append : MethodName := ⟨RX3, "append", "(II)V"⟩
abbrev cX3_most : ByteArray := prog_5_method_6_code
def yX3_most : MethodName := ⟨RX3, "most", "()I"⟩
abbrev cX3_has : ByteArray := prog_5_method_7_code
def yX3_has : MethodName := ⟨RX3, "has", "(I)Z"⟩
abbrev cX3_numberAt : ByteArray := prog_5_method_8_code
def yX3_numberAt : MethodName := ⟨RX3, "numberAt", "(I)I"⟩
abbrev cX3_told : ByteArray := prog_5_method_9_code
def yX3_told : MethodName := ⟨RX3, "told", "(II)I"⟩
abbrev cX3_lesserDifference : ByteArray := prog_5_method_10_code
def yX3_lesserDifference : MethodName := ⟨RX3, "lesserDifference", "(I)I"⟩
abbrev cX3_areSuch : ByteArray := prog_5_method_11_code
def yX3_areSuch : MethodName := ⟨RX3, "areSuch", "(I)Z"⟩
abbrev cX3_areWhole : ByteArray := prog_5_method_12_code
def yX3_areWhole : MethodName := ⟨RX3, "areWhole", "()Z"⟩
abbrev cX3_areStarter : ByteArray := prog_5_method_13_code
def yX3_areStarter : MethodName := ⟨RX3, "areStarter", "()Z"⟩
abbrev cX3_haveStrongSums : ByteArray := prog_5_method_14_code
def yX3_haveStrongSums : MethodName := ⟨RX3, "haveStrongSums", "()Z"⟩
abbrev cX3_haveSkewSums : ByteArray := prog_5_method_15_code
def yX3_haveSkewSums : MethodName := ⟨RX3, "haveSkewSums", "()Z"⟩
abbrev cX3_areAdded : ByteArray := prog_5_method_16_code
def yX3_areAdded : MethodName := ⟨RX3, "areAdded", "()Z"⟩
abbrev cX3_canBe : ByteArray := prog_5_method_17_code
def yX3_canBe : MethodName := ⟨RX3, "canBe", "()Z"⟩
abbrev cX3_allButZero : ByteArray := prog_5_method_18_code
def yX3_allButZero : MethodName := ⟨RX3, "allButZero", "()I"⟩
abbrev cX3_numberBits : ByteArray := prog_5_method_19_code
def yX3_numberBits : MethodName := ⟨RX3, "numberBits", "()I"⟩
abbrev cX3_differenceBits : ByteArray := prog_5_method_20_code
def yX3_differenceBits : MethodName := ⟨RX3, "differenceBits", "()I"⟩
abbrev cX3_sumBits : ByteArray := prog_5_method_21_code
def yX3_sumBits : MethodName := ⟨RX3, "sumBits", "()I"⟩
abbrev cX3_areRightTo : ByteArray := prog_5_method_22_code
def yX3_areRightTo : MethodName := ⟨RX3, "areRightTo", "(LSquareRooms$Pairs;)Z"⟩
abbrev cX3_shiftFrom : ByteArray := prog_5_method_23_code
def yX3_shiftFrom : MethodName := ⟨RX3, "shiftFrom", "(LSquareRooms$Pairs;I)I"⟩
abbrev cX3_numberAhead : ByteArray := prog_5_method_24_code
def yX3_numberAhead : MethodName := ⟨RX3, "numberAhead", "(I)I"⟩
abbrev cX3_changeByLots : ByteArray := prog_5_method_25_code
def yX3_changeByLots : MethodName := ⟨RX3, "changeByLots", "(II)I"⟩
abbrev cX3_drawn : ByteArray := prog_5_method_26_code
def yX3_drawn : MethodName := ⟨RX3, "drawn", "(I)I"⟩
abbrev cX3_below : ByteArray := prog_5_method_27_code
def yX3_below : MethodName := ⟨RX3, "below", "(II)I"⟩
def RX4 : String := "SquareRooms$Room"
def TX4 : u_T := fun k => match k with
  | 0 => ("SquareRooms$Room", "cells", "[I", true)
  | 1 => ("SquareRooms$Room", "tally", "[I", true)
  | _ => ("SquareRooms$Room", "side", "I", false)
def tyX4 : Nat → FieldType := fun k => match k with
  | 0 => .array .int
  | 1 => .array .int
  | _ => .int
abbrev wsX40 : List Cond := u_ws RX4 TX4 3
theorem nmX4 : ∀ a, a < 3 → ∀ b, b < 3 → a ≠ b → (TX4 a).2.1 ≠ (TX4 b).2.1 := by decide +kernel
theorem tyX4_ok : ∀ k, k < 3 → parseFieldDescriptor (TX4 k).2.2.1 = some (tyX4 k) := by decide +kernel
abbrev cX4_init : ByteArray := prog_6_method_1_code
def yX4_init : MethodName := ⟨RX4, "<init>", "()V"⟩
abbrev cX4_codeOf : ByteArray := prog_6_method_2_code
def yX4_codeOf : MethodName := ⟨RX4, "codeOf", "(II)I"⟩
abbrev cX4_lesserOf : ByteArray := prog_6_method_3_code
def yX4_lesserOf : MethodName := ⟨RX4, "lesserOf", "(I)I"⟩
abbrev cX4_greaterOf : ByteArray := prog_6_method_4_code
def yX4_greaterOf : MethodName := ⟨RX4, "greaterOf", "(I)I"⟩
abbrev cX4_copyFrom : ByteArray := prog_6_method_5_code
def yX4_copyFrom : MethodName := ⟨RX4, "copyFrom", "(LSquareRooms$Room;)V"⟩
abbrev cX4_becomeEmpty : ByteArray := prog_6_method_6_code
def yX4_becomeEmpty : MethodName := ⟨RX4, "becomeEmpty", "(I)V"⟩
abbrev cX4_has : ByteArray := prog_6_method_7_code
def yX4_has : MethodName := ⟨RX4, "has", "(II)Z"⟩
abbrev cX4_placeOf : ByteArray := prog_6_method_8_code
def yX4_placeOf : MethodName := ⟨RX4, "placeOf", "(II)I"⟩
abbrev cX4_isFilled : ByteArray := prog_6_method_9_code
def yX4_isFilled : MethodName := ⟨RX4, "isFilled", "(II)Z"⟩
abbrev cX4_becomeBuilt : ByteArray := prog_6_method_10_code
def yX4_becomeBuilt : MethodName := ⟨RX4, "becomeBuilt", "(LSquareRooms$Pairs;)I"⟩
abbrev cX4_lay : ByteArray := prog_6_method_11_code
def yX4_lay : MethodName := ⟨RX4, "lay", "(III)I"⟩
abbrev cX4_filled : ByteArray := prog_6_method_12_code
def yX4_filled : MethodName := ⟨RX4, "filled", "()I"⟩
abbrev cX4_faultsOfLine : ByteArray := prog_6_method_13_code
def yX4_faultsOfLine : MethodName := ⟨RX4, "faultsOfLine", "(ZI)I"⟩
abbrev cX4_faultsOfPairs : ByteArray := prog_6_method_14_code
def yX4_faultsOfPairs : MethodName := ⟨RX4, "faultsOfPairs", "()I"⟩
abbrev cX4_isIndeed : ByteArray := prog_6_method_15_code
def yX4_isIndeed : MethodName := ⟨RX4, "isIndeed", "()Z"⟩
abbrev cX4_facing : ByteArray := prog_6_method_16_code
def yX4_facing : MethodName := ⟨RX4, "facing", "()I"⟩
abbrev cX4_firstOf : ByteArray := prog_6_method_17_code
def yX4_firstOf : MethodName := ⟨RX4, "firstOf", "(I)I"⟩
def RX5 : String := "SquareRooms$Search"
def TX5 : u_T := fun k => match k with
  | 0 => ("SquareRooms$Search", "trial", "LSquareRooms$Pairs;", true)
  | 1 => ("SquareRooms$Search", "wanted", "I", false)
  | 2 => ("SquareRooms$Search", "found", "I", false)
  | 3 => ("SquareRooms$Search", "strongOnes", "I", false)
  | _ => ("SquareRooms$Search", "skewOnes", "I", false)
def tyX5 : Nat → FieldType := fun k => match k with
  | 0 => .object "SquareRooms$Pairs"
  | 1 => .int
  | 2 => .int
  | 3 => .int
  | _ => .int
abbrev wsX50 : List Cond := u_ws RX5 TX5 5
theorem nmX5 : ∀ a, a < 5 → ∀ b, b < 5 → a ≠ b → (TX5 a).2.1 ≠ (TX5 b).2.1 := by decide +kernel
theorem tyX5_ok : ∀ k, k < 5 → parseFieldDescriptor (TX5 k).2.2.1 = some (tyX5 k) := by decide +kernel
abbrev cX5_init : ByteArray := prog_7_method_1_code
def yX5_init : MethodName := ⟨RX5, "<init>", "()V"⟩
abbrev cX5_begin : ByteArray := prog_7_method_2_code
def yX5_begin : MethodName := ⟨RX5, "begin", "(I)V"⟩
abbrev cX5_hasWanted : ByteArray := prog_7_method_3_code
def yX5_hasWanted : MethodName := ⟨RX5, "hasWanted", "()Z"⟩
abbrev cX5_goThroughStarters : ByteArray := prog_7_method_4_code
def yX5_goThroughStarters : MethodName := ⟨RX5, "goThroughStarters", "(II)V"⟩
abbrev cX5_goThroughAdders : ByteArray := prog_7_method_5_code
def yX5_goThroughAdders : MethodName := ⟨RX5, "goThroughAdders", "(LSquareRooms$Pairs;I)V"⟩
abbrev cX5_noteStarter : ByteArray := prog_7_method_6_code
def yX5_noteStarter : MethodName := ⟨RX5, "noteStarter", "()V"⟩
abbrev cX5_seekStarters : ByteArray := prog_7_method_7_code
def yX5_seekStarters : MethodName := ⟨RX5, "seekStarters", "(LSquareRooms$Search;III)V"⟩
abbrev cX5_leastFree : ByteArray := prog_7_method_8_code
def yX5_leastFree : MethodName := ⟨RX5, "leastFree", "(II)I"⟩
abbrev cX5_seekAdders : ByteArray := prog_7_method_9_code
def yX5_seekAdders : MethodName := ⟨RX5, "seekAdders", "(LSquareRooms$Search;III)V"⟩
def RX6 : String := "SquareRooms$State"
def TX6 : u_T := fun k => match k with
  | 0 => ("SquareRooms$State", "pairs", "LSquareRooms$Pairs;", true)
  | 1 => ("SquareRooms$State", "turns", "LSquareRooms$Turns;", true)
  | _ => ("SquareRooms$State", "room", "LSquareRooms$Room;", true)
def tyX6 : Nat → FieldType := fun k => match k with
  | 0 => .object "SquareRooms$Pairs"
  | 1 => .object "SquareRooms$Turns"
  | _ => .object "SquareRooms$Room"
abbrev wsX60 : List Cond := u_ws RX6 TX6 3
theorem nmX6 : ∀ a, a < 3 → ∀ b, b < 3 → a ≠ b → (TX6 a).2.1 ≠ (TX6 b).2.1 := by decide +kernel
theorem tyX6_ok : ∀ k, k < 3 → parseFieldDescriptor (TX6 k).2.2.1 = some (tyX6 k) := by decide +kernel
abbrev cX6_init : ByteArray := prog_8_method_1_code
def yX6_init : MethodName := ⟨RX6, "<init>", "()V"⟩
abbrev cX6_copyFrom : ByteArray := prog_8_method_2_code
def yX6_copyFrom : MethodName := ⟨RX6, "copyFrom", "(LSquareRooms$State;)V"⟩
abbrev cX6_resize : ByteArray := prog_8_method_3_code
def yX6_resize : MethodName := ⟨RX6, "resize", "(I)V"⟩
abbrev cX6_refusalOfSize : ByteArray := prog_8_method_4_code
def yX6_refusalOfSize : MethodName := ⟨RX6, "refusalOfSize", "(I)I"⟩
abbrev cX6_refusalOfPair : ByteArray := prog_8_method_5_code
def yX6_refusalOfPair : MethodName := ⟨RX6, "refusalOfPair", "(II)I"⟩
abbrev cX6_refusalOfAdder : ByteArray := prog_8_method_6_code
def yX6_refusalOfAdder : MethodName := ⟨RX6, "refusalOfAdder", "(II)I"⟩
abbrev cX6_refusalOfTurn : ByteArray := prog_8_method_7_code
def yX6_refusalOfTurn : MethodName := ⟨RX6, "refusalOfTurn", "(II)I"⟩
def RX7 : String := "SquareRooms$Turns"
def TX7 : u_T := fun k => match k with
  | 0 => ("SquareRooms$Turns", "kinds", "[I", true)
  | 1 => ("SquareRooms$Turns", "numbers", "[I", true)
  | _ => ("SquareRooms$Turns", "amount", "I", false)
def tyX7 : Nat → FieldType := fun k => match k with
  | 0 => .array .int
  | 1 => .array .int
  | _ => .int
abbrev wsX70 : List Cond := u_ws RX7 TX7 3
theorem nmX7 : ∀ a, a < 3 → ∀ b, b < 3 → a ≠ b → (TX7 a).2.1 ≠ (TX7 b).2.1 := by decide +kernel
theorem tyX7_ok : ∀ k, k < 3 → parseFieldDescriptor (TX7 k).2.2.1 = some (tyX7 k) := by decide +kernel
abbrev cX7_init : ByteArray := prog_9_method_1_code
def yX7_init : MethodName := ⟨RX7, "<init>", "()V"⟩
abbrev cX7_copyFrom : ByteArray := prog_9_method_2_code
def yX7_copyFrom : MethodName := ⟨RX7, "copyFrom", "(LSquareRooms$Turns;)V"⟩
abbrev cX7_append : ByteArray := prog_9_method_3_code
def yX7_append : MethodName := ⟨RX7, "append", "(II)V"⟩
abbrev cX7_turnAll : ByteArray := prog_9_method_4_code
def yX7_turnAll : MethodName := ⟨RX7, "turnAll", "(LSquareRooms$Pairs;LSquareRooms$Pairs;)V"⟩
abbrev cX7_turnOnce : ByteArray := prog_9_method_5_code
def yX7_turnOnce : MethodName := ⟨RX7, "turnOnce", "(LSquareRooms$Pairs;LSquareRooms$Pairs;II)V"⟩
abbrev cX7_multiply : ByteArray := prog_9_method_6_code
def yX7_multiply : MethodName := ⟨RX7, "multiply", "(LSquareRooms$Pairs;I)V"⟩
abbrev cX7_reverse : ByteArray := prog_9_method_7_code
def yX7_reverse : MethodName := ⟨RX7, "reverse", "(LSquareRooms$Pairs;LSquareRooms$Pairs;)V"⟩
abbrev cX7_rotate : ByteArray := prog_9_method_8_code
def yX7_rotate : MethodName := ⟨RX7, "rotate", "(LSquareRooms$Pairs;LSquareRooms$Pairs;I)V"⟩
abbrev cX7_takeOver : ByteArray := prog_9_method_9_code
def yX7_takeOver : MethodName := ⟨RX7, "takeOver", "(LSquareRooms$Pairs;ILSquareRooms$Pairs;I)V"⟩
abbrev cX7_swap : ByteArray := prog_9_method_10_code
def yX7_swap : MethodName := ⟨RX7, "swap", "(LSquareRooms$Pairs;LSquareRooms$Pairs;I)V"⟩
abbrev cX7_share : ByteArray := prog_9_method_11_code
def yX7_share : MethodName := ⟨RX7, "share", "(LSquareRooms$Pairs;LSquareRooms$Pairs;I)V"⟩
def RX8 : String := "SquareRooms"
def TX8 : u_T := fun k => match k with
  | 0 => ("SquareRooms", "state", "LSquareRooms$State;", true)
  | 1 => ("SquareRooms", "taken", "LSquareRooms$State;", true)
  | 2 => ("SquareRooms", "draft", "LSquareRooms$State;", true)
  | 3 => ("SquareRooms", "isTaken", "Z", false)
  | 4 => ("SquareRooms", "letters", "LSquareRooms$Letters;", true)
  | 5 => ("SquareRooms", "lists", "LSquareRooms$Lists;", true)
  | 6 => ("SquareRooms", "history", "LSquareRooms$History;", true)
  | 7 => ("SquareRooms", "search", "LSquareRooms$Search;", true)
  | 8 => ("SquareRooms", "thought", "LSquareRooms$Pairs;", true)
  | 9 => ("SquareRooms", "spare", "LSquareRooms$Pairs;", true)
  | _ => ("SquareRooms", "refusals", "[I", true)
def tyX8 : Nat → FieldType := fun k => match k with
  | 0 => .object "SquareRooms$State"
  | 1 => .object "SquareRooms$State"
  | 2 => .object "SquareRooms$State"
  | 3 => .boolean
  | 4 => .object "SquareRooms$Letters"
  | 5 => .object "SquareRooms$Lists"
  | 6 => .object "SquareRooms$History"
  | 7 => .object "SquareRooms$Search"
  | 8 => .object "SquareRooms$Pairs"
  | 9 => .object "SquareRooms$Pairs"
  | _ => .array .int
abbrev wsX80 : List Cond := u_ws RX8 TX8 11
theorem nmX8 : ∀ a, a < 11 → ∀ b, b < 11 → a ≠ b → (TX8 a).2.1 ≠ (TX8 b).2.1 := by decide +kernel
theorem tyX8_ok : ∀ k, k < 11 → parseFieldDescriptor (TX8 k).2.2.1 = some (tyX8 k) := by decide +kernel
abbrev cX8_init : ByteArray := prog_1_method_1_code
def yX8_init : MethodName := ⟨RX8, "<init>", "()V"⟩
abbrev cX8_letter : ByteArray := prog_1_method_2_code
def yX8_letter : MethodName := ⟨RX8, "letter", "(I)I"⟩
abbrev cX8_text : ByteArray := prog_1_method_3_code
def yX8_text : MethodName := ⟨RX8, "text", "()I"⟩
abbrev cX8_size : ByteArray := prog_1_method_4_code
def yX8_size : MethodName := ⟨RX8, "size", "(I)I"⟩
abbrev cX8_pair : ByteArray := prog_1_method_5_code
def yX8_pair : MethodName := ⟨RX8, "pair", "(II)I"⟩
abbrev cX8_drop : ByteArray := prog_1_method_6_code
def yX8_drop : MethodName := ⟨RX8, "drop", "()I"⟩
abbrev cX8_adder : ByteArray := prog_1_method_7_code
def yX8_adder : MethodName := ⟨RX8, "adder", "(II)I"⟩
abbrev cX8_of : ByteArray := prog_1_method_8_code
def yX8_of : MethodName := ⟨RX8, "of", "(II)I"⟩
abbrev cX8_is : ByteArray := prog_1_method_9_code
def yX8_is : MethodName := ⟨RX8, "is", "(I)I"⟩
abbrev cX8_book : ByteArray := prog_1_method_10_code
def yX8_book : MethodName := ⟨RX8, "book", "()I"⟩
abbrev cX8_right : ByteArray := prog_1_method_11_code
def yX8_right : MethodName := ⟨RX8, "right", "(I)I"⟩
abbrev cX8_build : ByteArray := prog_1_method_12_code
def yX8_build : MethodName := ⟨RX8, "build", "()I"⟩
abbrev cX8_cell : ByteArray := prog_1_method_13_code
def yX8_cell : MethodName := ⟨RX8, "cell", "(IIII)I"⟩
abbrev cX8_at : ByteArray := prog_1_method_14_code
def yX8_at : MethodName := ⟨RX8, "at", "(III)I"⟩
abbrev cX8_faults : ByteArray := prog_1_method_15_code
def yX8_faults : MethodName := ⟨RX8, "faults", "(II)I"⟩
abbrev cX8_indeed : ByteArray := prog_1_method_16_code
def yX8_indeed : MethodName := ⟨RX8, "indeed", "()I"⟩
abbrev cX8_faced : ByteArray := prog_1_method_17_code
def yX8_faced : MethodName := ⟨RX8, "faced", "()I"⟩
abbrev cX8_where : ByteArray := prog_1_method_18_code
def yX8_where : MethodName := ⟨RX8, "where", "(II)I"⟩
abbrev cX8_starters : ByteArray := prog_1_method_19_code
def yX8_starters : MethodName := ⟨RX8, "starters", "(II)I"⟩
abbrev cX8_strong : ByteArray := prog_1_method_20_code
def yX8_strong : MethodName := ⟨RX8, "strong", "(I)I"⟩
abbrev cX8_adders : ByteArray := prog_1_method_21_code
def yX8_adders : MethodName := ⟨RX8, "adders", "(II)I"⟩
abbrev cX8_odds : ByteArray := prog_1_method_22_code
def yX8_odds : MethodName := ⟨RX8, "odds", "(I)J"⟩
abbrev cX8_lots : ByteArray := prog_1_method_23_code
def yX8_lots : MethodName := ⟨RX8, "lots", "(III)I"⟩
abbrev cX8_turn : ByteArray := prog_1_method_24_code
def yX8_turn : MethodName := ⟨RX8, "turn", "(II)I"⟩
abbrev cX8_still : ByteArray := prog_1_method_25_code
def yX8_still : MethodName := ⟨RX8, "still", "()I"⟩
abbrev cX8_turned : ByteArray := prog_1_method_26_code
def yX8_turned : MethodName := ⟨RX8, "turned", "(II)I"⟩
abbrev cX8_turns : ByteArray := prog_1_method_27_code
def yX8_turns : MethodName := ⟨RX8, "turns", "()I"⟩
abbrev cX8_list : ByteArray := prog_1_method_28_code
def yX8_list : MethodName := ⟨RX8, "list", "(II)I"⟩
abbrev cX8_put : ByteArray := prog_1_method_29_code
def yX8_put : MethodName := ⟨RX8, "put", "(III)I"⟩
abbrev cX8_look : ByteArray := prog_1_method_30_code
def yX8_look : MethodName := ⟨RX8, "look", "(II)J"⟩
abbrev cX8_lays : ByteArray := prog_1_method_31_code
def yX8_lays : MethodName := ⟨RX8, "lays", "(II)I"⟩
abbrev cX8_judge : ByteArray := prog_1_method_32_code
def yX8_judge : MethodName := ⟨RX8, "judge", "(I)I"⟩
abbrev cX8_sizes : ByteArray := prog_1_method_33_code
def yX8_sizes : MethodName := ⟨RX8, "sizes", "(I)I"⟩
abbrev cX8_undo : ByteArray := prog_1_method_34_code
def yX8_undo : MethodName := ⟨RX8, "undo", "()I"⟩
abbrev cX8_image : ByteArray := prog_1_method_35_code
def yX8_image : MethodName := ⟨RX8, "image", "()I"⟩
abbrev cX8_on : ByteArray := prog_1_method_36_code
def yX8_on : MethodName := ⟨RX8, "on", "()I"⟩
abbrev cX8_count : ByteArray := prog_1_method_37_code
def yX8_count : MethodName := ⟨RX8, "count", "(I)I"⟩
abbrev cX8_refuse : ByteArray := prog_1_method_38_code
def yX8_refuse : MethodName := ⟨RX8, "refuse", "(I)I"⟩
abbrev cX8_refuseLong : ByteArray := prog_1_method_39_code
def yX8_refuseLong : MethodName := ⟨RX8, "refuseLong", "(I)J"⟩
abbrev cX8_refusalOfCell : ByteArray := prog_1_method_40_code
def yX8_refusalOfCell : MethodName := ⟨RX8, "refusalOfCell", "(IIII)I"⟩
abbrev cX8_refusalOfList : ByteArray := prog_1_method_41_code
def yX8_refusalOfList : MethodName := ⟨RX8, "refusalOfList", "(I)I"⟩
abbrev cX8_refusalOfPlace : ByteArray := prog_1_method_42_code
def yX8_refusalOfPlace : MethodName := ⟨RX8, "refusalOfPlace", "(III)I"⟩
abbrev cX8_turnInThought : ByteArray := prog_1_method_43_code
def yX8_turnInThought : MethodName := ⟨RX8, "turnInThought", "()V"⟩
abbrev cX8_bit : ByteArray := prog_1_method_44_code
def yX8_bit : MethodName := ⟨RX8, "bit", "(Z)I"⟩
abbrev cX8_wrap : ByteArray := prog_1_method_45_code
def yX8_wrap : MethodName := ⟨RX8, "wrap", "(II)I"⟩
abbrev cX8_greatestCommon : ByteArray := prog_1_method_46_code
def yX8_greatestCommon : MethodName := ⟨RX8, "greatestCommon", "(II)I"⟩
def RX9 : String := "SquareRoomsModel"
def TX9 : u_T := fun k => match k with
  | 0 => ("SquareRoomsModel", "n", "I", false)
  | 1 => ("SquareRoomsModel", "many", "I", false)
  | 2 => ("SquareRoomsModel", "pairs", "[I", true)
  | 3 => ("SquareRoomsModel", "room", "[I", true)
  | 4 => ("SquareRoomsModel", "rules", "[I", true)
  | 5 => ("SquareRoomsModel", "turns", "I", false)
  | 6 => ("SquareRoomsModel", "refusals", "[I", true)
  | 7 => ("SquareRoomsModel", "deeds", "I", false)
  | 8 => ("SquareRoomsModel", "wereMany", "[I", true)
  | 9 => ("SquareRoomsModel", "werePairs", "[I", true)
  | 10 => ("SquareRoomsModel", "wereRoom", "[I", true)
  | 11 => ("SquareRoomsModel", "found", "I", false)
  | 12 => ("SquareRoomsModel", "asked", "I", false)
  | 13 => ("SquareRoomsModel", "strongMany", "I", false)
  | 14 => ("SquareRoomsModel", "skewMany", "I", false)
  | 15 => ("SquareRoomsModel", "tried", "[I", true)
  | 16 => ("SquareRoomsModel", "kept", "[I", true)
  | 17 => ("SquareRoomsModel", "counts", "[I", true)
  | 18 => ("SquareRoomsModel", "z", "I", false)
  | 19 => ("SquareRoomsModel", "thought", "[I", true)
  | 20 => ("SquareRoomsModel", "before", "[I", true)
  | 21 => ("SquareRoomsModel", "letters", "[I", true)
  | 22 => ("SquareRoomsModel", "lettered", "I", false)
  | 23 => ("SquareRoomsModel", "aheadPairs", "[I", true)
  | 24 => ("SquareRoomsModel", "aheadRoom", "[I", true)
  | 25 => ("SquareRoomsModel", "aheadRules", "[I", true)
  | 26 => ("SquareRoomsModel", "sizes", "[I", true)
  | 27 => ("SquareRoomsModel", "items", "[I", true)
  | 28 => ("SquareRoomsModel", "hasImage", "Z", false)
  | 29 => ("SquareRoomsModel", "imageN", "I", false)
  | 30 => ("SquareRoomsModel", "imageMany", "I", false)
  | 31 => ("SquareRoomsModel", "imageTurns", "I", false)
  | 32 => ("SquareRoomsModel", "imagePairs", "[I", true)
  | 33 => ("SquareRoomsModel", "imageRoom", "[I", true)
  | _ => ("SquareRoomsModel", "imageRules", "[I", true)
def tyX9 : Nat → FieldType := fun k => match k with
  | 0 => .int
  | 1 => .int
  | 2 => .array .int
  | 3 => .array .int
  | 4 => .array .int
  | 5 => .int
  | 6 => .array .int
  | 7 => .int
  | 8 => .array .int
  | 9 => .array .int
  | 10 => .array .int
  | 11 => .int
  | 12 => .int
  | 13 => .int
  | 14 => .int
  | 15 => .array .int
  | 16 => .array .int
  | 17 => .array .int
  | 18 => .int
  | 19 => .array .int
  | 20 => .array .int
  | 21 => .array .int
  | 22 => .int
  | 23 => .array .int
  | 24 => .array .int
  | 25 => .array .int
  | 26 => .array .int
  | 27 => .array .int
  | 28 => .boolean
  | 29 => .int
  | 30 => .int
  | 31 => .int
  | 32 => .array .int
  | 33 => .array .int
  | _ => .array .int
abbrev wsX90 : List Cond := u_ws RX9 TX9 35
theorem nmX9 : ∀ a, a < 35 → ∀ b, b < 35 → a ≠ b → (TX9 a).2.1 ≠ (TX9 b).2.1 := by decide +kernel
theorem tyX9_ok : ∀ k, k < 35 → parseFieldDescriptor (TX9 k).2.2.1 = some (tyX9 k) := by decide +kernel
abbrev cX9_init : ByteArray := prog_11_method_1_code
def yX9_init : MethodName := ⟨RX9, "<init>", "()V"⟩
abbrev cX9_refused : ByteArray := prog_11_method_2_code
def yX9_refused : MethodName := ⟨RX9, "refused", "(I)I"⟩
abbrev cX9_in : ByteArray := prog_11_method_3_code
def yX9_in : MethodName := ⟨RX9, "in", "(JJJ)Z"⟩
abbrev cX9_half : ByteArray := prog_11_method_4_code
def yX9_half : MethodName := ⟨RX9, "half", "()I"⟩
abbrev cX9_whole : ByteArray := prog_11_method_5_code
def yX9_whole : MethodName := ⟨RX9, "whole", "(I)I"⟩
abbrev cX9_empties : ByteArray := prog_11_method_6_code
def yX9_empties : MethodName := ⟨RX9, "empties", "()V"⟩
abbrev cX9_lays : ByteArray := prog_11_method_7_code
def yX9_lays : MethodName := ⟨RX9, "lays", "([II[III)V"⟩
abbrev cX9_remembers : ByteArray := prog_11_method_8_code
def yX9_remembers : MethodName := ⟨RX9, "remembers", "()V"⟩
abbrev cX9_undo : ByteArray := prog_11_method_9_code
def yX9_undo : MethodName := ⟨RX9, "undo", "()I"⟩
abbrev cX9_isSize : ByteArray := prog_11_method_10_code
def yX9_isSize : MethodName := ⟨RX9, "isSize", "(I)Z"⟩
abbrev cX9_becomesSize : ByteArray := prog_11_method_11_code
def yX9_becomesSize : MethodName := ⟨RX9, "becomesSize", "(I)V"⟩
abbrev cX9_size : ByteArray := prog_11_method_12_code
def yX9_size : MethodName := ⟨RX9, "size", "(I)I"⟩
abbrev cX9_comes : ByteArray := prog_11_method_13_code
def yX9_comes : MethodName := ⟨RX9, "comes", "(III)V"⟩
abbrev cX9_pair : ByteArray := prog_11_method_14_code
def yX9_pair : MethodName := ⟨RX9, "pair", "(II)I"⟩
abbrev cX9_drop : ByteArray := prog_11_method_15_code
def yX9_drop : MethodName := ⟨RX9, "drop", "()I"⟩
abbrev cX9_isPair : ByteArray := prog_11_method_16_code
def yX9_isPair : MethodName := ⟨RX9, "isPair", "(I)Z"⟩
abbrev cX9_adder : ByteArray := prog_11_method_17_code
def yX9_adder : MethodName := ⟨RX9, "adder", "(II)I"⟩
abbrev cX9_sumOf : ByteArray := prog_11_method_18_code
def yX9_sumOf : MethodName := ⟨RX9, "sumOf", "(I)I"⟩
abbrev cX9_of : ByteArray := prog_11_method_19_code
def yX9_of : MethodName := ⟨RX9, "of", "(II)I"⟩
abbrev cX9_isStarter : ByteArray := prog_11_method_20_code
def yX9_isStarter : MethodName := ⟨RX9, "isStarter", "([IIIII)Z"⟩
abbrev cX9_isOne : ByteArray := prog_11_method_21_code
def yX9_isOne : MethodName := ⟨RX9, "isOne", "()Z"⟩
abbrev cX9_areUnlike : ByteArray := prog_11_method_22_code
def yX9_areUnlike : MethodName := ⟨RX9, "areUnlike", "([IIZ)Z"⟩
abbrev cX9_isAdded : ByteArray := prog_11_method_23_code
def yX9_isAdded : MethodName := ⟨RX9, "isAdded", "()Z"⟩
abbrev cX9_is : ByteArray := prog_11_method_24_code
def yX9_is : MethodName := ⟨RX9, "is", "(I)I"⟩
abbrev cX9_searches : ByteArray := prog_11_method_25_code
def yX9_searches : MethodName := ⟨RX9, "searches", "(III)V"⟩
abbrev cX9_findsStarters : ByteArray := prog_11_method_26_code
def yX9_findsStarters : MethodName := ⟨RX9, "findsStarters", "(I)V"⟩
abbrev cX9_searchesAdders : ByteArray := prog_11_method_27_code
def yX9_searchesAdders : MethodName := ⟨RX9, "searchesAdders", "(III)V"⟩
abbrev cX9_findsAdders : ByteArray := prog_11_method_28_code
def yX9_findsAdders : MethodName := ⟨RX9, "findsAdders", "(I)V"⟩
abbrev cX9_starters : ByteArray := prog_11_method_29_code
def yX9_starters : MethodName := ⟨RX9, "starters", "(II)I"⟩
abbrev cX9_strong : ByteArray := prog_11_method_30_code
def yX9_strong : MethodName := ⟨RX9, "strong", "(I)I"⟩
abbrev cX9_adders : ByteArray := prog_11_method_31_code
def yX9_adders : MethodName := ⟨RX9, "adders", "(II)I"⟩
abbrev cX9_lowest : ByteArray := prog_11_method_32_code
def yX9_lowest : MethodName := ⟨RX9, "lowest", "(JJI)J"⟩
abbrev cX9_odds : ByteArray := prog_11_method_33_code
def yX9_odds : MethodName := ⟨RX9, "odds", "(I)J"⟩
abbrev cX9_book : ByteArray := prog_11_method_34_code
def yX9_book : MethodName := ⟨RX9, "book", "()I"⟩
abbrev cX9_shift : ByteArray := prog_11_method_35_code
def yX9_shift : MethodName := ⟨RX9, "shift", "(I)I"⟩
abbrev cX9_right : ByteArray := prog_11_method_36_code
def yX9_right : MethodName := ⟨RX9, "right", "(I)I"⟩
abbrev cX9_cellAt : ByteArray := prog_11_method_37_code
def yX9_cellAt : MethodName := ⟨RX9, "cellAt", "(II)I"⟩
abbrev cX9_fills : ByteArray := prog_11_method_38_code
def yX9_fills : MethodName := ⟨RX9, "fills", "(III)V"⟩
abbrev cX9_build : ByteArray := prog_11_method_39_code
def yX9_build : MethodName := ⟨RX9, "build", "()I"⟩
abbrev cX9_isCell : ByteArray := prog_11_method_40_code
def yX9_isCell : MethodName := ⟨RX9, "isCell", "(II)Z"⟩
abbrev cX9_cell : ByteArray := prog_11_method_41_code
def yX9_cell : MethodName := ⟨RX9, "cell", "(IIII)I"⟩
abbrev cX9_at : ByteArray := prog_11_method_42_code
def yX9_at : MethodName := ⟨RX9, "at", "(III)I"⟩
abbrev cX9_otherThanOne : ByteArray := prog_11_method_43_code
def yX9_otherThanOne : MethodName := ⟨RX9, "otherThanOne", "(I)I"⟩
abbrev cX9_lineFaults : ByteArray := prog_11_method_44_code
def yX9_lineFaults : MethodName := ⟨RX9, "lineFaults", "(II)I"⟩
abbrev cX9_pairFaults : ByteArray := prog_11_method_45_code
def yX9_pairFaults : MethodName := ⟨RX9, "pairFaults", "()I"⟩
abbrev cX9_faults : ByteArray := prog_11_method_46_code
def yX9_faults : MethodName := ⟨RX9, "faults", "(II)I"⟩
abbrev cX9_indeed : ByteArray := prog_11_method_47_code
def yX9_indeed : MethodName := ⟨RX9, "indeed", "()I"⟩
abbrev cX9_faced : ByteArray := prog_11_method_48_code
def yX9_faced : MethodName := ⟨RX9, "faced", "()I"⟩
abbrev cX9_where : ByteArray := prog_11_method_49_code
def yX9_where : MethodName := ⟨RX9, "where", "(II)I"⟩
abbrev cX9_draws : ByteArray := prog_11_method_50_code
def yX9_draws : MethodName := ⟨RX9, "draws", "(I)I"⟩
abbrev cX9_lots : ByteArray := prog_11_method_51_code
def yX9_lots : MethodName := ⟨RX9, "lots", "(III)I"⟩
abbrev cX9_turn : ByteArray := prog_11_method_52_code
def yX9_turn : MethodName := ⟨RX9, "turn", "(II)I"⟩
abbrev cX9_still : ByteArray := prog_11_method_53_code
def yX9_still : MethodName := ⟨RX9, "still", "()I"⟩
abbrev cX9_turnsBy : ByteArray := prog_11_method_54_code
def yX9_turnsBy : MethodName := ⟨RX9, "turnsBy", "(II)V"⟩
abbrev cX9_turnsAll : ByteArray := prog_11_method_55_code
def yX9_turnsAll : MethodName := ⟨RX9, "turnsAll", "()V"⟩
abbrev cX9_turned : ByteArray := prog_11_method_56_code
def yX9_turned : MethodName := ⟨RX9, "turned", "(II)I"⟩
abbrev cX9_turns : ByteArray := prog_11_method_57_code
def yX9_turns : MethodName := ⟨RX9, "turns", "()I"⟩
abbrev cX9_letter : ByteArray := prog_11_method_58_code
def yX9_letter : MethodName := ⟨RX9, "letter", "(I)I"⟩
abbrev cX9_digitsOf : ByteArray := prog_11_method_59_code
def yX9_digitsOf : MethodName := ⟨RX9, "digitsOf", "(I)I"⟩
abbrev cX9_wrongPlace : ByteArray := prog_11_method_60_code
def yX9_wrongPlace : MethodName := ⟨RX9, "wrongPlace", "()I"⟩
abbrev cX9_numberAt : ByteArray := prog_11_method_61_code
def yX9_numberAt : MethodName := ⟨RX9, "numberAt", "(II)I"⟩
abbrev cX9_does : ByteArray := prog_11_method_62_code
def yX9_does : MethodName := ⟨RX9, "does", "(I)Z"⟩
abbrev cX9_text : ByteArray := prog_11_method_63_code
def yX9_text : MethodName := ⟨RX9, "text", "()I"⟩
abbrev cX9_isList : ByteArray := prog_11_method_64_code
def yX9_isList : MethodName := ⟨RX9, "isList", "(I)Z"⟩
abbrev cX9_list : ByteArray := prog_11_method_65_code
def yX9_list : MethodName := ⟨RX9, "list", "(II)I"⟩
abbrev cX9_put : ByteArray := prog_11_method_66_code
def yX9_put : MethodName := ⟨RX9, "put", "(III)I"⟩
abbrev cX9_look : ByteArray := prog_11_method_67_code
def yX9_look : MethodName := ⟨RX9, "look", "(II)J"⟩
abbrev cX9_lays_ : ByteArray := prog_11_method_68_code
def yX9_lays_ : MethodName := ⟨RX9, "lays", "(II)I"⟩
abbrev cX9_judge : ByteArray := prog_11_method_69_code
def yX9_judge : MethodName := ⟨RX9, "judge", "(I)I"⟩
abbrev cX9_sizes : ByteArray := prog_11_method_70_code
def yX9_sizes : MethodName := ⟨RX9, "sizes", "(I)I"⟩
abbrev cX9_image : ByteArray := prog_11_method_71_code
def yX9_image : MethodName := ⟨RX9, "image", "()I"⟩
abbrev cX9_on : ByteArray := prog_11_method_72_code
def yX9_on : MethodName := ⟨RX9, "on", "()I"⟩
abbrev cX9_filled : ByteArray := prog_11_method_73_code
def yX9_filled : MethodName := ⟨RX9, "filled", "()I"⟩
abbrev cX9_count : ByteArray := prog_11_method_74_code
def yX9_count : MethodName := ⟨RX9, "count", "(I)I"⟩
def RJ6 : String := "java/lang/Integer"
def TJ6 : u_T := fun k => match k with
  | _ => ("", "", "", false)
def tyJ6 : Nat → FieldType := fun k => match k with
  | _ => .int
abbrev wsJ60 : List Cond := u_ws RJ6 TJ6 0
theorem nmJ6 : ∀ a, a < 0 → ∀ b, b < 0 → a ≠ b → (TJ6 a).2.1 ≠ (TJ6 b).2.1 := by decide +kernel
theorem tyJ6_ok : ∀ k, k < 0 → parseFieldDescriptor (TJ6 k).2.2.1 = some (tyJ6 k) := by decide +kernel
abbrev cJ6_bitCount_0f7a4 : ByteArray := prog_12_method_49_code
def yJ6_bitCount_0f7a4 : MethodName := ⟨RJ6, "bitCount", "(I)I"⟩
def RJ9 : String := "java/lang/Math"
def TJ9 : u_T := fun k => match k with
  | _ => ("", "", "", false)
def tyJ9 : Nat → FieldType := fun k => match k with
  | _ => .int
abbrev wsJ90 : List Cond := u_ws RJ9 TJ9 0
theorem nmJ9 : ∀ a, a < 0 → ∀ b, b < 0 → a ≠ b → (TJ9 a).2.1 ≠ (TJ9 b).2.1 := by decide +kernel
theorem tyJ9_ok : ∀ k, k < 0 → parseFieldDescriptor (TJ9 k).2.2.1 = some (tyJ9 k) := by decide +kernel
abbrev cJ9_floorMod_7cf53 : ByteArray := prog_13_method_50_code
def yJ9_floorMod_7cf53 : MethodName := ⟨RJ9, "floorMod", "(II)I"⟩
abbrev cJ9_max_7cf53 : ByteArray := prog_13_method_65_code
def yJ9_max_7cf53 : MethodName := ⟨RJ9, "max", "(II)I"⟩
abbrev cJ9_min_7cf53 : ByteArray := prog_13_method_69_code
def yJ9_min_7cf53 : MethodName := ⟨RJ9, "min", "(II)I"⟩
def RJ10 : String := "java/lang/System"
def TJ10 : u_T := fun k => match k with
  | _ => ("", "", "", false)
def tyJ10 : Nat → FieldType := fun k => match k with
  | _ => .int
abbrev wsJ100 : List Cond := u_ws RJ10 TJ10 0
theorem nmJ10 : ∀ a, a < 0 → ∀ b, b < 0 → a ≠ b → (TJ10 a).2.1 ≠ (TJ10 b).2.1 := by decide +kernel
theorem tyJ10_ok : ∀ k, k < 0 → parseFieldDescriptor (TJ10 k).2.2.1 = some (tyJ10 k) := by decide +kernel
def RL : String := "SquareRoomsLaw"
abbrev cL_law : ByteArray := code
def yL_law : MethodName := ⟨RL, "law", "([I)Z"⟩

abbrev vwCl : List vw_C := [(RX0, TX0, 7), (RX1, TX1, 2), (RX2, TX2, 2), (RX3, TX3, 5), (RX4, TX4, 3), (RX5, TX5, 5), (RX6, TX6, 3), (RX7, TX7, 3), (RX8, TX8, 11), (RX9, TX9, 35)]
theorem inX0 : ∀ w ∈ u_ws RX0 TX0 7, w ∈ lw_tbl := by decide +kernel
theorem finX0 : ∀ k, k < 7 → (TX0 k).1 = RX0 := by decide +kernel
theorem inX1 : ∀ w ∈ u_ws RX1 TX1 2, w ∈ lw_tbl := by decide +kernel
theorem finX1 : ∀ k, k < 2 → (TX1 k).1 = RX1 := by decide +kernel
theorem inX2 : ∀ w ∈ u_ws RX2 TX2 2, w ∈ lw_tbl := by decide +kernel
theorem finX2 : ∀ k, k < 2 → (TX2 k).1 = RX2 := by decide +kernel
theorem inX3 : ∀ w ∈ u_ws RX3 TX3 5, w ∈ lw_tbl := by decide +kernel
theorem finX3 : ∀ k, k < 5 → (TX3 k).1 = RX3 := by decide +kernel
theorem inX4 : ∀ w ∈ u_ws RX4 TX4 3, w ∈ lw_tbl := by decide +kernel
theorem finX4 : ∀ k, k < 3 → (TX4 k).1 = RX4 := by decide +kernel
theorem inX5 : ∀ w ∈ u_ws RX5 TX5 5, w ∈ lw_tbl := by decide +kernel
theorem finX5 : ∀ k, k < 5 → (TX5 k).1 = RX5 := by decide +kernel
theorem inX6 : ∀ w ∈ u_ws RX6 TX6 3, w ∈ lw_tbl := by decide +kernel
theorem finX6 : ∀ k, k < 3 → (TX6 k).1 = RX6 := by decide +kernel
theorem inX7 : ∀ w ∈ u_ws RX7 TX7 3, w ∈ lw_tbl := by decide +kernel
theorem finX7 : ∀ k, k < 3 → (TX7 k).1 = RX7 := by decide +kernel
theorem inX8 : ∀ w ∈ u_ws RX8 TX8 11, w ∈ lw_tbl := by decide +kernel
theorem finX8 : ∀ k, k < 11 → (TX8 k).1 = RX8 := by decide +kernel
theorem inX9 : ∀ w ∈ u_ws RX9 TX9 35, w ∈ lw_tbl := by decide +kernel
theorem finX9 : ∀ k, k < 35 → (TX9 k).1 = RX9 := by decide +kernel
