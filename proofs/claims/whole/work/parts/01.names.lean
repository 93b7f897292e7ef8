-- ===== PART A: goes FIRST, ahead of the names: the tables' words, and 'selects' of the private methods out of them =====
/-- a private method of a class that the tables say can be made, by its rows of tables_1 -/
def lw_okq (q : MethodName × Nat) : Prop := (q.1.cls ≠ "java/lang/invoke/MethodHandle" ∧ q.1.cls ≠ "java/lang/invoke/VarHandle") ∧ Cond.instantiable q.1.cls q.2 ∈ tables_1 ∧ Cond.privateMethod q.1 ∈ tables_1 ∧ Cond.instanceMethod q.1 ∈ tables_1
theorem lw_p0 : lw_okq (⟨"SmellInTheHouse", "refuse", "(I)I"⟩, 10) := ⟨⟨by decide +kernel, by decide +kernel⟩, List.mem_of_getElem? (i := 16) (by decide +kernel), List.mem_of_getElem? (i := 323) (by decide +kernel), List.mem_of_getElem? (i := 324) (by decide +kernel)⟩
theorem lw_p1 : lw_okq (⟨"SmellInTheHouse", "readHouse", "()I"⟩, 10) := ⟨⟨by decide +kernel, by decide +kernel⟩, List.mem_of_getElem? (i := 16) (by decide +kernel), List.mem_of_getElem? (i := 331) (by decide +kernel), List.mem_of_getElem? (i := 332) (by decide +kernel)⟩
theorem lw_p2 : lw_okq (⟨"SmellInTheHouse", "takeStatement", "(II)Z"⟩, 10) := ⟨⟨by decide +kernel, by decide +kernel⟩, List.mem_of_getElem? (i := 16) (by decide +kernel), List.mem_of_getElem? (i := 375) (by decide +kernel), List.mem_of_getElem? (i := 376) (by decide +kernel)⟩
theorem lw_p3 : lw_okq (⟨"SmellInTheHouse$Air", "giveAll", "(LSmellInTheHouse$House;)V"⟩, 9) := ⟨⟨by decide +kernel, by decide +kernel⟩, List.mem_of_getElem? (i := 176) (by decide +kernel), List.mem_of_getElem? (i := 512) (by decide +kernel), List.mem_of_getElem? (i := 513) (by decide +kernel)⟩
theorem lw_p4 : lw_okq (⟨"SmellInTheHouse$Air", "spread", "(LSmellInTheHouse$House;I)V"⟩, 9) := ⟨⟨by decide +kernel, by decide +kernel⟩, List.mem_of_getElem? (i := 176) (by decide +kernel), List.mem_of_getElem? (i := 523) (by decide +kernel), List.mem_of_getElem? (i := 524) (by decide +kernel)⟩
theorem lw_p5 : lw_okq (⟨"SmellInTheHouse", "roomBehind", "(II)I"⟩, 10) := ⟨⟨by decide +kernel, by decide +kernel⟩, List.mem_of_getElem? (i := 16) (by decide +kernel), List.mem_of_getElem? (i := 563) (by decide +kernel), List.mem_of_getElem? (i := 564) (by decide +kernel)⟩
theorem lw_p6 : lw_okq (⟨"SmellInTheHouse$Rounds", "followAlone", "(LSmellInTheHouse$House;I)V"⟩, 8) := ⟨⟨by decide +kernel, by decide +kernel⟩, List.mem_of_getElem? (i := 229) (by decide +kernel), List.mem_of_getElem? (i := 685) (by decide +kernel), List.mem_of_getElem? (i := 686) (by decide +kernel)⟩
theorem lw_p7 : lw_okq (⟨"SmellInTheHouse$Rounds", "tellAlone", "(LSmellInTheHouse$House;LSmellInTheHouse$Round;I)V"⟩, 8) := ⟨⟨by decide +kernel, by decide +kernel⟩, List.mem_of_getElem? (i := 229) (by decide +kernel), List.mem_of_getElem? (i := 694) (by decide +kernel), List.mem_of_getElem? (i := 695) (by decide +kernel)⟩
theorem lw_p8 : lw_okq (⟨"SmellInTheHouse$Rounds", "digitsOfTried", "()I"⟩, 8) := ⟨⟨by decide +kernel, by decide +kernel⟩, List.mem_of_getElem? (i := 229) (by decide +kernel), List.mem_of_getElem? (i := 717) (by decide +kernel), List.mem_of_getElem? (i := 718) (by decide +kernel)⟩
theorem lw_p9 : lw_okq (⟨"SmellInTheHouse$Rounds", "turnToNext", "(I)V"⟩, 8) := ⟨⟨by decide +kernel, by decide +kernel⟩, List.mem_of_getElem? (i := 229) (by decide +kernel), List.mem_of_getElem? (i := 721) (by decide +kernel), List.mem_of_getElem? (i := 722) (by decide +kernel)⟩
theorem lw_p10 : lw_okq (⟨"SmellInTheHouse", "told", "(III)I"⟩, 10) := ⟨⟨by decide +kernel, by decide +kernel⟩, List.mem_of_getElem? (i := 16) (by decide +kernel), List.mem_of_getElem? (i := 729) (by decide +kernel), List.mem_of_getElem? (i := 730) (by decide +kernel)⟩
theorem lw_p11 : lw_okq (⟨"SmellInTheHouseModel", "no", "(I)I"⟩, 41) := ⟨⟨by decide +kernel, by decide +kernel⟩, List.mem_of_getElem? (i := 797) (by decide +kernel), List.mem_of_getElem? (i := 934) (by decide +kernel), List.mem_of_getElem? (i := 935) (by decide +kernel)⟩
theorem lw_p12 : lw_okq (⟨"SmellInTheHouseModel", "statement", "()Z"⟩, 41) := ⟨⟨by decide +kernel, by decide +kernel⟩, List.mem_of_getElem? (i := 797) (by decide +kernel), List.mem_of_getElem? (i := 942) (by decide +kernel), List.mem_of_getElem? (i := 943) (by decide +kernel)⟩
theorem lw_p13 : lw_okq (⟨"SmellInTheHouseModel", "next", "()I"⟩, 41) := ⟨⟨by decide +kernel, by decide +kernel⟩, List.mem_of_getElem? (i := 797) (by decide +kernel), List.mem_of_getElem? (i := 946) (by decide +kernel), List.mem_of_getElem? (i := 947) (by decide +kernel)⟩
theorem lw_p14 : lw_okq (⟨"SmellInTheHouseModel", "readsAll", "(IIZ)Z"⟩, 41) := ⟨⟨by decide +kernel, by decide +kernel⟩, List.mem_of_getElem? (i := 797) (by decide +kernel), List.mem_of_getElem? (i := 953) (by decide +kernel), List.mem_of_getElem? (i := 954) (by decide +kernel)⟩
theorem lw_p15 : lw_okq (⟨"SmellInTheHouseModel", "reads", "(II)Z"⟩, 41) := ⟨⟨by decide +kernel, by decide +kernel⟩, List.mem_of_getElem? (i := 797) (by decide +kernel), List.mem_of_getElem? (i := 957) (by decide +kernel), List.mem_of_getElem? (i := 958) (by decide +kernel)⟩
def lw_privs_1 : List (MethodName × Nat) := [(⟨"SmellInTheHouse", "refuse", "(I)I"⟩, 10), (⟨"SmellInTheHouse", "readHouse", "()I"⟩, 10), (⟨"SmellInTheHouse", "takeStatement", "(II)Z"⟩, 10), (⟨"SmellInTheHouse$Air", "giveAll", "(LSmellInTheHouse$House;)V"⟩, 9), (⟨"SmellInTheHouse$Air", "spread", "(LSmellInTheHouse$House;I)V"⟩, 9), (⟨"SmellInTheHouse", "roomBehind", "(II)I"⟩, 10), (⟨"SmellInTheHouse$Rounds", "followAlone", "(LSmellInTheHouse$House;I)V"⟩, 8), (⟨"SmellInTheHouse$Rounds", "tellAlone", "(LSmellInTheHouse$House;LSmellInTheHouse$Round;I)V"⟩, 8), (⟨"SmellInTheHouse$Rounds", "digitsOfTried", "()I"⟩, 8), (⟨"SmellInTheHouse$Rounds", "turnToNext", "(I)V"⟩, 8), (⟨"SmellInTheHouse", "told", "(III)I"⟩, 10), (⟨"SmellInTheHouseModel", "no", "(I)I"⟩, 41), (⟨"SmellInTheHouseModel", "statement", "()Z"⟩, 41), (⟨"SmellInTheHouseModel", "next", "()I"⟩, 41), (⟨"SmellInTheHouseModel", "readsAll", "(IIZ)Z"⟩, 41), (⟨"SmellInTheHouseModel", "reads", "(II)Z"⟩, 41)]
theorem lw_r1 : ∀ q ∈ lw_privs_1, lw_okq q := List.forall_mem_cons.mpr ⟨lw_p0, List.forall_mem_cons.mpr ⟨lw_p1, List.forall_mem_cons.mpr ⟨lw_p2, List.forall_mem_cons.mpr ⟨lw_p3, List.forall_mem_cons.mpr ⟨lw_p4, List.forall_mem_cons.mpr ⟨lw_p5, List.forall_mem_cons.mpr ⟨lw_p6, List.forall_mem_cons.mpr ⟨lw_p7, List.forall_mem_cons.mpr ⟨lw_p8, List.forall_mem_cons.mpr ⟨lw_p9, List.forall_mem_cons.mpr ⟨lw_p10, List.forall_mem_cons.mpr ⟨lw_p11, List.forall_mem_cons.mpr ⟨lw_p12, List.forall_mem_cons.mpr ⟨lw_p13, List.forall_mem_cons.mpr ⟨lw_p14, List.forall_mem_cons.mpr ⟨lw_p15, fun _ h => absurd h List.not_mem_nil⟩⟩⟩⟩⟩⟩⟩⟩⟩⟩⟩⟩⟩⟩⟩⟩
theorem lw_p16 : lw_okq (⟨"SmellInTheHouseModel", "passesAll", "(IZ)V"⟩, 41) := ⟨⟨by decide +kernel, by decide +kernel⟩, List.mem_of_getElem? (i := 797) (by decide +kernel), List.mem_of_getElem? (i := 964) (by decide +kernel), List.mem_of_getElem? (i := 965) (by decide +kernel)⟩
theorem lw_p17 : lw_okq (⟨"SmellInTheHouseModel", "passes", "([I)V"⟩, 41) := ⟨⟨by decide +kernel, by decide +kernel⟩, List.mem_of_getElem? (i := 797) (by decide +kernel), List.mem_of_getElem? (i := 968) (by decide +kernel), List.mem_of_getElem? (i := 969) (by decide +kernel)⟩
theorem lw_p18 : lw_okq (⟨"SmellInTheHouseModel", "passOne", "(I)I"⟩, 41) := ⟨⟨by decide +kernel, by decide +kernel⟩, List.mem_of_getElem? (i := 797) (by decide +kernel), List.mem_of_getElem? (i := 972) (by decide +kernel), List.mem_of_getElem? (i := 973) (by decide +kernel)⟩
theorem lw_p19 : lw_okq (⟨"SmellInTheHouseModel", "comes", "(I)Z"⟩, 41) := ⟨⟨by decide +kernel, by decide +kernel⟩, List.mem_of_getElem? (i := 797) (by decide +kernel), List.mem_of_getElem? (i := 976) (by decide +kernel), List.mem_of_getElem? (i := 977) (by decide +kernel)⟩
theorem lw_p20 : lw_okq (⟨"SmellInTheHouseModel", "areRooms", "(II)Z"⟩, 41) := ⟨⟨by decide +kernel, by decide +kernel⟩, List.mem_of_getElem? (i := 797) (by decide +kernel), List.mem_of_getElem? (i := 980) (by decide +kernel), List.mem_of_getElem? (i := 981) (by decide +kernel)⟩
theorem lw_p21 : lw_okq (⟨"SmellInTheHouseModel", "isRoom", "(I)Z"⟩, 41) := ⟨⟨by decide +kernel, by decide +kernel⟩, List.mem_of_getElem? (i := 797) (by decide +kernel), List.mem_of_getElem? (i := 984) (by decide +kernel), List.mem_of_getElem? (i := 985) (by decide +kernel)⟩
theorem lw_p22 : lw_okq (⟨"SmellInTheHouseModel", "comesSource", "(I)Z"⟩, 41) := ⟨⟨by decide +kernel, by decide +kernel⟩, List.mem_of_getElem? (i := 797) (by decide +kernel), List.mem_of_getElem? (i := 988) (by decide +kernel), List.mem_of_getElem? (i := 989) (by decide +kernel)⟩
theorem lw_p23 : lw_okq (⟨"SmellInTheHouseModel", "comesNose", "(I)Z"⟩, 41) := ⟨⟨by decide +kernel, by decide +kernel⟩, List.mem_of_getElem? (i := 797) (by decide +kernel), List.mem_of_getElem? (i := 992) (by decide +kernel), List.mem_of_getElem? (i := 993) (by decide +kernel)⟩
theorem lw_p24 : lw_okq (⟨"SmellInTheHouseModel", "shuts", "(III)V"⟩, 41) := ⟨⟨by decide +kernel, by decide +kernel⟩, List.mem_of_getElem? (i := 797) (by decide +kernel), List.mem_of_getElem? (i := 996) (by decide +kernel), List.mem_of_getElem? (i := 997) (by decide +kernel)⟩
theorem lw_p25 : lw_okq (⟨"SmellInTheHouseModel", "isSource", "(I)Z"⟩, 41) := ⟨⟨by decide +kernel, by decide +kernel⟩, List.mem_of_getElem? (i := 797) (by decide +kernel), List.mem_of_getElem? (i := 1020) (by decide +kernel), List.mem_of_getElem? (i := 1021) (by decide +kernel)⟩
theorem lw_p26 : lw_okq (⟨"SmellInTheHouseModel", "given", "(II)I"⟩, 41) := ⟨⟨by decide +kernel, by decide +kernel⟩, List.mem_of_getElem? (i := 797) (by decide +kernel), List.mem_of_getElem? (i := 1024) (by decide +kernel), List.mem_of_getElem? (i := 1025) (by decide +kernel)⟩
theorem lw_p27 : lw_okq (⟨"SmellInTheHouseModel", "intoRoom", "(I)I"⟩, 41) := ⟨⟨by decide +kernel, by decide +kernel⟩, List.mem_of_getElem? (i := 797) (by decide +kernel), List.mem_of_getElem? (i := 1028) (by decide +kernel), List.mem_of_getElem? (i := 1029) (by decide +kernel)⟩
theorem lw_p28 : lw_okq (⟨"SmellInTheHouseModel", "isNose", "(I)Z"⟩, 41) := ⟨⟨by decide +kernel, by decide +kernel⟩, List.mem_of_getElem? (i := 797) (by decide +kernel), List.mem_of_getElem? (i := 1036) (by decide +kernel), List.mem_of_getElem? (i := 1037) (by decide +kernel)⟩
theorem lw_p29 : lw_okq (⟨"SmellInTheHouseModel", "fromOf", "(I)I"⟩, 41) := ⟨⟨by decide +kernel, by decide +kernel⟩, List.mem_of_getElem? (i := 797) (by decide +kernel), List.mem_of_getElem? (i := 1040) (by decide +kernel), List.mem_of_getElem? (i := 1041) (by decide +kernel)⟩
theorem lw_p30 : lw_okq (⟨"SmellInTheHouseModel", "goes", "(III)V"⟩, 41) := ⟨⟨by decide +kernel, by decide +kernel⟩, List.mem_of_getElem? (i := 797) (by decide +kernel), List.mem_of_getElem? (i := 1060) (by decide +kernel), List.mem_of_getElem? (i := 1061) (by decide +kernel)⟩
theorem lw_p31 : lw_okq (⟨"SmellInTheHouseModel", "goesMinute", "(III)V"⟩, 41) := ⟨⟨by decide +kernel, by decide +kernel⟩, List.mem_of_getElem? (i := 797) (by decide +kernel), List.mem_of_getElem? (i := 1064) (by decide +kernel), List.mem_of_getElem? (i := 1065) (by decide +kernel)⟩
def lw_privs_2 : List (MethodName × Nat) := [(⟨"SmellInTheHouseModel", "passesAll", "(IZ)V"⟩, 41), (⟨"SmellInTheHouseModel", "passes", "([I)V"⟩, 41), (⟨"SmellInTheHouseModel", "passOne", "(I)I"⟩, 41), (⟨"SmellInTheHouseModel", "comes", "(I)Z"⟩, 41), (⟨"SmellInTheHouseModel", "areRooms", "(II)Z"⟩, 41), (⟨"SmellInTheHouseModel", "isRoom", "(I)Z"⟩, 41), (⟨"SmellInTheHouseModel", "comesSource", "(I)Z"⟩, 41), (⟨"SmellInTheHouseModel", "comesNose", "(I)Z"⟩, 41), (⟨"SmellInTheHouseModel", "shuts", "(III)V"⟩, 41), (⟨"SmellInTheHouseModel", "isSource", "(I)Z"⟩, 41), (⟨"SmellInTheHouseModel", "given", "(II)I"⟩, 41), (⟨"SmellInTheHouseModel", "intoRoom", "(I)I"⟩, 41), (⟨"SmellInTheHouseModel", "isNose", "(I)Z"⟩, 41), (⟨"SmellInTheHouseModel", "fromOf", "(I)I"⟩, 41), (⟨"SmellInTheHouseModel", "goes", "(III)V"⟩, 41), (⟨"SmellInTheHouseModel", "goesMinute", "(III)V"⟩, 41)]
theorem lw_r2 : ∀ q ∈ lw_privs_2, lw_okq q := List.forall_mem_cons.mpr ⟨lw_p16, List.forall_mem_cons.mpr ⟨lw_p17, List.forall_mem_cons.mpr ⟨lw_p18, List.forall_mem_cons.mpr ⟨lw_p19, List.forall_mem_cons.mpr ⟨lw_p20, List.forall_mem_cons.mpr ⟨lw_p21, List.forall_mem_cons.mpr ⟨lw_p22, List.forall_mem_cons.mpr ⟨lw_p23, List.forall_mem_cons.mpr ⟨lw_p24, List.forall_mem_cons.mpr ⟨lw_p25, List.forall_mem_cons.mpr ⟨lw_p26, List.forall_mem_cons.mpr ⟨lw_p27, List.forall_mem_cons.mpr ⟨lw_p28, List.forall_mem_cons.mpr ⟨lw_p29, List.forall_mem_cons.mpr ⟨lw_p30, List.forall_mem_cons.mpr ⟨lw_p31, fun _ h => absurd h List.not_mem_nil⟩⟩⟩⟩⟩⟩⟩⟩⟩⟩⟩⟩⟩⟩⟩⟩
theorem lw_p32 : lw_okq (⟨"SmellInTheHouseModel", "sniffs", "(III)I"⟩, 41) := ⟨⟨by decide +kernel, by decide +kernel⟩, List.mem_of_getElem? (i := 797) (by decide +kernel), List.mem_of_getElem? (i := 1075) (by decide +kernel), List.mem_of_getElem? (i := 1076) (by decide +kernel)⟩
theorem lw_p33 : lw_okq (⟨"SmellInTheHouseModel", "doesSmell", "(II)Z"⟩, 41) := ⟨⟨by decide +kernel, by decide +kernel⟩, List.mem_of_getElem? (i := 797) (by decide +kernel), List.mem_of_getElem? (i := 1079) (by decide +kernel), List.mem_of_getElem? (i := 1080) (by decide +kernel)⟩
theorem lw_p34 : lw_okq (⟨"SmellInTheHouseModel", "mends", "(I)V"⟩, 41) := ⟨⟨by decide +kernel, by decide +kernel⟩, List.mem_of_getElem? (i := 797) (by decide +kernel), List.mem_of_getElem? (i := 1087) (by decide +kernel), List.mem_of_getElem? (i := 1088) (by decide +kernel)⟩
theorem lw_p35 : lw_okq (⟨"SmellInTheHouseModel", "notBehind", "(II)I"⟩, 41) := ⟨⟨by decide +kernel, by decide +kernel⟩, List.mem_of_getElem? (i := 797) (by decide +kernel), List.mem_of_getElem? (i := 1095) (by decide +kernel), List.mem_of_getElem? (i := 1096) (by decide +kernel)⟩
theorem lw_p36 : lw_okq (⟨"SmellInTheHouseModel", "strengthBehind", "(IIII)I"⟩, 41) := ⟨⟨by decide +kernel, by decide +kernel⟩, List.mem_of_getElem? (i := 797) (by decide +kernel), List.mem_of_getElem? (i := 1099) (by decide +kernel), List.mem_of_getElem? (i := 1100) (by decide +kernel)⟩
theorem lw_p37 : lw_okq (⟨"SmellInTheHouseModel", "isGivenInto", "(I)Z"⟩, 41) := ⟨⟨by decide +kernel, by decide +kernel⟩, List.mem_of_getElem? (i := 797) (by decide +kernel), List.mem_of_getElem? (i := 1107) (by decide +kernel), List.mem_of_getElem? (i := 1108) (by decide +kernel)⟩
theorem lw_p38 : lw_okq (⟨"SmellInTheHouseModel", "firstWith", "(II)I"⟩, 41) := ⟨⟨by decide +kernel, by decide +kernel⟩, List.mem_of_getElem? (i := 797) (by decide +kernel), List.mem_of_getElem? (i := 1115) (by decide +kernel), List.mem_of_getElem? (i := 1116) (by decide +kernel)⟩
theorem lw_p39 : lw_okq (⟨"SmellInTheHouseModel", "isSome", "(II)Z"⟩, 41) := ⟨⟨by decide +kernel, by decide +kernel⟩, List.mem_of_getElem? (i := 797) (by decide +kernel), List.mem_of_getElem? (i := 1119) (by decide +kernel), List.mem_of_getElem? (i := 1120) (by decide +kernel)⟩
theorem lw_p40 : lw_okq (⟨"SmellInTheHouseModel", "lower", "(I)I"⟩, 41) := ⟨⟨by decide +kernel, by decide +kernel⟩, List.mem_of_getElem? (i := 797) (by decide +kernel), List.mem_of_getElem? (i := 1135) (by decide +kernel), List.mem_of_getElem? (i := 1136) (by decide +kernel)⟩
theorem lw_p41 : lw_okq (⟨"SmellInTheHouseModel", "takesRow", "()V"⟩, 41) := ⟨⟨by decide +kernel, by decide +kernel⟩, List.mem_of_getElem? (i := 797) (by decide +kernel), List.mem_of_getElem? (i := 1164) (by decide +kernel), List.mem_of_getElem? (i := 1165) (by decide +kernel)⟩
theorem lw_p42 : lw_okq (⟨"SmellInTheHouseModel", "rounds", "(II)I"⟩, 41) := ⟨⟨by decide +kernel, by decide +kernel⟩, List.mem_of_getElem? (i := 797) (by decide +kernel), List.mem_of_getElem? (i := 1168) (by decide +kernel), List.mem_of_getElem? (i := 1169) (by decide +kernel)⟩
theorem lw_p43 : lw_okq (⟨"SmellInTheHouseModel", "aloneOf", "(II)I"⟩, 41) := ⟨⟨by decide +kernel, by decide +kernel⟩, List.mem_of_getElem? (i := 797) (by decide +kernel), List.mem_of_getElem? (i := 1176) (by decide +kernel), List.mem_of_getElem? (i := 1177) (by decide +kernel)⟩
theorem lw_p44 : lw_okq (⟨"SmellInTheHouseModel", "apartOf", "(I)I"⟩, 41) := ⟨⟨by decide +kernel, by decide +kernel⟩, List.mem_of_getElem? (i := 797) (by decide +kernel), List.mem_of_getElem? (i := 1184) (by decide +kernel), List.mem_of_getElem? (i := 1185) (by decide +kernel)⟩
theorem lw_p45 : lw_okq (⟨"SmellInTheHouseModel", "lowest", "(I)J"⟩, 41) := ⟨⟨by decide +kernel, by decide +kernel⟩, List.mem_of_getElem? (i := 797) (by decide +kernel), List.mem_of_getElem? (i := 1196) (by decide +kernel), List.mem_of_getElem? (i := 1197) (by decide +kernel)⟩
theorem lw_p46 : lw_okq (⟨"SmellInTheHouseModel", "findWeights", "(II)J"⟩, 41) := ⟨⟨by decide +kernel, by decide +kernel⟩, List.mem_of_getElem? (i := 797) (by decide +kernel), List.mem_of_getElem? (i := 1201) (by decide +kernel), List.mem_of_getElem? (i := 1202) (by decide +kernel)⟩
theorem lw_p47 : lw_okq (⟨"SmellInTheHouseModel", "weightOf", "(II)J"⟩, 41) := ⟨⟨by decide +kernel, by decide +kernel⟩, List.mem_of_getElem? (i := 797) (by decide +kernel), List.mem_of_getElem? (i := 1205) (by decide +kernel), List.mem_of_getElem? (i := 1206) (by decide +kernel)⟩
def lw_privs_3 : List (MethodName × Nat) := [(⟨"SmellInTheHouseModel", "sniffs", "(III)I"⟩, 41), (⟨"SmellInTheHouseModel", "doesSmell", "(II)Z"⟩, 41), (⟨"SmellInTheHouseModel", "mends", "(I)V"⟩, 41), (⟨"SmellInTheHouseModel", "notBehind", "(II)I"⟩, 41), (⟨"SmellInTheHouseModel", "strengthBehind", "(IIII)I"⟩, 41), (⟨"SmellInTheHouseModel", "isGivenInto", "(I)Z"⟩, 41), (⟨"SmellInTheHouseModel", "firstWith", "(II)I"⟩, 41), (⟨"SmellInTheHouseModel", "isSome", "(II)Z"⟩, 41), (⟨"SmellInTheHouseModel", "lower", "(I)I"⟩, 41), (⟨"SmellInTheHouseModel", "takesRow", "()V"⟩, 41), (⟨"SmellInTheHouseModel", "rounds", "(II)I"⟩, 41), (⟨"SmellInTheHouseModel", "aloneOf", "(II)I"⟩, 41), (⟨"SmellInTheHouseModel", "apartOf", "(I)I"⟩, 41), (⟨"SmellInTheHouseModel", "lowest", "(I)J"⟩, 41), (⟨"SmellInTheHouseModel", "findWeights", "(II)J"⟩, 41), (⟨"SmellInTheHouseModel", "weightOf", "(II)J"⟩, 41)]
theorem lw_r3 : ∀ q ∈ lw_privs_3, lw_okq q := List.forall_mem_cons.mpr ⟨lw_p32, List.forall_mem_cons.mpr ⟨lw_p33, List.forall_mem_cons.mpr ⟨lw_p34, List.forall_mem_cons.mpr ⟨lw_p35, List.forall_mem_cons.mpr ⟨lw_p36, List.forall_mem_cons.mpr ⟨lw_p37, List.forall_mem_cons.mpr ⟨lw_p38, List.forall_mem_cons.mpr ⟨lw_p39, List.forall_mem_cons.mpr ⟨lw_p40, List.forall_mem_cons.mpr ⟨lw_p41, List.forall_mem_cons.mpr ⟨lw_p42, List.forall_mem_cons.mpr ⟨lw_p43, List.forall_mem_cons.mpr ⟨lw_p44, List.forall_mem_cons.mpr ⟨lw_p45, List.forall_mem_cons.mpr ⟨lw_p46, List.forall_mem_cons.mpr ⟨lw_p47, fun _ h => absurd h List.not_mem_nil⟩⟩⟩⟩⟩⟩⟩⟩⟩⟩⟩⟩⟩⟩⟩⟩
theorem lw_p48 : lw_okq (⟨"SmellInTheHouseModel", "allStrengths", "()I"⟩, 41) := ⟨⟨by decide +kernel, by decide +kernel⟩, List.mem_of_getElem? (i := 797) (by decide +kernel), List.mem_of_getElem? (i := 1234) (by decide +kernel), List.mem_of_getElem? (i := 1235) (by decide +kernel)⟩
def lw_privs_4 : List (MethodName × Nat) := [(⟨"SmellInTheHouseModel", "allStrengths", "()I"⟩, 41)]
theorem lw_r4 : ∀ q ∈ lw_privs_4, lw_okq q := List.forall_mem_cons.mpr ⟨lw_p48, fun _ h => absurd h List.not_mem_nil⟩
def lw_privs : List (MethodName × Nat) := lw_privs_1 ++ (lw_privs_2 ++ (lw_privs_3 ++ (lw_privs_4)))
def lw_tbl : List Cond := k2_sels lw_privs ++ tables_1
theorem lw_privs_ok : ∀ q ∈ lw_privs, lw_okq q := by
  show ∀ q ∈ lw_privs_1 ++ (lw_privs_2 ++ (lw_privs_3 ++ (lw_privs_4))), lw_okq q
  exact List.forall_mem_append.mpr ⟨lw_r1, List.forall_mem_append.mpr ⟨lw_r2, List.forall_mem_append.mpr ⟨lw_r3, lw_r4⟩⟩⟩

def RX0 : String := "SmellInTheHouse$Air"
def TX0 : u_T := fun k => match k with
  | 0 => ("SmellInTheHouse$Air", "strength", "[I", true)
  | 1 => ("SmellInTheHouse$Air", "held", "[I", true)
  | 2 => ("SmellInTheHouse$Air", "before", "[I", true)
  | 3 => ("SmellInTheHouse$Air", "minute", "I", false)
  | 4 => ("SmellInTheHouse$Air", "wind", "I", false)
  | 5 => ("SmellInTheHouse$Air", "giving", "I", false)
  | 6 => ("SmellInTheHouse$Air", "taped", "I", false)
  | 7 => ("SmellInTheHouse$Air", "shutPair", "I", false)
  | _ => ("SmellInTheHouse$Air", "shutBack", "I", false)
def tyX0 : Nat → FieldType := fun k => match k with
  | 0 => .array .int
  | 1 => .array .int
  | 2 => .array .int
  | 3 => .int
  | 4 => .int
  | 5 => .int
  | 6 => .int
  | 7 => .int
  | _ => .int
theorem nmX0 : ∀ a, a < 9 → ∀ b, b < 9 → a ≠ b → (TX0 a).2.1 ≠ (TX0 b).2.1 := by decide +kernel
theorem tyX0_ok : ∀ k, k < 9 → parseFieldDescriptor (TX0 k).2.2.1 = some (tyX0 k) := by decide +kernel
abbrev cX0_init : ByteArray := prog_2_method_1_code
def yX0_init : MethodName := ⟨RX0, "<init>", "()V"⟩
abbrev cX0_startNow : ByteArray := prog_2_method_2_code
def yX0_startNow : MethodName := ⟨RX0, "startNow", "(LSmellInTheHouse$House;)V"⟩
abbrev cX0_startAlone : ByteArray := prog_2_method_3_code
def yX0_startAlone : MethodName := ⟨RX0, "startAlone", "(LSmellInTheHouse$House;I)V"⟩
abbrev cX0_leaveOut : ByteArray := prog_2_method_4_code
def yX0_leaveOut : MethodName := ⟨RX0, "leaveOut", "(I)V"⟩
abbrev cX0_remember : ByteArray := prog_2_method_5_code
def yX0_remember : MethodName := ⟨RX0, "remember", "()V"⟩
abbrev cX0_isAsRemembered : ByteArray := prog_2_method_6_code
def yX0_isAsRemembered : MethodName := ⟨RX0, "isAsRemembered", "()Z"⟩
abbrev cX0_pass : ByteArray := prog_2_method_7_code
def yX0_pass : MethodName := ⟨RX0, "pass", "(LSmellInTheHouse$House;I)V"⟩
abbrev cX0_passMinute : ByteArray := prog_2_method_8_code
def yX0_passMinute : MethodName := ⟨RX0, "passMinute", "(LSmellInTheHouse$House;)V"⟩
abbrev cX0_giveAll : ByteArray := prog_2_method_9_code
def yX0_giveAll : MethodName := ⟨RX0, "giveAll", "(LSmellInTheHouse$House;)V"⟩
abbrev cX0_spread : ByteArray := prog_2_method_10_code
def yX0_spread : MethodName := ⟨RX0, "spread", "(LSmellInTheHouse$House;I)V"⟩
abbrev cX0_strongestRoom : ByteArray := prog_2_method_11_code
def yX0_strongestRoom : MethodName := ⟨RX0, "strongestRoom", "(LSmellInTheHouse$House;)I"⟩
abbrev cX0_pullingRoom : ByteArray := prog_2_method_12_code
def yX0_pullingRoom : MethodName := ⟨RX0, "pullingRoom", "(LSmellInTheHouse$House;)I"⟩
abbrev cX0_isGivenInto : ByteArray := prog_2_method_13_code
def yX0_isGivenInto : MethodName := ⟨RX0, "isGivenInto", "(LSmellInTheHouse$House;I)Z"⟩
abbrev cX0_behindTape : ByteArray := prog_2_method_14_code
def yX0_behindTape : MethodName := ⟨RX0, "behindTape", "(LSmellInTheHouse$House;III)I"⟩
abbrev cX0_behindDoor : ByteArray := prog_2_method_15_code
def yX0_behindDoor : MethodName := ⟨RX0, "behindDoor", "(LSmellInTheHouse$House;IIII)I"⟩
def RX1 : String := "SmellInTheHouse$Courses"
def TX1 : u_T := fun k => match k with
  | _ => ("SmellInTheHouse$Courses", "strength", "[I", true)
def tyX1 : Nat → FieldType := fun k => match k with
  | _ => .array .int
theorem nmX1 : ∀ a, a < 1 → ∀ b, b < 1 → a ≠ b → (TX1 a).2.1 ≠ (TX1 b).2.1 := by decide +kernel
theorem tyX1_ok : ∀ k, k < 1 → parseFieldDescriptor (TX1 k).2.2.1 = some (tyX1 k) := by decide +kernel
abbrev cX1_init : ByteArray := prog_3_method_1_code
def yX1_init : MethodName := ⟨RX1, "<init>", "()V"⟩
abbrev cX1_follow : ByteArray := prog_3_method_2_code
def yX1_follow : MethodName := ⟨RX1, "follow", "(LSmellInTheHouse$House;LSmellInTheHouse$Air;II)V"⟩
abbrev cX1_strengthAt : ByteArray := prog_3_method_3_code
def yX1_strengthAt : MethodName := ⟨RX1, "strengthAt", "(III)I"⟩
def RX2 : String := "SmellInTheHouse$House"
def TX2 : u_T := fun k => match k with
  | 0 => ("SmellInTheHouse$House", "rooms", "I", false)
  | 1 => ("SmellInTheHouse$House", "minute", "I", false)
  | 2 => ("SmellInTheHouse$House", "said", "I", false)
  | 3 => ("SmellInTheHouse$House", "strength", "[I", true)
  | 4 => ("SmellInTheHouse$House", "out", "[I", true)
  | 5 => ("SmellInTheHouse$House", "flow", "[I", true)
  | 6 => ("SmellInTheHouse$House", "shut", "[I", true)
  | 7 => ("SmellInTheHouse$House", "setting", "[I", true)
  | 8 => ("SmellInTheHouse$House", "sources", "LSmellInTheHouse$Sources;", true)
  | _ => ("SmellInTheHouse$House", "noses", "LSmellInTheHouse$Noses;", true)
def tyX2 : Nat → FieldType := fun k => match k with
  | 0 => .int
  | 1 => .int
  | 2 => .int
  | 3 => .array .int
  | 4 => .array .int
  | 5 => .array .int
  | 6 => .array .int
  | 7 => .array .int
  | 8 => .object "SmellInTheHouse$Sources"
  | _ => .object "SmellInTheHouse$Noses"
theorem nmX2 : ∀ a, a < 10 → ∀ b, b < 10 → a ≠ b → (TX2 a).2.1 ≠ (TX2 b).2.1 := by decide +kernel
theorem tyX2_ok : ∀ k, k < 10 → parseFieldDescriptor (TX2 k).2.2.1 = some (tyX2 k) := by decide +kernel
abbrev cX2_init : ByteArray := prog_4_method_1_code
def yX2_init : MethodName := ⟨RX2, "<init>", "()V"⟩
abbrev cX2_hasRoom : ByteArray := prog_4_method_2_code
def yX2_hasRoom : MethodName := ⟨RX2, "hasRoom", "(I)Z"⟩
abbrev cX2_hasPair : ByteArray := prog_4_method_3_code
def yX2_hasPair : MethodName := ⟨RX2, "hasPair", "(II)Z"⟩
abbrev cX2_copyFrom : ByteArray := prog_4_method_4_code
def yX2_copyFrom : MethodName := ⟨RX2, "copyFrom", "(LSmellInTheHouse$House;)V"⟩
abbrev cX2_takeRooms : ByteArray := prog_4_method_5_code
def yX2_takeRooms : MethodName := ⟨RX2, "takeRooms", "(I)Z"⟩
abbrev cX2_takeFlow : ByteArray := prog_4_method_6_code
def yX2_takeFlow : MethodName := ⟨RX2, "takeFlow", "(III)Z"⟩
abbrev cX2_takeOut : ByteArray := prog_4_method_7_code
def yX2_takeOut : MethodName := ⟨RX2, "takeOut", "(II)Z"⟩
abbrev cX2_takeSource : ByteArray := prog_4_method_8_code
def yX2_takeSource : MethodName := ⟨RX2, "takeSource", "(IIII)Z"⟩
abbrev cX2_takeNose : ByteArray := prog_4_method_9_code
def yX2_takeNose : MethodName := ⟨RX2, "takeNose", "(III)Z"⟩
abbrev cX2_turnDoor : ByteArray := prog_4_method_10_code
def yX2_turnDoor : MethodName := ⟨RX2, "turnDoor", "(II)Z"⟩
def RX3 : String := "SmellInTheHouse$Letters"
def TX3 : u_T := fun k => match k with
  | 0 => ("SmellInTheHouse$Letters", "text", "[I", true)
  | _ => ("SmellInTheHouse$Letters", "count", "I", false)
def tyX3 : Nat → FieldType := fun k => match k with
  | 0 => .array .int
  | _ => .int
theorem nmX3 : ∀ a, a < 2 → ∀ b, b < 2 → a ≠ b → (TX3 a).2.1 ≠ (TX3 b).2.1 := by decide +kernel
theorem tyX3_ok : ∀ k, k < 2 → parseFieldDescriptor (TX3 k).2.2.1 = some (tyX3 k) := by decide +kernel
abbrev cX3_init : ByteArray := prog_5_method_1_code
def yX3_init : MethodName := ⟨RX3, "<init>", "()V"⟩
abbrev cX3_take : ByteArray := prog_5_method_2_code
def yX3_take : MethodName := ⟨RX3, "take", "(I)Z"⟩
abbrev cX3_at : ByteArray := prog_5_method_3_code
def yX3_at : MethodName := ⟨RX3, "at", "(I)I"⟩
abbrev cX3_isDigit : ByteArray := prog_5_method_4_code
def yX3_isDigit : MethodName := ⟨RX3, "isDigit", "(I)Z"⟩
abbrev cX3_digit : ByteArray := prog_5_method_5_code
def yX3_digit : MethodName := ⟨RX3, "digit", "(I)I"⟩
abbrev cX3_number : ByteArray := prog_5_method_6_code
def yX3_number : MethodName := ⟨RX3, "number", "(II)I"⟩
abbrev cX3_faultOfForm : ByteArray := prog_5_method_7_code
def yX3_faultOfForm : MethodName := ⟨RX3, "faultOfForm", "()I"⟩
abbrev cX3_endOf : ByteArray := prog_5_method_8_code
def yX3_endOf : MethodName := ⟨RX3, "endOf", "(I)I"⟩
abbrev cX3_digitsBehind : ByteArray := prog_5_method_9_code
def yX3_digitsBehind : MethodName := ⟨RX3, "digitsBehind", "(I)I"⟩
abbrev cX3_endsInNumber : ByteArray := prog_5_method_10_code
def yX3_endsInNumber : MethodName := ⟨RX3, "endsInNumber", "(I)Z"⟩
def RX4 : String := "SmellInTheHouse$Noses"
def TX4 : u_T := fun k => match k with
  | 0 => ("SmellInTheHouse$Noses", "count", "I", false)
  | 1 => ("SmellInTheHouse$Noses", "kind", "[I", true)
  | 2 => ("SmellInTheHouse$Noses", "line", "[I", true)
  | 3 => ("SmellInTheHouse$Noses", "tires", "[I", true)
  | _ => ("SmellInTheHouse$Noses", "tired", "[I", true)
def tyX4 : Nat → FieldType := fun k => match k with
  | 0 => .int
  | 1 => .array .int
  | 2 => .array .int
  | 3 => .array .int
  | _ => .array .int
theorem nmX4 : ∀ a, a < 5 → ∀ b, b < 5 → a ≠ b → (TX4 a).2.1 ≠ (TX4 b).2.1 := by decide +kernel
theorem tyX4_ok : ∀ k, k < 5 → parseFieldDescriptor (TX4 k).2.2.1 = some (tyX4 k) := by decide +kernel
abbrev cX4_init : ByteArray := prog_6_method_1_code
def yX4_init : MethodName := ⟨RX4, "<init>", "()V"⟩
abbrev cX4_has : ByteArray := prog_6_method_2_code
def yX4_has : MethodName := ⟨RX4, "has", "(I)Z"⟩
abbrev cX4_copyFrom : ByteArray := prog_6_method_3_code
def yX4_copyFrom : MethodName := ⟨RX4, "copyFrom", "(LSmellInTheHouse$Noses;)V"⟩
abbrev cX4_take : ByteArray := prog_6_method_4_code
def yX4_take : MethodName := ⟨RX4, "take", "(III)Z"⟩
abbrev cX4_least : ByteArray := prog_6_method_5_code
def yX4_least : MethodName := ⟨RX4, "least", "(I)I"⟩
abbrev cX4_smells : ByteArray := prog_6_method_6_code
def yX4_smells : MethodName := ⟨RX4, "smells", "(III)Z"⟩
abbrev cX4_isSayer : ByteArray := prog_6_method_7_code
def yX4_isSayer : MethodName := ⟨RX4, "isSayer", "(I)Z"⟩
def RX5 : String := "SmellInTheHouse$Round"
def TX5 : u_T := fun k => match k with
  | 0 => ("SmellInTheHouse$Round", "place", "[I", true)
  | _ => ("SmellInTheHouse$Round", "count", "I", false)
def tyX5 : Nat → FieldType := fun k => match k with
  | 0 => .array .int
  | _ => .int
theorem nmX5 : ∀ a, a < 2 → ∀ b, b < 2 → a ≠ b → (TX5 a).2.1 ≠ (TX5 b).2.1 := by decide +kernel
theorem tyX5_ok : ∀ k, k < 2 → parseFieldDescriptor (TX5 k).2.2.1 = some (tyX5 k) := by decide +kernel
abbrev cX5_init : ByteArray := prog_7_method_1_code
def yX5_init : MethodName := ⟨RX5, "<init>", "()V"⟩
abbrev cX5_take : ByteArray := prog_7_method_2_code
def yX5_take : MethodName := ⟨RX5, "take", "(I)Z"⟩
abbrev cX5_weigh : ByteArray := prog_7_method_3_code
def yX5_weigh : MethodName := ⟨RX5, "weigh", "(III)J"⟩
def RX6 : String := "SmellInTheHouse$Rounds"
def TX6 : u_T := fun k => match k with
  | 0 => ("SmellInTheHouse$Rounds", "bits", "[I", true)
  | 1 => ("SmellInTheHouse$Rounds", "weight", "[J", true)
  | 2 => ("SmellInTheHouse$Rounds", "bestDigits", "I", false)
  | 3 => ("SmellInTheHouse$Rounds", "bestApart", "I", false)
  | 4 => ("SmellInTheHouse$Rounds", "air", "LSmellInTheHouse$Air;", true)
  | 5 => ("SmellInTheHouse$Rounds", "courses", "LSmellInTheHouse$Courses;", true)
  | 6 => ("SmellInTheHouse$Rounds", "walker", "LSmellInTheHouse$Walker;", true)
  | _ => ("SmellInTheHouse$Rounds", "tried", "LSmellInTheHouse$Round;", true)
def tyX6 : Nat → FieldType := fun k => match k with
  | 0 => .array .int
  | 1 => .array .long
  | 2 => .int
  | 3 => .int
  | 4 => .object "SmellInTheHouse$Air"
  | 5 => .object "SmellInTheHouse$Courses"
  | 6 => .object "SmellInTheHouse$Walker"
  | _ => .object "SmellInTheHouse$Round"
theorem nmX6 : ∀ a, a < 8 → ∀ b, b < 8 → a ≠ b → (TX6 a).2.1 ≠ (TX6 b).2.1 := by decide +kernel
theorem tyX6_ok : ∀ k, k < 8 → parseFieldDescriptor (TX6 k).2.2.1 = some (tyX6 k) := by decide +kernel
abbrev cX6_init : ByteArray := prog_8_method_1_code
def yX6_init : MethodName := ⟨RX6, "<init>", "()V"⟩
abbrev cX6_bitsNow : ByteArray := prog_8_method_2_code
def yX6_bitsNow : MethodName := ⟨RX6, "bitsNow", "(LSmellInTheHouse$House;LSmellInTheHouse$Round;I)I"⟩
abbrev cX6_walkAlone : ByteArray := prog_8_method_3_code
def yX6_walkAlone : MethodName := ⟨RX6, "walkAlone", "(LSmellInTheHouse$House;LSmellInTheHouse$Round;I)V"⟩
abbrev cX6_followAlone : ByteArray := prog_8_method_4_code
def yX6_followAlone : MethodName := ⟨RX6, "followAlone", "(LSmellInTheHouse$House;I)V"⟩
abbrev cX6_tellAlone : ByteArray := prog_8_method_5_code
def yX6_tellAlone : MethodName := ⟨RX6, "tellAlone", "(LSmellInTheHouse$House;LSmellInTheHouse$Round;I)V"⟩
abbrev cX6_unlikePairs : ByteArray := prog_8_method_6_code
def yX6_unlikePairs : MethodName := ⟨RX6, "unlikePairs", "(I)I"⟩
abbrev cX6_seekBest : ByteArray := prog_8_method_7_code
def yX6_seekBest : MethodName := ⟨RX6, "seekBest", "(LSmellInTheHouse$House;II)V"⟩
abbrev cX6_digitsOfTried : ByteArray := prog_8_method_8_code
def yX6_digitsOfTried : MethodName := ⟨RX6, "digitsOfTried", "()I"⟩
abbrev cX6_turnToNext : ByteArray := prog_8_method_9_code
def yX6_turnToNext : MethodName := ⟨RX6, "turnToNext", "(I)V"⟩
abbrev cX6_weighAll : ByteArray := prog_8_method_10_code
def yX6_weighAll : MethodName := ⟨RX6, "weighAll", "(LSmellInTheHouse$House;LSmellInTheHouse$Round;I)J"⟩
abbrev cX6_heaviest : ByteArray := prog_8_method_11_code
def yX6_heaviest : MethodName := ⟨RX6, "heaviest", "(I)I"⟩
def RX7 : String := "SmellInTheHouse$Sources"
def TX7 : u_T := fun k => match k with
  | 0 => ("SmellInTheHouse$Sources", "count", "I", false)
  | 1 => ("SmellInTheHouse$Sources", "kind", "[I", true)
  | 2 => ("SmellInTheHouse$Sources", "place", "[I", true)
  | 3 => ("SmellInTheHouse$Sources", "strong", "[I", true)
  | _ => ("SmellInTheHouse$Sources", "figure", "[I", true)
def tyX7 : Nat → FieldType := fun k => match k with
  | 0 => .int
  | 1 => .array .int
  | 2 => .array .int
  | 3 => .array .int
  | _ => .array .int
theorem nmX7 : ∀ a, a < 5 → ∀ b, b < 5 → a ≠ b → (TX7 a).2.1 ≠ (TX7 b).2.1 := by decide +kernel
theorem tyX7_ok : ∀ k, k < 5 → parseFieldDescriptor (TX7 k).2.2.1 = some (tyX7 k) := by decide +kernel
abbrev cX7_init : ByteArray := prog_9_method_1_code
def yX7_init : MethodName := ⟨RX7, "<init>", "()V"⟩
abbrev cX7_has : ByteArray := prog_9_method_2_code
def yX7_has : MethodName := ⟨RX7, "has", "(I)Z"⟩
abbrev cX7_copyFrom : ByteArray := prog_9_method_3_code
def yX7_copyFrom : MethodName := ⟨RX7, "copyFrom", "(LSmellInTheHouse$Sources;)V"⟩
abbrev cX7_take : ByteArray := prog_9_method_4_code
def yX7_take : MethodName := ⟨RX7, "take", "(IIII)Z"⟩
abbrev cX7_given : ByteArray := prog_9_method_5_code
def yX7_given : MethodName := ⟨RX7, "given", "(III)I"⟩
abbrev cX7_target : ByteArray := prog_9_method_6_code
def yX7_target : MethodName := ⟨RX7, "target", "(II)I"⟩
abbrev cX7_isGivingKind : ByteArray := prog_9_method_7_code
def yX7_isGivingKind : MethodName := ⟨RX7, "isGivingKind", "(I)Z"⟩
abbrev cX7_minuteOfMost : ByteArray := prog_9_method_8_code
def yX7_minuteOfMost : MethodName := ⟨RX7, "minuteOfMost", "(I)I"⟩
abbrev cX7_minuteOfNone : ByteArray := prog_9_method_9_code
def yX7_minuteOfNone : MethodName := ⟨RX7, "minuteOfNone", "(I)I"⟩
def RX8 : String := "SmellInTheHouse$Walker"
def TX8 : u_T := fun k => match k with
  | 0 => ("SmellInTheHouse$Walker", "tired", "I", false)
  | _ => ("SmellInTheHouse$Walker", "said", "I", false)
def tyX8 : Nat → FieldType := fun k => match k with
  | 0 => .int
  | _ => .int
theorem nmX8 : ∀ a, a < 2 → ∀ b, b < 2 → a ≠ b → (TX8 a).2.1 ≠ (TX8 b).2.1 := by decide +kernel
theorem tyX8_ok : ∀ k, k < 2 → parseFieldDescriptor (TX8 k).2.2.1 = some (tyX8 k) := by decide +kernel
abbrev cX8_init : ByteArray := prog_10_method_1_code
def yX8_init : MethodName := ⟨RX8, "<init>", "()V"⟩
abbrev cX8_start : ByteArray := prog_10_method_2_code
def yX8_start : MethodName := ⟨RX8, "start", "(II)V"⟩
abbrev cX8_sniffOnce : ByteArray := prog_10_method_3_code
def yX8_sniffOnce : MethodName := ⟨RX8, "sniffOnce", "(LSmellInTheHouse$Noses;II)I"⟩
abbrev cX8_mend : ByteArray := prog_10_method_4_code
def yX8_mend : MethodName := ⟨RX8, "mend", "()V"⟩
abbrev cX8_walk : ByteArray := prog_10_method_5_code
def yX8_walk : MethodName := ⟨RX8, "walk", "(LSmellInTheHouse$Noses;ILSmellInTheHouse$Round;LSmellInTheHouse$Courses;I)I"⟩
def RX9 : String := "SmellInTheHouse"
def TX9 : u_T := fun k => match k with
  | 0 => ("SmellInTheHouse", "now", "LSmellInTheHouse$House;", true)
  | 1 => ("SmellInTheHouse", "kept", "LSmellInTheHouse$House;", true)
  | 2 => ("SmellInTheHouse", "draft", "LSmellInTheHouse$House;", true)
  | 3 => ("SmellInTheHouse", "hasImage", "Z", false)
  | 4 => ("SmellInTheHouse", "letters", "LSmellInTheHouse$Letters;", true)
  | 5 => ("SmellInTheHouse", "round", "LSmellInTheHouse$Round;", true)
  | 6 => ("SmellInTheHouse", "air", "LSmellInTheHouse$Air;", true)
  | 7 => ("SmellInTheHouse", "walker", "LSmellInTheHouse$Walker;", true)
  | 8 => ("SmellInTheHouse", "rounds", "LSmellInTheHouse$Rounds;", true)
  | _ => ("SmellInTheHouse", "refusals", "[I", true)
def tyX9 : Nat → FieldType := fun k => match k with
  | 0 => .object "SmellInTheHouse$House"
  | 1 => .object "SmellInTheHouse$House"
  | 2 => .object "SmellInTheHouse$House"
  | 3 => .boolean
  | 4 => .object "SmellInTheHouse$Letters"
  | 5 => .object "SmellInTheHouse$Round"
  | 6 => .object "SmellInTheHouse$Air"
  | 7 => .object "SmellInTheHouse$Walker"
  | 8 => .object "SmellInTheHouse$Rounds"
  | _ => .array .int
theorem nmX9 : ∀ a, a < 10 → ∀ b, b < 10 → a ≠ b → (TX9 a).2.1 ≠ (TX9 b).2.1 := by decide +kernel
theorem tyX9_ok : ∀ k, k < 10 → parseFieldDescriptor (TX9 k).2.2.1 = some (tyX9 k) := by decide +kernel
abbrev cX9_init : ByteArray := prog_1_method_1_code
def yX9_init : MethodName := ⟨RX9, "<init>", "()V"⟩
abbrev cX9_feed : ByteArray := prog_1_method_2_code
def yX9_feed : MethodName := ⟨RX9, "feed", "(I)I"⟩
abbrev cX9_house : ByteArray := prog_1_method_3_code
def yX9_house : MethodName := ⟨RX9, "house", "()I"⟩
abbrev cX9_room : ByteArray := prog_1_method_4_code
def yX9_room : MethodName := ⟨RX9, "room", "(II)I"⟩
abbrev cX9_flow : ByteArray := prog_1_method_5_code
def yX9_flow : MethodName := ⟨RX9, "flow", "(III)I"⟩
abbrev cX9_source : ByteArray := prog_1_method_6_code
def yX9_source : MethodName := ⟨RX9, "source", "(II)I"⟩
abbrev cX9_nose : ByteArray := prog_1_method_7_code
def yX9_nose : MethodName := ⟨RX9, "nose", "(II)I"⟩
abbrev cX9_set : ByteArray := prog_1_method_8_code
def yX9_set : MethodName := ⟨RX9, "set", "(II)I"⟩
abbrev cX9_fill : ByteArray := prog_1_method_9_code
def yX9_fill : MethodName := ⟨RX9, "fill", "(II)I"⟩
abbrev cX9_door : ByteArray := prog_1_method_10_code
def yX9_door : MethodName := ⟨RX9, "door", "(IIZ)I"⟩
abbrev cX9_go : ByteArray := prog_1_method_11_code
def yX9_go : MethodName := ⟨RX9, "go", "(I)I"⟩
abbrev cX9_sniff : ByteArray := prog_1_method_12_code
def yX9_sniff : MethodName := ⟨RX9, "sniff", "(II)I"⟩
abbrev cX9_outside : ByteArray := prog_1_method_13_code
def yX9_outside : MethodName := ⟨RX9, "outside", "(I)I"⟩
abbrev cX9_behind : ByteArray := prog_1_method_14_code
def yX9_behind : MethodName := ⟨RX9, "behind", "(II)I"⟩
abbrev cX9_strongest : ByteArray := prog_1_method_15_code
def yX9_strongest : MethodName := ⟨RX9, "strongest", "(II)I"⟩
abbrev cX9_when : ByteArray := prog_1_method_16_code
def yX9_when : MethodName := ⟨RX9, "when", "(II)I"⟩
abbrev cX9_call : ByteArray := prog_1_method_17_code
def yX9_call : MethodName := ⟨RX9, "call", "()I"⟩
abbrev cX9_still : ByteArray := prog_1_method_18_code
def yX9_still : MethodName := ⟨RX9, "still", "()I"⟩
abbrev cX9_share : ByteArray := prog_1_method_19_code
def yX9_share : MethodName := ⟨RX9, "share", "(III)I"⟩
abbrev cX9_tape : ByteArray := prog_1_method_20_code
def yX9_tape : MethodName := ⟨RX9, "tape", "(III)I"⟩
abbrev cX9_bestTape : ByteArray := prog_1_method_21_code
def yX9_bestTape : MethodName := ⟨RX9, "bestTape", "(II)I"⟩
abbrev cX9_bestDoor : ByteArray := prog_1_method_22_code
def yX9_bestDoor : MethodName := ⟨RX9, "bestDoor", "(II)I"⟩
abbrev cX9_row : ByteArray := prog_1_method_23_code
def yX9_row : MethodName := ⟨RX9, "row", "(I)I"⟩
abbrev cX9_clear : ByteArray := prog_1_method_24_code
def yX9_clear : MethodName := ⟨RX9, "clear", "()I"⟩
abbrev cX9_says : ByteArray := prog_1_method_25_code
def yX9_says : MethodName := ⟨RX9, "says", "(I)I"⟩
abbrev cX9_alone : ByteArray := prog_1_method_26_code
def yX9_alone : MethodName := ⟨RX9, "alone", "(II)I"⟩
abbrev cX9_apart : ByteArray := prog_1_method_27_code
def yX9_apart : MethodName := ⟨RX9, "apart", "(I)I"⟩
abbrev cX9_bestRound : ByteArray := prog_1_method_28_code
def yX9_bestRound : MethodName := ⟨RX9, "bestRound", "(III)I"⟩
abbrev cX9_odds : ByteArray := prog_1_method_29_code
def yX9_odds : MethodName := ⟨RX9, "odds", "(IIII)J"⟩
abbrev cX9_any : ByteArray := prog_1_method_30_code
def yX9_any : MethodName := ⟨RX9, "any", "(III)J"⟩
abbrev cX9_likely : ByteArray := prog_1_method_31_code
def yX9_likely : MethodName := ⟨RX9, "likely", "(II)I"⟩
abbrev cX9_mouse : ByteArray := prog_1_method_32_code
def yX9_mouse : MethodName := ⟨RX9, "mouse", "(II)I"⟩
abbrev cX9_seeds : ByteArray := prog_1_method_33_code
def yX9_seeds : MethodName := ⟨RX9, "seeds", "(II)I"⟩
abbrev cX9_image : ByteArray := prog_1_method_34_code
def yX9_image : MethodName := ⟨RX9, "image", "()I"⟩
abbrev cX9_restore : ByteArray := prog_1_method_35_code
def yX9_restore : MethodName := ⟨RX9, "restore", "()I"⟩
abbrev cX9_count : ByteArray := prog_1_method_36_code
def yX9_count : MethodName := ⟨RX9, "count", "(I)I"⟩
abbrev cX9_refuse : ByteArray := prog_1_method_37_code
def yX9_refuse : MethodName := ⟨RX9, "refuse", "(I)I"⟩
abbrev cX9_roomBehind : ByteArray := prog_1_method_38_code
def yX9_roomBehind : MethodName := ⟨RX9, "roomBehind", "(II)I"⟩
abbrev cX9_told : ByteArray := prog_1_method_39_code
def yX9_told : MethodName := ⟨RX9, "told", "(III)I"⟩
abbrev cX9_readHouse : ByteArray := prog_1_method_40_code
def yX9_readHouse : MethodName := ⟨RX9, "readHouse", "()I"⟩
abbrev cX9_takeStatement : ByteArray := prog_1_method_41_code
def yX9_takeStatement : MethodName := ⟨RX9, "takeStatement", "(II)Z"⟩
abbrev cX9_beyond : ByteArray := prog_1_method_42_code
def yX9_beyond : MethodName := ⟨RX9, "beyond", "(III)I"⟩
abbrev cX9_among : ByteArray := prog_1_method_43_code
def yX9_among : MethodName := ⟨RX9, "among", "(II)I"⟩
abbrev cX9_pair : ByteArray := prog_1_method_44_code
def yX9_pair : MethodName := ⟨RX9, "pair", "(II)I"⟩
abbrev cX9_total : ByteArray := prog_1_method_45_code
def yX9_total : MethodName := ⟨RX9, "total", "([I)I"⟩
abbrev cX9_inLeastTerms : ByteArray := prog_1_method_46_code
def yX9_inLeastTerms : MethodName := ⟨RX9, "inLeastTerms", "(JJI)J"⟩
abbrev cX9_commonDivisor : ByteArray := prog_1_method_47_code
def yX9_commonDivisor : MethodName := ⟨RX9, "commonDivisor", "(JJ)J"⟩
def RX10 : String := "SmellInTheHouseModel"
def TX10 : u_T := fun k => match k with
  | 0 => ("SmellInTheHouseModel", "refused", "[I", true)
  | 1 => ("SmellInTheHouseModel", "strength", "[I", true)
  | 2 => ("SmellInTheHouseModel", "out", "[I", true)
  | 3 => ("SmellInTheHouseModel", "flowing", "[I", true)
  | 4 => ("SmellInTheHouseModel", "shut", "[I", true)
  | 5 => ("SmellInTheHouseModel", "kind", "[I", true)
  | 6 => ("SmellInTheHouseModel", "roomOf", "[I", true)
  | 7 => ("SmellInTheHouseModel", "strong", "[I", true)
  | 8 => ("SmellInTheHouseModel", "figure", "[I", true)
  | 9 => ("SmellInTheHouseModel", "noseKind", "[I", true)
  | 10 => ("SmellInTheHouseModel", "line", "[I", true)
  | 11 => ("SmellInTheHouseModel", "tires", "[I", true)
  | 12 => ("SmellInTheHouseModel", "tired", "[I", true)
  | 13 => ("SmellInTheHouseModel", "rooms", "I", false)
  | 14 => ("SmellInTheHouseModel", "sources", "I", false)
  | 15 => ("SmellInTheHouseModel", "noses", "I", false)
  | 16 => ("SmellInTheHouseModel", "minute", "I", false)
  | 17 => ("SmellInTheHouseModel", "wind", "I", false)
  | 18 => ("SmellInTheHouseModel", "danger", "I", false)
  | 19 => ("SmellInTheHouseModel", "slip", "I", false)
  | 20 => ("SmellInTheHouseModel", "lastSaid", "I", false)
  | 21 => ("SmellInTheHouseModel", "tape", "[I", true)
  | 22 => ("SmellInTheHouseModel", "letter", "[I", true)
  | 23 => ("SmellInTheHouseModel", "letterAt", "[I", true)
  | 24 => ("SmellInTheHouseModel", "told", "[I", true)
  | 25 => ("SmellInTheHouseModel", "taped", "I", false)
  | 26 => ("SmellInTheHouseModel", "at", "I", false)
  | 27 => ("SmellInTheHouseModel", "statements", "I", false)
  | 28 => ("SmellInTheHouseModel", "kept", "[I", true)
  | 29 => ("SmellInTheHouseModel", "hasImage", "Z", false)
  | 30 => ("SmellInTheHouseModel", "isKeeping", "Z", false)
  | 31 => ("SmellInTheHouseModel", "cursor", "I", false)
  | 32 => ("SmellInTheHouseModel", "had", "[I", true)
  | 33 => ("SmellInTheHouseModel", "came", "[I", true)
  | 34 => ("SmellInTheHouseModel", "ahead", "[I", true)
  | 35 => ("SmellInTheHouseModel", "row", "[I", true)
  | 36 => ("SmellInTheHouseModel", "place", "[I", true)
  | 37 => ("SmellInTheHouseModel", "rowMany", "I", false)
  | 38 => ("SmellInTheHouseModel", "placeMany", "I", false)
  | 39 => ("SmellInTheHouseModel", "saying", "[I", true)
  | _ => ("SmellInTheHouseModel", "weight", "[J", true)
def tyX10 : Nat → FieldType := fun k => match k with
  | 0 => .array .int
  | 1 => .array .int
  | 2 => .array .int
  | 3 => .array .int
  | 4 => .array .int
  | 5 => .array .int
  | 6 => .array .int
  | 7 => .array .int
  | 8 => .array .int
  | 9 => .array .int
  | 10 => .array .int
  | 11 => .array .int
  | 12 => .array .int
  | 13 => .int
  | 14 => .int
  | 15 => .int
  | 16 => .int
  | 17 => .int
  | 18 => .int
  | 19 => .int
  | 20 => .int
  | 21 => .array .int
  | 22 => .array .int
  | 23 => .array .int
  | 24 => .array .int
  | 25 => .int
  | 26 => .int
  | 27 => .int
  | 28 => .array .int
  | 29 => .boolean
  | 30 => .boolean
  | 31 => .int
  | 32 => .array .int
  | 33 => .array .int
  | 34 => .array .int
  | 35 => .array .int
  | 36 => .array .int
  | 37 => .int
  | 38 => .int
  | 39 => .array .int
  | _ => .array .long
theorem nmX10 : ∀ a, a < 41 → ∀ b, b < 41 → a ≠ b → (TX10 a).2.1 ≠ (TX10 b).2.1 := by decide +kernel
theorem tyX10_ok : ∀ k, k < 41 → parseFieldDescriptor (TX10 k).2.2.1 = some (tyX10 k) := by decide +kernel
abbrev cX10_init : ByteArray := prog_12_method_1_code
def yX10_init : MethodName := ⟨RX10, "<init>", "()V"⟩
abbrev cX10_no : ByteArray := prog_12_method_2_code
def yX10_no : MethodName := ⟨RX10, "no", "(I)I"⟩
abbrev cX10_lower : ByteArray := prog_12_method_3_code
def yX10_lower : MethodName := ⟨RX10, "lower", "(I)I"⟩
abbrev cX10_lowest : ByteArray := prog_12_method_4_code
def yX10_lowest : MethodName := ⟨RX10, "lowest", "(I)J"⟩
abbrev cX10_isIn : ByteArray := prog_12_method_5_code
def yX10_isIn : MethodName := ⟨RX10, "isIn", "(III)Z"⟩
abbrev cX10_bound : ByteArray := prog_12_method_6_code
def yX10_bound : MethodName := ⟨RX10, "bound", "(III)I"⟩
abbrev cX10_isRoom : ByteArray := prog_12_method_7_code
def yX10_isRoom : MethodName := ⟨RX10, "isRoom", "(I)Z"⟩
abbrev cX10_isSource : ByteArray := prog_12_method_8_code
def yX10_isSource : MethodName := ⟨RX10, "isSource", "(I)Z"⟩
abbrev cX10_isNose : ByteArray := prog_12_method_9_code
def yX10_isNose : MethodName := ⟨RX10, "isNose", "(I)Z"⟩
abbrev cX10_least : ByteArray := prog_12_method_10_code
def yX10_least : MethodName := ⟨RX10, "least", "(II)I"⟩
abbrev cX10_feed : ByteArray := prog_12_method_11_code
def yX10_feed : MethodName := ⟨RX10, "feed", "(I)I"⟩
abbrev cX10_next : ByteArray := prog_12_method_12_code
def yX10_next : MethodName := ⟨RX10, "next", "()I"⟩
abbrev cX10_reads : ByteArray := prog_12_method_13_code
def yX10_reads : MethodName := ⟨RX10, "reads", "(II)Z"⟩
abbrev cX10_readsAll : ByteArray := prog_12_method_14_code
def yX10_readsAll : MethodName := ⟨RX10, "readsAll", "(IIZ)Z"⟩
abbrev cX10_onesOf : ByteArray := prog_12_method_15_code
def yX10_onesOf : MethodName := ⟨RX10, "onesOf", "(I)I"⟩
abbrev cX10_statement : ByteArray := prog_12_method_16_code
def yX10_statement : MethodName := ⟨RX10, "statement", "()Z"⟩
abbrev cX10_areRooms : ByteArray := prog_12_method_17_code
def yX10_areRooms : MethodName := ⟨RX10, "areRooms", "(II)Z"⟩
abbrev cX10_comesSource : ByteArray := prog_12_method_18_code
def yX10_comesSource : MethodName := ⟨RX10, "comesSource", "(I)Z"⟩
abbrev cX10_comesNose : ByteArray := prog_12_method_19_code
def yX10_comesNose : MethodName := ⟨RX10, "comesNose", "(I)Z"⟩
abbrev cX10_shuts : ByteArray := prog_12_method_20_code
def yX10_shuts : MethodName := ⟨RX10, "shuts", "(III)V"⟩
abbrev cX10_comes : ByteArray := prog_12_method_21_code
def yX10_comes : MethodName := ⟨RX10, "comes", "(I)Z"⟩
abbrev cX10_house : ByteArray := prog_12_method_22_code
def yX10_house : MethodName := ⟨RX10, "house", "()I"⟩
abbrev cX10_passes : ByteArray := prog_12_method_23_code
def yX10_passes : MethodName := ⟨RX10, "passes", "([I)V"⟩
abbrev cX10_passOne : ByteArray := prog_12_method_24_code
def yX10_passOne : MethodName := ⟨RX10, "passOne", "(I)I"⟩
abbrev cX10_passesAll : ByteArray := prog_12_method_25_code
def yX10_passesAll : MethodName := ⟨RX10, "passesAll", "(IZ)V"⟩
abbrev cX10_image : ByteArray := prog_12_method_26_code
def yX10_image : MethodName := ⟨RX10, "image", "()I"⟩
abbrev cX10_restore : ByteArray := prog_12_method_27_code
def yX10_restore : MethodName := ⟨RX10, "restore", "()I"⟩
abbrev cX10_given : ByteArray := prog_12_method_28_code
def yX10_given : MethodName := ⟨RX10, "given", "(II)I"⟩
abbrev cX10_intoRoom : ByteArray := prog_12_method_29_code
def yX10_intoRoom : MethodName := ⟨RX10, "intoRoom", "(I)I"⟩
abbrev cX10_goesMinute : ByteArray := prog_12_method_30_code
def yX10_goesMinute : MethodName := ⟨RX10, "goesMinute", "(III)V"⟩
abbrev cX10_goes : ByteArray := prog_12_method_31_code
def yX10_goes : MethodName := ⟨RX10, "goes", "(III)V"⟩
abbrev cX10_room : ByteArray := prog_12_method_32_code
def yX10_room : MethodName := ⟨RX10, "room", "(II)I"⟩
abbrev cX10_flow : ByteArray := prog_12_method_33_code
def yX10_flow : MethodName := ⟨RX10, "flow", "(III)I"⟩
abbrev cX10_source : ByteArray := prog_12_method_34_code
def yX10_source : MethodName := ⟨RX10, "source", "(II)I"⟩
abbrev cX10_fromOf : ByteArray := prog_12_method_35_code
def yX10_fromOf : MethodName := ⟨RX10, "fromOf", "(I)I"⟩
abbrev cX10_nose : ByteArray := prog_12_method_36_code
def yX10_nose : MethodName := ⟨RX10, "nose", "(II)I"⟩
abbrev cX10_set : ByteArray := prog_12_method_37_code
def yX10_set : MethodName := ⟨RX10, "set", "(II)I"⟩
abbrev cX10_fill : ByteArray := prog_12_method_38_code
def yX10_fill : MethodName := ⟨RX10, "fill", "(II)I"⟩
abbrev cX10_door : ByteArray := prog_12_method_39_code
def yX10_door : MethodName := ⟨RX10, "door", "(IIZ)I"⟩
abbrev cX10_go : ByteArray := prog_12_method_40_code
def yX10_go : MethodName := ⟨RX10, "go", "(I)I"⟩
abbrev cX10_doesSmell : ByteArray := prog_12_method_41_code
def yX10_doesSmell : MethodName := ⟨RX10, "doesSmell", "(II)Z"⟩
abbrev cX10_sniffs : ByteArray := prog_12_method_42_code
def yX10_sniffs : MethodName := ⟨RX10, "sniffs", "(III)I"⟩
abbrev cX10_sniff : ByteArray := prog_12_method_43_code
def yX10_sniff : MethodName := ⟨RX10, "sniff", "(II)I"⟩
abbrev cX10_mends : ByteArray := prog_12_method_44_code
def yX10_mends : MethodName := ⟨RX10, "mends", "(I)V"⟩
abbrev cX10_outside : ByteArray := prog_12_method_45_code
def yX10_outside : MethodName := ⟨RX10, "outside", "(I)I"⟩
abbrev cX10_strengthBehind : ByteArray := prog_12_method_46_code
def yX10_strengthBehind : MethodName := ⟨RX10, "strengthBehind", "(IIII)I"⟩
abbrev cX10_notBehind : ByteArray := prog_12_method_47_code
def yX10_notBehind : MethodName := ⟨RX10, "notBehind", "(II)I"⟩
abbrev cX10_behind : ByteArray := prog_12_method_48_code
def yX10_behind : MethodName := ⟨RX10, "behind", "(II)I"⟩
abbrev cX10_isGivenInto : ByteArray := prog_12_method_49_code
def yX10_isGivenInto : MethodName := ⟨RX10, "isGivenInto", "(I)Z"⟩
abbrev cX10_strongest : ByteArray := prog_12_method_50_code
def yX10_strongest : MethodName := ⟨RX10, "strongest", "(II)I"⟩
abbrev cX10_isSome : ByteArray := prog_12_method_51_code
def yX10_isSome : MethodName := ⟨RX10, "isSome", "(II)Z"⟩
abbrev cX10_firstWith : ByteArray := prog_12_method_52_code
def yX10_firstWith : MethodName := ⟨RX10, "firstWith", "(II)I"⟩
abbrev cX10_when : ByteArray := prog_12_method_53_code
def yX10_when : MethodName := ⟨RX10, "when", "(II)I"⟩
abbrev cX10_call : ByteArray := prog_12_method_54_code
def yX10_call : MethodName := ⟨RX10, "call", "()I"⟩
abbrev cX10_still : ByteArray := prog_12_method_55_code
def yX10_still : MethodName := ⟨RX10, "still", "()I"⟩
abbrev cX10_share : ByteArray := prog_12_method_56_code
def yX10_share : MethodName := ⟨RX10, "share", "(III)I"⟩
abbrev cX10_tape : ByteArray := prog_12_method_57_code
def yX10_tape : MethodName := ⟨RX10, "tape", "(III)I"⟩
abbrev cX10_bestTape : ByteArray := prog_12_method_58_code
def yX10_bestTape : MethodName := ⟨RX10, "bestTape", "(II)I"⟩
abbrev cX10_bestDoor : ByteArray := prog_12_method_59_code
def yX10_bestDoor : MethodName := ⟨RX10, "bestDoor", "(II)I"⟩
abbrev cX10_row : ByteArray := prog_12_method_60_code
def yX10_row : MethodName := ⟨RX10, "row", "(I)I"⟩
abbrev cX10_clear : ByteArray := prog_12_method_61_code
def yX10_clear : MethodName := ⟨RX10, "clear", "()I"⟩
abbrev cX10_takesRow : ByteArray := prog_12_method_62_code
def yX10_takesRow : MethodName := ⟨RX10, "takesRow", "()V"⟩
abbrev cX10_rounds : ByteArray := prog_12_method_63_code
def yX10_rounds : MethodName := ⟨RX10, "rounds", "(II)I"⟩
abbrev cX10_says : ByteArray := prog_12_method_64_code
def yX10_says : MethodName := ⟨RX10, "says", "(I)I"⟩
abbrev cX10_aloneOf : ByteArray := prog_12_method_65_code
def yX10_aloneOf : MethodName := ⟨RX10, "aloneOf", "(II)I"⟩
abbrev cX10_alone : ByteArray := prog_12_method_66_code
def yX10_alone : MethodName := ⟨RX10, "alone", "(II)I"⟩
abbrev cX10_apartOf : ByteArray := prog_12_method_67_code
def yX10_apartOf : MethodName := ⟨RX10, "apartOf", "(I)I"⟩
abbrev cX10_apart : ByteArray := prog_12_method_68_code
def yX10_apart : MethodName := ⟨RX10, "apart", "(I)I"⟩
abbrev cX10_bestRound : ByteArray := prog_12_method_69_code
def yX10_bestRound : MethodName := ⟨RX10, "bestRound", "(III)I"⟩
abbrev cX10_weightOf : ByteArray := prog_12_method_70_code
def yX10_weightOf : MethodName := ⟨RX10, "weightOf", "(II)J"⟩
abbrev cX10_findWeights : ByteArray := prog_12_method_71_code
def yX10_findWeights : MethodName := ⟨RX10, "findWeights", "(II)J"⟩
abbrev cX10_divisor : ByteArray := prog_12_method_72_code
def yX10_divisor : MethodName := ⟨RX10, "divisor", "(JJ)J"⟩
abbrev cX10_inLeast : ByteArray := prog_12_method_73_code
def yX10_inLeast : MethodName := ⟨RX10, "inLeast", "(JJI)J"⟩
abbrev cX10_odds : ByteArray := prog_12_method_74_code
def yX10_odds : MethodName := ⟨RX10, "odds", "(IIII)J"⟩
abbrev cX10_any : ByteArray := prog_12_method_75_code
def yX10_any : MethodName := ⟨RX10, "any", "(III)J"⟩
abbrev cX10_likely : ByteArray := prog_12_method_76_code
def yX10_likely : MethodName := ⟨RX10, "likely", "(II)I"⟩
abbrev cX10_mouse : ByteArray := prog_12_method_77_code
def yX10_mouse : MethodName := ⟨RX10, "mouse", "(II)I"⟩
abbrev cX10_seeds : ByteArray := prog_12_method_78_code
def yX10_seeds : MethodName := ⟨RX10, "seeds", "(II)I"⟩
abbrev cX10_allStrengths : ByteArray := prog_12_method_79_code
def yX10_allStrengths : MethodName := ⟨RX10, "allStrengths", "()I"⟩
abbrev cX10_count : ByteArray := prog_12_method_80_code
def yX10_count : MethodName := ⟨RX10, "count", "(I)I"⟩
def RJ7 : String := "java/util/Arrays"
abbrev cJ7_fill_53178 : ByteArray := prog_15_method_103_code
def yJ7_fill_53178 : MethodName := ⟨RJ7, "fill", "([II)V"⟩
def RL : String := "SmellInTheHouseLaw"
abbrev cL_law : ByteArray := code
def yL_law : MethodName := ⟨RL, "law", "([I)Z"⟩
abbrev vwCl : List vw_C := [(RX0, TX0, 9), (RX1, TX1, 1), (RX2, TX2, 10), (RX3, TX3, 2), (RX4, TX4, 5), (RX5, TX5, 2), (RX6, TX6, 8), (RX7, TX7, 5), (RX8, TX8, 2), (RX9, TX9, 10), (RX10, TX10, 41)]
