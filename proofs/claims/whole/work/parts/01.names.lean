-- ===== PART A: goes FIRST, ahead of the names: the tables' words, and 'selects' of the private methods out of them =====
/-- a private method of a class that the tables say can be made, by its rows of tables_1 -/
def lw_okq (q : MethodName × Nat) : Prop := (q.1.cls ≠ "java/lang/invoke/MethodHandle" ∧ q.1.cls ≠ "java/lang/invoke/VarHandle") ∧ Cond.instantiable q.1.cls q.2 ∈ tables_1 ∧ Cond.privateMethod q.1 ∈ tables_1 ∧ Cond.instanceMethod q.1 ∈ tables_1
theorem lw_p0 : lw_okq (⟨"IceHouse", "noteChangedText", "(I)V"⟩, 6) := ⟨⟨by decide +kernel, by decide +kernel⟩, List.mem_of_getElem? (i := 18) (by decide +kernel), List.mem_of_getElem? (i := 357) (by decide +kernel), List.mem_of_getElem? (i := 358) (by decide +kernel)⟩
theorem lw_p1 : lw_okq (⟨"IceHouse$Book", "placeBlocks", "()I"⟩, 8) := ⟨⟨by decide +kernel, by decide +kernel⟩, List.mem_of_getElem? (i := 26) (by decide +kernel), List.mem_of_getElem? (i := 372) (by decide +kernel), List.mem_of_getElem? (i := 373) (by decide +kernel)⟩
theorem lw_p2 : lw_okq (⟨"IceHouse$Book", "placeOrders", "()I"⟩, 8) := ⟨⟨by decide +kernel, by decide +kernel⟩, List.mem_of_getElem? (i := 26) (by decide +kernel), List.mem_of_getElem? (i := 387) (by decide +kernel), List.mem_of_getElem? (i := 388) (by decide +kernel)⟩
theorem lw_p3 : lw_okq (⟨"IceHouse", "noteChange", "()V"⟩, 6) := ⟨⟨by decide +kernel, by decide +kernel⟩, List.mem_of_getElem? (i := 18) (by decide +kernel), List.mem_of_getElem? (i := 391) (by decide +kernel), List.mem_of_getElem? (i := 392) (by decide +kernel)⟩
theorem lw_p4 : lw_okq (⟨"IceHouse", "found", "(I)I"⟩, 6) := ⟨⟨by decide +kernel, by decide +kernel⟩, List.mem_of_getElem? (i := 18) (by decide +kernel), List.mem_of_getElem? (i := 435) (by decide +kernel), List.mem_of_getElem? (i := 436) (by decide +kernel)⟩
theorem lw_p5 : lw_okq (⟨"IceHouse", "toldSummer", "()LIceHouse$Summer;"⟩, 6) := ⟨⟨by decide +kernel, by decide +kernel⟩, List.mem_of_getElem? (i := 18) (by decide +kernel), List.mem_of_getElem? (i := 443) (by decide +kernel), List.mem_of_getElem? (i := 444) (by decide +kernel)⟩
theorem lw_p6 : lw_okq (⟨"IceHouse$Summer", "serve", "(I)V"⟩, 11) := ⟨⟨by decide +kernel, by decide +kernel⟩, List.mem_of_getElem? (i := 189) (by decide +kernel), List.mem_of_getElem? (i := 481) (by decide +kernel), List.mem_of_getElem? (i := 482) (by decide +kernel)⟩
theorem lw_p7 : lw_okq (⟨"IceHouse$Summer", "melt", "(I)I"⟩, 11) := ⟨⟨by decide +kernel, by decide +kernel⟩, List.mem_of_getElem? (i := 189) (by decide +kernel), List.mem_of_getElem? (i := 493) (by decide +kernel), List.mem_of_getElem? (i := 494) (by decide +kernel)⟩
theorem lw_p8 : lw_okq (⟨"IceHouse$Summer", "meltColumn", "(II)I"⟩, 11) := ⟨⟨by decide +kernel, by decide +kernel⟩, List.mem_of_getElem? (i := 189) (by decide +kernel), List.mem_of_getElem? (i := 498) (by decide +kernel), List.mem_of_getElem? (i := 499) (by decide +kernel)⟩
theorem lw_p9 : lw_okq (⟨"IceHouse$Plans", "keepSpare", "(III)V"⟩, 10) := ⟨⟨by decide +kernel, by decide +kernel⟩, List.mem_of_getElem? (i := 183) (by decide +kernel), List.mem_of_getElem? (i := 603) (by decide +kernel), List.mem_of_getElem? (i := 604) (by decide +kernel)⟩
theorem lw_p10 : lw_okq (⟨"IceHouse$Plans", "noneIsShortWithout", "(I)Z"⟩, 10) := ⟨⟨by decide +kernel, by decide +kernel⟩, List.mem_of_getElem? (i := 183) (by decide +kernel), List.mem_of_getElem? (i := 607) (by decide +kernel), List.mem_of_getElem? (i := 608) (by decide +kernel)⟩
theorem lw_p11 : lw_okq (⟨"IceHouse", "isNoBlock", "(II)Z"⟩, 6) := ⟨⟨by decide +kernel, by decide +kernel⟩, List.mem_of_getElem? (i := 18) (by decide +kernel), List.mem_of_getElem? (i := 640) (by decide +kernel), List.mem_of_getElem? (i := 641) (by decide +kernel)⟩
theorem lw_p12 : lw_okq (⟨"IceHouse$Plans", "mostAlike", "(II)I"⟩, 10) := ⟨⟨by decide +kernel, by decide +kernel⟩, List.mem_of_getElem? (i := 183) (by decide +kernel), List.mem_of_getElem? (i := 657) (by decide +kernel), List.mem_of_getElem? (i := 658) (by decide +kernel)⟩
theorem lw_p13 : lw_okq (⟨"IceHouse$Plans", "learnShorts", "()V"⟩, 10) := ⟨⟨by decide +kernel, by decide +kernel⟩, List.mem_of_getElem? (i := 183) (by decide +kernel), List.mem_of_getElem? (i := 671) (by decide +kernel), List.mem_of_getElem? (i := 672) (by decide +kernel)⟩
theorem lw_p14 : lw_okq (⟨"IceHouse", "mixedColumn", "(JI)J"⟩, 6) := ⟨⟨by decide +kernel, by decide +kernel⟩, List.mem_of_getElem? (i := 18) (by decide +kernel), List.mem_of_getElem? (i := 761) (by decide +kernel), List.mem_of_getElem? (i := 762) (by decide +kernel)⟩
theorem lw_p15 : lw_okq (⟨"IceHouse", "mixedOrder", "(JI)J"⟩, 6) := ⟨⟨by decide +kernel, by decide +kernel⟩, List.mem_of_getElem? (i := 18) (by decide +kernel), List.mem_of_getElem? (i := 769) (by decide +kernel), List.mem_of_getElem? (i := 770) (by decide +kernel)⟩
def lw_privs_1 : List (MethodName × Nat) := [(⟨"IceHouse", "noteChangedText", "(I)V"⟩, 6), (⟨"IceHouse$Book", "placeBlocks", "()I"⟩, 8), (⟨"IceHouse$Book", "placeOrders", "()I"⟩, 8), (⟨"IceHouse", "noteChange", "()V"⟩, 6), (⟨"IceHouse", "found", "(I)I"⟩, 6), (⟨"IceHouse", "toldSummer", "()LIceHouse$Summer;"⟩, 6), (⟨"IceHouse$Summer", "serve", "(I)V"⟩, 11), (⟨"IceHouse$Summer", "melt", "(I)I"⟩, 11), (⟨"IceHouse$Summer", "meltColumn", "(II)I"⟩, 11), (⟨"IceHouse$Plans", "keepSpare", "(III)V"⟩, 10), (⟨"IceHouse$Plans", "noneIsShortWithout", "(I)Z"⟩, 10), (⟨"IceHouse", "isNoBlock", "(II)Z"⟩, 6), (⟨"IceHouse$Plans", "mostAlike", "(II)I"⟩, 10), (⟨"IceHouse$Plans", "learnShorts", "()V"⟩, 10), (⟨"IceHouse", "mixedColumn", "(JI)J"⟩, 6), (⟨"IceHouse", "mixedOrder", "(JI)J"⟩, 6)]
theorem lw_r1 : ∀ q ∈ lw_privs_1, lw_okq q := List.forall_mem_cons.mpr ⟨lw_p0, List.forall_mem_cons.mpr ⟨lw_p1, List.forall_mem_cons.mpr ⟨lw_p2, List.forall_mem_cons.mpr ⟨lw_p3, List.forall_mem_cons.mpr ⟨lw_p4, List.forall_mem_cons.mpr ⟨lw_p5, List.forall_mem_cons.mpr ⟨lw_p6, List.forall_mem_cons.mpr ⟨lw_p7, List.forall_mem_cons.mpr ⟨lw_p8, List.forall_mem_cons.mpr ⟨lw_p9, List.forall_mem_cons.mpr ⟨lw_p10, List.forall_mem_cons.mpr ⟨lw_p11, List.forall_mem_cons.mpr ⟨lw_p12, List.forall_mem_cons.mpr ⟨lw_p13, List.forall_mem_cons.mpr ⟨lw_p14, List.forall_mem_cons.mpr ⟨lw_p15, fun _ h => absurd h List.not_mem_nil⟩⟩⟩⟩⟩⟩⟩⟩⟩⟩⟩⟩⟩⟩⟩⟩
theorem lw_p16 : lw_okq (⟨"IceHouse", "mixedPlans", "(J)J"⟩, 6) := ⟨⟨by decide +kernel, by decide +kernel⟩, List.mem_of_getElem? (i := 18) (by decide +kernel), List.mem_of_getElem? (i := 775) (by decide +kernel), List.mem_of_getElem? (i := 776) (by decide +kernel)⟩
theorem lw_p17 : lw_okq (⟨"IceHouseModel", "finds", "(I)I"⟩, 29) := ⟨⟨by decide +kernel, by decide +kernel⟩, List.mem_of_getElem? (i := 783) (by decide +kernel), List.mem_of_getElem? (i := 889) (by decide +kernel), List.mem_of_getElem? (i := 890) (by decide +kernel)⟩
theorem lw_p18 : lw_okq (⟨"IceHouseModel", "lacks", "(III)I"⟩, 29) := ⟨⟨by decide +kernel, by decide +kernel⟩, List.mem_of_getElem? (i := 783) (by decide +kernel), List.mem_of_getElem? (i := 901) (by decide +kernel), List.mem_of_getElem? (i := 902) (by decide +kernel)⟩
theorem lw_p19 : lw_okq (⟨"IceHouseModel", "readsText", "(I)I"⟩, 29) := ⟨⟨by decide +kernel, by decide +kernel⟩, List.mem_of_getElem? (i := 783) (by decide +kernel), List.mem_of_getElem? (i := 937) (by decide +kernel), List.mem_of_getElem? (i := 938) (by decide +kernel)⟩
theorem lw_p20 : lw_okq (⟨"IceHouseModel", "readsBlocks", "()I"⟩, 29) := ⟨⟨by decide +kernel, by decide +kernel⟩, List.mem_of_getElem? (i := 783) (by decide +kernel), List.mem_of_getElem? (i := 941) (by decide +kernel), List.mem_of_getElem? (i := 942) (by decide +kernel)⟩
theorem lw_p21 : lw_okq (⟨"IceHouseModel", "bares", "()V"⟩, 29) := ⟨⟨by decide +kernel, by decide +kernel⟩, List.mem_of_getElem? (i := 783) (by decide +kernel), List.mem_of_getElem? (i := 945) (by decide +kernel), List.mem_of_getElem? (i := 946) (by decide +kernel)⟩
theorem lw_p22 : lw_okq (⟨"IceHouseModel", "readsOrders", "()I"⟩, 29) := ⟨⟨by decide +kernel, by decide +kernel⟩, List.mem_of_getElem? (i := 783) (by decide +kernel), List.mem_of_getElem? (i := 951) (by decide +kernel), List.mem_of_getElem? (i := 952) (by decide +kernel)⟩
theorem lw_p23 : lw_okq (⟨"IceHouseModel", "toldAt", "(II)I"⟩, 29) := ⟨⟨by decide +kernel, by decide +kernel⟩, List.mem_of_getElem? (i := 783) (by decide +kernel), List.mem_of_getElem? (i := 968) (by decide +kernel), List.mem_of_getElem? (i := 969) (by decide +kernel)⟩
theorem lw_p24 : lw_okq (⟨"IceHouseModel", "isOrder", "(I)Z"⟩, 29) := ⟨⟨by decide +kernel, by decide +kernel⟩, List.mem_of_getElem? (i := 783) (by decide +kernel), List.mem_of_getElem? (i := 976) (by decide +kernel), List.mem_of_getElem? (i := 977) (by decide +kernel)⟩
theorem lw_p25 : lw_okq (⟨"IceHouseModel", "keeps", "(III)V"⟩, 29) := ⟨⟨by decide +kernel, by decide +kernel⟩, List.mem_of_getElem? (i := 783) (by decide +kernel), List.mem_of_getElem? (i := 988) (by decide +kernel), List.mem_of_getElem? (i := 989) (by decide +kernel)⟩
theorem lw_p26 : lw_okq (⟨"IceHouseModel", "find", "()V"⟩, 29) := ⟨⟨by decide +kernel, by decide +kernel⟩, List.mem_of_getElem? (i := 783) (by decide +kernel), List.mem_of_getElem? (i := 1005) (by decide +kernel), List.mem_of_getElem? (i := 1006) (by decide +kernel)⟩
theorem lw_p27 : lw_okq (⟨"IceHouseModel", "lives", "()V"⟩, 29) := ⟨⟨by decide +kernel, by decide +kernel⟩, List.mem_of_getElem? (i := 783) (by decide +kernel), List.mem_of_getElem? (i := 1009) (by decide +kernel), List.mem_of_getElem? (i := 1010) (by decide +kernel)⟩
theorem lw_p28 : lw_okq (⟨"IceHouseModel", "passes", "(I)V"⟩, 29) := ⟨⟨by decide +kernel, by decide +kernel⟩, List.mem_of_getElem? (i := 783) (by decide +kernel), List.mem_of_getElem? (i := 1013) (by decide +kernel), List.mem_of_getElem? (i := 1014) (by decide +kernel)⟩
theorem lw_p29 : lw_okq (⟨"IceHouseModel", "serves", "(I)V"⟩, 29) := ⟨⟨by decide +kernel, by decide +kernel⟩, List.mem_of_getElem? (i := 783) (by decide +kernel), List.mem_of_getElem? (i := 1017) (by decide +kernel), List.mem_of_getElem? (i := 1018) (by decide +kernel)⟩
theorem lw_p30 : lw_okq (⟨"IceHouseModel", "greatest", "()I"⟩, 29) := ⟨⟨by decide +kernel, by decide +kernel⟩, List.mem_of_getElem? (i := 783) (by decide +kernel), List.mem_of_getElem? (i := 1021) (by decide +kernel), List.mem_of_getElem? (i := 1022) (by decide +kernel)⟩
theorem lw_p31 : lw_okq (⟨"IceHouseModel", "topOf", "(I)I"⟩, 29) := ⟨⟨by decide +kernel, by decide +kernel⟩, List.mem_of_getElem? (i := 783) (by decide +kernel), List.mem_of_getElem? (i := 1025) (by decide +kernel), List.mem_of_getElem? (i := 1026) (by decide +kernel)⟩
def lw_privs_2 : List (MethodName × Nat) := [(⟨"IceHouse", "mixedPlans", "(J)J"⟩, 6), (⟨"IceHouseModel", "finds", "(I)I"⟩, 29), (⟨"IceHouseModel", "lacks", "(III)I"⟩, 29), (⟨"IceHouseModel", "readsText", "(I)I"⟩, 29), (⟨"IceHouseModel", "readsBlocks", "()I"⟩, 29), (⟨"IceHouseModel", "bares", "()V"⟩, 29), (⟨"IceHouseModel", "readsOrders", "()I"⟩, 29), (⟨"IceHouseModel", "toldAt", "(II)I"⟩, 29), (⟨"IceHouseModel", "isOrder", "(I)Z"⟩, 29), (⟨"IceHouseModel", "keeps", "(III)V"⟩, 29), (⟨"IceHouseModel", "find", "()V"⟩, 29), (⟨"IceHouseModel", "lives", "()V"⟩, 29), (⟨"IceHouseModel", "passes", "(I)V"⟩, 29), (⟨"IceHouseModel", "serves", "(I)V"⟩, 29), (⟨"IceHouseModel", "greatest", "()I"⟩, 29), (⟨"IceHouseModel", "topOf", "(I)I"⟩, 29)]
theorem lw_r2 : ∀ q ∈ lw_privs_2, lw_okq q := List.forall_mem_cons.mpr ⟨lw_p16, List.forall_mem_cons.mpr ⟨lw_p17, List.forall_mem_cons.mpr ⟨lw_p18, List.forall_mem_cons.mpr ⟨lw_p19, List.forall_mem_cons.mpr ⟨lw_p20, List.forall_mem_cons.mpr ⟨lw_p21, List.forall_mem_cons.mpr ⟨lw_p22, List.forall_mem_cons.mpr ⟨lw_p23, List.forall_mem_cons.mpr ⟨lw_p24, List.forall_mem_cons.mpr ⟨lw_p25, List.forall_mem_cons.mpr ⟨lw_p26, List.forall_mem_cons.mpr ⟨lw_p27, List.forall_mem_cons.mpr ⟨lw_p28, List.forall_mem_cons.mpr ⟨lw_p29, List.forall_mem_cons.mpr ⟨lw_p30, List.forall_mem_cons.mpr ⟨lw_p31, fun _ h => absurd h List.not_mem_nil⟩⟩⟩⟩⟩⟩⟩⟩⟩⟩⟩⟩⟩⟩⟩⟩
theorem lw_p32 : lw_okq (⟨"IceHouseModel", "melting", "(I)V"⟩, 29) := ⟨⟨by decide +kernel, by decide +kernel⟩, List.mem_of_getElem? (i := 783) (by decide +kernel), List.mem_of_getElem? (i := 1029) (by decide +kernel), List.mem_of_getElem? (i := 1030) (by decide +kernel)⟩
theorem lw_p33 : lw_okq (⟨"IceHouseModel", "strawBy", "(I)I"⟩, 29) := ⟨⟨by decide +kernel, by decide +kernel⟩, List.mem_of_getElem? (i := 783) (by decide +kernel), List.mem_of_getElem? (i := 1033) (by decide +kernel), List.mem_of_getElem? (i := 1034) (by decide +kernel)⟩
theorem lw_p34 : lw_okq (⟨"IceHouseModel", "isTold", "(II)Z"⟩, 29) := ⟨⟨by decide +kernel, by decide +kernel⟩, List.mem_of_getElem? (i := 783) (by decide +kernel), List.mem_of_getElem? (i := 1040) (by decide +kernel), List.mem_of_getElem? (i := 1041) (by decide +kernel)⟩
theorem lw_p35 : lw_okq (⟨"IceHouseModel", "freeOf", "(III)I"⟩, 29) := ⟨⟨by decide +kernel, by decide +kernel⟩, List.mem_of_getElem? (i := 783) (by decide +kernel), List.mem_of_getElem? (i := 1044) (by decide +kernel), List.mem_of_getElem? (i := 1045) (by decide +kernel)⟩
theorem lw_p36 : lw_okq (⟨"IceHouseModel", "columnBy", "(III)I"⟩, 29) := ⟨⟨by decide +kernel, by decide +kernel⟩, List.mem_of_getElem? (i := 783) (by decide +kernel), List.mem_of_getElem? (i := 1051) (by decide +kernel), List.mem_of_getElem? (i := 1052) (by decide +kernel)⟩
theorem lw_p37 : lw_okq (⟨"IceHouseModel", "standsIn", "(II)I"⟩, 29) := ⟨⟨by decide +kernel, by decide +kernel⟩, List.mem_of_getElem? (i := 783) (by decide +kernel), List.mem_of_getElem? (i := 1055) (by decide +kernel), List.mem_of_getElem? (i := 1056) (by decide +kernel)⟩
theorem lw_p38 : lw_okq (⟨"IceHouseModel", "iceBy", "(II)I"⟩, 29) := ⟨⟨by decide +kernel, by decide +kernel⟩, List.mem_of_getElem? (i := 783) (by decide +kernel), List.mem_of_getElem? (i := 1067) (by decide +kernel), List.mem_of_getElem? (i := 1068) (by decide +kernel)⟩
theorem lw_p39 : lw_okq (⟨"IceHouseModel", "allIce", "(I)I"⟩, 29) := ⟨⟨by decide +kernel, by decide +kernel⟩, List.mem_of_getElem? (i := 783) (by decide +kernel), List.mem_of_getElem? (i := 1071) (by decide +kernel), List.mem_of_getElem? (i := 1072) (by decide +kernel)⟩
theorem lw_p40 : lw_okq (⟨"IceHouseModel", "gotBy", "(II)I"⟩, 29) := ⟨⟨by decide +kernel, by decide +kernel⟩, List.mem_of_getElem? (i := 783) (by decide +kernel), List.mem_of_getElem? (i := 1079) (by decide +kernel), List.mem_of_getElem? (i := 1080) (by decide +kernel)⟩
theorem lw_p41 : lw_okq (⟨"IceHouseModel", "isShort", "(I)Z"⟩, 29) := ⟨⟨by decide +kernel, by decide +kernel⟩, List.mem_of_getElem? (i := 783) (by decide +kernel), List.mem_of_getElem? (i := 1083) (by decide +kernel), List.mem_of_getElem? (i := 1084) (by decide +kernel)⟩
theorem lw_p42 : lw_okq (⟨"IceHouseModel", "sumBy", "(I)I"⟩, 29) := ⟨⟨by decide +kernel, by decide +kernel⟩, List.mem_of_getElem? (i := 783) (by decide +kernel), List.mem_of_getElem? (i := 1091) (by decide +kernel), List.mem_of_getElem? (i := 1092) (by decide +kernel)⟩
theorem lw_p43 : lw_okq (⟨"IceHouseModel", "bareOf", "(I)I"⟩, 29) := ⟨⟨by decide +kernel, by decide +kernel⟩, List.mem_of_getElem? (i := 783) (by decide +kernel), List.mem_of_getElem? (i := 1099) (by decide +kernel), List.mem_of_getElem? (i := 1100) (by decide +kernel)⟩
theorem lw_p44 : lw_okq (⟨"IceHouseModel", "lastNow", "()I"⟩, 29) := ⟨⟨by decide +kernel, by decide +kernel⟩, List.mem_of_getElem? (i := 783) (by decide +kernel), List.mem_of_getElem? (i := 1107) (by decide +kernel), List.mem_of_getElem? (i := 1108) (by decide +kernel)⟩
theorem lw_p45 : lw_okq (⟨"IceHouseModel", "tallNow", "()I"⟩, 29) := ⟨⟨by decide +kernel, by decide +kernel⟩, List.mem_of_getElem? (i := 783) (by decide +kernel), List.mem_of_getElem? (i := 1115) (by decide +kernel), List.mem_of_getElem? (i := 1116) (by decide +kernel)⟩
theorem lw_p46 : lw_okq (⟨"IceHouseModel", "drainBy", "(I)I"⟩, 29) := ⟨⟨by decide +kernel, by decide +kernel⟩, List.mem_of_getElem? (i := 783) (by decide +kernel), List.mem_of_getElem? (i := 1123) (by decide +kernel), List.mem_of_getElem? (i := 1124) (by decide +kernel)⟩
theorem lw_p47 : lw_okq (⟨"IceHouseModel", "coverBy", "(I)I"⟩, 29) := ⟨⟨by decide +kernel, by decide +kernel⟩, List.mem_of_getElem? (i := 783) (by decide +kernel), List.mem_of_getElem? (i := 1131) (by decide +kernel), List.mem_of_getElem? (i := 1132) (by decide +kernel)⟩
def lw_privs_3 : List (MethodName × Nat) := [(⟨"IceHouseModel", "melting", "(I)V"⟩, 29), (⟨"IceHouseModel", "strawBy", "(I)I"⟩, 29), (⟨"IceHouseModel", "isTold", "(II)Z"⟩, 29), (⟨"IceHouseModel", "freeOf", "(III)I"⟩, 29), (⟨"IceHouseModel", "columnBy", "(III)I"⟩, 29), (⟨"IceHouseModel", "standsIn", "(II)I"⟩, 29), (⟨"IceHouseModel", "iceBy", "(II)I"⟩, 29), (⟨"IceHouseModel", "allIce", "(I)I"⟩, 29), (⟨"IceHouseModel", "gotBy", "(II)I"⟩, 29), (⟨"IceHouseModel", "isShort", "(I)Z"⟩, 29), (⟨"IceHouseModel", "sumBy", "(I)I"⟩, 29), (⟨"IceHouseModel", "bareOf", "(I)I"⟩, 29), (⟨"IceHouseModel", "lastNow", "()I"⟩, 29), (⟨"IceHouseModel", "tallNow", "()I"⟩, 29), (⟨"IceHouseModel", "drainBy", "(I)I"⟩, 29), (⟨"IceHouseModel", "coverBy", "(I)I"⟩, 29)]
theorem lw_r3 : ∀ q ∈ lw_privs_3, lw_okq q := List.forall_mem_cons.mpr ⟨lw_p32, List.forall_mem_cons.mpr ⟨lw_p33, List.forall_mem_cons.mpr ⟨lw_p34, List.forall_mem_cons.mpr ⟨lw_p35, List.forall_mem_cons.mpr ⟨lw_p36, List.forall_mem_cons.mpr ⟨lw_p37, List.forall_mem_cons.mpr ⟨lw_p38, List.forall_mem_cons.mpr ⟨lw_p39, List.forall_mem_cons.mpr ⟨lw_p40, List.forall_mem_cons.mpr ⟨lw_p41, List.forall_mem_cons.mpr ⟨lw_p42, List.forall_mem_cons.mpr ⟨lw_p43, List.forall_mem_cons.mpr ⟨lw_p44, List.forall_mem_cons.mpr ⟨lw_p45, List.forall_mem_cons.mpr ⟨lw_p46, List.forall_mem_cons.mpr ⟨lw_p47, fun _ h => absurd h List.not_mem_nil⟩⟩⟩⟩⟩⟩⟩⟩⟩⟩⟩⟩⟩⟩⟩⟩
theorem lw_p48 : lw_okq (⟨"IceHouseModel", "swapBy", "(I)I"⟩, 29) := ⟨⟨by decide +kernel, by decide +kernel⟩, List.mem_of_getElem? (i := 783) (by decide +kernel), List.mem_of_getElem? (i := 1142) (by decide +kernel), List.mem_of_getElem? (i := 1143) (by decide +kernel)⟩
theorem lw_p49 : lw_okq (⟨"IceHouseModel", "laterOf", "(II)I"⟩, 29) := ⟨⟨by decide +kernel, by decide +kernel⟩, List.mem_of_getElem? (i := 783) (by decide +kernel), List.mem_of_getElem? (i := 1150) (by decide +kernel), List.mem_of_getElem? (i := 1151) (by decide +kernel)⟩
theorem lw_p50 : lw_okq (⟨"IceHouseModel", "spareBy", "(I)I"⟩, 29) := ⟨⟨by decide +kernel, by decide +kernel⟩, List.mem_of_getElem? (i := 783) (by decide +kernel), List.mem_of_getElem? (i := 1159) (by decide +kernel), List.mem_of_getElem? (i := 1160) (by decide +kernel)⟩
theorem lw_p51 : lw_okq (⟨"IceHouseModel", "isSpared", "(I)Z"⟩, 29) := ⟨⟨by decide +kernel, by decide +kernel⟩, List.mem_of_getElem? (i := 783) (by decide +kernel), List.mem_of_getElem? (i := 1163) (by decide +kernel), List.mem_of_getElem? (i := 1164) (by decide +kernel)⟩
theorem lw_p52 : lw_okq (⟨"IceHouseModel", "neverNow", "()I"⟩, 29) := ⟨⟨by decide +kernel, by decide +kernel⟩, List.mem_of_getElem? (i := 783) (by decide +kernel), List.mem_of_getElem? (i := 1180) (by decide +kernel), List.mem_of_getElem? (i := 1181) (by decide +kernel)⟩
theorem lw_p53 : lw_okq (⟨"IceHouseModel", "isSeen", "()Z"⟩, 29) := ⟨⟨by decide +kernel, by decide +kernel⟩, List.mem_of_getElem? (i := 783) (by decide +kernel), List.mem_of_getElem? (i := 1184) (by decide +kernel), List.mem_of_getElem? (i := 1185) (by decide +kernel)⟩
theorem lw_p54 : lw_okq (⟨"IceHouseModel", "isBlock", "(II)Z"⟩, 29) := ⟨⟨by decide +kernel, by decide +kernel⟩, List.mem_of_getElem? (i := 783) (by decide +kernel), List.mem_of_getElem? (i := 1192) (by decide +kernel), List.mem_of_getElem? (i := 1193) (by decide +kernel)⟩
theorem lw_p55 : lw_okq (⟨"IceHouseModel", "sizeOf", "(II)I"⟩, 29) := ⟨⟨by decide +kernel, by decide +kernel⟩, List.mem_of_getElem? (i := 783) (by decide +kernel), List.mem_of_getElem? (i := 1196) (by decide +kernel), List.mem_of_getElem? (i := 1197) (by decide +kernel)⟩
theorem lw_p56 : lw_okq (⟨"IceHouseModel", "rowOf", "(I)I"⟩, 29) := ⟨⟨by decide +kernel, by decide +kernel⟩, List.mem_of_getElem? (i := 783) (by decide +kernel), List.mem_of_getElem? (i := 1200) (by decide +kernel), List.mem_of_getElem? (i := 1201) (by decide +kernel)⟩
theorem lw_p57 : lw_okq (⟨"IceHouseModel", "askOf", "(II)I"⟩, 29) := ⟨⟨by decide +kernel, by decide +kernel⟩, List.mem_of_getElem? (i := 783) (by decide +kernel), List.mem_of_getElem? (i := 1208) (by decide +kernel), List.mem_of_getElem? (i := 1209) (by decide +kernel)⟩
theorem lw_p58 : lw_okq (⟨"IceHouseModel", "alike", "(II)I"⟩, 29) := ⟨⟨by decide +kernel, by decide +kernel⟩, List.mem_of_getElem? (i := 783) (by decide +kernel), List.mem_of_getElem? (i := 1212) (by decide +kernel), List.mem_of_getElem? (i := 1213) (by decide +kernel)⟩
theorem lw_p59 : lw_okq (⟨"IceHouseModel", "chanceOf", "(III)J"⟩, 29) := ⟨⟨by decide +kernel, by decide +kernel⟩, List.mem_of_getElem? (i := 783) (by decide +kernel), List.mem_of_getElem? (i := 1221) (by decide +kernel), List.mem_of_getElem? (i := 1222) (by decide +kernel)⟩
theorem lw_p60 : lw_okq (⟨"IceHouseModel", "summersOf", "(III)I"⟩, 29) := ⟨⟨by decide +kernel, by decide +kernel⟩, List.mem_of_getElem? (i := 783) (by decide +kernel), List.mem_of_getElem? (i := 1237) (by decide +kernel), List.mem_of_getElem? (i := 1238) (by decide +kernel)⟩
theorem lw_p61 : lw_okq (⟨"IceHouseModel", "lot", "(I)I"⟩, 29) := ⟨⟨by decide +kernel, by decide +kernel⟩, List.mem_of_getElem? (i := 783) (by decide +kernel), List.mem_of_getElem? (i := 1241) (by decide +kernel), List.mem_of_getElem? (i := 1242) (by decide +kernel)⟩
theorem lw_p62 : lw_okq (⟨"IceHouseModel", "manyBlocks", "()I"⟩, 29) := ⟨⟨by decide +kernel, by decide +kernel⟩, List.mem_of_getElem? (i := 783) (by decide +kernel), List.mem_of_getElem? (i := 1254) (by decide +kernel), List.mem_of_getElem? (i := 1255) (by decide +kernel)⟩
theorem lw_p63 : lw_okq (⟨"IceHouseModel", "tellsColumn", "(JI)J"⟩, 29) := ⟨⟨by decide +kernel, by decide +kernel⟩, List.mem_of_getElem? (i := 783) (by decide +kernel), List.mem_of_getElem? (i := 1265) (by decide +kernel), List.mem_of_getElem? (i := 1266) (by decide +kernel)⟩
def lw_privs_4 : List (MethodName × Nat) := [(⟨"IceHouseModel", "swapBy", "(I)I"⟩, 29), (⟨"IceHouseModel", "laterOf", "(II)I"⟩, 29), (⟨"IceHouseModel", "spareBy", "(I)I"⟩, 29), (⟨"IceHouseModel", "isSpared", "(I)Z"⟩, 29), (⟨"IceHouseModel", "neverNow", "()I"⟩, 29), (⟨"IceHouseModel", "isSeen", "()Z"⟩, 29), (⟨"IceHouseModel", "isBlock", "(II)Z"⟩, 29), (⟨"IceHouseModel", "sizeOf", "(II)I"⟩, 29), (⟨"IceHouseModel", "rowOf", "(I)I"⟩, 29), (⟨"IceHouseModel", "askOf", "(II)I"⟩, 29), (⟨"IceHouseModel", "alike", "(II)I"⟩, 29), (⟨"IceHouseModel", "chanceOf", "(III)J"⟩, 29), (⟨"IceHouseModel", "summersOf", "(III)I"⟩, 29), (⟨"IceHouseModel", "lot", "(I)I"⟩, 29), (⟨"IceHouseModel", "manyBlocks", "()I"⟩, 29), (⟨"IceHouseModel", "tellsColumn", "(JI)J"⟩, 29)]
theorem lw_r4 : ∀ q ∈ lw_privs_4, lw_okq q := List.forall_mem_cons.mpr ⟨lw_p48, List.forall_mem_cons.mpr ⟨lw_p49, List.forall_mem_cons.mpr ⟨lw_p50, List.forall_mem_cons.mpr ⟨lw_p51, List.forall_mem_cons.mpr ⟨lw_p52, List.forall_mem_cons.mpr ⟨lw_p53, List.forall_mem_cons.mpr ⟨lw_p54, List.forall_mem_cons.mpr ⟨lw_p55, List.forall_mem_cons.mpr ⟨lw_p56, List.forall_mem_cons.mpr ⟨lw_p57, List.forall_mem_cons.mpr ⟨lw_p58, List.forall_mem_cons.mpr ⟨lw_p59, List.forall_mem_cons.mpr ⟨lw_p60, List.forall_mem_cons.mpr ⟨lw_p61, List.forall_mem_cons.mpr ⟨lw_p62, List.forall_mem_cons.mpr ⟨lw_p63, fun _ h => absurd h List.not_mem_nil⟩⟩⟩⟩⟩⟩⟩⟩⟩⟩⟩⟩⟩⟩⟩⟩
theorem lw_p64 : lw_okq (⟨"IceHouseModel", "tellsOrder", "(JI)J"⟩, 29) := ⟨⟨by decide +kernel, by decide +kernel⟩, List.mem_of_getElem? (i := 783) (by decide +kernel), List.mem_of_getElem? (i := 1269) (by decide +kernel), List.mem_of_getElem? (i := 1270) (by decide +kernel)⟩
def lw_privs_5 : List (MethodName × Nat) := [(⟨"IceHouseModel", "tellsOrder", "(JI)J"⟩, 29)]
theorem lw_r5 : ∀ q ∈ lw_privs_5, lw_okq q := List.forall_mem_cons.mpr ⟨lw_p64, fun _ h => absurd h List.not_mem_nil⟩
def lw_privs : List (MethodName × Nat) := lw_privs_1 ++ (lw_privs_2 ++ (lw_privs_3 ++ (lw_privs_4 ++ (lw_privs_5))))
def lw_tbl : List Cond := k2_sels lw_privs ++ tables_1
theorem lw_privs_ok : ∀ q ∈ lw_privs, lw_okq q := by
  show ∀ q ∈ lw_privs_1 ++ (lw_privs_2 ++ (lw_privs_3 ++ (lw_privs_4 ++ (lw_privs_5)))), lw_okq q
  exact List.forall_mem_append.mpr ⟨lw_r1, List.forall_mem_append.mpr ⟨lw_r2, List.forall_mem_append.mpr ⟨lw_r3, List.forall_mem_append.mpr ⟨lw_r4, lw_r5⟩⟩⟩⟩
-- ===== end of PART A; then your names; then what follows =====
def RX0 : String := "IceHouse$Book"
def TX0 : u_T := fun k => match k with
  | 0 => ("IceHouse$Book", "blocksText", "LIceHouse$Text;", true)
  | 1 => ("IceHouse$Book", "ordersText", "LIceHouse$Text;", true)
  | 2 => ("IceHouse$Book", "blocks", "LIceHouse$Stand;", true)
  | 3 => ("IceHouse$Book", "orders", "LIceHouse$Orders;", true)
  | 4 => ("IceHouse$Book", "events", "LIceHouse$Events;", true)
  | 5 => ("IceHouse$Book", "seen", "LIceHouse$Seen;", true)
  | 6 => ("IceHouse$Book", "blocksFault", "I", false)
  | _ => ("IceHouse$Book", "ordersFault", "I", false)
def tyX0 : Nat → FieldType := fun k => match k with
  | 0 => .object "IceHouse$Text"
  | 1 => .object "IceHouse$Text"
  | 2 => .object "IceHouse$Stand"
  | 3 => .object "IceHouse$Orders"
  | 4 => .object "IceHouse$Events"
  | 5 => .object "IceHouse$Seen"
  | 6 => .int
  | _ => .int
abbrev wsX00 : List Cond := u_ws RX0 TX0 8
theorem nmX0 : ∀ a, a < 8 → ∀ b, b < 8 → a ≠ b → (TX0 a).2.1 ≠ (TX0 b).2.1 := by decide +kernel
theorem tyX0_ok : ∀ k, k < 8 → parseFieldDescriptor (TX0 k).2.2.1 = some (tyX0 k) := by decide +kernel
abbrev cX0_init : ByteArray := prog_2_method_1_code
def yX0_init : MethodName := ⟨RX0, "<init>", "()V"⟩
abbrev cX0_textOf : ByteArray := prog_2_method_2_code
def yX0_textOf : MethodName := ⟨RX0, "textOf", "(I)LIceHouse$Text;"⟩
abbrev cX0_parseBlocks : ByteArray := prog_2_method_3_code
def yX0_parseBlocks : MethodName := ⟨RX0, "parseBlocks", "()V"⟩
abbrev cX0_placeBlocks : ByteArray := prog_2_method_4_code
def yX0_placeBlocks : MethodName := ⟨RX0, "placeBlocks", "()I"⟩
abbrev cX0_parseOrders : ByteArray := prog_2_method_5_code
def yX0_parseOrders : MethodName := ⟨RX0, "parseOrders", "()V"⟩
abbrev cX0_placeOrders : ByteArray := prog_2_method_6_code
def yX0_placeOrders : MethodName := ⟨RX0, "placeOrders", "()I"⟩
abbrev cX0_isFigure : ByteArray := prog_2_method_7_code
def yX0_isFigure : MethodName := ⟨RX0, "isFigure", "(I)Z"⟩
def RX1 : String := "IceHouse$Events"
def TX1 : u_T := fun k => match k with
  | 0 => ("IceHouse$Events", "kind", "[I", true)
  | 1 => ("IceHouse$Events", "week", "[I", true)
  | 2 => ("IceHouse$Events", "what", "[I", true)
  | _ => ("IceHouse$Events", "number", "I", false)
def tyX1 : Nat → FieldType := fun k => match k with
  | 0 => .array .int
  | 1 => .array .int
  | 2 => .array .int
  | _ => .int
abbrev wsX10 : List Cond := u_ws RX1 TX1 4
theorem nmX1 : ∀ a, a < 4 → ∀ b, b < 4 → a ≠ b → (TX1 a).2.1 ≠ (TX1 b).2.1 := by decide +kernel
theorem tyX1_ok : ∀ k, k < 4 → parseFieldDescriptor (TX1 k).2.2.1 = some (tyX1 k) := by decide +kernel
abbrev cX1_init : ByteArray := prog_3_method_1_code
def yX1_init : MethodName := ⟨RX1, "<init>", "()V"⟩
abbrev cX1_mayBe : ByteArray := prog_3_method_2_code
def yX1_mayBe : MethodName := ⟨RX1, "mayBe", "(III)Z"⟩
abbrev cX1_append : ByteArray := prog_3_method_3_code
def yX1_append : MethodName := ⟨RX1, "append", "(III)V"⟩
def RX2 : String := "IceHouse$Orders"
def TX2 : u_T := fun k => match k with
  | 0 => ("IceHouse$Orders", "week", "[I", true)
  | 1 => ("IceHouse$Orders", "wanted", "[I", true)
  | _ => ("IceHouse$Orders", "number", "I", false)
def tyX2 : Nat → FieldType := fun k => match k with
  | 0 => .array .int
  | 1 => .array .int
  | _ => .int
abbrev wsX20 : List Cond := u_ws RX2 TX2 3
theorem nmX2 : ∀ a, a < 3 → ∀ b, b < 3 → a ≠ b → (TX2 a).2.1 ≠ (TX2 b).2.1 := by decide +kernel
theorem tyX2_ok : ∀ k, k < 3 → parseFieldDescriptor (TX2 k).2.2.1 = some (tyX2 k) := by decide +kernel
abbrev cX2_init : ByteArray := prog_4_method_1_code
def yX2_init : MethodName := ⟨RX2, "<init>", "()V"⟩
abbrev cX2_become : ByteArray := prog_4_method_2_code
def yX2_become : MethodName := ⟨RX2, "become", "(LIceHouse$Orders;)V"⟩
def RX3 : String := "IceHouse$Plans"
def TX3 : u_T := fun k => match k with
  | 0 => ("IceHouse$Plans", "book", "LIceHouse$Book;", true)
  | 1 => ("IceHouse$Plans", "trial", "LIceHouse$Summer;", true)
  | 2 => ("IceHouse$Plans", "shortsOf", "[I", true)
  | 3 => ("IceHouse$Plans", "shapesOf", "[I", true)
  | 4 => ("IceHouse$Plans", "shortsAreKnown", "Z", false)
  | 5 => ("IceHouse$Plans", "first", "I", false)
  | 6 => ("IceHouse$Plans", "second", "I", false)
  | 7 => ("IceHouse$Plans", "much", "I", false)
  | 8 => ("IceHouse$Plans", "above", "J", false)
  | _ => ("IceHouse$Plans", "below", "J", false)
def tyX3 : Nat → FieldType := fun k => match k with
  | 0 => .object "IceHouse$Book"
  | 1 => .object "IceHouse$Summer"
  | 2 => .array .int
  | 3 => .array .int
  | 4 => .boolean
  | 5 => .int
  | 6 => .int
  | 7 => .int
  | 8 => .long
  | _ => .long
abbrev wsX30 : List Cond := u_ws RX3 TX3 10
theorem nmX3 : ∀ a, a < 10 → ∀ b, b < 10 → a ≠ b → (TX3 a).2.1 ≠ (TX3 b).2.1 := by decide +kernel
theorem tyX3_ok : ∀ k, k < 10 → parseFieldDescriptor (TX3 k).2.2.1 = some (tyX3 k) := by decide +kernel
abbrev cX3_init : ByteArray := prog_5_method_1_code
def yX3_init : MethodName := ⟨RX3, "<init>", "(LIceHouse$Book;)V"⟩
abbrev cX3_findCover : ByteArray := prog_5_method_2_code
def yX3_findCover : MethodName := ⟨RX3, "findCover", "()V"⟩
abbrev cX3_findSwap : ByteArray := prog_5_method_3_code
def yX3_findSwap : MethodName := ⟨RX3, "findSwap", "()V"⟩
abbrev cX3_findWait : ByteArray := prog_5_method_4_code
def yX3_findWait : MethodName := ⟨RX3, "findWait", "(I)V"⟩
abbrev cX3_noneIsShortWithout : ByteArray := prog_5_method_5_code
def yX3_noneIsShortWithout : MethodName := ⟨RX3, "noneIsShortWithout", "(I)Z"⟩
abbrev cX3_keepSpare : ByteArray := prog_5_method_6_code
def yX3_keepSpare : MethodName := ⟨RX3, "keepSpare", "(III)V"⟩
abbrev cX3_findSpare : ByteArray := prog_5_method_7_code
def yX3_findSpare : MethodName := ⟨RX3, "findSpare", "()V"⟩
abbrev cX3_findNever : ByteArray := prog_5_method_8_code
def yX3_findNever : MethodName := ⟨RX3, "findNever", "()I"⟩
abbrev cX3_findSizes : ByteArray := prog_5_method_9_code
def yX3_findSizes : MethodName := ⟨RX3, "findSizes", "(II)I"⟩
abbrev cX3_findAsk : ByteArray := prog_5_method_10_code
def yX3_findAsk : MethodName := ⟨RX3, "findAsk", "(I)I"⟩
abbrev cX3_mostAlike : ByteArray := prog_5_method_11_code
def yX3_mostAlike : MethodName := ⟨RX3, "mostAlike", "(II)I"⟩
abbrev cX3_findChance : ByteArray := prog_5_method_12_code
def yX3_findChance : MethodName := ⟨RX3, "findChance", "(II)V"⟩
abbrev cX3_learnShorts : ByteArray := prog_5_method_13_code
def yX3_learnShorts : MethodName := ⟨RX3, "learnShorts", "()V"⟩
abbrev cX3_power : ByteArray := prog_5_method_14_code
def yX3_power : MethodName := ⟨RX3, "power", "(JI)J"⟩
abbrev cX3_drawnSummer : ByteArray := prog_5_method_15_code
def yX3_drawnSummer : MethodName := ⟨RX3, "drawnSummer", "(II)LIceHouse$Summer;"⟩
abbrev cX3_nextSeed : ByteArray := prog_5_method_16_code
def yX3_nextSeed : MethodName := ⟨RX3, "nextSeed", "(I)I"⟩
abbrev cX3_lot : ByteArray := prog_5_method_17_code
def yX3_lot : MethodName := ⟨RX3, "lot", "(II)I"⟩
def RX4 : String := "IceHouse$Seen"
def TX4 : u_T := fun k => match k with
  | 0 => ("IceHouse$Seen", "week", "[I", true)
  | 1 => ("IceHouse$Seen", "column", "[I", true)
  | 2 => ("IceHouse$Seen", "high", "[I", true)
  | _ => ("IceHouse$Seen", "number", "I", false)
def tyX4 : Nat → FieldType := fun k => match k with
  | 0 => .array .int
  | 1 => .array .int
  | 2 => .array .int
  | _ => .int
abbrev wsX40 : List Cond := u_ws RX4 TX4 4
theorem nmX4 : ∀ a, a < 4 → ∀ b, b < 4 → a ≠ b → (TX4 a).2.1 ≠ (TX4 b).2.1 := by decide +kernel
theorem tyX4_ok : ∀ k, k < 4 → parseFieldDescriptor (TX4 k).2.2.1 = some (tyX4 k) := by decide +kernel
abbrev cX4_init : ByteArray := prog_6_method_1_code
def yX4_init : MethodName := ⟨RX4, "<init>", "()V"⟩
abbrev cX4_append : ByteArray := prog_6_method_2_code
def yX4_append : MethodName := ⟨RX4, "append", "(III)V"⟩
abbrev cX4_fits : ByteArray := prog_6_method_3_code
def yX4_fits : MethodName := ⟨RX4, "fits", "([I)Z"⟩
def RX5 : String := "IceHouse$Sheet"
def TX5 : u_T := fun k => match k with
  | 0 => ("IceHouse$Sheet", "items", "[I", true)
  | 1 => ("IceHouse$Sheet", "form", "I", false)
  | _ => ("IceHouse$Sheet", "length", "I", false)
def tyX5 : Nat → FieldType := fun k => match k with
  | 0 => .array .int
  | 1 => .int
  | _ => .int
abbrev wsX50 : List Cond := u_ws RX5 TX5 3
theorem nmX5 : ∀ a, a < 3 → ∀ b, b < 3 → a ≠ b → (TX5 a).2.1 ≠ (TX5 b).2.1 := by decide +kernel
theorem tyX5_ok : ∀ k, k < 3 → parseFieldDescriptor (TX5 k).2.2.1 = some (tyX5 k) := by decide +kernel
abbrev cX5_init : ByteArray := prog_7_method_1_code
def yX5_init : MethodName := ⟨RX5, "<init>", "()V"⟩
abbrev cX5_renew : ByteArray := prog_7_method_2_code
def yX5_renew : MethodName := ⟨RX5, "renew", "(II)V"⟩
abbrev cX5_hindrance : ByteArray := prog_7_method_3_code
def yX5_hindrance : MethodName := ⟨RX5, "hindrance", "(II)I"⟩
abbrev cX5_hasRow : ByteArray := prog_7_method_4_code
def yX5_hasRow : MethodName := ⟨RX5, "hasRow", "(II)Z"⟩
abbrev cX5_put : ByteArray := prog_7_method_5_code
def yX5_put : MethodName := ⟨RX5, "put", "(II)V"⟩
def RX6 : String := "IceHouse$Stand"
def TX6 : u_T := fun k => match k with
  | 0 => ("IceHouse$Stand", "great", "[I", true)
  | _ => ("IceHouse$Stand", "high", "[I", true)
def tyX6 : Nat → FieldType := fun k => match k with
  | 0 => .array .int
  | _ => .array .int
abbrev wsX60 : List Cond := u_ws RX6 TX6 2
theorem nmX6 : ∀ a, a < 2 → ∀ b, b < 2 → a ≠ b → (TX6 a).2.1 ≠ (TX6 b).2.1 := by decide +kernel
theorem tyX6_ok : ∀ k, k < 2 → parseFieldDescriptor (TX6 k).2.2.1 = some (tyX6 k) := by decide +kernel
abbrev cX6_init : ByteArray := prog_8_method_1_code
def yX6_init : MethodName := ⟨RX6, "<init>", "()V"⟩
abbrev cX6_clearAll : ByteArray := prog_8_method_2_code
def yX6_clearAll : MethodName := ⟨RX6, "clearAll", "()V"⟩
abbrev cX6_become : ByteArray := prog_8_method_3_code
def yX6_become : MethodName := ⟨RX6, "become", "(LIceHouse$Stand;)V"⟩
abbrev cX6_putOnTop : ByteArray := prog_8_method_4_code
def yX6_putOnTop : MethodName := ⟨RX6, "putOnTop", "(II)V"⟩
abbrev cX6_takeFromTop : ByteArray := prog_8_method_5_code
def yX6_takeFromTop : MethodName := ⟨RX6, "takeFromTop", "(I)I"⟩
abbrev cX6_columnOfGreatestTop : ByteArray := prog_8_method_6_code
def yX6_columnOfGreatestTop : MethodName := ⟨RX6, "columnOfGreatestTop", "()I"⟩
abbrev cX6_exchange : ByteArray := prog_8_method_7_code
def yX6_exchange : MethodName := ⟨RX6, "exchange", "(II)V"⟩
abbrev cX6_numberOfBlocks : ByteArray := prog_8_method_8_code
def yX6_numberOfBlocks : MethodName := ⟨RX6, "numberOfBlocks", "()I"⟩
abbrev cX6_total : ByteArray := prog_8_method_9_code
def yX6_total : MethodName := ⟨RX6, "total", "()I"⟩
abbrev cX6_shapeOfAll : ByteArray := prog_8_method_10_code
def yX6_shapeOfAll : MethodName := ⟨RX6, "shapeOfAll", "()I"⟩
def RX7 : String := "IceHouse$Summer"
def TX7 : u_T := fun k => match k with
  | 0 => ("IceHouse$Summer", "now", "LIceHouse$Stand;", true)
  | 1 => ("IceHouse$Summer", "orders", "LIceHouse$Orders;", true)
  | 2 => ("IceHouse$Summer", "weather", "LIceHouse$Weather;", true)
  | 3 => ("IceHouse$Summer", "has", "[I", true)
  | 4 => ("IceHouse$Summer", "ice", "[I", true)
  | 5 => ("IceHouse$Summer", "water", "[I", true)
  | 6 => ("IceHouse$Summer", "shape", "[I", true)
  | 7 => ("IceHouse$Summer", "history", "[I", true)
  | 8 => ("IceHouse$Summer", "keepsHistory", "Z", true)
  | 9 => ("IceHouse$Summer", "stood", "[I", true)
  | _ => ("IceHouse$Summer", "shortBits", "I", false)
def tyX7 : Nat → FieldType := fun k => match k with
  | 0 => .object "IceHouse$Stand"
  | 1 => .object "IceHouse$Orders"
  | 2 => .object "IceHouse$Weather"
  | 3 => .array .int
  | 4 => .array .int
  | 5 => .array .int
  | 6 => .array .int
  | 7 => .array .int
  | 8 => .boolean
  | 9 => .array .int
  | _ => .int
abbrev wsX70 : List Cond := u_ws RX7 TX7 11
theorem nmX7 : ∀ a, a < 11 → ∀ b, b < 11 → a ≠ b → (TX7 a).2.1 ≠ (TX7 b).2.1 := by decide +kernel
theorem tyX7_ok : ∀ k, k < 11 → parseFieldDescriptor (TX7 k).2.2.1 = some (tyX7 k) := by decide +kernel
abbrev cX7_init : ByteArray := prog_9_method_1_code
def yX7_init : MethodName := ⟨RX7, "<init>", "(Z)V"⟩
abbrev cX7_highIn : ByteArray := prog_9_method_2_code
def yX7_highIn : MethodName := ⟨RX7, "highIn", "(II)I"⟩
abbrev cX7_prepare : ByteArray := prog_9_method_3_code
def yX7_prepare : MethodName := ⟨RX7, "prepare", "(LIceHouse$Book;I)V"⟩
abbrev cX7_run : ByteArray := prog_9_method_4_code
def yX7_run : MethodName := ⟨RX7, "run", "()V"⟩
abbrev cX7_serve : ByteArray := prog_9_method_5_code
def yX7_serve : MethodName := ⟨RX7, "serve", "(I)V"⟩
abbrev cX7_melt : ByteArray := prog_9_method_6_code
def yX7_melt : MethodName := ⟨RX7, "melt", "(I)I"⟩
abbrev cX7_meltColumn : ByteArray := prog_9_method_7_code
def yX7_meltColumn : MethodName := ⟨RX7, "meltColumn", "(II)I"⟩
abbrev cX7_standingIn : ByteArray := prog_9_method_8_code
def yX7_standingIn : MethodName := ⟨RX7, "standingIn", "(II)I"⟩
abbrev cX7_sumOfAll : ByteArray := prog_9_method_9_code
def yX7_sumOfAll : MethodName := ⟨RX7, "sumOfAll", "()I"⟩
abbrev cX7_shortOrders : ByteArray := prog_9_method_10_code
def yX7_shortOrders : MethodName := ⟨RX7, "shortOrders", "()I"⟩
def RX8 : String := "IceHouse$Text"
def TX8 : u_T := fun k => match k with
  | 0 => ("IceHouse$Text", "most", "I", true)
  | 1 => ("IceHouse$Text", "bytes", "[I", true)
  | _ => ("IceHouse$Text", "length", "I", false)
def tyX8 : Nat → FieldType := fun k => match k with
  | 0 => .int
  | 1 => .array .int
  | _ => .int
abbrev wsX80 : List Cond := u_ws RX8 TX8 3
theorem nmX8 : ∀ a, a < 3 → ∀ b, b < 3 → a ≠ b → (TX8 a).2.1 ≠ (TX8 b).2.1 := by decide +kernel
theorem tyX8_ok : ∀ k, k < 3 → parseFieldDescriptor (TX8 k).2.2.1 = some (tyX8 k) := by decide +kernel
abbrev cX8_init : ByteArray := prog_10_method_1_code
def yX8_init : MethodName := ⟨RX8, "<init>", "(I)V"⟩
abbrev cX8_append : ByteArray := prog_10_method_2_code
def yX8_append : MethodName := ⟨RX8, "append", "(I)V"⟩
def RX9 : String := "IceHouse$Weather"
def TX9 : u_T := fun k => match k with
  | 0 => ("IceHouse$Weather", "strawFrom", "[I", true)
  | 1 => ("IceHouse$Weather", "doorWeeks", "I", false)
  | _ => ("IceHouse$Weather", "thawWeeks", "I", false)
def tyX9 : Nat → FieldType := fun k => match k with
  | 0 => .array .int
  | 1 => .int
  | _ => .int
abbrev wsX90 : List Cond := u_ws RX9 TX9 3
theorem nmX9 : ∀ a, a < 3 → ∀ b, b < 3 → a ≠ b → (TX9 a).2.1 ≠ (TX9 b).2.1 := by decide +kernel
theorem tyX9_ok : ∀ k, k < 3 → parseFieldDescriptor (TX9 k).2.2.1 = some (tyX9 k) := by decide +kernel
abbrev cX9_init : ByteArray := prog_11_method_1_code
def yX9_init : MethodName := ⟨RX9, "<init>", "()V"⟩
abbrev cX9_beCalm : ByteArray := prog_11_method_2_code
def yX9_beCalm : MethodName := ⟨RX9, "beCalm", "()V"⟩
abbrev cX9_happen : ByteArray := prog_11_method_3_code
def yX9_happen : MethodName := ⟨RX9, "happen", "(III)V"⟩
def RX10 : String := "IceHouse"
def TX10 : u_T := fun k => match k with
  | 0 => ("IceHouse", "book", "LIceHouse$Book;", true)
  | 1 => ("IceHouse", "plans", "LIceHouse$Plans;", true)
  | 2 => ("IceHouse", "summer", "LIceHouse$Summer;", true)
  | 3 => ("IceHouse", "sheets", "[LIceHouse$Sheet;", true)
  | 4 => ("IceHouse", "summerIsKnown", "Z", false)
  | _ => ("IceHouse", "finding", "I", false)
def tyX10 : Nat → FieldType := fun k => match k with
  | 0 => .object "IceHouse$Book"
  | 1 => .object "IceHouse$Plans"
  | 2 => .object "IceHouse$Summer"
  | 3 => .array (.object "IceHouse$Sheet")
  | 4 => .boolean
  | _ => .int
abbrev wsX100 : List Cond := u_ws RX10 TX10 6
theorem nmX10 : ∀ a, a < 6 → ∀ b, b < 6 → a ≠ b → (TX10 a).2.1 ≠ (TX10 b).2.1 := by decide +kernel
theorem tyX10_ok : ∀ k, k < 6 → parseFieldDescriptor (TX10 k).2.2.1 = some (tyX10 k) := by decide +kernel
abbrev cX10_init : ByteArray := prog_1_method_1_code
def yX10_init : MethodName := ⟨RX10, "<init>", "()V"⟩
abbrev cX10_type : ByteArray := prog_1_method_2_code
def yX10_type : MethodName := ⟨RX10, "type", "(II)I"⟩
abbrev cX10_wipe : ByteArray := prog_1_method_3_code
def yX10_wipe : MethodName := ⟨RX10, "wipe", "(I)I"⟩
abbrev cX10_undo : ByteArray := prog_1_method_4_code
def yX10_undo : MethodName := ⟨RX10, "undo", "(I)I"⟩
abbrev cX10_fault : ByteArray := prog_1_method_5_code
def yX10_fault : MethodName := ⟨RX10, "fault", "(I)I"⟩
abbrev cX10_told : ByteArray := prog_1_method_6_code
def yX10_told : MethodName := ⟨RX10, "told", "(II)I"⟩
abbrev cX10_order : ByteArray := prog_1_method_7_code
def yX10_order : MethodName := ⟨RX10, "order", "(II)I"⟩
abbrev cX10_event : ByteArray := prog_1_method_8_code
def yX10_event : MethodName := ⟨RX10, "event", "(III)I"⟩
abbrev cX10_back : ByteArray := prog_1_method_9_code
def yX10_back : MethodName := ⟨RX10, "back", "()I"⟩
abbrev cX10_read : ByteArray := prog_1_method_10_code
def yX10_read : MethodName := ⟨RX10, "read", "(I)I"⟩
abbrev cX10_column : ByteArray := prog_1_method_11_code
def yX10_column : MethodName := ⟨RX10, "column", "(III)I"⟩
abbrev cX10_block : ByteArray := prog_1_method_12_code
def yX10_block : MethodName := ⟨RX10, "block", "(III)I"⟩
abbrev cX10_ice : ByteArray := prog_1_method_13_code
def yX10_ice : MethodName := ⟨RX10, "ice", "(II)I"⟩
abbrev cX10_got : ByteArray := prog_1_method_14_code
def yX10_got : MethodName := ⟨RX10, "got", "(II)I"⟩
abbrev cX10_sum : ByteArray := prog_1_method_15_code
def yX10_sum : MethodName := ⟨RX10, "sum", "(I)I"⟩
abbrev cX10_bare : ByteArray := prog_1_method_16_code
def yX10_bare : MethodName := ⟨RX10, "bare", "(I)I"⟩
abbrev cX10_last : ByteArray := prog_1_method_17_code
def yX10_last : MethodName := ⟨RX10, "last", "()I"⟩
abbrev cX10_tall : ByteArray := prog_1_method_18_code
def yX10_tall : MethodName := ⟨RX10, "tall", "()I"⟩
abbrev cX10_drain : ByteArray := prog_1_method_19_code
def yX10_drain : MethodName := ⟨RX10, "drain", "(I)I"⟩
abbrev cX10_cover : ByteArray := prog_1_method_20_code
def yX10_cover : MethodName := ⟨RX10, "cover", "(I)I"⟩
abbrev cX10_swap : ByteArray := prog_1_method_21_code
def yX10_swap : MethodName := ⟨RX10, "swap", "(I)I"⟩
abbrev cX10_later : ByteArray := prog_1_method_22_code
def yX10_later : MethodName := ⟨RX10, "later", "(II)I"⟩
abbrev cX10_spare : ByteArray := prog_1_method_23_code
def yX10_spare : MethodName := ⟨RX10, "spare", "(I)I"⟩
abbrev cX10_seen : ByteArray := prog_1_method_24_code
def yX10_seen : MethodName := ⟨RX10, "seen", "(III)I"⟩
abbrev cX10_forget : ByteArray := prog_1_method_25_code
def yX10_forget : MethodName := ⟨RX10, "forget", "()I"⟩
abbrev cX10_never : ByteArray := prog_1_method_26_code
def yX10_never : MethodName := ⟨RX10, "never", "()I"⟩
abbrev cX10_size : ByteArray := prog_1_method_27_code
def yX10_size : MethodName := ⟨RX10, "size", "(II)I"⟩
abbrev cX10_ask : ByteArray := prog_1_method_28_code
def yX10_ask : MethodName := ⟨RX10, "ask", "(II)I"⟩
abbrev cX10_chance : ByteArray := prog_1_method_29_code
def yX10_chance : MethodName := ⟨RX10, "chance", "(III)J"⟩
abbrev cX10_summers : ByteArray := prog_1_method_30_code
def yX10_summers : MethodName := ⟨RX10, "summers", "(III)I"⟩
abbrev cX10_sheet : ByteArray := prog_1_method_31_code
def yX10_sheet : MethodName := ⟨RX10, "sheet", "(III)I"⟩
abbrev cX10_lose : ByteArray := prog_1_method_32_code
def yX10_lose : MethodName := ⟨RX10, "lose", "(I)I"⟩
abbrev cX10_lay : ByteArray := prog_1_method_33_code
def yX10_lay : MethodName := ⟨RX10, "lay", "(IIII)I"⟩
abbrev cX10_get : ByteArray := prog_1_method_34_code
def yX10_get : MethodName := ⟨RX10, "get", "(III)I"⟩
abbrev cX10_copy : ByteArray := prog_1_method_35_code
def yX10_copy : MethodName := ⟨RX10, "copy", "(IIIII)I"⟩
abbrev cX10_write : ByteArray := prog_1_method_36_code
def yX10_write : MethodName := ⟨RX10, "write", "(II)I"⟩
abbrev cX10_count : ByteArray := prog_1_method_37_code
def yX10_count : MethodName := ⟨RX10, "count", "(I)I"⟩
abbrev cX10_digest : ByteArray := prog_1_method_38_code
def yX10_digest : MethodName := ⟨RX10, "digest", "()J"⟩
abbrev cX10_mixed : ByteArray := prog_1_method_39_code
def yX10_mixed : MethodName := ⟨RX10, "mixed", "(JJ)J"⟩
abbrev cX10_mixedColumn : ByteArray := prog_1_method_40_code
def yX10_mixedColumn : MethodName := ⟨RX10, "mixedColumn", "(JI)J"⟩
abbrev cX10_mixedOrder : ByteArray := prog_1_method_41_code
def yX10_mixedOrder : MethodName := ⟨RX10, "mixedOrder", "(JI)J"⟩
abbrev cX10_mixedPlans : ByteArray := prog_1_method_42_code
def yX10_mixedPlans : MethodName := ⟨RX10, "mixedPlans", "(J)J"⟩
abbrev cX10_outside : ByteArray := prog_1_method_43_code
def yX10_outside : MethodName := ⟨RX10, "outside", "(II)Z"⟩
abbrev cX10_isNoBlock : ByteArray := prog_1_method_44_code
def yX10_isNoBlock : MethodName := ⟨RX10, "isNoBlock", "(II)Z"⟩
abbrev cX10_found : ByteArray := prog_1_method_45_code
def yX10_found : MethodName := ⟨RX10, "found", "(I)I"⟩
abbrev cX10_noteChangedText : ByteArray := prog_1_method_46_code
def yX10_noteChangedText : MethodName := ⟨RX10, "noteChangedText", "(I)V"⟩
abbrev cX10_noteChange : ByteArray := prog_1_method_47_code
def yX10_noteChange : MethodName := ⟨RX10, "noteChange", "()V"⟩
abbrev cX10_toldSummer : ByteArray := prog_1_method_48_code
def yX10_toldSummer : MethodName := ⟨RX10, "toldSummer", "()LIceHouse$Summer;"⟩
def RX11 : String := "IceHouseModel"
def TX11 : u_T := fun k => match k with
  | 0 => ("IceHouseModel", "forms", "[I", true)
  | 1 => ("IceHouseModel", "sizes", "[I", true)
  | 2 => ("IceHouseModel", "items", "[I", true)
  | 3 => ("IceHouseModel", "moved", "[I", true)
  | 4 => ("IceHouseModel", "latest", "I", false)
  | 5 => ("IceHouseModel", "bytes", "[I", true)
  | 6 => ("IceHouseModel", "typed", "[I", true)
  | 7 => ("IceHouseModel", "toldHigh", "[I", true)
  | 8 => ("IceHouseModel", "toldBlock", "[I", true)
  | 9 => ("IceHouseModel", "orders", "I", false)
  | 10 => ("IceHouseModel", "order", "[I", true)
  | 11 => ("IceHouseModel", "events", "I", false)
  | 12 => ("IceHouseModel", "event", "[I", true)
  | 13 => ("IceHouseModel", "gone", "I", false)
  | 14 => ("IceHouseModel", "covered", "I", false)
  | 15 => ("IceHouseModel", "swapA", "I", false)
  | 16 => ("IceHouseModel", "swapB", "I", false)
  | 17 => ("IceHouseModel", "high", "[I", true)
  | 18 => ("IceHouseModel", "block", "[I", true)
  | 19 => ("IceHouseModel", "melts", "[I", true)
  | 20 => ("IceHouseModel", "has", "[I", true)
  | 21 => ("IceHouseModel", "highBy", "[I", true)
  | 22 => ("IceHouseModel", "blockBy", "[I", true)
  | 23 => ("IceHouseModel", "waterBy", "[I", true)
  | 24 => ("IceHouseModel", "sights", "I", false)
  | 25 => ("IceHouseModel", "sight", "[I", true)
  | 26 => ("IceHouseModel", "rows", "[I", true)
  | 27 => ("IceHouseModel", "drawn", "I", false)
  | _ => ("IceHouseModel", "kept", "[I", true)
def tyX11 : Nat → FieldType := fun k => match k with
  | 0 => .array .int
  | 1 => .array .int
  | 2 => .array .int
  | 3 => .array .int
  | 4 => .int
  | 5 => .array .int
  | 6 => .array .int
  | 7 => .array .int
  | 8 => .array .int
  | 9 => .int
  | 10 => .array .int
  | 11 => .int
  | 12 => .array .int
  | 13 => .int
  | 14 => .int
  | 15 => .int
  | 16 => .int
  | 17 => .array .int
  | 18 => .array .int
  | 19 => .array .int
  | 20 => .array .int
  | 21 => .array .int
  | 22 => .array .int
  | 23 => .array .int
  | 24 => .int
  | 25 => .array .int
  | 26 => .array .int
  | 27 => .int
  | _ => .array .int
abbrev wsX110 : List Cond := u_ws RX11 TX11 29
theorem nmX11 : ∀ a, a < 29 → ∀ b, b < 29 → a ≠ b → (TX11 a).2.1 ≠ (TX11 b).2.1 := by decide +kernel
theorem tyX11_ok : ∀ k, k < 29 → parseFieldDescriptor (TX11 k).2.2.1 = some (tyX11 k) := by decide +kernel
abbrev cX11_init : ByteArray := prog_13_method_1_code
def yX11_init : MethodName := ⟨RX11, "<init>", "()V"⟩
abbrev cX11_in : ByteArray := prog_13_method_3_code
def yX11_in : MethodName := ⟨RX11, "in", "(JJJ)Z"⟩
abbrev cX11_no : ByteArray := prog_13_method_4_code
def yX11_no : MethodName := ⟨RX11, "no", "(I)J"⟩
abbrev cX11_isTwo : ByteArray := prog_13_method_5_code
def yX11_isTwo : MethodName := ⟨RX11, "isTwo", "(I)Z"⟩
abbrev cX11_isIn : ByteArray := prog_13_method_6_code
def yX11_isIn : MethodName := ⟨RX11, "isIn", "(II)Z"⟩
abbrev cX11_lesser : ByteArray := prog_13_method_7_code
def yX11_lesser : MethodName := ⟨RX11, "lesser", "(II)I"⟩
abbrev cX11_greater : ByteArray := prog_13_method_8_code
def yX11_greater : MethodName := ⟨RX11, "greater", "(II)I"⟩
abbrev cX11_part : ByteArray := prog_13_method_9_code
def yX11_part : MethodName := ⟨RX11, "part", "(JJI)J"⟩
abbrev cX11_finds : ByteArray := prog_13_method_10_code
def yX11_finds : MethodName := ⟨RX11, "finds", "(I)I"⟩
abbrev cX11_isSheet : ByteArray := prog_13_method_11_code
def yX11_isSheet : MethodName := ⟨RX11, "isSheet", "(I)Z"⟩
abbrev cX11_sheet : ByteArray := prog_13_method_12_code
def yX11_sheet : MethodName := ⟨RX11, "sheet", "(III)I"⟩
abbrev cX11_lose : ByteArray := prog_13_method_13_code
def yX11_lose : MethodName := ⟨RX11, "lose", "(I)I"⟩
abbrev cX11_lacks : ByteArray := prog_13_method_14_code
def yX11_lacks : MethodName := ⟨RX11, "lacks", "(III)I"⟩
abbrev cX11_cut : ByteArray := prog_13_method_15_code
def yX11_cut : MethodName := ⟨RX11, "cut", "(II)I"⟩
abbrev cX11_lay : ByteArray := prog_13_method_16_code
def yX11_lay : MethodName := ⟨RX11, "lay", "(IIII)I"⟩
abbrev cX11_get : ByteArray := prog_13_method_17_code
def yX11_get : MethodName := ⟨RX11, "get", "(III)I"⟩
abbrev cX11_copy : ByteArray := prog_13_method_18_code
def yX11_copy : MethodName := ⟨RX11, "copy", "(IIIII)I"⟩
abbrev cX11_type : ByteArray := prog_13_method_19_code
def yX11_type : MethodName := ⟨RX11, "type", "(II)I"⟩
abbrev cX11_wipe : ByteArray := prog_13_method_20_code
def yX11_wipe : MethodName := ⟨RX11, "wipe", "(I)I"⟩
abbrev cX11_undo : ByteArray := prog_13_method_21_code
def yX11_undo : MethodName := ⟨RX11, "undo", "(I)I"⟩
abbrev cX11_bares : ByteArray := prog_13_method_22_code
def yX11_bares : MethodName := ⟨RX11, "bares", "()V"⟩
abbrev cX11_readsBlocks : ByteArray := prog_13_method_23_code
def yX11_readsBlocks : MethodName := ⟨RX11, "readsBlocks", "()I"⟩
abbrev cX11_orderOf : ByteArray := prog_13_method_24_code
def yX11_orderOf : MethodName := ⟨RX11, "orderOf", "(II)I"⟩
abbrev cX11_readsOrders : ByteArray := prog_13_method_25_code
def yX11_readsOrders : MethodName := ⟨RX11, "readsOrders", "()I"⟩
abbrev cX11_readsText : ByteArray := prog_13_method_26_code
def yX11_readsText : MethodName := ⟨RX11, "readsText", "(I)I"⟩
abbrev cX11_fault : ByteArray := prog_13_method_27_code
def yX11_fault : MethodName := ⟨RX11, "fault", "(I)I"⟩
abbrev cX11_isColumn : ByteArray := prog_13_method_28_code
def yX11_isColumn : MethodName := ⟨RX11, "isColumn", "(I)Z"⟩
abbrev cX11_isOrder : ByteArray := prog_13_method_29_code
def yX11_isOrder : MethodName := ⟨RX11, "isOrder", "(I)Z"⟩
abbrev cX11_isWeek : ByteArray := prog_13_method_30_code
def yX11_isWeek : MethodName := ⟨RX11, "isWeek", "(I)Z"⟩
abbrev cX11_toldAt : ByteArray := prog_13_method_31_code
def yX11_toldAt : MethodName := ⟨RX11, "toldAt", "(II)I"⟩
abbrev cX11_told : ByteArray := prog_13_method_32_code
def yX11_told : MethodName := ⟨RX11, "told", "(II)I"⟩
abbrev cX11_order : ByteArray := prog_13_method_33_code
def yX11_order : MethodName := ⟨RX11, "order", "(II)I"⟩
abbrev cX11_keeps : ByteArray := prog_13_method_34_code
def yX11_keeps : MethodName := ⟨RX11, "keeps", "(III)V"⟩
abbrev cX11_event : ByteArray := prog_13_method_35_code
def yX11_event : MethodName := ⟨RX11, "event", "(III)I"⟩
abbrev cX11_back : ByteArray := prog_13_method_36_code
def yX11_back : MethodName := ⟨RX11, "back", "()I"⟩
abbrev cX11_read : ByteArray := prog_13_method_37_code
def yX11_read : MethodName := ⟨RX11, "read", "(I)I"⟩
abbrev cX11_isTold : ByteArray := prog_13_method_38_code
def yX11_isTold : MethodName := ⟨RX11, "isTold", "(II)Z"⟩
abbrev cX11_strawBy : ByteArray := prog_13_method_39_code
def yX11_strawBy : MethodName := ⟨RX11, "strawBy", "(I)I"⟩
abbrev cX11_topOf : ByteArray := prog_13_method_40_code
def yX11_topOf : MethodName := ⟨RX11, "topOf", "(I)I"⟩
abbrev cX11_greatest : ByteArray := prog_13_method_41_code
def yX11_greatest : MethodName := ⟨RX11, "greatest", "()I"⟩
abbrev cX11_serves : ByteArray := prog_13_method_42_code
def yX11_serves : MethodName := ⟨RX11, "serves", "(I)V"⟩
abbrev cX11_freeOf : ByteArray := prog_13_method_43_code
def yX11_freeOf : MethodName := ⟨RX11, "freeOf", "(III)I"⟩
abbrev cX11_melting : ByteArray := prog_13_method_44_code
def yX11_melting : MethodName := ⟨RX11, "melting", "(I)V"⟩
abbrev cX11_passes : ByteArray := prog_13_method_45_code
def yX11_passes : MethodName := ⟨RX11, "passes", "(I)V"⟩
abbrev cX11_lives : ByteArray := prog_13_method_46_code
def yX11_lives : MethodName := ⟨RX11, "lives", "()V"⟩
abbrev cX11_find : ByteArray := prog_13_method_47_code
def yX11_find : MethodName := ⟨RX11, "find", "()V"⟩
abbrev cX11_standsIn : ByteArray := prog_13_method_48_code
def yX11_standsIn : MethodName := ⟨RX11, "standsIn", "(II)I"⟩
abbrev cX11_columnBy : ByteArray := prog_13_method_49_code
def yX11_columnBy : MethodName := ⟨RX11, "columnBy", "(III)I"⟩
abbrev cX11_column : ByteArray := prog_13_method_50_code
def yX11_column : MethodName := ⟨RX11, "column", "(III)I"⟩
abbrev cX11_block : ByteArray := prog_13_method_51_code
def yX11_block : MethodName := ⟨RX11, "block", "(III)I"⟩
abbrev cX11_allIce : ByteArray := prog_13_method_52_code
def yX11_allIce : MethodName := ⟨RX11, "allIce", "(I)I"⟩
abbrev cX11_iceBy : ByteArray := prog_13_method_53_code
def yX11_iceBy : MethodName := ⟨RX11, "iceBy", "(II)I"⟩
abbrev cX11_ice : ByteArray := prog_13_method_54_code
def yX11_ice : MethodName := ⟨RX11, "ice", "(II)I"⟩
abbrev cX11_isShort : ByteArray := prog_13_method_55_code
def yX11_isShort : MethodName := ⟨RX11, "isShort", "(I)Z"⟩
abbrev cX11_gotBy : ByteArray := prog_13_method_56_code
def yX11_gotBy : MethodName := ⟨RX11, "gotBy", "(II)I"⟩
abbrev cX11_got : ByteArray := prog_13_method_57_code
def yX11_got : MethodName := ⟨RX11, "got", "(II)I"⟩
abbrev cX11_sumBy : ByteArray := prog_13_method_58_code
def yX11_sumBy : MethodName := ⟨RX11, "sumBy", "(I)I"⟩
abbrev cX11_sum : ByteArray := prog_13_method_59_code
def yX11_sum : MethodName := ⟨RX11, "sum", "(I)I"⟩
abbrev cX11_bareOf : ByteArray := prog_13_method_60_code
def yX11_bareOf : MethodName := ⟨RX11, "bareOf", "(I)I"⟩
abbrev cX11_bare : ByteArray := prog_13_method_61_code
def yX11_bare : MethodName := ⟨RX11, "bare", "(I)I"⟩
abbrev cX11_lastNow : ByteArray := prog_13_method_62_code
def yX11_lastNow : MethodName := ⟨RX11, "lastNow", "()I"⟩
abbrev cX11_last : ByteArray := prog_13_method_63_code
def yX11_last : MethodName := ⟨RX11, "last", "()I"⟩
abbrev cX11_tallNow : ByteArray := prog_13_method_64_code
def yX11_tallNow : MethodName := ⟨RX11, "tallNow", "()I"⟩
abbrev cX11_tall : ByteArray := prog_13_method_65_code
def yX11_tall : MethodName := ⟨RX11, "tall", "()I"⟩
abbrev cX11_drainBy : ByteArray := prog_13_method_66_code
def yX11_drainBy : MethodName := ⟨RX11, "drainBy", "(I)I"⟩
abbrev cX11_drain : ByteArray := prog_13_method_67_code
def yX11_drain : MethodName := ⟨RX11, "drain", "(I)I"⟩
abbrev cX11_coverBy : ByteArray := prog_13_method_68_code
def yX11_coverBy : MethodName := ⟨RX11, "coverBy", "(I)I"⟩
abbrev cX11_cover : ByteArray := prog_13_method_69_code
def yX11_cover : MethodName := ⟨RX11, "cover", "(I)I"⟩
abbrev cX11_swapBy : ByteArray := prog_13_method_70_code
def yX11_swapBy : MethodName := ⟨RX11, "swapBy", "(I)I"⟩
abbrev cX11_swap : ByteArray := prog_13_method_71_code
def yX11_swap : MethodName := ⟨RX11, "swap", "(I)I"⟩
abbrev cX11_laterOf : ByteArray := prog_13_method_72_code
def yX11_laterOf : MethodName := ⟨RX11, "laterOf", "(II)I"⟩
abbrev cX11_later : ByteArray := prog_13_method_73_code
def yX11_later : MethodName := ⟨RX11, "later", "(II)I"⟩
abbrev cX11_isSpared : ByteArray := prog_13_method_74_code
def yX11_isSpared : MethodName := ⟨RX11, "isSpared", "(I)Z"⟩
abbrev cX11_spareBy : ByteArray := prog_13_method_75_code
def yX11_spareBy : MethodName := ⟨RX11, "spareBy", "(I)I"⟩
abbrev cX11_spare : ByteArray := prog_13_method_76_code
def yX11_spare : MethodName := ⟨RX11, "spare", "(I)I"⟩
abbrev cX11_seen : ByteArray := prog_13_method_77_code
def yX11_seen : MethodName := ⟨RX11, "seen", "(III)I"⟩
abbrev cX11_forget : ByteArray := prog_13_method_78_code
def yX11_forget : MethodName := ⟨RX11, "forget", "()I"⟩
abbrev cX11_isSeen : ByteArray := prog_13_method_79_code
def yX11_isSeen : MethodName := ⟨RX11, "isSeen", "()Z"⟩
abbrev cX11_neverNow : ByteArray := prog_13_method_80_code
def yX11_neverNow : MethodName := ⟨RX11, "neverNow", "()I"⟩
abbrev cX11_never : ByteArray := prog_13_method_81_code
def yX11_never : MethodName := ⟨RX11, "never", "()I"⟩
abbrev cX11_rowOf : ByteArray := prog_13_method_82_code
def yX11_rowOf : MethodName := ⟨RX11, "rowOf", "(I)I"⟩
abbrev cX11_isBlock : ByteArray := prog_13_method_83_code
def yX11_isBlock : MethodName := ⟨RX11, "isBlock", "(II)Z"⟩
abbrev cX11_sizeOf : ByteArray := prog_13_method_84_code
def yX11_sizeOf : MethodName := ⟨RX11, "sizeOf", "(II)I"⟩
abbrev cX11_size : ByteArray := prog_13_method_85_code
def yX11_size : MethodName := ⟨RX11, "size", "(II)I"⟩
abbrev cX11_alike : ByteArray := prog_13_method_86_code
def yX11_alike : MethodName := ⟨RX11, "alike", "(II)I"⟩
abbrev cX11_askOf : ByteArray := prog_13_method_87_code
def yX11_askOf : MethodName := ⟨RX11, "askOf", "(II)I"⟩
abbrev cX11_ask : ByteArray := prog_13_method_88_code
def yX11_ask : MethodName := ⟨RX11, "ask", "(II)I"⟩
abbrev cX11_chanceOf : ByteArray := prog_13_method_89_code
def yX11_chanceOf : MethodName := ⟨RX11, "chanceOf", "(III)J"⟩
abbrev cX11_chance : ByteArray := prog_13_method_90_code
def yX11_chance : MethodName := ⟨RX11, "chance", "(III)J"⟩
abbrev cX11_lot : ByteArray := prog_13_method_91_code
def yX11_lot : MethodName := ⟨RX11, "lot", "(I)I"⟩
abbrev cX11_summersOf : ByteArray := prog_13_method_92_code
def yX11_summersOf : MethodName := ⟨RX11, "summersOf", "(III)I"⟩
abbrev cX11_summers : ByteArray := prog_13_method_93_code
def yX11_summers : MethodName := ⟨RX11, "summers", "(III)I"⟩
abbrev cX11_write : ByteArray := prog_13_method_94_code
def yX11_write : MethodName := ⟨RX11, "write", "(II)I"⟩
abbrev cX11_manyBlocks : ByteArray := prog_13_method_95_code
def yX11_manyBlocks : MethodName := ⟨RX11, "manyBlocks", "()I"⟩
abbrev cX11_count : ByteArray := prog_13_method_96_code
def yX11_count : MethodName := ⟨RX11, "count", "(I)I"⟩
abbrev cX11_tellsColumn : ByteArray := prog_13_method_97_code
def yX11_tellsColumn : MethodName := ⟨RX11, "tellsColumn", "(JI)J"⟩
abbrev cX11_tellsOrder : ByteArray := prog_13_method_98_code
def yX11_tellsOrder : MethodName := ⟨RX11, "tellsOrder", "(JI)J"⟩
abbrev cX11_digest : ByteArray := prog_13_method_99_code
def yX11_digest : MethodName := ⟨RX11, "digest", "()J"⟩
def RJ6 : String := "java/lang/Integer"
def TJ6 : u_T := fun k => match k with
  | _ => ("", "", "", false)
def tyJ6 : Nat → FieldType := fun k => match k with
  | _ => .int
abbrev wsJ60 : List Cond := u_ws RJ6 TJ6 0
theorem nmJ6 : ∀ a, a < 0 → ∀ b, b < 0 → a ≠ b → (TJ6 a).2.1 ≠ (TJ6 b).2.1 := by decide +kernel
theorem tyJ6_ok : ∀ k, k < 0 → parseFieldDescriptor (TJ6 k).2.2.1 = some (tyJ6 k) := by decide +kernel
abbrev cJ6_bitCount_0f7a4 : ByteArray := prog_14_method_49_code
def yJ6_bitCount_0f7a4 : MethodName := ⟨RJ6, "bitCount", "(I)I"⟩
def RJ9 : String := "java/lang/Math"
def TJ9 : u_T := fun k => match k with
  | _ => ("", "", "", false)
def tyJ9 : Nat → FieldType := fun k => match k with
  | _ => .int
abbrev wsJ90 : List Cond := u_ws RJ9 TJ9 0
theorem nmJ9 : ∀ a, a < 0 → ∀ b, b < 0 → a ≠ b → (TJ9 a).2.1 ≠ (TJ9 b).2.1 := by decide +kernel
theorem tyJ9_ok : ∀ k, k < 0 → parseFieldDescriptor (TJ9 k).2.2.1 = some (tyJ9 k) := by decide +kernel
abbrev cJ9_max_7cf53 : ByteArray := prog_15_method_65_code
def yJ9_max_7cf53 : MethodName := ⟨RJ9, "max", "(II)I"⟩
abbrev cJ9_min_7cf53 : ByteArray := prog_15_method_69_code
def yJ9_min_7cf53 : MethodName := ⟨RJ9, "min", "(II)I"⟩
def RJ10 : String := "java/lang/System"
def TJ10 : u_T := fun k => match k with
  | _ => ("", "", "", false)
def tyJ10 : Nat → FieldType := fun k => match k with
  | _ => .int
abbrev wsJ100 : List Cond := u_ws RJ10 TJ10 0
theorem nmJ10 : ∀ a, a < 0 → ∀ b, b < 0 → a ≠ b → (TJ10 a).2.1 ≠ (TJ10 b).2.1 := by decide +kernel
theorem tyJ10_ok : ∀ k, k < 0 → parseFieldDescriptor (TJ10 k).2.2.1 = some (tyJ10 k) := by decide +kernel
def RJ7 : String := "java/util/Arrays"
def TJ7 : u_T := fun k => match k with
  | _ => ("", "", "", false)
def tyJ7 : Nat → FieldType := fun k => match k with
  | _ => .int
abbrev wsJ70 : List Cond := u_ws RJ7 TJ7 0
theorem nmJ7 : ∀ a, a < 0 → ∀ b, b < 0 → a ≠ b → (TJ7 a).2.1 ≠ (TJ7 b).2.1 := by decide +kernel
theorem tyJ7_ok : ∀ k, k < 0 → parseFieldDescriptor (TJ7 k).2.2.1 = some (tyJ7 k) := by decide +kernel
abbrev cJ7_fill_53178 : ByteArray := prog_17_method_103_code
def yJ7_fill_53178 : MethodName := ⟨RJ7, "fill", "([II)V"⟩
def RL : String := "IceHouseLaw"
abbrev cL_law : ByteArray := code
def yL_law : MethodName := ⟨RL, "law", "([I)Z"⟩
