section
-- ===== PART A: goes FIRST, ahead of the names: the tables' words, and 'selects' of the private methods out of them =====
/-- a private method of a class that the tables say can be made, by its rows of tables_1 -/
def lw_okq (q : MethodName × Nat) : Prop := (q.1.cls ≠ "java/lang/invoke/MethodHandle" ∧ q.1.cls ≠ "java/lang/invoke/VarHandle") ∧ Cond.instantiable q.1.cls q.2 ∈ tables_1 ∧ Cond.privateMethod q.1 ∈ tables_1 ∧ Cond.instanceMethod q.1 ∈ tables_1
theorem lw_p0 : lw_okq (⟨"IceHouse", "noteChangedText", "(I)V"⟩, 6) := ⟨⟨by decide +kernel, by decide +kernel⟩, List.mem_of_getElem? (i := 18) (by decide +kernel), List.mem_of_getElem? (i := 357) (by decide +kernel), List.mem_of_getElem? (i := 358) (by decide +kernel)⟩
theorem lw_p1 : lw_okq (⟨"IceHouse$Book", "placeBlocks", "()I"⟩, 8) := ⟨⟨by decide +kernel, by decide +kernel⟩, List.mem_of_getElem? (i := 26) (by decide +kernel), List.mem_of_getElem? (i := 372) (by decide +kernel), List.mem_of_getElem? (i := 373) (by decide +kernel)⟩
theorem lw_p2 : lw_okq (⟨"IceHouse$Book", "placeOrders", "()I"⟩, 8) := ⟨⟨by decide +kernel, by decide +kernel⟩, List.mem_of_getElem? (i := 26) (by decide +kernel), List.mem_of_getElem? (i := 387) (by decide +kernel), List.mem_of_getElem? (i := 388) (by decide +kernel)⟩
theorem lw_p3 : lw_okq (⟨"IceHouse", "noteChange", "()V"⟩, 6) := ⟨⟨by decide +kernel, by decide +kernel⟩, List.mem_of_getElem? (i := 18) (by decide +kernel), List.mem_of_getElem? (i := 391) (by decide +kernel), List.mem_of_getElem? (i := 392) (by decide +kernel)⟩
theorem lw_p4 : lw_okq (⟨"IceHouse", "found", "(I)I"⟩, 6) := ⟨⟨by decide +kernel, by decide +kernel⟩, List.mem_of_getElem? (i := 18) (by decide +kernel), List.mem_of_getElem? (i := 435) (by decide +kernel), List.mem_of_getElem? (i := 436) (by decide +kernel)⟩
theorem lw_p5 : lw_okq (⟨"IceHouse", "toldSummer", "()LIceHouse$Summer;"⟩, 6) := ⟨⟨by decide +kernel, by decide +kernel⟩, List.mem_of_getElem? (i := 18) (by decide +kernel), List.mem_of_getElem? (i := 443) (by decide +kernel), List.mem_of_getElem? (i := 444) (by decide +kernel)⟩
theorem lw_p6 : lw_okq (⟨"IceHouse$Summer", "serve", "(I)V"⟩, 11) := ⟨⟨by decide +kernel, by decide +kernel⟩, List.mem_of_getElem? (i := 189) (by decide +kernel), List.mem_of_getElem? (i := 481) (by decide +kernel), List.mem_of_getElem? (i := 482) (by decide +kernel)⟩
theorem lw_p7 : lw_okq (⟨"IceHouse$Summer", "melt", "(I)I"⟩, 11) := ⟨⟨by decide +kernel, by decide +kernel⟩, List.mem_of_getElem? (i := 189) (by decide +kernel), List.mem_of_getElem? (i := 493) (by decide +kernel), List.mem_of_getElem? (i := 494) (by decide +kernel)⟩
theorem lw_p8 : lw_okq (⟨"IceHouse$Summer", "meltColumn", "(II)I"⟩, 11) := ⟨⟨by decide +kernel, by decide +kernel⟩, List.mem_of_getElem? (i := 189) (by decide +kernel), List.mem_of_getElem? (i := 498) (by decide +kernel), List.mem_of_getElem? (i := 499) (by decide +kernel)⟩
theorem lw_p9 : lw_okq (⟨"IceHouse$Plans", "keepSpare", "(III)V"⟩, 10) := ⟨⟨by decide +kernel, by decide +kernel⟩, List.mem_of_getElem? (i := 183) (by decide +kernel), List.mem_of_getElem? (i := 603) (by decide +kernel), List.mem_of_getElem? (i := 604) (by decide +kernel)⟩
theorem lw_p10 : lw_okq (⟨"IceHouse$Plans", "noneIsShortWithout", "(I)Z"⟩, 10) := ⟨⟨by decide +kernel, by decide +kernel⟩, List.mem_of_getElem? (i := 183) (by decide +kernel), List.mem_of_getElem? (i := 607) (by decide +kernel), List.mem_of_getElem? (i := 608) (by decide +kernel)⟩
theorem lw_p11 : lw_okq (⟨"IceHouse", "isNoBlock", "(II)Z"⟩, 6) := ⟨⟨by decide +kernel, by decide +kernel⟩, List.mem_of_getElem? (i := 18) (by decide +kernel), List.mem_of_getElem? (i := 640) (by decide +kernel), List.mem_of_getElem? (i := 641) (by decide +kernel)⟩
theorem lw_p12 : lw_okq (⟨"IceHouse$Plans", "mostAlike", "(II)I"⟩, 10) := ⟨⟨by decide +kernel, by decide +kernel⟩, List.mem_of_getElem? (i := 183) (by decide +kernel), List.mem_of_getElem? (i := 657) (by decide +kernel), List.mem_of_getElem? (i := 658) (by decide +kernel)⟩
theorem lw_p13 : lw_okq (⟨"IceHouse$Plans", "learnShorts", "()V"⟩, 10) := ⟨⟨by decide +kernel, by decide +kernel⟩, List.mem_of_getElem? (i := 183) (by decide +kernel), List.mem_of_getElem? (i := 671) (by decide +kernel), List.mem_of_getElem? (i := 672) (by decide +kernel)⟩
theorem lw_p14 : lw_okq (⟨"IceHouse", "mixedColumn", "(JI)J"⟩, 6) := ⟨⟨by decide +kernel, by decide +kernel⟩, List.mem_of_getElem? (i := 18) (by decide +kernel), List.mem_of_getElem? (i := 761) (by decide +kernel), List.mem_of_getElem? (i := 762) (by decide +kernel)⟩
theorem lw_p15 : lw_okq (⟨"IceHouse", "mixedOrder", "(JI)J"⟩, 6) := ⟨⟨by decide +kernel, by decide +kernel⟩, List.mem_of_getElem? (i := 18) (by decide +kernel), List.mem_of_getElem? (i := 769) (by decide +kernel), List.mem_of_getElem? (i := 770) (by decide +kernel)⟩
def lw_privs_1 : List (MethodName × Nat) := [(⟨"IceHouse", "noteChangedText", "(I)V"⟩, 6), (⟨"IceHouse$Book", "placeBlocks", "()I"⟩, 8), (⟨"IceHouse$Book", "placeOrders", "()I"⟩, 8), (⟨"IceHouse", "noteChange", "()V"⟩, 6), (⟨"IceHouse", "found", "(I)I"⟩, 6), (⟨"IceHouse", "toldSummer", "()LIceHouse$Summer;"⟩, 6), (⟨"IceHouse$Summer", "serve", "(I)V"⟩, 11), (⟨"IceHouse$Summer", "melt", "(I)I"⟩, 11), (⟨"IceHouse$Summer", "meltColumn", "(II)I"⟩, 11), (⟨"IceHouse$Plans", "keepSpare", "(III)V"⟩, 10), (⟨"IceHouse$Plans", "noneIsShortWithout", "(I)Z"⟩, 10), (⟨"IceHouse", "isNoBlock", "(II)Z"⟩, 6), (⟨"IceHouse$Plans", "mostAlike", "(II)I"⟩, 10), (⟨"IceHouse$Plans", "learnShorts", "()V"⟩, 10), (⟨"IceHouse", "mixedColumn", "(JI)J"⟩, 6), (⟨"IceHouse", "mixedOrder", "(JI)J"⟩, 6)]
theorem lw_r1 : ∀ q ∈ lw_privs_1, lw_okq q := List.forall_mem_cons.mpr ⟨lw_p0, List.forall_mem_cons.mpr ⟨lw_p1, List.forall_mem_cons.mpr ⟨lw_p2, List.forall_mem_cons.mpr ⟨lw_p3, List.forall_mem_cons.mpr ⟨lw_p4, List.forall_mem_cons.mpr ⟨lw_p5, List.forall_mem_cons.mpr ⟨lw_p6, List.forall_mem_cons.mpr ⟨lw_p7, List.forall_mem_cons.mpr ⟨lw_p8, List.forall_mem_cons.mpr ⟨lw_p9, List.forall_mem_cons.mpr ⟨lw_p10, List.forall_mem_cons.mpr ⟨lw_p11, List.forall_mem_cons.mpr ⟨lw_p12, List.forall_mem_cons.mpr ⟨lw_p13, List.forall_mem_cons.mpr ⟨lw_p14, List.forall_mem_cons.mpr ⟨lw_p15, fun _ h => absurd h List.not_mem_nil⟩⟩⟩⟩⟩⟩⟩⟩⟩⟩⟩⟩⟩⟩⟩⟩
theorem lw_p16 : lw_okq (⟨"IceHouse", "mixedPlans", "(J)J"⟩, 6) := ⟨⟨by decide +kernel, by decide +kernel⟩, List.mem_of_getElem? (i := 18) (by decide +kernel), List.mem_of_getElem? (i := 775) (by decide +kernel), List.mem_of_getElem? (i := 776) (by decide +kernel)⟩
theorem lw_p17 : lw_okq (⟨"IceHouseModel", "finds", "(I)I"⟩, 29) := ⟨⟨by decide +kernel, by decide +kernel⟩, List.mem_of_getElem? (i := 783) (by decide +kernel), List.mem_of_getElem? (i := 889) (by decide +kernel), List.mem_of_getElem? (i := 890) (by decide +kernel)⟩
theorem lw_p18 : lw_okq (⟨"IceHouseModel", "lacks", "(III)I"⟩, 29) := ⟨⟨by decide +kernel, by decide +kernel⟩, List.mem_of_getElem? (i := 783) (by decide +kernel), List.mem_of_getElem? (i := 901) (by decide +kernel), List.mem_of_getElem? (i := 902) (by decide +kernel)⟩
theorem lw_p19 : lw_okq (⟨"IceHouseModel", "readsText", "(I)I"⟩, 29) := ⟨⟨by decide +kernel, by decide +kernel⟩, List.mem_of_getElem? (i := 783) (by decide +kernel), List.mem_of_getElem? (i := 937) (by decide +kernel), List.mem_of_getElem? (i := 938) (by decide +kernel)⟩
theorem lw_p20 : lw_okq (⟨"IceHouseModel", "readsBlocks", "()I"⟩, 29) := ⟨⟨by decide +kernel, by decide +kernel⟩, List.mem_of_getElem? (i := 783) (by decide +kernel), List.mem_of_getElem? (i := 941) (by decide +kernel), List.mem_of_getElem? (i := 942) (by decide +kernel)⟩
theorem lw_p21 : lw_okq (⟨"IceHouseModel", "bares", "()V"⟩, 29) := ⟨⟨by decide +kernel, by decide +kernel⟩, List.mem_of_getElem? (i := 783) (by decide +kernel), List.mem_of_getElem? (i := 945) (by decide +kernel), List.mem_of_getElem? (i := 946) (by decide +kernel)⟩
theorem lw_p22 : lw_okq (⟨"IceHouseModel", "readsOrders", "()I"⟩, 29) := ⟨⟨by decide +kernel, by decide +kernel⟩, List.mem_of_getElem? (i := 783) (by decide +kernel), List.mem_of_getElem? (i := 951) (by decide +kernel), List.mem_of_getElem? (i := 952) (by decide +kernel)⟩
theorem lw_p23 : lw_okq (⟨"IceHouseModel", "toldAt", "(II)I"⟩, 29) := ⟨⟨by decide +kernel, by decide +kernel⟩, List.mem_of_getElem? (i := 783) (by decide +kernel), List.mem_of_getElem? (i := 968) (by decide +kernel), List.mem_of_getElem? (i := 969) (by decide +kernel)⟩
theorem lw_p24 : lw_okq (⟨"IceHouseModel", "isOrder", "(I)Z"⟩, 29) := ⟨⟨by decide +kernel, by decide +kernel⟩, List.mem_of_getElem? (i := 783) (by decide +kernel), List.mem_of_getElem? (i := 976) (by decide +kernel), List.mem_of_getElem? (i := 977) (by decide +kernel)⟩
theorem lw_p25 : lw_okq (⟨"IceHouseModel", "keeps", "(III)V"⟩, 29) := ⟨⟨by decide +kernel, by decide +kernel⟩, List.mem_of_getElem? (i := 783) (by decide +kernel), List.mem_of_getElem? (i := 988) (by decide +kernel), List.mem_of_getElem? (i := 989) (by decide +kernel)⟩
theorem lw_p26 : lw_okq (⟨"IceHouseModel", "find", "()V"⟩, 29) := ⟨⟨by decide +kernel, by decide +kernel⟩, List.mem_of_getElem? (i := 783) (by decide +kernel), List.mem_of_getElem? (i := 1005) (by decide +kernel), List.mem_of_getElem? (i := 1006) (by decide +kernel)⟩
theorem lw_p27 : lw_okq (⟨"IceHouseModel", "lives", "()V"⟩, 29) := ⟨⟨by decide +kernel, by decide +kernel⟩, List.mem_of_getElem? (i := 783) (by decide +kernel), List.mem_of_getElem? (i := 1009) (by decide +kernel), List.mem_of_getElem? (i := 1010) (by decide +kernel)⟩
theorem lw_p28 : lw_okq (⟨"IceHouseModel", "passes", "(I)V"⟩, 29) := ⟨⟨by decide +kernel, by decide +kernel⟩, List.mem_of_getElem? (i := 783) (by decide +kernel), List.mem_of_getElem? (i := 1013) (by decide +kernel), List.mem_of_getElem? (i := 1014) (by decide +kernel)⟩
theorem lw_p29 : lw_okq (⟨"IceHouseModel", "serves", "(I)V"⟩, 29) := ⟨⟨by decide +kernel, by decide +kernel⟩, List.mem_of_getElem? (i := 783) (by decide +kernel), List.mem_of_getElem? (i := 1017) (by decide +kernel), List.mem_of_getElem? (i := 1018) (by decide +kernel)⟩
theorem lw_p30 : lw_okq (⟨"IceHouseModel", "greatest", "()I"⟩, 29) := ⟨⟨by decide +kernel, by decide +kernel⟩, List.mem_of_getElem? (i := 783) (by decide +kernel), List.mem_of_getElem? (i := 1021) (by decide +kernel), List.mem_of_getElem? (i := 1022) (by decide +kernel)⟩
theorem lw_p31 : lw_okq (⟨"IceHouseModel", "topOf", "(I)I"⟩, 29) := ⟨⟨by decide +kernel, by decide +kernel⟩, List.mem_of_getElem? (i := 783) (by decide +kernel), List.mem_of_getElem? (i := 1025) (by decide +kernel), List.mem_of_getElem? (i := 1026) (by decide +kernel)⟩
def lw_privs_2 : List (MethodName × Nat) := [(⟨"IceHouse", "mixedPlans", "(J)J"⟩, 6), (⟨"IceHouseModel", "finds", "(I)I"⟩, 29), (⟨"IceHouseModel", "lacks", "(III)I"⟩, 29), (⟨"IceHouseModel", "readsText", "(I)I"⟩, 29), (⟨"IceHouseModel", "readsBlocks", "()I"⟩, 29), (⟨"IceHouseModel", "bares", "()V"⟩, 29), (⟨"IceHouseModel", "readsOrders", "()I"⟩, 29), (⟨"IceHouseModel", "toldAt", "(II)I"⟩, 29), (⟨"IceHouseModel", "isOrder", "(I)Z"⟩, 29), (⟨"IceHouseModel", "keeps", "(III)V"⟩, 29), (⟨"IceHouseModel", "find", "()V"⟩, 29), (⟨"IceHouseModel", "lives", "()V"⟩, 29), (⟨"IceHouseModel", "passes", "(I)V"⟩, 29), (⟨"IceHouseModel", "serves", "(I)V"⟩, 29), (⟨"IceHouseModel", "greatest", "()I"⟩, 29), (⟨"IceHouseModel", "topOf", "(I)I"⟩, 29)]
theorem lw_r2 : ∀ q ∈ lw_privs_2, lw_okq q := List.forall_mem_cons.mpr ⟨lw_p16, List.forall_mem_cons.mpr ⟨lw_p17, List.forall_mem_cons.mpr ⟨lw_p18, List.forall_mem_cons.mpr ⟨lw_p19, List.forall_mem_cons.mpr ⟨lw_p20, List.forall_mem_cons.mpr ⟨lw_p21, List.forall_mem_cons.mpr ⟨lw_p22, List.forall_mem_cons.mpr ⟨lw_p23, List.forall_mem_cons.mpr ⟨lw_p24, List.forall_mem_cons.mpr ⟨lw_p25, List.forall_mem_cons.mpr ⟨lw_p26, List.forall_mem_cons.mpr ⟨lw_p27, List.forall_mem_cons.mpr ⟨lw_p28, List.forall_mem_cons.mpr ⟨lw_p29, List.forall_mem_cons.mpr ⟨lw_p30, List.forall_mem_cons.mpr ⟨lw_p31, fun _ h => absurd h List.not_mem_nil⟩⟩⟩⟩⟩⟩⟩⟩⟩⟩⟩⟩⟩⟩⟩⟩
theorem lw_p32 : lw_okq (⟨"IceHouseModel", "melting", "(I)V"⟩, 29) := ⟨⟨by decide +kernel, by decide +kernel⟩, List.mem_of_getElem? (i := 783) (by decide +kernel), List.mem_of_getElem? (i := 1029) (by decide +kernel), List.mem_of_getElem? (i := 1030) (by decide +kernel)⟩
theorem lw_p33 : lw_okq (⟨"IceHouseModel", "strawBy", "(I)I"⟩, 29) := ⟨⟨by decide +kernel, by decide +kernel⟩, List.mem_of_getElem? (i := 783) (by decide +kernel), List.mem_of_getElem? (i := 1033) (by decide +kernel), List.mem_of_getElem? (i := 1034) (by decide +kernel)⟩
theorem lw_p34 : lw_okq (⟨"IceHouseModel", "isTold", "(II)Z"⟩, 29) := ⟨⟨by decide +kernel, by decide +kernel⟩, List.mem_of_getElem? (i := 783) (by decide +kernel), List.mem_of_getElem? (i := 1040) (by decide +kernel), List.mem_of_getElem? (i := 1041) (by decide +kernel)⟩
theorem lw_p35 : lw_okq (⟨"IceHouseModel", "freeOf", "(III)I"⟩, 29) := ⟨⟨by decide +kernel, by decide +kernel⟩, List.mem_of_getElem? (i := 783) (by decide +kernel), List.mem_of_getElem? (i := 1044) (by decide +kernel), List.mem_of_getElem? (i := 1045) (by decide +kernel)⟩
theorem lw_p36 : lw_okq (⟨"IceHouseModel", "columnBy", "(III)I"⟩, 29) := ⟨⟨by decide +kernel, by decide +kernel⟩, List.mem_of_getElem? (i := 783) (by decide +kernel), List.mem_of_getElem? (i := 1051) (by decide +kernel), List.mem_of_getElem? (i := 1052) (by decide +kernel)⟩
theorem lw_p37 : lw_okq (⟨"IceHouseModel", "standsIn", "(II)I"⟩, 29) := ⟨⟨by decide +kernel, by decide +kernel⟩, List.mem_of_getElem? (i := 783) (by decide +kernel), List.mem_of_getElem? (i := 1055) (by decide +kernel), List.mem_of_getElem? (i := 1056) (by decide +kernel)⟩
theorem lw_p38 : lw_okq (⟨"IceHouseModel", "iceBy", "(II)I"⟩, 29) := ⟨⟨by decide +kernel, by decide +kernel⟩, List.mem_of_getElem? (i := 783) (by decide +kernel), List.mem_of_getElem? (i := 1067) (by decide +kernel), List.mem_of_getElem? (i := 1068) (by decide +kernel)⟩
theorem lw_p39 : lw_okq (⟨"IceHouseModel", "allIce", "(I)I"⟩, 29) := ⟨⟨by decide +kernel, by decide +kernel⟩, List.mem_of_getElem? (i := 783) (by decide +kernel), List.mem_of_getElem? (i := 1071) (by decide +kernel), List.mem_of_getElem? (i := 1072) (by decide +kernel)⟩
theorem lw_p40 : lw_okq (⟨"IceHouseModel", "gotBy", "(II)I"⟩, 29) := ⟨⟨by decide +kernel, by decide +kernel⟩, List.mem_of_getElem? (i := 783) (by decide +kernel), List.mem_of_getElem? (i := 1079) (by decide +kernel), List.mem_of_getElem? (i := 1080) (by decide +kernel)⟩
theorem lw_p41 : lw_okq (⟨"IceHouseModel", "isShort", "(I)Z"⟩, 29) := ⟨⟨by decide +kernel, by decide +kernel⟩, List.mem_of_getElem? (i := 783) (by decide +kernel), List.mem_of_getElem? (i := 1083) (by decide +kernel), List.mem_of_getElem? (i := 1084) (by decide +kernel)⟩
theorem lw_p42 : lw_okq (⟨"IceHouseModel", "sumBy", "(I)I"⟩, 29) := ⟨⟨by decide +kernel, by decide +kernel⟩, List.mem_of_getElem? (i := 783) (by decide +kernel), List.mem_of_getElem? (i := 1091) (by decide +kernel), List.mem_of_getElem? (i := 1092) (by decide +kernel)⟩
theorem lw_p43 : lw_okq (⟨"IceHouseModel", "bareOf", "(I)I"⟩, 29) := ⟨⟨by decide +kernel, by decide +kernel⟩, List.mem_of_getElem? (i := 783) (by decide +kernel), List.mem_of_getElem? (i := 1099) (by decide +kernel), List.mem_of_getElem? (i := 1100) (by decide +kernel)⟩
theorem lw_p44 : lw_okq (⟨"IceHouseModel", "lastNow", "()I"⟩, 29) := ⟨⟨by decide +kernel, by decide +kernel⟩, List.mem_of_getElem? (i := 783) (by decide +kernel), List.mem_of_getElem? (i := 1107) (by decide +kernel), List.mem_of_getElem? (i := 1108) (by decide +kernel)⟩
theorem lw_p45 : lw_okq (⟨"IceHouseModel", "tallNow", "()I"⟩, 29) := ⟨⟨by decide +kernel, by decide +kernel⟩, List.mem_of_getElem? (i := 783) (by decide +kernel), List.mem_of_getElem? (i := 1115) (by decide +kernel), List.mem_of_getElem? (i := 1116) (by decide +kernel)⟩
theorem lw_p46 : lw_okq (⟨"IceHouseModel", "drainBy", "(I)I"⟩, 29) := ⟨⟨by decide +kernel, by decide +kernel⟩, List.mem_of_getElem? (i := 783) (by decide +kernel), List.mem_of_getElem? (i := 1123) (by decide +kernel), List.mem_of_getElem? (i := 1124) (by decide +kernel)⟩
theorem lw_p47 : lw_okq (⟨"IceHouseModel", "coverBy", "(I)I"⟩, 29) := ⟨⟨by decide +kernel, by decide +kernel⟩, List.mem_of_getElem? (i := 783) (by decide +kernel), List.mem_of_getElem? (i := 1131) (by decide +kernel), List.mem_of_getElem? (i := 1132) (by decide +kernel)⟩
def lw_privs_3 : List (MethodName × Nat) := [(⟨"IceHouseModel", "melting", "(I)V"⟩, 29), (⟨"IceHouseModel", "strawBy", "(I)I"⟩, 29), (⟨"IceHouseModel", "isTold", "(II)Z"⟩, 29), (⟨"IceHouseModel", "freeOf", "(III)I"⟩, 29), (⟨"IceHouseModel", "columnBy", "(III)I"⟩, 29), (⟨"IceHouseModel", "standsIn", "(II)I"⟩, 29), (⟨"IceHouseModel", "iceBy", "(II)I"⟩, 29), (⟨"IceHouseModel", "allIce", "(I)I"⟩, 29), (⟨"IceHouseModel", "gotBy", "(II)I"⟩, 29), (⟨"IceHouseModel", "isShort", "(I)Z"⟩, 29), (⟨"IceHouseModel", "sumBy", "(I)I"⟩, 29), (⟨"IceHouseModel", "bareOf", "(I)I"⟩, 29), (⟨"IceHouseModel", "lastNow", "()I"⟩, 29), (⟨"IceHouseModel", "tallNow", "()I"⟩, 29), (⟨"IceHouseModel", "drainBy", "(I)I"⟩, 29), (⟨"IceHouseModel", "coverBy", "(I)I"⟩, 29)]
theorem lw_r3 : ∀ q ∈ lw_privs_3, lw_okq q := List.forall_mem_cons.mpr ⟨lw_p32, List.forall_mem_cons.mpr ⟨lw_p33, List.forall_mem_cons.mpr ⟨lw_p34, List.forall_mem_cons.mpr ⟨lw_p35, List.forall_mem_cons.mpr ⟨lw_p36, List.forall_mem_cons.mpr ⟨lw_p37, List.forall_mem_cons.mpr ⟨lw_p38, List.forall_mem_cons.mpr ⟨lw_p39, List.forall_mem_cons.mpr ⟨lw_p40, List.forall_mem_cons.mpr ⟨lw_p41, List.forall_mem_cons.mpr ⟨lw_p42, List.forall_mem_cons.mpr ⟨lw_p43, List.forall_mem_cons.mpr ⟨lw_p44, List.forall_mem_cons.mpr ⟨lw_p45, List.forall_mem_cons.mpr ⟨lw_p46, List.forall_mem_cons.mpr ⟨lw_p47, fun _ h => absurd h List.not_mem_nil⟩⟩⟩⟩⟩⟩⟩⟩⟩⟩⟩⟩⟩⟩⟩⟩
theorem lw_p48 : lw_okq (⟨"IceHouseModel", "swapBy", "(I)I"⟩, 29) := ⟨⟨by decide +kernel, by decide +kernel⟩, List.mem_of_getElem? (i := 783) (by decide +kernel), List.mem_of_getElem? (i := 1142) (by decide +kernel), List.mem_of_getElem? (i := 1143) (by decide +kernel)⟩
theorem lw_p49 : lw_okq (⟨"IceHouseModel", "laterOf", "(II)I"⟩, 29) := ⟨⟨by decide +kernel, by decide +kernel⟩, List.mem_of_getElem? (i := 783) (by decide +kernel), List.mem_of_getElem? (i := 1150) (by decide +kernel), List.mem_of_getElem? (i := 1151) (by decide +kernel)⟩
theorem lw_p50 : lw_okq (⟨"IceHouseModel", "spareBy", "(I)I"⟩, 29) := ⟨⟨by decide +kernel, by decide +kernel⟩, List.mem_of_getElem? (i := 783) (by decide +kernel), List.mem_of_getElem? (i := 1159) (by decide +kernel), List.mem_of_getElem? (i := 1160) (by decide +kernel)⟩
theorem lw_p51 : lw_okq (⟨"IceHouseModel", "isSpared", "(I)Z"⟩, 29) := ⟨⟨by decide +kernel, by decide +kernel⟩, List.mem_of_getElem? (i := 783) (by decide +kernel), List.mem_of_getElem? (i := 1163) (by decide +kernel), List.mem_of_getElem? (i := 1164) (by decide +kernel)⟩
theorem lw_p52 : lw_okq (⟨"IceHouseModel", "neverNow", "()I"⟩, 29) := ⟨⟨by decide +kernel, by decide +kernel⟩, List.mem_of_getElem? (i := 783) (by decide +kernel), List.mem_of_getElem? (i := 1180) (by decide +kernel), List.mem_of_getElem? (i := 1181) (by decide +kernel)⟩
theorem lw_p53 : lw_okq (⟨"IceHouseModel", "isSeen", "()Z"⟩, 29) := ⟨⟨by decide +kernel, by decide +kernel⟩, List.mem_of_getElem? (i := 783) (by decide +kernel), List.mem_of_getElem? (i := 1184) (by decide +kernel), List.mem_of_getElem? (i := 1185) (by decide +kernel)⟩
theorem lw_p54 : lw_okq (⟨"IceHouseModel", "isBlock", "(II)Z"⟩, 29) := ⟨⟨by decide +kernel, by decide +kernel⟩, List.mem_of_getElem? (i := 783) (by decide +kernel), List.mem_of_getElem? (i := 1192) (by decide +kernel), List.mem_of_getElem? (i := 1193) (by decide +kernel)⟩
theorem lw_p55 : lw_okq (⟨"IceHouseModel", "sizeOf", "(II)I"⟩, 29) := ⟨⟨by decide +kernel, by decide +kernel⟩, List.mem_of_getElem? (i := 783) (by decide +kernel), List.mem_of_getElem? (i := 1196) (by decide +kernel), List.mem_of_getElem? (i := 1197) (by decide +kernel)⟩
theorem lw_p56 : lw_okq (⟨"IceHouseModel", "rowOf", "(I)I"⟩, 29) := ⟨⟨by decide +kernel, by decide +kernel⟩, List.mem_of_getElem? (i := 783) (by decide +kernel), List.mem_of_getElem? (i := 1200) (by decide +kernel), List.mem_of_getElem? (i := 1201) (by decide +kernel)⟩
theorem lw_p57 : lw_okq (⟨"IceHouseModel", "askOf", "(II)I"⟩, 29) := ⟨⟨by decide +kernel, by decide +kernel⟩, List.mem_of_getElem? (i := 783) (by decide +kernel), List.mem_of_getElem? (i := 1208) (by decide +kernel), List.mem_of_getElem? (i := 1209) (by decide +kernel)⟩
theorem lw_p58 : lw_okq (⟨"IceHouseModel", "alike", "(II)I"⟩, 29) := ⟨⟨by decide +kernel, by decide +kernel⟩, List.mem_of_getElem? (i := 783) (by decide +kernel), List.mem_of_getElem? (i := 1212) (by decide +kernel), List.mem_of_getElem? (i := 1213) (by decide +kernel)⟩
theorem lw_p59 : lw_okq (⟨"IceHouseModel", "chanceOf", "(III)J"⟩, 29) := ⟨⟨by decide +kernel, by decide +kernel⟩, List.mem_of_getElem? (i := 783) (by decide +kernel), List.mem_of_getElem? (i := 1221) (by decide +kernel), List.mem_of_getElem? (i := 1222) (by decide +kernel)⟩
theorem lw_p60 : lw_okq (⟨"IceHouseModel", "summersOf", "(III)I"⟩, 29) := ⟨⟨by decide +kernel, by decide +kernel⟩, List.mem_of_getElem? (i := 783) (by decide +kernel), List.mem_of_getElem? (i := 1237) (by decide +kernel), List.mem_of_getElem? (i := 1238) (by decide +kernel)⟩
theorem lw_p61 : lw_okq (⟨"IceHouseModel", "lot", "(I)I"⟩, 29) := ⟨⟨by decide +kernel, by decide +kernel⟩, List.mem_of_getElem? (i := 783) (by decide +kernel), List.mem_of_getElem? (i := 1241) (by decide +kernel), List.mem_of_getElem? (i := 1242) (by decide +kernel)⟩
theorem lw_p62 : lw_okq (⟨"IceHouseModel", "manyBlocks", "()I"⟩, 29) := ⟨⟨by decide +kernel, by decide +kernel⟩, List.mem_of_getElem? (i := 783) (by decide +kernel), List.mem_of_getElem? (i := 1254) (by decide +kernel), List.mem_of_getElem? (i := 1255) (by decide +kernel)⟩
theorem lw_p63 : lw_okq (⟨"IceHouseModel", "tellsColumn", "(JI)J"⟩, 29) := ⟨⟨by decide +kernel, by decide +kernel⟩, List.mem_of_getElem? (i := 783) (by decide +kernel), List.mem_of_getElem? (i := 1265) (by decide +kernel), List.mem_of_getElem? (i := 1266) (by decide +kernel)⟩
def lw_privs_4 : List (MethodName × Nat) := [(⟨"IceHouseModel", "swapBy", "(I)I"⟩, 29), (⟨"IceHouseModel", "laterOf", "(II)I"⟩, 29), (⟨"IceHouseModel", "spareBy", "(I)I"⟩, 29), (⟨"IceHouseModel", "isSpared", "(I)Z"⟩, 29), (⟨"IceHouseModel", "neverNow", "()I"⟩, 29), (⟨"IceHouseModel", "isSeen", "()Z"⟩, 29), (⟨"IceHouseModel", "isBlock", "(II)Z"⟩, 29), (⟨"IceHouseModel", "sizeOf", "(II)I"⟩, 29), (⟨"IceHouseModel", "rowOf", "(I)I"⟩, 29), (⟨"IceHouseModel", "askOf", "(II)I"⟩, 29), (⟨"IceHouseModel", "alike", "(II)I"⟩, 29), (⟨"IceHouseModel", "chanceOf", "(III)J"⟩, 29), (⟨"IceHouseModel", "summersOf", "(III)I"⟩, 29), (⟨"IceHouseModel", "lot", "(I)I"⟩, 29), (⟨"IceHouseModel", "manyBlocks", "()I"⟩, 29), (⟨"IceHouseModel", "tellsColumn", "(JI)J"⟩, 29)]
theorem lw_r4 : ∀ q ∈ lw_privs_4, lw_okq q := List.forall_mem_cons.mpr ⟨lw_p48, List.forall_mem_cons.mpr ⟨lw_p49, List.forall_mem_cons.mpr ⟨lw_p50, List.forall_mem_cons.mpr ⟨lw_p51, List.forall_mem_cons.mpr ⟨lw_p52, List.forall_mem_cons.mpr ⟨lw_p53, List.forall_mem_cons.mpr ⟨lw_p54, List.forall_mem_cons.mpr ⟨lw_p55, List.forall_mem_cons.mpr ⟨lw_p56, List.forall_mem_cons.mpr ⟨lw_p57, List.forall_mem_cons.mpr ⟨lw_p58, List.forall_mem_cons.mpr ⟨lw_p59, List.forall_mem_cons.mpr ⟨lw_p60, List.forall_mem_cons.mpr ⟨lw_p61, List.forall_mem_cons.mpr ⟨lw_p62, List.forall_mem_cons.mpr ⟨lw_p63, fun _ h => absurd h List.not_mem_nil⟩⟩⟩⟩⟩⟩⟩⟩⟩⟩⟩⟩⟩⟩⟩⟩
theorem lw_p64 : lw_okq (⟨"IceHouseModel", "tellsOrder", "(JI)J"⟩, 29) := ⟨⟨by decide +kernel, by decide +kernel⟩, List.mem_of_getElem? (i := 783) (by decide +kernel), List.mem_of_getElem? (i := 1269) (by decide +kernel), List.mem_of_getElem? (i := 1270) (by decide +kernel)⟩
def lw_privs_5 : List (MethodName × Nat) := [(⟨"IceHouseModel", "tellsOrder", "(JI)J"⟩, 29)]
theorem lw_r5 : ∀ q ∈ lw_privs_5, lw_okq q := List.forall_mem_cons.mpr ⟨lw_p64, fun _ h => absurd h List.not_mem_nil⟩
def lw_privs : List (MethodName × Nat) := lw_privs_1 ++ (lw_privs_2 ++ (lw_privs_3 ++ (lw_privs_4 ++ (lw_privs_5))))
def lw_tbl : List Cond := k2_sels lw_privs ++ tables_1
theorem lw_privs_ok : ∀ q ∈ lw_privs, lw_okq q := by
  show ∀ q ∈ lw_privs_1 ++ (lw_privs_2 ++ (lw_privs_3 ++ (lw_privs_4 ++ (lw_privs_5)))), lw_okq q
  exact List.forall_mem_append.mpr ⟨lw_r1, List.forall_mem_append.mpr ⟨lw_r2, List.forall_mem_append.mpr ⟨lw_r3, List.forall_mem_append.mpr ⟨lw_r4, lw_r5⟩⟩⟩⟩
-- ===== end of PART A; then your names; then what follows =====
def RX0 : String := "IceHouse$Book"
def TX0 : u_T := fun k => match k with
  | 0 => ("IceHouse$Book", "blocksText", "LIceHouse$Text;", true)
  | 1 => ("IceHouse$Book", "ordersText", "LIceHouse$Text;", true)
  | 2 => ("IceHouse$Book", "blocks", "LIceHouse$Stand;", true)
  | 3 => ("IceHouse$Book", "orders", "LIceHouse$Orders;", true)
  | 4 => ("IceHouse$Book", "events", "LIceHouse$Events;", true)
  | 5 => ("IceHouse$Book", "seen", "LIceHouse$Seen;", true)
  | 6 => ("IceHouse$Book", "blocksFault", "I", false)
  | _ => ("IceHouse$Book", "ordersFault", "I", false)
def tyX0 : Nat → FieldType := fun k => match k with
  | 0 => .object "IceHouse$Text"
  | 1 => .object "IceHouse$Text"
  | 2 => .object "IceHouse$Stand"
  | 3 => .object "IceHouse$Orders"
  | 4 => .object "IceHouse$Events"
  | 5 => .object "IceHouse$Seen"
  | 6 => .int
  | _ => .int
abbrev wsX00 : List Cond := u_ws RX0 TX0 8
theorem nmX0 : ∀ a, a < 8 → ∀ b, b < 8 → a ≠ b → (TX0 a).2.1 ≠ (TX0 b).2.1 := by decide +kernel
theorem tyX0_ok : ∀ k, k < 8 → parseFieldDescriptor (TX0 k).2.2.1 = some (tyX0 k) := by decide +kernel
abbrev cX0_init : ByteArray := prog_2_method_1_code
def yX0_init : MethodName := ⟨RX0, "<init>", "()V"⟩
abbrev cX0_textOf : ByteArray := prog_2_method_2_code
def yX0_textOf : MethodName := ⟨RX0, "textOf", "(I)LIceHouse$Text;"⟩
abbrev cX0_parseBlocks : ByteArray := prog_2_method_3_code
def yX0_parseBlocks : MethodName := ⟨RX0, "parseBlocks", "()V"⟩
abbrev cX0_placeBlocks : ByteArray := prog_2_method_4_code
def yX0_placeBlocks : MethodName := ⟨RX0, "placeBlocks", "()I"⟩
abbrev cX0_parseOrders : ByteArray := prog_2_method_5_code
def yX0_parseOrders : MethodName := ⟨RX0, "parseOrders", "()V"⟩
abbrev cX0_placeOrders : ByteArray := prog_2_method_6_code
def yX0_placeOrders : MethodName := ⟨RX0, "placeOrders", "()I"⟩
abbrev cX0_isFigure : ByteArray := prog_2_method_7_code
def yX0_isFigure : MethodName := ⟨RX0, "isFigure", "(I)Z"⟩
def RX1 : String := "IceHouse$Events"
def TX1 : u_T := fun k => match k with
  | 0 => ("IceHouse$Events", "kind", "[I", true)
  | 1 => ("IceHouse$Events", "week", "[I", true)
  | 2 => ("IceHouse$Events", "what", "[I", true)
  | _ => ("IceHouse$Events", "number", "I", false)
def tyX1 : Nat → FieldType := fun k => match k with
  | 0 => .array .int
  | 1 => .array .int
  | 2 => .array .int
  | _ => .int
abbrev wsX10 : List Cond := u_ws RX1 TX1 4
theorem nmX1 : ∀ a, a < 4 → ∀ b, b < 4 → a ≠ b → (TX1 a).2.1 ≠ (TX1 b).2.1 := by decide +kernel
theorem tyX1_ok : ∀ k, k < 4 → parseFieldDescriptor (TX1 k).2.2.1 = some (tyX1 k) := by decide +kernel
abbrev cX1_init : ByteArray := prog_3_method_1_code
def yX1_init : MethodName := ⟨RX1, "<init>", "()V"⟩
abbrev cX1_mayBe : ByteArray := prog_3_method_2_code
def yX1_mayBe : MethodName := ⟨RX1, "mayBe", "(III)Z"⟩
abbrev cX1_append : ByteArray := prog_3_method_3_code
def yX1_append : MethodName := ⟨RX1, "append", "(III)V"⟩
def RX2 : String := "IceHouse$Orders"
def TX2 : u_T := fun k => match k with
  | 0 => ("IceHouse$Orders", "week", "[I", true)
  | 1 => ("IceHouse$Orders", "wanted", "[I", true)
  | _ => ("IceHouse$Orders", "number", "I", false)
def tyX2 : Nat → FieldType := fun k => match k with
  | 0 => .array .int
  | 1 => .array .int
  | _ => .int
abbrev wsX20 : List Cond := u_ws RX2 TX2 3
theorem nmX2 : ∀ a, a < 3 → ∀ b, b < 3 → a ≠ b → (TX2 a).2.1 ≠ (TX2 b).2.1 := by decide +kernel
theorem tyX2_ok : ∀ k, k < 3 → parseFieldDescriptor (TX2 k).2.2.1 = some (tyX2 k) := by decide +kernel
abbrev cX2_init : ByteArray := prog_4_method_1_code
def yX2_init : MethodName := ⟨RX2, "<init>", "()V"⟩
abbrev cX2_become : ByteArray := prog_4_method_2_code
def yX2_become : MethodName := ⟨RX2, "become", "(LIceHouse$Orders;)V"⟩
def RX3 : String := "IceHouse$Plans"
def TX3 : u_T := fun k => match k with
  | 0 => ("IceHouse$Plans", "book", "LIceHouse$Book;", true)
  | 1 => ("IceHouse$Plans", "trial", "LIceHouse$Summer;", true)
  | 2 => ("IceHouse$Plans", "shortsOf", "[I", true)
  | 3 => ("IceHouse$Plans", "shapesOf", "[I", true)
  | 4 => ("IceHouse$Plans", "shortsAreKnown", "Z", false)
  | 5 => ("IceHouse$Plans", "first", "I", false)
  | 6 => ("IceHouse$Plans", "second", "I", false)
  | 7 => ("IceHouse$Plans", "much", "I", false)
  | 8 => ("IceHouse$Plans", "above", "J", false)
  | _ => ("IceHouse$Plans", "below", "J", false)
def tyX3 : Nat → FieldType := fun k => match k with
  | 0 => .object "IceHouse$Book"
  | 1 => .object "IceHouse$Summer"
  | 2 => .array .int
  | 3 => .array .int
  | 4 => .boolean
  | 5 => .int
  | 6 => .int
  | 7 => .int
  | 8 => .long
  | _ => .long
abbrev wsX30 : List Cond := u_ws RX3 TX3 10
theorem nmX3 : ∀ a, a < 10 → ∀ b, b < 10 → a ≠ b → (TX3 a).2.1 ≠ (TX3 b).2.1 := by decide +kernel
theorem tyX3_ok : ∀ k, k < 10 → parseFieldDescriptor (TX3 k).2.2.1 = some (tyX3 k) := by decide +kernel
abbrev cX3_init : ByteArray := prog_5_method_1_code
def yX3_init : MethodName := ⟨RX3, "<init>", "(LIceHouse$Book;)V"⟩
abbrev cX3_findCover : ByteArray := prog_5_method_2_code
def yX3_findCover : MethodName := ⟨RX3, "findCover", "()V"⟩
abbrev cX3_findSwap : ByteArray := prog_5_method_3_code
def yX3_findSwap : MethodName := ⟨RX3, "findSwap", "()V"⟩
abbrev cX3_findWait : ByteArray := prog_5_method_4_code
def yX3_findWait : MethodName := ⟨RX3, "findWait", "(I)V"⟩
abbrev cX3_noneIsShortWithout : ByteArray := prog_5_method_5_code
def yX3_noneIsShortWithout : MethodName := ⟨RX3, "noneIsShortWithout", "(I)Z"⟩
abbrev cX3_keepSpare : ByteArray := prog_5_method_6_code
def yX3_keepSpare : MethodName := ⟨RX3, "keepSpare", "(III)V"⟩
abbrev cX3_findSpare : ByteArray := prog_5_method_7_code
def yX3_findSpare : MethodName := ⟨RX3, "findSpare", "()V"⟩
abbrev cX3_findNever : ByteArray := prog_5_method_8_code
def yX3_findNever : MethodName := ⟨RX3, "findNever", "()I"⟩
abbrev cX3_findSizes : ByteArray := prog_5_method_9_code
def yX3_findSizes : MethodName := ⟨RX3, "findSizes", "(II)I"⟩
abbrev cX3_findAsk : ByteArray := prog_5_method_10_code
def yX3_findAsk : MethodName := ⟨RX3, "findAsk", "(I)I"⟩
abbrev cX3_mostAlike : ByteArray := prog_5_method_11_code
def yX3_mostAlike : MethodName := ⟨RX3, "mostAlike", "(II)I"⟩
abbrev cX3_findChance : ByteArray := prog_5_method_12_code
def yX3_findChance : MethodName := ⟨RX3, "findChance", "(II)V"⟩
abbrev cX3_learnShorts : ByteArray := prog_5_method_13_code
def yX3_learnShorts : MethodName := ⟨RX3, "learnShorts", "()V"⟩
abbrev cX3_power : ByteArray := prog_5_method_14_code
def yX3_power : MethodName := ⟨RX3, "power", "(JI)J"⟩
abbrev cX3_drawnSummer : ByteArray := prog_5_method_15_code
def yX3_drawnSummer : MethodName := ⟨RX3, "drawnSummer", "(II)LIceHouse$Summer;"⟩
abbrev cX3_nextSeed : ByteArray := prog_5_method_16_code
def yX3_nextSeed : MethodName := ⟨RX3, "nextSeed", "(I)I"⟩
abbrev cX3_lot : ByteArray := prog_5_method_17_code
def yX3_lot : MethodName := ⟨RX3, "lot", "(II)I"⟩
def RX4 : String := "IceHouse$Seen"
def TX4 : u_T := fun k => match k with
  | 0 => ("IceHouse$Seen", "week", "[I", true)
  | 1 => ("IceHouse$Seen", "column", "[I", true)
  | 2 => ("IceHouse$Seen", "high", "[I", true)
  | _ => ("IceHouse$Seen", "number", "I", false)
def tyX4 : Nat → FieldType := fun k => match k with
  | 0 => .array .int
  | 1 => .array .int
  | 2 => .array .int
  | _ => .int
abbrev wsX40 : List Cond := u_ws RX4 TX4 4
theorem nmX4 : ∀ a, a < 4 → ∀ b, b < 4 → a ≠ b → (TX4 a).2.1 ≠ (TX4 b).2.1 := by decide +kernel
theorem tyX4_ok : ∀ k, k < 4 → parseFieldDescriptor (TX4 k).2.2.1 = some (tyX4 k) := by decide +kernel
abbrev cX4_init : ByteArray := prog_6_method_1_code
def yX4_init : MethodName := ⟨RX4, "<init>", "()V"⟩
abbrev cX4_append : ByteArray := prog_6_method_2_code
def yX4_append : MethodName := ⟨RX4, "append", "(III)V"⟩
abbrev cX4_fits : ByteArray := prog_6_method_3_code
def yX4_fits : MethodName := ⟨RX4, "fits", "([I)Z"⟩
def RX5 : String := "IceHouse$Sheet"
def TX5 : u_T := fun k => match k with
  | 0 => ("IceHouse$Sheet", "items", "[I", true)
  | 1 => ("IceHouse$Sheet", "form", "I", false)
  | _ => ("IceHouse$Sheet", "length", "I", false)
def tyX5 : Nat → FieldType := fun k => match k with
  | 0 => .array .int
  | 1 => .int
  | _ => .int
abbrev wsX50 : List Cond := u_ws RX5 TX5 3
theorem nmX5 : ∀ a, a < 3 → ∀ b, b < 3 → a ≠ b → (TX5 a).2.1 ≠ (TX5 b).2.1 := by decide +kernel
theorem tyX5_ok : ∀ k, k < 3 → parseFieldDescriptor (TX5 k).2.2.1 = some (tyX5 k) := by decide +kernel
abbrev cX5_init : ByteArray := prog_7_method_1_code
def yX5_init : MethodName := ⟨RX5, "<init>", "()V"⟩
abbrev cX5_renew : ByteArray := prog_7_method_2_code
def yX5_renew : MethodName := ⟨RX5, "renew", "(II)V"⟩
abbrev cX5_hindrance : ByteArray := prog_7_method_3_code
def yX5_hindrance : MethodName := ⟨RX5, "hindrance", "(II)I"⟩
abbrev cX5_hasRow : ByteArray := prog_7_method_4_code
def yX5_hasRow : MethodName := ⟨RX5, "hasRow", "(II)Z"⟩
abbrev cX5_put : ByteArray := prog_7_method_5_code
def yX5_put : MethodName := ⟨RX5, "put", "(II)V"⟩
def RX6 : String := "IceHouse$Stand"
def TX6 : u_T := fun k => match k with
  | 0 => ("IceHouse$Stand", "great", "[I", true)
  | _ => ("IceHouse$Stand", "high", "[I", true)
def tyX6 : Nat → FieldType := fun k => match k with
  | 0 => .array .int
  | _ => .array .int
abbrev wsX60 : List Cond := u_ws RX6 TX6 2
theorem nmX6 : ∀ a, a < 2 → ∀ b, b < 2 → a ≠ b → (TX6 a).2.1 ≠ (TX6 b).2.1 := by decide +kernel
theorem tyX6_ok : ∀ k, k < 2 → parseFieldDescriptor (TX6 k).2.2.1 = some (tyX6 k) := by decide +kernel
abbrev cX6_init : ByteArray := prog_8_method_1_code
def yX6_init : MethodName := ⟨RX6, "<init>", "()V"⟩
abbrev cX6_clearAll : ByteArray := prog_8_method_2_code
def yX6_clearAll : MethodName := ⟨RX6, "clearAll", "()V"⟩
abbrev cX6_become : ByteArray := prog_8_method_3_code
def yX6_become : MethodName := ⟨RX6, "become", "(LIceHouse$Stand;)V"⟩
abbrev cX6_putOnTop : ByteArray := prog_8_method_4_code
def yX6_putOnTop : MethodName := ⟨RX6, "putOnTop", "(II)V"⟩
abbrev cX6_takeFromTop : ByteArray := prog_8_method_5_code
def yX6_takeFromTop : MethodName := ⟨RX6, "takeFromTop", "(I)I"⟩
abbrev cX6_columnOfGreatestTop : ByteArray := prog_8_method_6_code
def yX6_columnOfGreatestTop : MethodName := ⟨RX6, "columnOfGreatestTop", "()I"⟩
abbrev cX6_exchange : ByteArray := prog_8_method_7_code
def yX6_exchange : MethodName := ⟨RX6, "exchange", "(II)V"⟩
abbrev cX6_numberOfBlocks : ByteArray := prog_8_method_8_code
def yX6_numberOfBlocks : MethodName := ⟨RX6, "numberOfBlocks", "()I"⟩
abbrev cX6_total : ByteArray := prog_8_method_9_code
def yX6_total : MethodName := ⟨RX6, "total", "()I"⟩
abbrev cX6_shapeOfAll : ByteArray := prog_8_method_10_code
def yX6_shapeOfAll : MethodName := ⟨RX6, "shapeOfAll", "()I"⟩
def RX7 : String := "IceHouse$Summer"
def TX7 : u_T := fun k => match k with
  | 0 => ("IceHouse$Summer", "now", "LIceHouse$Stand;", true)
  | 1 => ("IceHouse$Summer", "orders", "LIceHouse$Orders;", true)
  | 2 => ("IceHouse$Summer", "weather", "LIceHouse$Weather;", true)
  | 3 => ("IceHouse$Summer", "has", "[I", true)
  | 4 => ("IceHouse$Summer", "ice", "[I", true)
  | 5 => ("IceHouse$Summer", "water", "[I", true)
  | 6 => ("IceHouse$Summer", "shape", "[I", true)
  | 7 => ("IceHouse$Summer", "history", "[I", true)
  | 8 => ("IceHouse$Summer", "keepsHistory", "Z", true)
  | 9 => ("IceHouse$Summer", "stood", "[I", true)
  | _ => ("IceHouse$Summer", "shortBits", "I", false)
def tyX7 : Nat → FieldType := fun k => match k with
  | 0 => .object "IceHouse$Stand"
  | 1 => .object "IceHouse$Orders"
  | 2 => .object "IceHouse$Weather"
  | 3 => .array .int
  | 4 => .array .int
  | 5 => .array .int
  | 6 => .array .int
  | 7 => .array .int
  | 8 => .boolean
  | 9 => .array .int
  | _ => .int
abbrev wsX70 : List Cond := u_ws RX7 TX7 11
theorem nmX7 : ∀ a, a < 11 → ∀ b, b < 11 → a ≠ b → (TX7 a).2.1 ≠ (TX7 b).2.1 := by decide +kernel
theorem tyX7_ok : ∀ k, k < 11 → parseFieldDescriptor (TX7 k).2.2.1 = some (tyX7 k) := by decide +kernel
abbrev cX7_init : ByteArray := prog_9_method_1_code
def yX7_init : MethodName := ⟨RX7, "<init>", "(Z)V"⟩
abbrev cX7_highIn : ByteArray := prog_9_method_2_code
def yX7_highIn : MethodName := ⟨RX7, "highIn", "(II)I"⟩
abbrev cX7_prepare : ByteArray := prog_9_method_3_code
def yX7_prepare : MethodName := ⟨RX7, "prepare", "(LIceHouse$Book;I)V"⟩
abbrev cX7_run : ByteArray := prog_9_method_4_code
def yX7_run : MethodName := ⟨RX7, "run", "()V"⟩
abbrev cX7_serve : ByteArray := prog_9_method_5_code
def yX7_serve : MethodName := ⟨RX7, "serve", "(I)V"⟩
abbrev cX7_melt : ByteArray := prog_9_method_6_code
def yX7_melt : MethodName := ⟨RX7, "melt", "(I)I"⟩
abbrev cX7_meltColumn : ByteArray := prog_9_method_7_code
def yX7_meltColumn : MethodName := ⟨RX7, "meltColumn", "(II)I"⟩
abbrev cX7_standingIn : ByteArray := prog_9_method_8_code
def yX7_standingIn : MethodName := ⟨RX7, "standingIn", "(II)I"⟩
abbrev cX7_sumOfAll : ByteArray := prog_9_method_9_code
def yX7_sumOfAll : MethodName := ⟨RX7, "sumOfAll", "()I"⟩
abbrev cX7_shortOrders : ByteArray := prog_9_method_10_code
def yX7_shortOrders : MethodName := ⟨RX7, "shortOrders", "()I"⟩
def RX8 : String := "IceHouse$Text"
def TX8 : u_T := fun k => match k with
  | 0 => ("IceHouse$Text", "most", "I", true)
  | 1 => ("IceHouse$Text", "bytes", "[I", true)
  | _ => ("IceHouse$Text", "length", "I", false)
def tyX8 : Nat → FieldType := fun k => match k with
  | 0 => .int
  | 1 => .array .int
  | _ => .int
abbrev wsX80 : List Cond := u_ws RX8 TX8 3
theorem nmX8 : ∀ a, a < 3 → ∀ b, b < 3 → a ≠ b → (TX8 a).2.1 ≠ (TX8 b).2.1 := by decide +kernel
theorem tyX8_ok : ∀ k, k < 3 → parseFieldDescriptor (TX8 k).2.2.1 = some (tyX8 k) := by decide +kernel
abbrev cX8_init : ByteArray := prog_10_method_1_code
def yX8_init : MethodName := ⟨RX8, "<init>", "(I)V"⟩
abbrev cX8_append : ByteArray := prog_10_method_2_code
def yX8_append : MethodName := ⟨RX8, "append", "(I)V"⟩
def RX9 : String := "IceHouse$Weather"
def TX9 : u_T := fun k => match k with
  | 0 => ("IceHouse$Weather", "strawFrom", "[I", true)
  | 1 => ("IceHouse$Weather", "doorWeeks", "I", false)
  | _ => ("IceHouse$Weather", "thawWeeks", "I", false)
def tyX9 : Nat → FieldType := fun k => match k with
  | 0 => .array .int
  | 1 => .int
  | _ => .int
abbrev wsX90 : List Cond := u_ws RX9 TX9 3
theorem nmX9 : ∀ a, a < 3 → ∀ b, b < 3 → a ≠ b → (TX9 a).2.1 ≠ (TX9 b).2.1 := by decide +kernel
theorem tyX9_ok : ∀ k, k < 3 → parseFieldDescriptor (TX9 k).2.2.1 = some (tyX9 k) := by decide +kernel
abbrev cX9_init : ByteArray := prog_11_method_1_code
def yX9_init : MethodName := ⟨RX9, "<init>", "()V"⟩
abbrev cX9_beCalm : ByteArray := prog_11_method_2_code
def yX9_beCalm : MethodName := ⟨RX9, "beCalm", "()V"⟩
abbrev cX9_happen : ByteArray := prog_11_method_3_code
def yX9_happen : MethodName := ⟨RX9, "happen", "(III)V"⟩
def RX10 : String := "IceHouse"
def TX10 : u_T := fun k => match k with
  | 0 => ("IceHouse", "book", "LIceHouse$Book;", true)
  | 1 => ("IceHouse", "plans", "LIceHouse$Plans;", true)
  | 2 => ("IceHouse", "summer", "LIceHouse$Summer;", true)
  | 3 => ("IceHouse", "sheets", "[LIceHouse$Sheet;", true)
  | 4 => ("IceHouse", "summerIsKnown", "Z", false)
  | _ => ("IceHouse", "finding", "I", false)
def tyX10 : Nat → FieldType := fun k => match k with
  | 0 => .object "IceHouse$Book"
  | 1 => .object "IceHouse$Plans"
  | 2 => .object "IceHouse$Summer"
  | 3 => .array (.object "IceHouse$Sheet")
  | 4 => .boolean
  | _ => .int
abbrev wsX100 : List Cond := u_ws RX10 TX10 6
theorem nmX10 : ∀ a, a < 6 → ∀ b, b < 6 → a ≠ b → (TX10 a).2.1 ≠ (TX10 b).2.1 := by decide +kernel
theorem tyX10_ok : ∀ k, k < 6 → parseFieldDescriptor (TX10 k).2.2.1 = some (tyX10 k) := by decide +kernel
abbrev cX10_init : ByteArray := prog_1_method_1_code
def yX10_init : MethodName := ⟨RX10, "<init>", "()V"⟩
abbrev cX10_type : ByteArray := prog_1_method_2_code
def yX10_type : MethodName := ⟨RX10, "type", "(II)I"⟩
abbrev cX10_wipe : ByteArray := prog_1_method_3_code
def yX10_wipe : MethodName := ⟨RX10, "wipe", "(I)I"⟩
abbrev cX10_undo : ByteArray := prog_1_method_4_code
def yX10_undo : MethodName := ⟨RX10, "undo", "(I)I"⟩
abbrev cX10_fault : ByteArray := prog_1_method_5_code
def yX10_fault : MethodName := ⟨RX10, "fault", "(I)I"⟩
abbrev cX10_told : ByteArray := prog_1_method_6_code
def yX10_told : MethodName := ⟨RX10, "told", "(II)I"⟩
abbrev cX10_order : ByteArray := prog_1_method_7_code
def yX10_order : MethodName := ⟨RX10, "order", "(II)I"⟩
abbrev cX10_event : ByteArray := prog_1_method_8_code
def yX10_event : MethodName := ⟨RX10, "event", "(III)I"⟩
abbrev cX10_back : ByteArray := prog_1_method_9_code
def yX10_back : MethodName := ⟨RX10, "back", "()I"⟩
abbrev cX10_read : ByteArray := prog_1_method_10_code
def yX10_read : MethodName := ⟨RX10, "read", "(I)I"⟩
abbrev cX10_column : ByteArray := prog_1_method_11_code
def yX10_column : MethodName := ⟨RX10, "column", "(III)I"⟩
abbrev cX10_block : ByteArray := prog_1_method_12_code
def yX10_block : MethodName := ⟨RX10, "block", "(III)I"⟩
abbrev cX10_ice : ByteArray := prog_1_method_13_code
def yX10_ice : MethodName := ⟨RX10, "ice", "(II)I"⟩
abbrev cX10_got : ByteArray := prog_1_method_14_code
def yX10_got : MethodName := ⟨RX10, "got", "(II)I"⟩
abbrev cX10_sum : ByteArray := prog_1_method_15_code
def yX10_sum : MethodName := ⟨RX10, "sum", "(I)I"⟩
abbrev cX10_bare : ByteArray := prog_1_method_16_code
def yX10_bare : MethodName := ⟨RX10, "bare", "(I)I"⟩
abbrev cX10_last : ByteArray := prog_1_method_17_code
def yX10_last : MethodName := ⟨RX10, "last", "()I"⟩
abbrev cX10_tall : ByteArray := prog_1_method_18_code
def yX10_tall : MethodName := ⟨RX10, "tall", "()I"⟩
abbrev cX10_drain : ByteArray := prog_1_method_19_code
def yX10_drain : MethodName := ⟨RX10, "drain", "(I)I"⟩
abbrev cX10_cover : ByteArray := prog_1_method_20_code
def yX10_cover : MethodName := ⟨RX10, "cover", "(I)I"⟩
abbrev cX10_swap : ByteArray := prog_1_method_21_code
def yX10_swap : MethodName := ⟨RX10, "swap", "(I)I"⟩
abbrev cX10_later : ByteArray := prog_1_method_22_code
def yX10_later : MethodName := ⟨RX10, "later", "(II)I"⟩
abbrev cX10_spare : ByteArray := prog_1_method_23_code
def yX10_spare : MethodName := ⟨RX10, "spare", "(I)I"⟩
abbrev cX10_seen : ByteArray := prog_1_method_24_code
def yX10_seen : MethodName := ⟨RX10, "seen", "(III)I"⟩
abbrev cX10_forget : ByteArray := prog_1_method_25_code
def yX10_forget : MethodName := ⟨RX10, "forget", "()I"⟩
abbrev cX10_never : ByteArray := prog_1_method_26_code
def yX10_never : MethodName := ⟨RX10, "never", "()I"⟩
abbrev cX10_size : ByteArray := prog_1_method_27_code
def yX10_size : MethodName := ⟨RX10, "size", "(II)I"⟩
abbrev cX10_ask : ByteArray := prog_1_method_28_code
def yX10_ask : MethodName := ⟨RX10, "ask", "(II)I"⟩
abbrev cX10_chance : ByteArray := prog_1_method_29_code
def yX10_chance : MethodName := ⟨RX10, "chance", "(III)J"⟩
abbrev cX10_summers : ByteArray := prog_1_method_30_code
def yX10_summers : MethodName := ⟨RX10, "summers", "(III)I"⟩
abbrev cX10_sheet : ByteArray := prog_1_method_31_code
def yX10_sheet : MethodName := ⟨RX10, "sheet", "(III)I"⟩
abbrev cX10_lose : ByteArray := prog_1_method_32_code
def yX10_lose : MethodName := ⟨RX10, "lose", "(I)I"⟩
abbrev cX10_lay : ByteArray := prog_1_method_33_code
def yX10_lay : MethodName := ⟨RX10, "lay", "(IIII)I"⟩
abbrev cX10_get : ByteArray := prog_1_method_34_code
def yX10_get : MethodName := ⟨RX10, "get", "(III)I"⟩
abbrev cX10_copy : ByteArray := prog_1_method_35_code
def yX10_copy : MethodName := ⟨RX10, "copy", "(IIIII)I"⟩
abbrev cX10_write : ByteArray := prog_1_method_36_code
def yX10_write : MethodName := ⟨RX10, "write", "(II)I"⟩
abbrev cX10_count : ByteArray := prog_1_method_37_code
def yX10_count : MethodName := ⟨RX10, "count", "(I)I"⟩
abbrev cX10_digest : ByteArray := prog_1_method_38_code
def yX10_digest : MethodName := ⟨RX10, "digest", "()J"⟩
abbrev cX10_mixed : ByteArray := prog_1_method_39_code
def yX10_mixed : MethodName := ⟨RX10, "mixed", "(JJ)J"⟩
abbrev cX10_mixedColumn : ByteArray := prog_1_method_40_code
def yX10_mixedColumn : MethodName := ⟨RX10, "mixedColumn", "(JI)J"⟩
abbrev cX10_mixedOrder : ByteArray := prog_1_method_41_code
def yX10_mixedOrder : MethodName := ⟨RX10, "mixedOrder", "(JI)J"⟩
abbrev cX10_mixedPlans : ByteArray := prog_1_method_42_code
def yX10_mixedPlans : MethodName := ⟨RX10, "mixedPlans", "(J)J"⟩
abbrev cX10_outside : ByteArray := prog_1_method_43_code
def yX10_outside : MethodName := ⟨RX10, "outside", "(II)Z"⟩
abbrev cX10_isNoBlock : ByteArray := prog_1_method_44_code
def yX10_isNoBlock : MethodName := ⟨RX10, "isNoBlock", "(II)Z"⟩
abbrev cX10_found : ByteArray := prog_1_method_45_code
def yX10_found : MethodName := ⟨RX10, "found", "(I)I"⟩
abbrev cX10_noteChangedText : ByteArray := prog_1_method_46_code
def yX10_noteChangedText : MethodName := ⟨RX10, "noteChangedText", "(I)V"⟩
abbrev cX10_noteChange : ByteArray := prog_1_method_47_code
def yX10_noteChange : MethodName := ⟨RX10, "noteChange", "()V"⟩
abbrev cX10_toldSummer : ByteArray := prog_1_method_48_code
def yX10_toldSummer : MethodName := ⟨RX10, "toldSummer", "()LIceHouse$Summer;"⟩
def RX11 : String := "IceHouseModel"
def TX11 : u_T := fun k => match k with
  | 0 => ("IceHouseModel", "forms", "[I", true)
  | 1 => ("IceHouseModel", "sizes", "[I", true)
  | 2 => ("IceHouseModel", "items", "[I", true)
  | 3 => ("IceHouseModel", "moved", "[I", true)
  | 4 => ("IceHouseModel", "latest", "I", false)
  | 5 => ("IceHouseModel", "bytes", "[I", true)
  | 6 => ("IceHouseModel", "typed", "[I", true)
  | 7 => ("IceHouseModel", "toldHigh", "[I", true)
  | 8 => ("IceHouseModel", "toldBlock", "[I", true)
  | 9 => ("IceHouseModel", "orders", "I", false)
  | 10 => ("IceHouseModel", "order", "[I", true)
  | 11 => ("IceHouseModel", "events", "I", false)
  | 12 => ("IceHouseModel", "event", "[I", true)
  | 13 => ("IceHouseModel", "gone", "I", false)
  | 14 => ("IceHouseModel", "covered", "I", false)
  | 15 => ("IceHouseModel", "swapA", "I", false)
  | 16 => ("IceHouseModel", "swapB", "I", false)
  | 17 => ("IceHouseModel", "high", "[I", true)
  | 18 => ("IceHouseModel", "block", "[I", true)
  | 19 => ("IceHouseModel", "melts", "[I", true)
  | 20 => ("IceHouseModel", "has", "[I", true)
  | 21 => ("IceHouseModel", "highBy", "[I", true)
  | 22 => ("IceHouseModel", "blockBy", "[I", true)
  | 23 => ("IceHouseModel", "waterBy", "[I", true)
  | 24 => ("IceHouseModel", "sights", "I", false)
  | 25 => ("IceHouseModel", "sight", "[I", true)
  | 26 => ("IceHouseModel", "rows", "[I", true)
  | 27 => ("IceHouseModel", "drawn", "I", false)
  | _ => ("IceHouseModel", "kept", "[I", true)
def tyX11 : Nat → FieldType := fun k => match k with
  | 0 => .array .int
  | 1 => .array .int
  | 2 => .array .int
  | 3 => .array .int
  | 4 => .int
  | 5 => .array .int
  | 6 => .array .int
  | 7 => .array .int
  | 8 => .array .int
  | 9 => .int
  | 10 => .array .int
  | 11 => .int
  | 12 => .array .int
  | 13 => .int
  | 14 => .int
  | 15 => .int
  | 16 => .int
  | 17 => .array .int
  | 18 => .array .int
  | 19 => .array .int
  | 20 => .array .int
  | 21 => .array .int
  | 22 => .array .int
  | 23 => .array .int
  | 24 => .int
  | 25 => .array .int
  | 26 => .array .int
  | 27 => .int
  | _ => .array .int
abbrev wsX110 : List Cond := u_ws RX11 TX11 29
theorem nmX11 : ∀ a, a < 29 → ∀ b, b < 29 → a ≠ b → (TX11 a).2.1 ≠ (TX11 b).2.1 := by decide +kernel
theorem tyX11_ok : ∀ k, k < 29 → parseFieldDescriptor (TX11 k).2.2.1 = some (tyX11 k) := by decide +kernel
abbrev cX11_init : ByteArray := prog_13_method_1_code
def yX11_init : MethodName := ⟨RX11, "<init>", "()V"⟩
abbrev cX11_in : ByteArray := prog_13_method_3_code
def yX11_in : MethodName := ⟨RX11, "in", "(JJJ)Z"⟩
abbrev cX11_no : ByteArray := prog_13_method_4_code
def yX11_no : MethodName := ⟨RX11, "no", "(I)J"⟩
abbrev cX11_isTwo : ByteArray := prog_13_method_5_code
def yX11_isTwo : MethodName := ⟨RX11, "isTwo", "(I)Z"⟩
abbrev cX11_isIn : ByteArray := prog_13_method_6_code
def yX11_isIn : MethodName := ⟨RX11, "isIn", "(II)Z"⟩
abbrev cX11_lesser : ByteArray := prog_13_method_7_code
def yX11_lesser : MethodName := ⟨RX11, "lesser", "(II)I"⟩
abbrev cX11_greater : ByteArray := prog_13_method_8_code
def yX11_greater : MethodName := ⟨RX11, "greater", "(II)I"⟩
abbrev cX11_part : ByteArray := prog_13_method_9_code
def yX11_part : MethodName := ⟨RX11, "part", "(JJI)J"⟩
abbrev cX11_finds : ByteArray := prog_13_method_10_code
def yX11_finds : MethodName := ⟨RX11, "finds", "(I)I"⟩
abbrev cX11_isSheet : ByteArray := prog_13_method_11_code
def yX11_isSheet : MethodName := ⟨RX11, "isSheet", "(I)Z"⟩
abbrev cX11_sheet : ByteArray := prog_13_method_12_code
def yX11_sheet : MethodName := ⟨RX11, "sheet", "(III)I"⟩
abbrev cX11_lose : ByteArray := prog_13_method_13_code
def yX11_lose : MethodName := ⟨RX11, "lose", "(I)I"⟩
abbrev cX11_lacks : ByteArray := prog_13_method_14_code
def yX11_lacks : MethodName := ⟨RX11, "lacks", "(III)I"⟩
abbrev cX11_cut : ByteArray := prog_13_method_15_code
def yX11_cut : MethodName := ⟨RX11, "cut", "(II)I"⟩
abbrev cX11_lay : ByteArray := prog_13_method_16_code
def yX11_lay : MethodName := ⟨RX11, "lay", "(IIII)I"⟩
abbrev cX11_get : ByteArray := prog_13_method_17_code
def yX11_get : MethodName := ⟨RX11, "get", "(III)I"⟩
abbrev cX11_copy : ByteArray := prog_13_method_18_code
def yX11_copy : MethodName := ⟨RX11, "copy", "(IIIII)I"⟩
abbrev cX11_type : ByteArray := prog_13_method_19_code
def yX11_type : MethodName := ⟨RX11, "type", "(II)I"⟩
abbrev cX11_wipe : ByteArray := prog_13_method_20_code
def yX11_wipe : MethodName := ⟨RX11, "wipe", "(I)I"⟩
abbrev cX11_undo : ByteArray := prog_13_method_21_code
def yX11_undo : MethodName := ⟨RX11, "undo", "(I)I"⟩
abbrev cX11_bares : ByteArray := prog_13_method_22_code
def yX11_bares : MethodName := ⟨RX11, "bares", "()V"⟩
abbrev cX11_readsBlocks : ByteArray := prog_13_method_23_code
def yX11_readsBlocks : MethodName := ⟨RX11, "readsBlocks", "()I"⟩
abbrev cX11_orderOf : ByteArray := prog_13_method_24_code
def yX11_orderOf : MethodName := ⟨RX11, "orderOf", "(II)I"⟩
abbrev cX11_readsOrders : ByteArray := prog_13_method_25_code
def yX11_readsOrders : MethodName := ⟨RX11, "readsOrders", "()I"⟩
abbrev cX11_readsText : ByteArray := prog_13_method_26_code
def yX11_readsText : MethodName := ⟨RX11, "readsText", "(I)I"⟩
abbrev cX11_fault : ByteArray := prog_13_method_27_code
def yX11_fault : MethodName := ⟨RX11, "fault", "(I)I"⟩
abbrev cX11_isColumn : ByteArray := prog_13_method_28_code
def yX11_isColumn : MethodName := ⟨RX11, "isColumn", "(I)Z"⟩
abbrev cX11_isOrder : ByteArray := prog_13_method_29_code
def yX11_isOrder : MethodName := ⟨RX11, "isOrder", "(I)Z"⟩
abbrev cX11_isWeek : ByteArray := prog_13_method_30_code
def yX11_isWeek : MethodName := ⟨RX11, "isWeek", "(I)Z"⟩
abbrev cX11_toldAt : ByteArray := prog_13_method_31_code
def yX11_toldAt : MethodName := ⟨RX11, "toldAt", "(II)I"⟩
abbrev cX11_told : ByteArray := prog_13_method_32_code
def yX11_told : MethodName := ⟨RX11, "told", "(II)I"⟩
abbrev cX11_order : ByteArray := prog_13_method_33_code
def yX11_order : MethodName := ⟨RX11, "order", "(II)I"⟩
abbrev cX11_keeps : ByteArray := prog_13_method_34_code
def yX11_keeps : MethodName := ⟨RX11, "keeps", "(III)V"⟩
abbrev cX11_event : ByteArray := prog_13_method_35_code
def yX11_event : MethodName := ⟨RX11, "event", "(III)I"⟩
abbrev cX11_back : ByteArray := prog_13_method_36_code
def yX11_back : MethodName := ⟨RX11, "back", "()I"⟩
abbrev cX11_read : ByteArray := prog_13_method_37_code
def yX11_read : MethodName := ⟨RX11, "read", "(I)I"⟩
abbrev cX11_isTold : ByteArray := prog_13_method_38_code
def yX11_isTold : MethodName := ⟨RX11, "isTold", "(II)Z"⟩
abbrev cX11_strawBy : ByteArray := prog_13_method_39_code
def yX11_strawBy : MethodName := ⟨RX11, "strawBy", "(I)I"⟩
abbrev cX11_topOf : ByteArray := prog_13_method_40_code
def yX11_topOf : MethodName := ⟨RX11, "topOf", "(I)I"⟩
abbrev cX11_greatest : ByteArray := prog_13_method_41_code
def yX11_greatest : MethodName := ⟨RX11, "greatest", "()I"⟩
abbrev cX11_serves : ByteArray := prog_13_method_42_code
def yX11_serves : MethodName := ⟨RX11, "serves", "(I)V"⟩
abbrev cX11_freeOf : ByteArray := prog_13_method_43_code
def yX11_freeOf : MethodName := ⟨RX11, "freeOf", "(III)I"⟩
abbrev cX11_melting : ByteArray := prog_13_method_44_code
def yX11_melting : MethodName := ⟨RX11, "melting", "(I)V"⟩
abbrev cX11_passes : ByteArray := prog_13_method_45_code
def yX11_passes : MethodName := ⟨RX11, "passes", "(I)V"⟩
abbrev cX11_lives : ByteArray := prog_13_method_46_code
def yX11_lives : MethodName := ⟨RX11, "lives", "()V"⟩
abbrev cX11_find : ByteArray := prog_13_method_47_code
def yX11_find : MethodName := ⟨RX11, "find", "()V"⟩
abbrev cX11_standsIn : ByteArray := prog_13_method_48_code
def yX11_standsIn : MethodName := ⟨RX11, "standsIn", "(II)I"⟩
abbrev cX11_columnBy : ByteArray := prog_13_method_49_code
def yX11_columnBy : MethodName := ⟨RX11, "columnBy", "(III)I"⟩
abbrev cX11_column : ByteArray := prog_13_method_50_code
def yX11_column : MethodName := ⟨RX11, "column", "(III)I"⟩
abbrev cX11_block : ByteArray := prog_13_method_51_code
def yX11_block : MethodName := ⟨RX11, "block", "(III)I"⟩
abbrev cX11_allIce : ByteArray := prog_13_method_52_code
def yX11_allIce : MethodName := ⟨RX11, "allIce", "(I)I"⟩
abbrev cX11_iceBy : ByteArray := prog_13_method_53_code
def yX11_iceBy : MethodName := ⟨RX11, "iceBy", "(II)I"⟩
abbrev cX11_ice : ByteArray := prog_13_method_54_code
def yX11_ice : MethodName := ⟨RX11, "ice", "(II)I"⟩
abbrev cX11_isShort : ByteArray := prog_13_method_55_code
def yX11_isShort : MethodName := ⟨RX11, "isShort", "(I)Z"⟩
abbrev cX11_gotBy : ByteArray := prog_13_method_56_code
def yX11_gotBy : MethodName := ⟨RX11, "gotBy", "(II)I"⟩
abbrev cX11_got : ByteArray := prog_13_method_57_code
def yX11_got : MethodName := ⟨RX11, "got", "(II)I"⟩
abbrev cX11_sumBy : ByteArray := prog_13_method_58_code
def yX11_sumBy : MethodName := ⟨RX11, "sumBy", "(I)I"⟩
abbrev cX11_sum : ByteArray := prog_13_method_59_code
def yX11_sum : MethodName := ⟨RX11, "sum", "(I)I"⟩
abbrev cX11_bareOf : ByteArray := prog_13_method_60_code
def yX11_bareOf : MethodName := ⟨RX11, "bareOf", "(I)I"⟩
abbrev cX11_bare : ByteArray := prog_13_method_61_code
def yX11_bare : MethodName := ⟨RX11, "bare", "(I)I"⟩
abbrev cX11_lastNow : ByteArray := prog_13_method_62_code
def yX11_lastNow : MethodName := ⟨RX11, "lastNow", "()I"⟩
abbrev cX11_last : ByteArray := prog_13_method_63_code
def yX11_last : MethodName := ⟨RX11, "last", "()I"⟩
abbrev cX11_tallNow : ByteArray := prog_13_method_64_code
def yX11_tallNow : MethodName := ⟨RX11, "tallNow", "()I"⟩
abbrev cX11_tall : ByteArray := prog_13_method_65_code
def yX11_tall : MethodName := ⟨RX11, "tall", "()I"⟩
abbrev cX11_drainBy : ByteArray := prog_13_method_66_code
def yX11_drainBy : MethodName := ⟨RX11, "drainBy", "(I)I"⟩
abbrev cX11_drain : ByteArray := prog_13_method_67_code
def yX11_drain : MethodName := ⟨RX11, "drain", "(I)I"⟩
abbrev cX11_coverBy : ByteArray := prog_13_method_68_code
def yX11_coverBy : MethodName := ⟨RX11, "coverBy", "(I)I"⟩
abbrev cX11_cover : ByteArray := prog_13_method_69_code
def yX11_cover : MethodName := ⟨RX11, "cover", "(I)I"⟩
abbrev cX11_swapBy : ByteArray := prog_13_method_70_code
def yX11_swapBy : MethodName := ⟨RX11, "swapBy", "(I)I"⟩
abbrev cX11_swap : ByteArray := prog_13_method_71_code
def yX11_swap : MethodName := ⟨RX11, "swap", "(I)I"⟩
abbrev cX11_laterOf : ByteArray := prog_13_method_72_code
def yX11_laterOf : MethodName := ⟨RX11, "laterOf", "(II)I"⟩
abbrev cX11_later : ByteArray := prog_13_method_73_code
def yX11_later : MethodName := ⟨RX11, "later", "(II)I"⟩
abbrev cX11_isSpared : ByteArray := prog_13_method_74_code
def yX11_isSpared : MethodName := ⟨RX11, "isSpared", "(I)Z"⟩
abbrev cX11_spareBy : ByteArray := prog_13_method_75_code
def yX11_spareBy : MethodName := ⟨RX11, "spareBy", "(I)I"⟩
abbrev cX11_spare : ByteArray := prog_13_method_76_code
def yX11_spare : MethodName := ⟨RX11, "spare", "(I)I"⟩
abbrev cX11_seen : ByteArray := prog_13_method_77_code
def yX11_seen : MethodName := ⟨RX11, "seen", "(III)I"⟩
abbrev cX11_forget : ByteArray := prog_13_method_78_code
def yX11_forget : MethodName := ⟨RX11, "forget", "()I"⟩
abbrev cX11_isSeen : ByteArray := prog_13_method_79_code
def yX11_isSeen : MethodName := ⟨RX11, "isSeen", "()Z"⟩
abbrev cX11_neverNow : ByteArray := prog_13_method_80_code
def yX11_neverNow : MethodName := ⟨RX11, "neverNow", "()I"⟩
abbrev cX11_never : ByteArray := prog_13_method_81_code
def yX11_never : MethodName := ⟨RX11, "never", "()I"⟩
abbrev cX11_rowOf : ByteArray := prog_13_method_82_code
def yX11_rowOf : MethodName := ⟨RX11, "rowOf", "(I)I"⟩
abbrev cX11_isBlock : ByteArray := prog_13_method_83_code
def yX11_isBlock : MethodName := ⟨RX11, "isBlock", "(II)Z"⟩
abbrev cX11_sizeOf : ByteArray := prog_13_method_84_code
def yX11_sizeOf : MethodName := ⟨RX11, "sizeOf", "(II)I"⟩
abbrev cX11_size : ByteArray := prog_13_method_85_code
def yX11_size : MethodName := ⟨RX11, "size", "(II)I"⟩
abbrev cX11_alike : ByteArray := prog_13_method_86_code
def yX11_alike : MethodName := ⟨RX11, "alike", "(II)I"⟩
abbrev cX11_askOf : ByteArray := prog_13_method_87_code
def yX11_askOf : MethodName := ⟨RX11, "askOf", "(II)I"⟩
abbrev cX11_ask : ByteArray := prog_13_method_88_code
def yX11_ask : MethodName := ⟨RX11, "ask", "(II)I"⟩
abbrev cX11_chanceOf : ByteArray := prog_13_method_89_code
def yX11_chanceOf : MethodName := ⟨RX11, "chanceOf", "(III)J"⟩
abbrev cX11_chance : ByteArray := prog_13_method_90_code
def yX11_chance : MethodName := ⟨RX11, "chance", "(III)J"⟩
abbrev cX11_lot : ByteArray := prog_13_method_91_code
def yX11_lot : MethodName := ⟨RX11, "lot", "(I)I"⟩
abbrev cX11_summersOf : ByteArray := prog_13_method_92_code
def yX11_summersOf : MethodName := ⟨RX11, "summersOf", "(III)I"⟩
abbrev cX11_summers : ByteArray := prog_13_method_93_code
def yX11_summers : MethodName := ⟨RX11, "summers", "(III)I"⟩
abbrev cX11_write : ByteArray := prog_13_method_94_code
def yX11_write : MethodName := ⟨RX11, "write", "(II)I"⟩
abbrev cX11_manyBlocks : ByteArray := prog_13_method_95_code
def yX11_manyBlocks : MethodName := ⟨RX11, "manyBlocks", "()I"⟩
abbrev cX11_count : ByteArray := prog_13_method_96_code
def yX11_count : MethodName := ⟨RX11, "count", "(I)I"⟩
abbrev cX11_tellsColumn : ByteArray := prog_13_method_97_code
def yX11_tellsColumn : MethodName := ⟨RX11, "tellsColumn", "(JI)J"⟩
abbrev cX11_tellsOrder : ByteArray := prog_13_method_98_code
def yX11_tellsOrder : MethodName := ⟨RX11, "tellsOrder", "(JI)J"⟩
abbrev cX11_digest : ByteArray := prog_13_method_99_code
def yX11_digest : MethodName := ⟨RX11, "digest", "()J"⟩
def RJ6 : String := "java/lang/Integer"
def TJ6 : u_T := fun k => match k with
  | _ => ("", "", "", false)
def tyJ6 : Nat → FieldType := fun k => match k with
  | _ => .int
abbrev wsJ60 : List Cond := u_ws RJ6 TJ6 0
theorem nmJ6 : ∀ a, a < 0 → ∀ b, b < 0 → a ≠ b → (TJ6 a).2.1 ≠ (TJ6 b).2.1 := by decide +kernel
theorem tyJ6_ok : ∀ k, k < 0 → parseFieldDescriptor (TJ6 k).2.2.1 = some (tyJ6 k) := by decide +kernel
abbrev cJ6_bitCount_0f7a4 : ByteArray := prog_14_method_49_code
def yJ6_bitCount_0f7a4 : MethodName := ⟨RJ6, "bitCount", "(I)I"⟩
def RJ9 : String := "java/lang/Math"
def TJ9 : u_T := fun k => match k with
  | _ => ("", "", "", false)
def tyJ9 : Nat → FieldType := fun k => match k with
  | _ => .int
abbrev wsJ90 : List Cond := u_ws RJ9 TJ9 0
theorem nmJ9 : ∀ a, a < 0 → ∀ b, b < 0 → a ≠ b → (TJ9 a).2.1 ≠ (TJ9 b).2.1 := by decide +kernel
theorem tyJ9_ok : ∀ k, k < 0 → parseFieldDescriptor (TJ9 k).2.2.1 = some (tyJ9 k) := by decide +kernel
abbrev cJ9_max_7cf53 : ByteArray := prog_15_method_65_code
def yJ9_max_7cf53 : MethodName := ⟨RJ9, "max", "(II)I"⟩
abbrev cJ9_min_7cf53 : ByteArray := prog_15_method_69_code
def yJ9_min_7cf53 : MethodName := ⟨RJ9, "min", "(II)I"⟩
def RJ10 : String := "java/lang/System"
def TJ10 : u_T := fun k => match k with
  | _ => ("", "", "", false)
def tyJ10 : Nat → FieldType := fun k => match k with
  | _ => .int
abbrev wsJ100 : List Cond := u_ws RJ10 TJ10 0
theorem nmJ10 : ∀ a, a < 0 → ∀ b, b < 0 → a ≠ b → (TJ10 a).2.1 ≠ (TJ10 b).2.1 := by decide +kernel
theorem tyJ10_ok : ∀ k, k < 0 → parseFieldDescriptor (TJ10 k).2.2.1 = some (tyJ10 k) := by decide +kernel
def RJ7 : String := "java/util/Arrays"
def TJ7 : u_T := fun k => match k with
  | _ => ("", "", "", false)
def tyJ7 : Nat → FieldType := fun k => match k with
  | _ => .int
abbrev wsJ70 : List Cond := u_ws RJ7 TJ7 0
theorem nmJ7 : ∀ a, a < 0 → ∀ b, b < 0 → a ≠ b → (TJ7 a).2.1 ≠ (TJ7 b).2.1 := by decide +kernel
theorem tyJ7_ok : ∀ k, k < 0 → parseFieldDescriptor (TJ7 k).2.2.1 = some (tyJ7 k) := by decide +kernel
abbrev cJ7_fill_53178 : ByteArray := prog_17_method_103_code
def yJ7_fill_53178 : MethodName := ⟨RJ7, "fill", "([II)V"⟩
def RL : String := "IceHouseLaw"
abbrev cL_law : ByteArray := code
def yL_law : MethodName := ⟨RL, "law", "([I)Z"⟩
end
section
/-! the program as tables: written by wip/whole/gen.py out of the printed names -/
abbrev Op : Type := Instr × Nat × Nat × Nat
abbrev Kd : Type := Nat ⊕ (List Nat ⊕ (Nat × List (Nat × Nat × Nat)))
def NC : Nat := 83
def shL : List Kd := [
  .inr (.inr (10, [(0, 1, 0), (0, 20, 0), (0, 38, 0), (0, 53, 0), (2, 4, 0), (1, 5, 0)])),
  .inr (.inr (0, [(0, 2, 0), (0, 4, 0), (0, 6, 0), (0, 9, 0), (0, 12, 0), (0, 16, 0), (1, 6, 0), (1, 7, 0)])),
  .inr (.inr (8, [(1, 0, 0), (0, 3, 0), (1, 2, 0)])),
  .inl 41,
  .inr (.inr (8, [(1, 0, 0), (0, 5, 0), (1, 2, 0)])),
  .inl 41,
  .inr (.inr (6, [(0, 7, 0), (0, 8, 0)])),
  .inl 36,
  .inl 6,
  .inr (.inr (2, [(0, 10, 0), (0, 11, 0), (1, 2, 0)])),
  .inl 12,
  .inl 12,
  .inr (.inr (1, [(0, 13, 0), (0, 14, 0), (0, 15, 0), (1, 3, 0)])),
  .inl 8,
  .inl 8,
  .inl 8,
  .inr (.inr (4, [(0, 17, 0), (0, 18, 0), (0, 19, 0), (1, 3, 0)])),
  .inl 8,
  .inl 8,
  .inl 8,
  .inr (.inr (3, [(0, 1, 0), (0, 21, 0), (0, 36, 0), (0, 37, 0), (2, 4, 0), (1, 5, 0), (1, 6, 0), (1, 7, 0), (3, 8, 108), (3, 9, 109)])),
  .inr (.inr (7, [(0, 22, 0), (0, 25, 0), (0, 28, 0), (0, 30, 0), (0, 31, 0), (0, 32, 0), (0, 33, 0), (0, 35, 0), (2, 8, 0), (0, 34, 0), (1, 10, 0)])),
  .inr (.inr (6, [(0, 23, 0), (0, 24, 0)])),
  .inl 36,
  .inl 6,
  .inr (.inr (2, [(0, 26, 0), (0, 27, 0), (1, 2, 0)])),
  .inl 12,
  .inl 12,
  .inr (.inr (9, [(0, 29, 0), (1, 1, 0), (1, 2, 0)])),
  .inl 6,
  .inl 12,
  .inl 24,
  .inl 24,
  .inl 24,
  .inl 6,
  .inl 0,
  .inl 256,
  .inl 216,
  .inr (.inr (7, [(0, 39, 0), (0, 42, 0), (0, 45, 0), (0, 47, 0), (0, 48, 0), (0, 49, 0), (0, 50, 0), (0, 52, 0), (2, 8, 0), (0, 51, 0), (1, 10, 0)])),
  .inr (.inr (6, [(0, 40, 0), (0, 41, 0)])),
  .inl 36,
  .inl 6,
  .inr (.inr (2, [(0, 43, 0), (0, 44, 0), (1, 2, 0)])),
  .inl 12,
  .inl 12,
  .inr (.inr (9, [(0, 46, 0), (1, 1, 0), (1, 2, 0)])),
  .inl 6,
  .inl 12,
  .inl 24,
  .inl 24,
  .inl 24,
  .inl 6,
  .inl 864,
  .inr (.inl [54, 56, 58, 60]),
  .inr (.inr (5, [(0, 55, 0), (1, 1, 0), (1, 2, 0)])),
  .inl 60,
  .inr (.inr (5, [(0, 57, 0), (1, 1, 0), (1, 2, 0)])),
  .inl 60,
  .inr (.inr (5, [(0, 59, 0), (1, 1, 0), (1, 2, 0)])),
  .inl 60,
  .inr (.inr (5, [(0, 61, 0), (1, 1, 0), (1, 2, 0)])),
  .inl 60,
  .inr (.inr (11, [(0, 63, 0), (0, 64, 0), (0, 65, 0), (0, 66, 0), (1, 4, 0), (0, 67, 0), (0, 68, 0), (0, 69, 0), (0, 70, 0), (1, 9, 0), (0, 71, 0), (1, 11, 0), (0, 72, 0), (1, 13, 0), (1, 14, 0), (1, 15, 0), (1, 16, 0), (0, 73, 0), (0, 74, 0), (0, 75, 0), (0, 76, 0), (0, 77, 0), (0, 78, 0), (0, 79, 0), (1, 24, 0), (0, 80, 0), (0, 81, 0), (1, 27, 0), (0, 82, 0)])),
  .inl 4,
  .inl 4,
  .inl 240,
  .inl 60,
  .inl 84,
  .inl 2,
  .inl 6,
  .inl 36,
  .inl 24,
  .inl 24,
  .inl 6,
  .inl 36,
  .inl 36,
  .inl 12,
  .inl 144,
  .inl 864,
  .inl 24,
  .inl 24,
  .inl 240,
  .inl 24]
def sh (c : Nat) : Option Kd := shL[c]?
-- 0: X0_textOf
def bt_0 : List (List Op × Nat) := [
  ([(.iload_n 1, 1, 0, 0), (.ifCond .ne 10, 1, 0, 0), (.aload_n 0, 0, 0, 0), (.getfield 14, 0, 0, 0), (.goto 7, 2, 0, 0)], 0),
  ([(.aload_n 0, 0, 0, 0), (.getfield 20, 0, 1, 0)], 2),
  ([(.areturn, 0, 0, 0)], 0)]
-- 1: X0_parseBlocks
def bt_1 : List (List Op × Nat) := [
  ([(.aload_n 0, 0, 0, 0), (.getfield 26, 0, 2, 0), (.invokevirtual 58, 31, 0, 6), (.aload_n 0, 0, 0, 0), (.aload_n 0, 0, 0, 0), (.invokevirtual 61, 2, 0, 0), (.putfield 51, 0, 6, 0), (.aload_n 0, 0, 0, 0), (.getfield 51, 0, 6, 0), (.iconst (-1), 1, 1, 0), (.if_icmp .eq 10, 1, 0, 0), (.aload_n 0, 0, 0, 0), (.getfield 26, 0, 2, 0), (.invokevirtual 58, 31, 0, 6)], 1),
  ([(.return_, 0, 0, 0)], 0)]
-- 2: X0_placeBlocks
def bt_2 : List (List Op × Nat) := [
  ([(.iconst 0, 0, 0, 0), (.istore_n 1, 1, 0, 0), (.iconst 0, 0, 0, 0), (.istore_n 2, 2, 0, 0)], 1),
  ([(.iload_n 2, 2, 0, 0), (.aload_n 0, 0, 0, 0), (.getfield 14, 0, 0, 0), (.getfield 65, 8, 2, 0), (.if_icmp .ge 74, 5, 0, 0), (.aload_n 0, 0, 0, 0), (.getfield 14, 0, 0, 0), (.getfield 68, 8, 1, 0), (.iload_n 2, 2, 0, 0), (.iaload, 0, 0, 0), (.istore_n 3, 3, 0, 0), (.iload_n 3, 3, 0, 0), (.bipush 59, 59, 0, 0), (.if_icmp .ne 14, 2, 0, 0), (.iload_n 1, 1, 0, 0), (.iconst 5, 5, 0, 0), (.if_icmp .ge 9, 2, 0, 0), (.iinc 1 1, 1, 1, 0), (.goto 41, 4, 0, 0)], 0),
  ([(.iload_n 3, 3, 0, 0), (.invokestatic 72, 5, 1, 0), (.ifCond .eq 32, 3, 0, 0), (.aload_n 0, 0, 0, 0), (.getfield 26, 0, 2, 0), (.getfield 76, 6, 1, 0), (.iload_n 1, 1, 0, 0), (.iaload, 0, 0, 0), (.bipush 6, 6, 0, 0), (.if_icmp .ge 18, 3, 0, 0), (.aload_n 0, 0, 0, 0), (.getfield 26, 0, 2, 0), (.iload_n 1, 1, 0, 0), (.iload_n 3, 3, 0, 0), (.bipush 48, 48, 0, 0), (.isub, 0, 0, 0), (.invokevirtual 79, 33, 2, 6), (.goto 5, 4, 0, 0)], 0),
  ([(.iload_n 2, 2, 0, 0), (.ireturn, 0, 0, 0)], 0),
  ([(.iinc 2 1, 2, 1, 0), (.goto (-79), 1, 0, 0)], 0),
  ([(.iconst (-1), 1, 1, 0), (.ireturn, 0, 0, 0)], 0)]
-- 3: X0_parseOrders
def bt_3 : List (List Op × Nat) := [
  ([(.aload_n 0, 0, 0, 0), (.getfield 33, 0, 3, 0), (.iconst 0, 0, 0, 0), (.putfield 83, 2, 2, 0), (.aload_n 0, 0, 0, 0), (.aload_n 0, 0, 0, 0), (.invokevirtual 86, 4, 0, 0), (.putfield 55, 0, 7, 0), (.aload_n 0, 0, 0, 0), (.getfield 55, 0, 7, 0), (.iconst (-1), 1, 1, 0), (.if_icmp .eq 11, 1, 0, 0), (.aload_n 0, 0, 0, 0), (.getfield 33, 0, 3, 0), (.iconst 0, 0, 0, 0), (.putfield 83, 2, 2, 0)], 1),
  ([(.return_, 0, 0, 0)], 0)]
-- 4: X0_placeOrders
def bt_4 : List (List Op × Nat) := [
  ([(.aload_n 0, 0, 0, 0), (.getfield 20, 0, 1, 0), (.getfield 65, 8, 2, 0), (.istore_n 1, 1, 0, 0), (.iconst 0, 0, 0, 0), (.istore_n 2, 2, 0, 0)], 1),
  ([(.iload_n 2, 2, 0, 0), (.iload_n 1, 1, 0, 0), (.if_icmp .ge 149, 6, 0, 0), (.aload_n 0, 0, 0, 0), (.getfield 20, 0, 1, 0), (.getfield 68, 8, 1, 0), (.iload_n 2, 2, 0, 0), (.iaload, 0, 0, 0), (.istore_n 3, 3, 0, 0), (.iload_n 2, 2, 0, 0), (.iconst 3, 3, 0, 0), (.irem, 0, 0, 0), (.istore 4, 4, 0, 0), (.iload 4, 4, 0, 0), (.ifCond .ne 49, 2, 0, 0), (.iload_n 3, 3, 0, 0), (.bipush 97, 97, 0, 0), (.if_icmp .lt 43, 2, 0, 0), (.iload_n 3, 3, 0, 0), (.bipush 120, 120, 0, 0), (.if_icmp .gt 37, 2, 0, 0), (.aload_n 0, 0, 0, 0), (.getfield 33, 0, 3, 0), (.getfield 83, 2, 2, 0), (.bipush 12, 12, 0, 0), (.if_icmp .ge 25, 2, 0, 0), (.aload_n 0, 0, 0, 0), (.getfield 33, 0, 3, 0), (.getfield 89, 2, 0, 0), (.aload_n 0, 0, 0, 0), (.getfield 33, 0, 3, 0), (.getfield 83, 2, 2, 0), (.iload_n 3, 3, 0, 0), (.bipush 97, 97, 0, 0), (.isub, 0, 0, 0), (.iastore, 0, 0, 0), (.goto 77, 5, 0, 0)], 0),
  ([(.iload 4, 4, 0, 0), (.iconst 1, 1, 0, 0), (.if_icmp .ne 57, 3, 0, 0), (.iload_n 3, 3, 0, 0), (.invokestatic 72, 5, 1, 0), (.ifCond .eq 50, 3, 0, 0), (.aload_n 0, 0, 0, 0), (.getfield 33, 0, 3, 0), (.getfield 83, 2, 2, 0), (.bipush 12, 12, 0, 0), (.if_icmp .ge 38, 3, 0, 0), (.aload_n 0, 0, 0, 0), (.getfield 33, 0, 3, 0), (.getfield 92, 2, 1, 0), (.aload_n 0, 0, 0, 0), (.getfield 33, 0, 3, 0), (.getfield 83, 2, 2, 0), (.iload_n 3, 3, 0, 0), (.bipush 48, 48, 0, 0), (.isub, 0, 0, 0), (.iastore, 0, 0, 0), (.aload_n 0, 0, 0, 0), (.getfield 33, 0, 3, 0), (.dup, 0, 0, 0), (.getfield 83, 2, 2, 0), (.iconst 1, 1, 0, 0), (.iadd, 0, 0, 0), (.putfield 83, 2, 2, 0), (.goto 17, 5, 0, 0)], 0),
  ([(.iload 4, 4, 0, 0), (.iconst 2, 2, 0, 0), (.if_icmp .ne 9, 4, 0, 0), (.iload_n 3, 3, 0, 0), (.bipush 59, 59, 0, 0), (.if_icmp .eq 5, 5, 0, 0)], 4),
  ([(.iload_n 2, 2, 0, 0), (.ireturn, 0, 0, 0)], 0),
  ([(.iinc 2 1, 2, 1, 0), (.goto (-148), 1, 0, 0)], 0),
  ([(.iload_n 1, 1, 0, 0), (.ifCond .eq 10, 7, 0, 0), (.iload_n 1, 1, 0, 0), (.iconst 3, 3, 0, 0), (.irem, 0, 0, 0), (.iconst 2, 2, 0, 0), (.if_icmp .ne 7, 8, 0, 0)], 7),
  ([(.iconst (-1), 1, 1, 0), (.goto 4, 9, 0, 0)], 0),
  ([(.iload_n 1, 1, 0, 0)], 9),
  ([(.ireturn, 0, 0, 0)], 0)]
-- 5: X0_isFigure
def bt_5 : List (List Op × Nat) := [
  ([(.iload_n 0, 0, 0, 0), (.bipush 49, 49, 0, 0), (.if_icmp .lt 13, 1, 0, 0), (.iload_n 0, 0, 0, 0), (.bipush 57, 57, 0, 0), (.if_icmp .gt 7, 1, 0, 0), (.iconst 1, 1, 0, 0), (.goto 4, 2, 0, 0)], 0),
  ([(.iconst 0, 0, 0, 0)], 2),
  ([(.ireturn, 1, 0, 0)], 0)]
-- 6: X1_mayBe
def bt_6 : List (List Op × Nat) := [
  ([(.iload_n 0, 0, 0, 0), (.iconst 2, 2, 0, 0), (.invokestatic 21, 93, 2, 1), (.ifCond .ne 24, 1, 0, 0), (.iload_n 1, 1, 0, 0), (.bipush 23, 23, 0, 0), (.invokestatic 21, 93, 2, 1), (.ifCond .ne 15, 1, 0, 0), (.iload_n 2, 2, 0, 0), (.iconst 5, 5, 0, 0), (.invokestatic 21, 93, 2, 1), (.ifCond .ne 7, 1, 0, 0), (.iconst 1, 1, 0, 0), (.goto 4, 2, 0, 0)], 0),
  ([(.iconst 0, 0, 0, 0)], 2),
  ([(.ireturn, 1, 0, 0)], 0)]
-- 7: X1_append
def bt_7 : List (List Op × Nat) := [
  ([(.aload_n 0, 0, 0, 0), (.getfield 25, 1, 3, 0), (.bipush 8, 8, 0, 0), (.if_icmp .ge 43, 1, 0, 0), (.aload_n 0, 0, 0, 0), (.getfield 9, 1, 0, 0), (.aload_n 0, 0, 0, 0), (.getfield 25, 1, 3, 0), (.iload_n 1, 1, 0, 0), (.iastore, 0, 0, 0), (.aload_n 0, 0, 0, 0), (.getfield 15, 1, 1, 0), (.aload_n 0, 0, 0, 0), (.getfield 25, 1, 3, 0), (.iload_n 2, 2, 0, 0), (.iastore, 0, 0, 0), (.aload_n 0, 0, 0, 0), (.getfield 18, 1, 2, 0), (.aload_n 0, 0, 0, 0), (.getfield 25, 1, 3, 0), (.iload_n 3, 3, 0, 0), (.iastore, 0, 0, 0), (.aload_n 0, 0, 0, 0), (.dup, 0, 0, 0), (.getfield 25, 1, 3, 0), (.iconst 1, 1, 0, 0), (.iadd, 0, 0, 0), (.putfield 25, 1, 3, 0)], 1),
  ([(.return_, 0, 0, 0)], 0)]
-- 8: X2_become
def bt_8 : List (List Op × Nat) := [
  ([(.aload_n 1, 1, 0, 0), (.getfield 9, 2, 0, 0), (.iconst 0, 0, 0, 0), (.aload_n 0, 0, 0, 0), (.getfield 9, 2, 0, 0), (.iconst 0, 0, 0, 0), (.bipush 12, 12, 0, 0), (.invokestatic 18, 999, 5, 0), (.aload_n 1, 1, 0, 0), (.getfield 15, 2, 1, 0), (.iconst 0, 0, 0, 0), (.aload_n 0, 0, 0, 0), (.getfield 15, 2, 1, 0), (.iconst 0, 0, 0, 0), (.bipush 12, 12, 0, 0), (.invokestatic 18, 999, 5, 0), (.aload_n 0, 0, 0, 0), (.aload_n 1, 1, 0, 0), (.getfield 24, 2, 2, 0), (.putfield 24, 2, 2, 0), (.return_, 0, 0, 0)], 0)]
-- 9: X3_findCover
def bt_9 : List (List Op × Nat) := [
  ([(.aload_n 0, 0, 0, 0), (.iconst (-1), 1, 1, 0), (.putfield 31, 3, 5, 0), (.aload_n 0, 0, 0, 0), (.iconst (-1), 1, 1, 0), (.putfield 35, 3, 7, 0), (.iconst 0, 0, 0, 0), (.istore_n 1, 1, 0, 0)], 1),
  ([(.iload_n 1, 1, 0, 0), (.bipush 6, 6, 0, 0), (.if_icmp .ge 72, 3, 0, 0), (.aload_n 0, 0, 0, 0), (.getfield 14, 3, 1, 0), (.aload_n 0, 0, 0, 0), (.getfield 27, 3, 0, 0), (.sipush 255, 255, 0, 0), (.invokevirtual 38, 41, 2, 7), (.aload_n 0, 0, 0, 0), (.getfield 14, 3, 1, 0), (.getfield 42, 7, 2, 0), (.iconst 2, 2, 0, 0), (.iconst 0, 0, 0, 0), (.iload_n 1, 1, 0, 0), (.invokevirtual 46, 51, 3, 9), (.aload_n 0, 0, 0, 0), (.getfield 14, 3, 1, 0), (.invokevirtual 52, 42, 0, 7), (.aload_n 0, 0, 0, 0), (.getfield 14, 3, 1, 0), (.getfield 55, 7, 4, 0), (.bipush 23, 23, 0, 0), (.iaload, 0, 0, 0), (.istore_n 2, 2, 0, 0), (.iload_n 2, 2, 0, 0), (.aload_n 0, 0, 0, 0), (.getfield 35, 3, 7, 0), (.if_icmp .le 13, 2, 0, 0), (.aload_n 0, 0, 0, 0), (.iload_n 2, 2, 0, 0), (.putfield 35, 3, 7, 0), (.aload_n 0, 0, 0, 0), (.iload_n 1, 1, 0, 0), (.putfield 31, 3, 5, 0)], 2),
  ([(.iinc 1 1, 1, 1, 0), (.goto (-72), 1, 0, 0)], 0),
  ([(.return_, 0, 0, 0)], 0)]
-- 10: X3_findSwap
def bt_10 : List (List Op × Nat) := [
  ([(.aload_n 0, 0, 0, 0), (.iconst (-1), 1, 1, 0), (.putfield 31, 3, 5, 0), (.aload_n 0, 0, 0, 0), (.iconst (-1), 1, 1, 0), (.putfield 58, 3, 6, 0), (.aload_n 0, 0, 0, 0), (.iconst (-1), 1, 1, 0), (.putfield 35, 3, 7, 0), (.iconst 0, 0, 0, 0), (.istore_n 1, 1, 0, 0)], 1),
  ([(.iload_n 1, 1, 0, 0), (.bipush 6, 6, 0, 0), (.if_icmp .ge 92, 5, 0, 0), (.iload_n 1, 1, 0, 0), (.iconst 1, 1, 0, 0), (.iadd, 0, 0, 0), (.istore_n 2, 2, 0, 0)], 2),
  ([(.iload_n 2, 2, 0, 0), (.bipush 6, 6, 0, 0), (.if_icmp .ge 76, 4, 0, 0), (.aload_n 0, 0, 0, 0), (.getfield 14, 3, 1, 0), (.aload_n 0, 0, 0, 0), (.getfield 27, 3, 0, 0), (.sipush 255, 255, 0, 0), (.invokevirtual 38, 41, 2, 7), (.aload_n 0, 0, 0, 0), (.getfield 14, 3, 1, 0), (.getfield 61, 7, 0, 0), (.iload_n 1, 1, 0, 0), (.iload_n 2, 2, 0, 0), (.invokevirtual 65, 36, 2, 6), (.aload_n 0, 0, 0, 0), (.getfield 14, 3, 1, 0), (.invokevirtual 52, 42, 0, 7), (.aload_n 0, 0, 0, 0), (.getfield 14, 3, 1, 0), (.getfield 55, 7, 4, 0), (.bipush 23, 23, 0, 0), (.iaload, 0, 0, 0), (.istore_n 3, 3, 0, 0), (.iload_n 3, 3, 0, 0), (.aload_n 0, 0, 0, 0), (.getfield 35, 3, 7, 0), (.if_icmp .le 18, 3, 0, 0), (.aload_n 0, 0, 0, 0), (.iload_n 3, 3, 0, 0), (.putfield 35, 3, 7, 0), (.aload_n 0, 0, 0, 0), (.iload_n 1, 1, 0, 0), (.putfield 31, 3, 5, 0), (.aload_n 0, 0, 0, 0), (.iload_n 2, 2, 0, 0), (.putfield 58, 3, 6, 0)], 3),
  ([(.iinc 2 1, 2, 1, 0), (.goto (-76), 2, 0, 0)], 0),
  ([(.iinc 1 1, 1, 1, 0), (.goto (-92), 1, 0, 0)], 0),
  ([(.return_, 0, 0, 0)], 0)]
-- 11: X3_findWait
def bt_11 : List (List Op × Nat) := [
  ([(.aload_n 0, 0, 0, 0), (.iconst (-1), 1, 1, 0), (.putfield 31, 3, 5, 0), (.aload_n 0, 0, 0, 0), (.bipush 13, 13, 0, 0), (.putfield 35, 3, 7, 0), (.iconst 0, 0, 0, 0), (.istore_n 2, 2, 0, 0)], 1),
  ([(.iload_n 2, 2, 0, 0), (.bipush 24, 24, 0, 0), (.if_icmp .ge 73, 3, 0, 0), (.aload_n 0, 0, 0, 0), (.getfield 14, 3, 1, 0), (.aload_n 0, 0, 0, 0), (.getfield 27, 3, 0, 0), (.sipush 255, 255, 0, 0), (.invokevirtual 38, 41, 2, 7), (.aload_n 0, 0, 0, 0), (.getfield 14, 3, 1, 0), (.getfield 71, 7, 1, 0), (.getfield 75, 2, 0, 0), (.iload_n 1, 1, 0, 0), (.iload_n 2, 2, 0, 0), (.iastore, 0, 0, 0), (.aload_n 0, 0, 0, 0), (.getfield 14, 3, 1, 0), (.invokevirtual 52, 42, 0, 7), (.aload_n 0, 0, 0, 0), (.getfield 14, 3, 1, 0), (.invokevirtual 80, 48, 0, 7), (.aload_n 0, 0, 0, 0), (.getfield 35, 3, 7, 0), (.if_icmp .ge 19, 2, 0, 0), (.aload_n 0, 0, 0, 0), (.aload_n 0, 0, 0, 0), (.getfield 14, 3, 1, 0), (.invokevirtual 80, 48, 0, 7), (.putfield 35, 3, 7, 0), (.aload_n 0, 0, 0, 0), (.iload_n 2, 2, 0, 0), (.putfield 31, 3, 5, 0)], 2),
  ([(.iinc 2 1, 2, 1, 0), (.goto (-73), 1, 0, 0)], 0),
  ([(.return_, 0, 0, 0)], 0)]
-- 12: X3_noneIsShortWithout
def bt_12 : List (List Op × Nat) := [
  ([(.aload_n 0, 0, 0, 0), (.getfield 14, 3, 1, 0), (.aload_n 0, 0, 0, 0), (.getfield 27, 3, 0, 0), (.sipush 255, 255, 0, 0), (.iload_n 1, 1, 0, 0), (.iconst (-1), 1, 1, 0), (.ixor, 0, 0, 0), (.iand, 0, 0, 0), (.invokevirtual 38, 41, 2, 7), (.aload_n 0, 0, 0, 0), (.getfield 14, 3, 1, 0), (.invokevirtual 52, 42, 0, 7), (.aload_n 0, 0, 0, 0), (.getfield 14, 3, 1, 0), (.getfield 84, 7, 10, 0), (.ifCond .ne 7, 1, 0, 0), (.iconst 1, 1, 0, 0), (.goto 4, 2, 0, 0)], 0),
  ([(.iconst 0, 0, 0, 0)], 2),
  ([(.ireturn, 1, 0, 0)], 0)]
-- 13: X3_keepSpare
def bt_13 : List (List Op × Nat) := [
  ([(.aload_n 0, 0, 0, 0), (.iload_n 1, 1, 0, 0), (.putfield 35, 3, 7, 0), (.aload_n 0, 0, 0, 0), (.iload_n 2, 2, 0, 0), (.putfield 31, 3, 5, 0), (.aload_n 0, 0, 0, 0), (.iload_n 3, 3, 0, 0), (.putfield 58, 3, 6, 0), (.return_, 0, 0, 0)], 0)]
-- 14: X3_findSpare
def bt_14 : List (List Op × Nat) := [
  ([(.aload_n 0, 0, 0, 0), (.iconst (-1), 1, 1, 0), (.iconst (-1), 1, 1, 0), (.iconst (-1), 1, 1, 0), (.invokevirtual 87, 13, 3, 3), (.aload_n 0, 0, 0, 0), (.getfield 27, 3, 0, 0), (.getfield 90, 0, 4, 0), (.getfield 96, 1, 3, 0), (.istore_n 1, 1, 0, 0), (.aload_n 0, 0, 0, 0), (.iconst 0, 0, 0, 0), (.invokevirtual 101, 12, 1, 3), (.ifCond .eq 10, 1, 0, 0), (.aload_n 0, 0, 0, 0), (.iconst 0, 0, 0, 0), (.iconst (-1), 1, 1, 0), (.iconst (-1), 1, 1, 0), (.invokevirtual 87, 13, 3, 3)], 1),
  ([(.iconst 0, 0, 0, 0), (.istore_n 2, 2, 0, 0)], 2),
  ([(.iload_n 2, 2, 0, 0), (.iload_n 1, 1, 0, 0), (.if_icmp .ge 34, 4, 0, 0), (.aload_n 0, 0, 0, 0), (.getfield 35, 3, 7, 0), (.iconst (-1), 1, 1, 0), (.if_icmp .ne 26, 4, 0, 0), (.aload_n 0, 0, 0, 0), (.iconst 1, 1, 0, 0), (.iload_n 2, 2, 0, 0), (.ishl, 0, 0, 0), (.invokevirtual 101, 12, 1, 3), (.ifCond .eq 10, 3, 0, 0), (.aload_n 0, 0, 0, 0), (.iconst 1, 1, 0, 0), (.iload_n 2, 2, 0, 0), (.iconst (-1), 1, 1, 0), (.invokevirtual 87, 13, 3, 3)], 3),
  ([(.iinc 2 1, 2, 1, 0), (.goto (-33), 2, 0, 0)], 0),
  ([(.iconst 0, 0, 0, 0), (.istore_n 2, 2, 0, 0)], 5),
  ([(.iload_n 2, 2, 0, 0), (.iload_n 1, 1, 0, 0), (.if_icmp .ge 61, 9, 0, 0), (.aload_n 0, 0, 0, 0), (.getfield 35, 3, 7, 0), (.iconst (-1), 1, 1, 0), (.if_icmp .ne 53, 9, 0, 0), (.iload_n 2, 2, 0, 0), (.iconst 1, 1, 0, 0), (.iadd, 0, 0, 0), (.istore_n 3, 3, 0, 0)], 6),
  ([(.iload_n 3, 3, 0, 0), (.iload_n 1, 1, 0, 0), (.if_icmp .ge 38, 8, 0, 0), (.aload_n 0, 0, 0, 0), (.getfield 35, 3, 7, 0), (.iconst (-1), 1, 1, 0), (.if_icmp .ne 30, 8, 0, 0), (.aload_n 0, 0, 0, 0), (.iconst 1, 1, 0, 0), (.iload_n 2, 2, 0, 0), (.ishl, 0, 0, 0), (.iconst 1, 1, 0, 0), (.iload_n 3, 3, 0, 0), (.ishl, 0, 0, 0), (.ior, 0, 0, 0), (.invokevirtual 101, 12, 1, 3), (.ifCond .eq 10, 7, 0, 0), (.aload_n 0, 0, 0, 0), (.iconst 2, 2, 0, 0), (.iload_n 2, 2, 0, 0), (.iload_n 3, 3, 0, 0), (.invokevirtual 87, 13, 3, 3)], 7),
  ([(.iinc 3 1, 3, 1, 0), (.goto (-37), 6, 0, 0)], 0),
  ([(.iinc 2 1, 2, 1, 0), (.goto (-60), 5, 0, 0)], 0),
  ([(.return_, 0, 0, 0)], 0)]
-- 15: X3_findNever
def bt_15 : List (List Op × Nat) := [
  ([(.iconst 0, 0, 0, 0), (.istore_n 1, 1, 0, 0), (.iconst 0, 0, 0, 0), (.istore_n 2, 2, 0, 0)], 1),
  ([(.iload_n 2, 2, 0, 0), (.aload_n 0, 0, 0, 0), (.getfield 27, 3, 0, 0), (.getfield 90, 0, 4, 0), (.getfield 96, 1, 3, 0), (.if_icmp .ge 62, 3, 0, 0), (.aload_n 0, 0, 0, 0), (.getfield 14, 3, 1, 0), (.aload_n 0, 0, 0, 0), (.getfield 27, 3, 0, 0), (.sipush 255, 255, 0, 0), (.iconst 1, 1, 0, 0), (.iload_n 2, 2, 0, 0), (.ishl, 0, 0, 0), (.iconst (-1), 1, 1, 0), (.ixor, 0, 0, 0), (.iand, 0, 0, 0), (.invokevirtual 38, 41, 2, 7), (.aload_n 0, 0, 0, 0), (.getfield 14, 3, 1, 0), (.invokevirtual 52, 42, 0, 7), (.aload_n 0, 0, 0, 0), (.getfield 27, 3, 0, 0), (.getfield 105, 0, 5, 0), (.aload_n 0, 0, 0, 0), (.getfield 14, 3, 1, 0), (.getfield 109, 7, 6, 0), (.invokevirtual 112, 26, 1, 4), (.ifCond .eq 9, 2, 0, 0), (.iload_n 1, 1, 0, 0), (.iconst 1, 1, 0, 0), (.iload_n 2, 2, 0, 0), (.ishl, 0, 0, 0), (.ior, 0, 0, 0), (.istore_n 1, 1, 0, 0)], 2),
  ([(.iinc 2 1, 2, 1, 0), (.goto (-70), 1, 0, 0)], 0),
  ([(.iload_n 1, 1, 0, 0), (.ireturn, 0, 0, 0)], 0)]
-- 16: X3_findSizes
def bt_16 : List (List Op × Nat) := [
  ([(.iconst 0, 0, 0, 0), (.istore_n 3, 3, 0, 0), (.iconst 1, 1, 0, 0), (.istore 4, 4, 0, 0)], 1),
  ([(.iload 4, 4, 0, 0), (.bipush 9, 9, 0, 0), (.if_icmp .gt 100, 3, 0, 0), (.aload_n 0, 0, 0, 0), (.getfield 14, 3, 1, 0), (.aload_n 0, 0, 0, 0), (.getfield 27, 3, 0, 0), (.sipush 255, 255, 0, 0), (.invokevirtual 38, 41, 2, 7), (.aload_n 0, 0, 0, 0), (.getfield 14, 3, 1, 0), (.getfield 61, 7, 0, 0), (.getfield 118, 6, 0, 0), (.iload_n 1, 1, 0, 0), (.bipush 6, 6, 0, 0), (.imul, 0, 0, 0), (.iload_n 2, 2, 0, 0), (.iadd, 0, 0, 0), (.iload 4, 4, 0, 0), (.iastore, 0, 0, 0), (.aload_n 0, 0, 0, 0), (.getfield 14, 3, 1, 0), (.invokevirtual 52, 42, 0, 7), (.aload_n 0, 0, 0, 0), (.getfield 14, 3, 1, 0), (.getfield 109, 7, 6, 0), (.iconst 0, 0, 0, 0), (.aload_n 0, 0, 0, 0), (.getfield 24, 3, 3, 0), (.iload 4, 4, 0, 0), (.iconst 1, 1, 0, 0), (.isub, 0, 0, 0), (.bipush 24, 24, 0, 0), (.imul, 0, 0, 0), (.bipush 24, 24, 0, 0), (.invokestatic 121, 999, 5, 0), (.aload_n 0, 0, 0, 0), (.getfield 27, 3, 0, 0), (.getfield 105, 0, 5, 0), (.aload_n 0, 0, 0, 0), (.getfield 14, 3, 1, 0), (.getfield 109, 7, 6, 0), (.invokevirtual 112, 26, 1, 4), (.ifCond .eq 10, 2, 0, 0), (.iload_n 3, 3, 0, 0), (.iconst 1, 1, 0, 0), (.iload 4, 4, 0, 0), (.ishl, 0, 0, 0), (.ior, 0, 0, 0), (.istore_n 3, 3, 0, 0)], 2),
  ([(.iinc 4 1, 4, 1, 0), (.goto (-101), 1, 0, 0)], 0),
  ([(.iload_n 3, 3, 0, 0), (.ireturn, 0, 0, 0)], 0)]
-- 17: X3_findAsk
def bt_17 : List (List Op × Nat) := [
  ([(.iconst (-1), 1, 1, 0), (.istore_n 2, 2, 0, 0), (.bipush 10, 10, 0, 0), (.istore_n 3, 3, 0, 0), (.iconst 0, 0, 0, 0), (.istore 4, 4, 0, 0)], 1),
  ([(.iload 4, 4, 0, 0), (.bipush 24, 24, 0, 0), (.if_icmp .ge 30, 3, 0, 0), (.aload_n 0, 0, 0, 0), (.iload_n 1, 1, 0, 0), (.iload 4, 4, 0, 0), (.invokevirtual 127, 18, 2, 3), (.istore 5, 5, 0, 0), (.iload 5, 5, 0, 0), (.iload_n 3, 3, 0, 0), (.if_icmp .ge 9, 2, 0, 0), (.iload 5, 5, 0, 0), (.istore_n 3, 3, 0, 0), (.iload 4, 4, 0, 0), (.istore_n 2, 2, 0, 0)], 2),
  ([(.iinc 4 1, 4, 1, 0), (.goto (-31), 1, 0, 0)], 0),
  ([(.iload_n 2, 2, 0, 0), (.ireturn, 0, 0, 0)], 0)]
-- 18: X3_mostAlike
def bt_18 : List (List Op × Nat) := [
  ([(.iconst 0, 0, 0, 0), (.istore_n 3, 3, 0, 0), (.iconst 1, 1, 0, 0), (.istore 4, 4, 0, 0)], 1),
  ([(.iload 4, 4, 0, 0), (.bipush 9, 9, 0, 0), (.if_icmp .gt 84, 5, 0, 0), (.iconst 0, 0, 0, 0), (.istore 5, 5, 0, 0), (.iconst 1, 1, 0, 0), (.istore 6, 6, 0, 0)], 2),
  ([(.iload 6, 6, 0, 0), (.bipush 9, 9, 0, 0), (.if_icmp .gt 58, 4, 0, 0), (.iload_n 1, 1, 0, 0), (.iload 4, 4, 0, 0), (.ishr, 0, 0, 0), (.iload_n 1, 1, 0, 0), (.iload 6, 6, 0, 0), (.ishr, 0, 0, 0), (.iand, 0, 0, 0), (.iconst 1, 1, 0, 0), (.iand, 0, 0, 0), (.iconst 1, 1, 0, 0), (.if_icmp .ne 37, 3, 0, 0), (.aload_n 0, 0, 0, 0), (.getfield 24, 3, 3, 0), (.iload 4, 4, 0, 0), (.iconst 1, 1, 0, 0), (.isub, 0, 0, 0), (.bipush 24, 24, 0, 0), (.imul, 0, 0, 0), (.iload_n 2, 2, 0, 0), (.iadd, 0, 0, 0), (.iaload, 0, 0, 0), (.aload_n 0, 0, 0, 0), (.getfield 24, 3, 3, 0), (.iload 6, 6, 0, 0), (.iconst 1, 1, 0, 0), (.isub, 0, 0, 0), (.bipush 24, 24, 0, 0), (.imul, 0, 0, 0), (.iload_n 2, 2, 0, 0), (.iadd, 0, 0, 0), (.iaload, 0, 0, 0), (.if_icmp .ne 6, 3, 0, 0), (.iinc 5 1, 5, 1, 0)], 3),
  ([(.iinc 6 1, 6, 1, 0), (.goto (-59), 2, 0, 0)], 0),
  ([(.iload_n 3, 3, 0, 0), (.iload 5, 5, 0, 0), (.invokestatic 131, 997, 2, 0), (.istore_n 3, 3, 0, 0), (.iinc 4 1, 4, 1, 0), (.goto (-85), 1, 0, 0)], 0),
  ([(.iload_n 3, 3, 0, 0), (.ireturn, 0, 0, 0)], 0)]
-- 19: X3_findChance
def bt_19 : List (List Op × Nat) := [
  ([(.aload_n 0, 0, 0, 0), (.invokevirtual 136, 20, 0, 3), (.aload_n 0, 0, 0, 0), (.getfield 27, 3, 0, 0), (.getfield 90, 0, 4, 0), (.getfield 96, 1, 3, 0), (.istore_n 3, 3, 0, 0), (.aload_n 0, 0, 0, 0), (.lconst 0, 0, 0, 0), (.putfield 139, 3, 8, 0), (.iconst 0, 0, 0, 0), (.istore 4, 4, 0, 0)], 1),
  ([(.iload 4, 4, 0, 0), (.iconst 1, 1, 0, 0), (.iload_n 3, 3, 0, 0), (.ishl, 0, 0, 0), (.if_icmp .ge 60, 3, 0, 0), (.aload_n 0, 0, 0, 0), (.getfield 20, 3, 2, 0), (.iload 4, 4, 0, 0), (.iaload, 0, 0, 0), (.iload_n 2, 2, 0, 0), (.ishr, 0, 0, 0), (.iconst 1, 1, 0, 0), (.iand, 0, 0, 0), (.iconst 1, 1, 0, 0), (.if_icmp .ne 39, 2, 0, 0), (.iload 4, 4, 0, 0), (.invokestatic 143, 196, 1, 0), (.istore 5, 5, 0, 0), (.aload_n 0, 0, 0, 0), (.dup, 0, 0, 0), (.getfield 139, 3, 8, 0), (.iload_n 1, 1, 0, 0), (.i2l, 0, 0, 0), (.iload 5, 5, 0, 0), (.invokestatic 149, 21, 2, 0), (.bipush 16, 16, 0, 0), (.iload_n 1, 1, 0, 0), (.isub, 0, 0, 0), (.i2l, 0, 0, 0), (.iload_n 3, 3, 0, 0), (.iload 5, 5, 0, 0), (.isub, 0, 0, 0), (.invokestatic 149, 21, 2, 0), (.lmul, 0, 0, 0), (.ladd, 0, 0, 0), (.putfield 139, 3, 8, 0)], 2),
  ([(.iinc 4 1, 4, 1, 0), (.goto (-62), 1, 0, 0)], 0),
  ([(.aload_n 0, 0, 0, 0), (.ldc2_w 153, 16, 0, 0), (.iload_n 3, 3, 0, 0), (.invokestatic 149, 21, 2, 0), (.putfield 155, 3, 9, 0), (.iconst 0, 0, 0, 0), (.istore 4, 4, 0, 0)], 4),
  ([(.iload 4, 4, 0, 0), (.bipush 32, 32, 0, 0), (.if_icmp .ge 59, 6, 0, 0), (.aload_n 0, 0, 0, 0), (.getfield 139, 3, 8, 0), (.ldc2_w 158, 2, 0, 0), (.lrem, 0, 0, 0), (.lconst 0, 0, 0, 0), (.lcmp, 0, 0, 0), (.ifCond .ne 40, 5, 0, 0), (.aload_n 0, 0, 0, 0), (.getfield 155, 3, 9, 0), (.ldc2_w 158, 2, 0, 0), (.lrem, 0, 0, 0), (.lconst 0, 0, 0, 0), (.lcmp, 0, 0, 0), (.ifCond .ne 27, 5, 0, 0), (.aload_n 0, 0, 0, 0), (.dup, 0, 0, 0), (.getfield 139, 3, 8, 0), (.ldc2_w 158, 2, 0, 0), (.ldiv, 0, 0, 0), (.putfield 139, 3, 8, 0), (.aload_n 0, 0, 0, 0), (.dup, 0, 0, 0), (.getfield 155, 3, 9, 0), (.ldc2_w 158, 2, 0, 0), (.ldiv, 0, 0, 0), (.putfield 155, 3, 9, 0)], 5),
  ([(.iinc 4 1, 4, 1, 0), (.goto (-60), 4, 0, 0)], 0),
  ([(.return_, 0, 0, 0)], 0)]
-- 20: X3_learnShorts
def bt_20 : List (List Op × Nat) := [
  ([(.iconst 0, 0, 0, 0), (.istore_n 1, 1, 0, 0)], 1),
  ([(.iload_n 1, 1, 0, 0), (.iconst 1, 1, 0, 0), (.aload_n 0, 0, 0, 0), (.getfield 27, 3, 0, 0), (.getfield 90, 0, 4, 0), (.getfield 96, 1, 3, 0), (.ishl, 0, 0, 0), (.if_icmp .ge 48, 2, 0, 0), (.aload_n 0, 0, 0, 0), (.getfield 160, 3, 4, 0), (.ifCond .ne 41, 2, 0, 0), (.aload_n 0, 0, 0, 0), (.getfield 14, 3, 1, 0), (.aload_n 0, 0, 0, 0), (.getfield 27, 3, 0, 0), (.iload_n 1, 1, 0, 0), (.invokevirtual 38, 41, 2, 7), (.aload_n 0, 0, 0, 0), (.getfield 14, 3, 1, 0), (.invokevirtual 52, 42, 0, 7), (.aload_n 0, 0, 0, 0), (.getfield 20, 3, 2, 0), (.iload_n 1, 1, 0, 0), (.aload_n 0, 0, 0, 0), (.getfield 14, 3, 1, 0), (.getfield 84, 7, 10, 0), (.iastore, 0, 0, 0), (.iinc 1 1, 1, 1, 0), (.goto (-58), 1, 0, 0)], 0),
  ([(.aload_n 0, 0, 0, 0), (.iconst 1, 1, 0, 0), (.putfield 160, 3, 4, 0), (.return_, 0, 0, 0)], 0)]
-- 21: X3_power
def bt_21 : List (List Op × Nat) := [
  ([(.lconst 1, 1, 0, 0), (.lstore_n 3, 3, 0, 0), (.iconst 0, 0, 0, 0), (.istore 5, 5, 0, 0)], 1),
  ([(.iload 5, 5, 0, 0), (.iload_n 2, 2, 0, 0), (.if_icmp .ge 13, 2, 0, 0), (.lload_n 3, 3, 0, 0), (.lload_n 0, 0, 0, 0), (.lmul, 0, 0, 0), (.lstore_n 3, 3, 0, 0), (.iinc 5 1, 5, 1, 0), (.goto (-13), 1, 0, 0)], 0),
  ([(.lload_n 3, 3, 0, 0), (.lreturn, 0, 0, 0)], 0)]
-- 22: X3_drawnSummer
def bt_22 : List (List Op × Nat) := [
  ([(.aload_n 0, 0, 0, 0), (.getfield 14, 3, 1, 0), (.aload_n 0, 0, 0, 0), (.getfield 27, 3, 0, 0), (.iconst 0, 0, 0, 0), (.invokevirtual 38, 41, 2, 7), (.iload_n 1, 1, 0, 0), (.istore_n 3, 3, 0, 0), (.iconst 0, 0, 0, 0), (.istore 4, 4, 0, 0)], 1),
  ([(.iload 4, 4, 0, 0), (.iload_n 2, 2, 0, 0), (.if_icmp .ge 59, 2, 0, 0), (.iload_n 3, 3, 0, 0), (.invokestatic 164, 23, 1, 0), (.istore_n 3, 3, 0, 0), (.iload_n 3, 3, 0, 0), (.iconst 3, 3, 0, 0), (.invokestatic 167, 24, 2, 0), (.istore 5, 5, 0, 0), (.iload_n 3, 3, 0, 0), (.invokestatic 164, 23, 1, 0), (.istore_n 3, 3, 0, 0), (.iload_n 3, 3, 0, 0), (.bipush 24, 24, 0, 0), (.invokestatic 167, 24, 2, 0), (.istore 6, 6, 0, 0), (.iload_n 3, 3, 0, 0), (.invokestatic 164, 23, 1, 0), (.istore_n 3, 3, 0, 0), (.aload_n 0, 0, 0, 0), (.getfield 14, 3, 1, 0), (.getfield 42, 7, 2, 0), (.iload 5, 5, 0, 0), (.iload 6, 6, 0, 0), (.iload_n 3, 3, 0, 0), (.bipush 6, 6, 0, 0), (.invokestatic 167, 24, 2, 0), (.invokevirtual 46, 51, 3, 9), (.iinc 4 1, 4, 1, 0), (.goto (-59), 1, 0, 0)], 0),
  ([(.aload_n 0, 0, 0, 0), (.getfield 14, 3, 1, 0), (.invokevirtual 52, 42, 0, 7), (.aload_n 0, 0, 0, 0), (.getfield 14, 3, 1, 0), (.areturn, 0, 0, 0)], 0)]
-- 23: X3_nextSeed
def bt_23 : List (List Op × Nat) := [
  ([(.ldc 170, 1103515245, 0, 0), (.iload_n 0, 0, 0, 0), (.imul, 0, 0, 0), (.sipush 12345, 12345, 0, 0), (.iadd, 0, 0, 0), (.ireturn, 0, 0, 0)], 0)]
-- 24: X3_lot
def bt_24 : List (List Op × Nat) := [
  ([(.iload_n 1, 1, 0, 0), (.iconst 1, 1, 0, 0), (.if_icmp .ge 7, 1, 0, 0), (.iconst 0, 0, 0, 0), (.goto 9, 2, 0, 0)], 0),
  ([(.iload_n 0, 0, 0, 0), (.bipush 16, 16, 0, 0), (.iushr, 0, 0, 0), (.iload_n 1, 1, 0, 0), (.irem, 0, 0, 0)], 2),
  ([(.ireturn, 0, 0, 0)], 0)]
-- 25: X4_append
def bt_25 : List (List Op × Nat) := [
  ([(.aload_n 0, 0, 0, 0), (.getfield 21, 4, 3, 0), (.bipush 8, 8, 0, 0), (.if_icmp .ge 43, 1, 0, 0), (.aload_n 0, 0, 0, 0), (.getfield 9, 4, 0, 0), (.aload_n 0, 0, 0, 0), (.getfield 21, 4, 3, 0), (.iload_n 1, 1, 0, 0), (.iastore, 0, 0, 0), (.aload_n 0, 0, 0, 0), (.getfield 15, 4, 1, 0), (.aload_n 0, 0, 0, 0), (.getfield 21, 4, 3, 0), (.iload_n 2, 2, 0, 0), (.iastore, 0, 0, 0), (.aload_n 0, 0, 0, 0), (.getfield 18, 4, 2, 0), (.aload_n 0, 0, 0, 0), (.getfield 21, 4, 3, 0), (.iload_n 3, 3, 0, 0), (.iastore, 0, 0, 0), (.aload_n 0, 0, 0, 0), (.dup, 0, 0, 0), (.getfield 21, 4, 3, 0), (.iconst 1, 1, 0, 0), (.iadd, 0, 0, 0), (.putfield 21, 4, 3, 0)], 1),
  ([(.return_, 0, 0, 0)], 0)]
-- 26: X4_fits
def bt_26 : List (List Op × Nat) := [
  ([(.iconst 0, 0, 0, 0), (.istore_n 2, 2, 0, 0)], 1),
  ([(.iload_n 2, 2, 0, 0), (.aload_n 0, 0, 0, 0), (.getfield 21, 4, 3, 0), (.if_icmp .ge 37, 3, 0, 0), (.aload_n 1, 1, 0, 0), (.aload_n 0, 0, 0, 0), (.getfield 9, 4, 0, 0), (.iload_n 2, 2, 0, 0), (.iaload, 0, 0, 0), (.iaload, 0, 0, 0), (.aload_n 0, 0, 0, 0), (.getfield 15, 4, 1, 0), (.iload_n 2, 2, 0, 0), (.iaload, 0, 0, 0), (.invokestatic 25, 40, 2, 0), (.aload_n 0, 0, 0, 0), (.getfield 18, 4, 2, 0), (.iload_n 2, 2, 0, 0), (.iaload, 0, 0, 0), (.if_icmp .eq 5, 2, 0, 0), (.iconst 0, 0, 0, 0), (.ireturn, 1, 0, 0)], 0),
  ([(.iinc 2 1, 2, 1, 0), (.goto (-39), 1, 0, 0)], 0),
  ([(.iconst 1, 1, 0, 0), (.ireturn, 1, 0, 0)], 0)]
-- 27: X5_renew
def bt_27 : List (List Op × Nat) := [
  ([(.aload_n 0, 0, 0, 0), (.getfield 9, 5, 0, 0), (.iconst 0, 0, 0, 0), (.invokestatic 19, 197, 2, 0), (.aload_n 0, 0, 0, 0), (.iload_n 1, 1, 0, 0), (.putfield 15, 5, 1, 0), (.aload_n 0, 0, 0, 0), (.iload_n 2, 2, 0, 0), (.putfield 25, 5, 2, 0), (.return_, 0, 0, 0)], 0)]
-- 28: X5_hindrance
def bt_28 : List (List Op × Nat) := [
  ([(.aload_n 0, 0, 0, 0), (.getfield 15, 5, 1, 0), (.iconst (-1), 1, 1, 0), (.if_icmp .ne 5, 1, 0, 0), (.iconst 1, 1, 0, 0), (.ireturn, 0, 0, 0)], 0),
  ([(.aload_n 0, 0, 0, 0), (.getfield 15, 5, 1, 0), (.iload_n 1, 1, 0, 0), (.if_icmp .eq 5, 2, 0, 0), (.iconst 3, 3, 0, 0), (.ireturn, 0, 0, 0)], 0),
  ([(.iload_n 2, 2, 0, 0), (.aload_n 0, 0, 0, 0), (.getfield 25, 5, 2, 0), (.iconst 1, 1, 0, 0), (.isub, 0, 0, 0), (.invokestatic 28, 93, 2, 1), (.ifCond .eq 7, 3, 0, 0), (.iconst 2, 2, 0, 0), (.goto 4, 4, 0, 0)], 0),
  ([(.iconst 0, 0, 0, 0)], 4),
  ([(.ireturn, 0, 0, 0)], 0)]
-- 29: X5_hasRow
def bt_29 : List (List Op × Nat) := [
  ([(.iload_n 1, 1, 0, 0), (.ifCond .lt 29, 1, 0, 0), (.iload_n 2, 2, 0, 0), (.ifCond .lt 25, 1, 0, 0), (.iload_n 1, 1, 0, 0), (.aload_n 0, 0, 0, 0), (.getfield 25, 5, 2, 0), (.if_icmp .gt 17, 1, 0, 0), (.iload_n 2, 2, 0, 0), (.aload_n 0, 0, 0, 0), (.getfield 25, 5, 2, 0), (.iload_n 1, 1, 0, 0), (.isub, 0, 0, 0), (.if_icmp .gt 7, 1, 0, 0), (.iconst 1, 1, 0, 0), (.goto 4, 2, 0, 0)], 0),
  ([(.iconst 0, 0, 0, 0)], 2),
  ([(.ireturn, 1, 0, 0)], 0)]
-- 30: X5_put
def bt_30 : List (List Op × Nat) := [
  ([(.iload_n 1, 1, 0, 0), (.aload_n 0, 0, 0, 0), (.getfield 25, 5, 2, 0), (.iconst 1, 1, 0, 0), (.isub, 0, 0, 0), (.invokestatic 28, 93, 2, 1), (.ifCond .ne 35, 4, 0, 0), (.aload_n 0, 0, 0, 0), (.getfield 9, 5, 0, 0), (.iload_n 1, 1, 0, 0), (.aload_n 0, 0, 0, 0), (.getfield 15, 5, 1, 0), (.ifCond .ne 8, 1, 0, 0), (.iload_n 2, 2, 0, 0), (.i2b, 0, 0, 0), (.goto 17, 3, 0, 0)], 0),
  ([(.aload_n 0, 0, 0, 0), (.getfield 15, 5, 1, 0), (.iconst 1, 1, 0, 0), (.if_icmp .ne 8, 2, 0, 0), (.iload_n 2, 2, 0, 0), (.i2s, 0, 0, 0), (.goto 4, 3, 0, 0)], 0),
  ([(.iload_n 2, 2, 0, 0)], 3),
  ([(.iastore, 0, 0, 0)], 4),
  ([(.return_, 0, 0, 0)], 0)]
-- 31: X6_clearAll
def bt_31 : List (List Op × Nat) := [
  ([(.aload_n 0, 0, 0, 0), (.getfield 9, 6, 0, 0), (.iconst 0, 0, 0, 0), (.invokestatic 18, 197, 2, 0), (.aload_n 0, 0, 0, 0), (.getfield 15, 6, 1, 0), (.iconst 0, 0, 0, 0), (.invokestatic 18, 197, 2, 0), (.return_, 0, 0, 0)], 0)]
-- 32: X6_become
def bt_32 : List (List Op × Nat) := [
  ([(.aload_n 1, 1, 0, 0), (.getfield 9, 6, 0, 0), (.iconst 0, 0, 0, 0), (.aload_n 0, 0, 0, 0), (.getfield 9, 6, 0, 0), (.iconst 0, 0, 0, 0), (.bipush 36, 36, 0, 0), (.invokestatic 24, 999, 5, 0), (.aload_n 1, 1, 0, 0), (.getfield 15, 6, 1, 0), (.iconst 0, 0, 0, 0), (.aload_n 0, 0, 0, 0), (.getfield 15, 6, 1, 0), (.iconst 0, 0, 0, 0), (.bipush 6, 6, 0, 0), (.invokestatic 24, 999, 5, 0), (.return_, 0, 0, 0)], 0)]
-- 33: X6_putOnTop
def bt_33 : List (List Op × Nat) := [
  ([(.aload_n 0, 0, 0, 0), (.getfield 15, 6, 1, 0), (.iload_n 1, 1, 0, 0), (.iaload, 0, 0, 0), (.bipush 6, 6, 0, 0), (.if_icmp .ge 30, 1, 0, 0), (.aload_n 0, 0, 0, 0), (.getfield 9, 6, 0, 0), (.iload_n 1, 1, 0, 0), (.bipush 6, 6, 0, 0), (.imul, 0, 0, 0), (.aload_n 0, 0, 0, 0), (.getfield 15, 6, 1, 0), (.iload_n 1, 1, 0, 0), (.iaload, 0, 0, 0), (.iadd, 0, 0, 0), (.iload_n 2, 2, 0, 0), (.iastore, 0, 0, 0), (.aload_n 0, 0, 0, 0), (.getfield 15, 6, 1, 0), (.iload_n 1, 1, 0, 0), (.dup2, 0, 0, 0), (.iaload, 0, 0, 0), (.iconst 1, 1, 0, 0), (.iadd, 0, 0, 0), (.iastore, 0, 0, 0)], 1),
  ([(.return_, 0, 0, 0)], 0)]
-- 34: X6_takeFromTop
def bt_34 : List (List Op × Nat) := [
  ([(.aload_n 0, 0, 0, 0), (.getfield 15, 6, 1, 0), (.iload_n 1, 1, 0, 0), (.iaload, 0, 0, 0), (.ifCond .ne 5, 1, 0, 0), (.iconst 0, 0, 0, 0), (.ireturn, 0, 0, 0)], 0),
  ([(.aload_n 0, 0, 0, 0), (.getfield 15, 6, 1, 0), (.iload_n 1, 1, 0, 0), (.dup2, 0, 0, 0), (.iaload, 0, 0, 0), (.iconst 1, 1, 0, 0), (.isub, 0, 0, 0), (.iastore, 0, 0, 0), (.iload_n 1, 1, 0, 0), (.bipush 6, 6, 0, 0), (.imul, 0, 0, 0), (.aload_n 0, 0, 0, 0), (.getfield 15, 6, 1, 0), (.iload_n 1, 1, 0, 0), (.iaload, 0, 0, 0), (.iadd, 0, 0, 0), (.istore_n 2, 2, 0, 0), (.aload_n 0, 0, 0, 0), (.getfield 9, 6, 0, 0), (.iload_n 2, 2, 0, 0), (.iaload, 0, 0, 0), (.istore_n 3, 3, 0, 0), (.aload_n 0, 0, 0, 0), (.getfield 9, 6, 0, 0), (.iload_n 2, 2, 0, 0), (.iconst 0, 0, 0, 0), (.iastore, 0, 0, 0), (.iload_n 3, 3, 0, 0), (.ireturn, 0, 0, 0)], 0)]
-- 35: X6_columnOfGreatestTop
def bt_35 : List (List Op × Nat) := [
  ([(.iconst (-1), 1, 1, 0), (.istore_n 1, 1, 0, 0), (.iconst 0, 0, 0, 0), (.istore_n 2, 2, 0, 0), (.iconst 0, 0, 0, 0), (.istore_n 3, 3, 0, 0)], 1),
  ([(.iload_n 3, 3, 0, 0), (.bipush 6, 6, 0, 0), (.if_icmp .ge 53, 5, 0, 0), (.aload_n 0, 0, 0, 0), (.getfield 15, 6, 1, 0), (.iload_n 3, 3, 0, 0), (.iaload, 0, 0, 0), (.ifCond .ne 7, 2, 0, 0), (.iconst 0, 0, 0, 0), (.goto 21, 3, 0, 0)], 0),
  ([(.aload_n 0, 0, 0, 0), (.getfield 9, 6, 0, 0), (.iload_n 3, 3, 0, 0), (.bipush 6, 6, 0, 0), (.imul, 0, 0, 0), (.aload_n 0, 0, 0, 0), (.getfield 15, 6, 1, 0), (.iload_n 3, 3, 0, 0), (.iaload, 0, 0, 0), (.iadd, 0, 0, 0), (.iconst 1, 1, 0, 0), (.isub, 0, 0, 0), (.iaload, 0, 0, 0)], 3),
  ([(.istore 4, 4, 0, 0), (.iload 4, 4, 0, 0), (.iload_n 2, 2, 0, 0), (.if_icmp .le 8, 4, 0, 0), (.iload_n 3, 3, 0, 0), (.istore_n 1, 1, 0, 0), (.iload 4, 4, 0, 0), (.istore_n 2, 2, 0, 0)], 4),
  ([(.iinc 3 1, 3, 1, 0), (.goto (-53), 1, 0, 0)], 0),
  ([(.iload_n 1, 1, 0, 0), (.ireturn, 0, 0, 0)], 0)]
-- 36: X6_exchange
def bt_36 : List (List Op × Nat) := [
  ([(.iconst 0, 0, 0, 0), (.istore_n 3, 3, 0, 0)], 1),
  ([(.iload_n 3, 3, 0, 0), (.bipush 6, 6, 0, 0), (.if_icmp .ge 57, 2, 0, 0), (.aload_n 0, 0, 0, 0), (.getfield 9, 6, 0, 0), (.iload_n 1, 1, 0, 0), (.bipush 6, 6, 0, 0), (.imul, 0, 0, 0), (.iload_n 3, 3, 0, 0), (.iadd, 0, 0, 0), (.iaload, 0, 0, 0), (.istore 4, 4, 0, 0), (.aload_n 0, 0, 0, 0), (.getfield 9, 6, 0, 0), (.iload_n 1, 1, 0, 0), (.bipush 6, 6, 0, 0), (.imul, 0, 0, 0), (.iload_n 3, 3, 0, 0), (.iadd, 0, 0, 0), (.aload_n 0, 0, 0, 0), (.getfield 9, 6, 0, 0), (.iload_n 2, 2, 0, 0), (.bipush 6, 6, 0, 0), (.imul, 0, 0, 0), (.iload_n 3, 3, 0, 0), (.iadd, 0, 0, 0), (.iaload, 0, 0, 0), (.iastore, 0, 0, 0), (.aload_n 0, 0, 0, 0), (.getfield 9, 6, 0, 0), (.iload_n 2, 2, 0, 0), (.bipush 6, 6, 0, 0), (.imul, 0, 0, 0), (.iload_n 3, 3, 0, 0), (.iadd, 0, 0, 0), (.iload 4, 4, 0, 0), (.iastore, 0, 0, 0), (.iinc 3 1, 3, 1, 0), (.goto (-57), 1, 0, 0)], 0),
  ([(.aload_n 0, 0, 0, 0), (.getfield 15, 6, 1, 0), (.iload_n 1, 1, 0, 0), (.iaload, 0, 0, 0), (.istore_n 3, 3, 0, 0), (.aload_n 0, 0, 0, 0), (.getfield 15, 6, 1, 0), (.iload_n 1, 1, 0, 0), (.aload_n 0, 0, 0, 0), (.getfield 15, 6, 1, 0), (.iload_n 2, 2, 0, 0), (.iaload, 0, 0, 0), (.iastore, 0, 0, 0), (.aload_n 0, 0, 0, 0), (.getfield 15, 6, 1, 0), (.iload_n 2, 2, 0, 0), (.iload_n 3, 3, 0, 0), (.iastore, 0, 0, 0), (.return_, 0, 0, 0)], 0)]
-- 37: X6_numberOfBlocks
def bt_37 : List (List Op × Nat) := [
  ([(.iconst 0, 0, 0, 0), (.istore_n 1, 1, 0, 0), (.iconst 0, 0, 0, 0), (.istore_n 2, 2, 0, 0)], 1),
  ([(.iload_n 2, 2, 0, 0), (.bipush 6, 6, 0, 0), (.if_icmp .ge 18, 2, 0, 0), (.iload_n 1, 1, 0, 0), (.aload_n 0, 0, 0, 0), (.getfield 15, 6, 1, 0), (.iload_n 2, 2, 0, 0), (.iaload, 0, 0, 0), (.iadd, 0, 0, 0), (.istore_n 1, 1, 0, 0), (.iinc 2 1, 2, 1, 0), (.goto (-18), 1, 0, 0)], 0),
  ([(.iload_n 1, 1, 0, 0), (.ireturn, 0, 0, 0)], 0)]
-- 38: X6_total
def bt_38 : List (List Op × Nat) := [
  ([(.iconst 0, 0, 0, 0), (.istore_n 1, 1, 0, 0), (.iconst 0, 0, 0, 0), (.istore_n 2, 2, 0, 0)], 1),
  ([(.iload_n 2, 2, 0, 0), (.bipush 36, 36, 0, 0), (.if_icmp .ge 18, 2, 0, 0), (.iload_n 1, 1, 0, 0), (.aload_n 0, 0, 0, 0), (.getfield 9, 6, 0, 0), (.iload_n 2, 2, 0, 0), (.iaload, 0, 0, 0), (.iadd, 0, 0, 0), (.istore_n 1, 1, 0, 0), (.iinc 2 1, 2, 1, 0), (.goto (-18), 1, 0, 0)], 0),
  ([(.iload_n 1, 1, 0, 0), (.ireturn, 0, 0, 0)], 0)]
-- 39: X6_shapeOfAll
def bt_39 : List (List Op × Nat) := [
  ([(.iconst 0, 0, 0, 0), (.istore_n 1, 1, 0, 0), (.iconst 0, 0, 0, 0), (.istore_n 2, 2, 0, 0)], 1),
  ([(.iload_n 2, 2, 0, 0), (.bipush 6, 6, 0, 0), (.if_icmp .ge 22, 2, 0, 0), (.iload_n 1, 1, 0, 0), (.aload_n 0, 0, 0, 0), (.getfield 15, 6, 1, 0), (.iload_n 2, 2, 0, 0), (.iaload, 0, 0, 0), (.iconst 3, 3, 0, 0), (.iload_n 2, 2, 0, 0), (.imul, 0, 0, 0), (.ishl, 0, 0, 0), (.ior, 0, 0, 0), (.istore_n 1, 1, 0, 0), (.iinc 2 1, 2, 1, 0), (.goto (-22), 1, 0, 0)], 0),
  ([(.iload_n 1, 1, 0, 0), (.ireturn, 0, 0, 0)], 0)]
-- 40: X7_highIn
def bt_40 : List (List Op × Nat) := [
  ([(.iload_n 0, 0, 0, 0), (.iconst 3, 3, 0, 0), (.iload_n 1, 1, 0, 0), (.imul, 0, 0, 0), (.ishr, 0, 0, 0), (.bipush 7, 7, 0, 0), (.iand, 0, 0, 0), (.ireturn, 0, 0, 0)], 0)]
-- 41: X7_prepare
def bt_41 : List (List Op × Nat) := [
  ([(.aload_n 0, 0, 0, 0), (.getfield 12, 7, 0, 0), (.aload_n 1, 1, 0, 0), (.getfield 55, 0, 2, 0), (.invokevirtual 60, 32, 1, 6), (.aload_n 0, 0, 0, 0), (.getfield 21, 7, 1, 0), (.aload_n 1, 1, 0, 0), (.getfield 64, 0, 3, 0), (.invokevirtual 65, 8, 1, 2), (.aload_n 0, 0, 0, 0), (.getfield 28, 7, 2, 0), (.invokevirtual 68, 50, 0, 9), (.aload_n 1, 1, 0, 0), (.getfield 71, 0, 4, 0), (.astore_n 3, 3, 0, 0), (.iconst 0, 0, 0, 0), (.istore 4, 4, 0, 0)], 1),
  ([(.iload 4, 4, 0, 0), (.aload_n 3, 3, 0, 0), (.getfield 75, 1, 3, 0), (.if_icmp .ge 47, 3, 0, 0), (.iload_n 2, 2, 0, 0), (.iload 4, 4, 0, 0), (.ishr, 0, 0, 0), (.iconst 1, 1, 0, 0), (.iand, 0, 0, 0), (.iconst 1, 1, 0, 0), (.if_icmp .ne 31, 2, 0, 0), (.aload_n 0, 0, 0, 0), (.getfield 28, 7, 2, 0), (.aload_n 3, 3, 0, 0), (.getfield 81, 1, 0, 0), (.iload 4, 4, 0, 0), (.iaload, 0, 0, 0), (.aload_n 3, 3, 0, 0), (.getfield 84, 1, 1, 0), (.iload 4, 4, 0, 0), (.iaload, 0, 0, 0), (.aload_n 3, 3, 0, 0), (.getfield 87, 1, 2, 0), (.iload 4, 4, 0, 0), (.iaload, 0, 0, 0), (.invokevirtual 90, 51, 3, 9)], 2),
  ([(.iinc 4 1, 4, 1, 0), (.goto (-50), 1, 0, 0)], 0),
  ([(.return_, 0, 0, 0)], 0)]
-- 42: X7_run
def bt_42 : List (List Op × Nat) := [
  ([(.aload_n 0, 0, 0, 0), (.iconst 0, 0, 0, 0), (.putfield 94, 7, 10, 0), (.aload_n 0, 0, 0, 0), (.getfield 12, 7, 0, 0), (.invokevirtual 97, 38, 0, 6), (.istore_n 1, 1, 0, 0), (.iconst 0, 0, 0, 0), (.istore_n 2, 2, 0, 0)], 1),
  ([(.iload_n 2, 2, 0, 0), (.bipush 24, 24, 0, 0), (.if_icmp .ge 123, 6, 0, 0), (.iconst 0, 0, 0, 0), (.istore_n 3, 3, 0, 0)], 2),
  ([(.iload_n 3, 3, 0, 0), (.aload_n 0, 0, 0, 0), (.getfield 21, 7, 1, 0), (.getfield 101, 2, 2, 0), (.if_icmp .ge 36, 4, 0, 0), (.aload_n 0, 0, 0, 0), (.getfield 21, 7, 1, 0), (.getfield 102, 2, 0, 0), (.iload_n 3, 3, 0, 0), (.iaload, 0, 0, 0), (.iload_n 2, 2, 0, 0), (.if_icmp .ne 17, 3, 0, 0), (.aload_n 0, 0, 0, 0), (.iload_n 3, 3, 0, 0), (.invokevirtual 103, 43, 1, 7), (.iload_n 1, 1, 0, 0), (.aload_n 0, 0, 0, 0), (.getfield 32, 7, 3, 0), (.iload_n 3, 3, 0, 0), (.iaload, 0, 0, 0), (.isub, 0, 0, 0), (.istore_n 1, 1, 0, 0)], 3),
  ([(.iinc 3 1, 3, 1, 0), (.goto (-41), 2, 0, 0)], 0),
  ([(.aload_n 0, 0, 0, 0), (.getfield 39, 7, 5, 0), (.iload_n 2, 2, 0, 0), (.aload_n 0, 0, 0, 0), (.iload_n 2, 2, 0, 0), (.invokevirtual 107, 44, 1, 7), (.iastore, 0, 0, 0), (.iload_n 1, 1, 0, 0), (.aload_n 0, 0, 0, 0), (.getfield 39, 7, 5, 0), (.iload_n 2, 2, 0, 0), (.iaload, 0, 0, 0), (.isub, 0, 0, 0), (.istore_n 1, 1, 0, 0), (.aload_n 0, 0, 0, 0), (.getfield 36, 7, 4, 0), (.iload_n 2, 2, 0, 0), (.iload_n 1, 1, 0, 0), (.iastore, 0, 0, 0), (.aload_n 0, 0, 0, 0), (.getfield 42, 7, 6, 0), (.iload_n 2, 2, 0, 0), (.aload_n 0, 0, 0, 0), (.getfield 12, 7, 0, 0), (.invokevirtual 111, 39, 0, 6), (.iastore, 0, 0, 0), (.aload_n 0, 0, 0, 0), (.getfield 48, 7, 8, 0), (.ifCond .eq 24, 5, 0, 0), (.aload_n 0, 0, 0, 0), (.getfield 12, 7, 0, 0), (.getfield 114, 6, 0, 0), (.iconst 0, 0, 0, 0), (.aload_n 0, 0, 0, 0), (.getfield 52, 7, 7, 0), (.iload_n 2, 2, 0, 0), (.bipush 36, 36, 0, 0), (.imul, 0, 0, 0), (.bipush 36, 36, 0, 0), (.invokestatic 117, 999, 5, 0)], 5),
  ([(.iinc 2 1, 2, 1, 0), (.goto (-123), 1, 0, 0)], 0),
  ([(.return_, 0, 0, 0)], 0)]
-- 43: X7_serve
def bt_43 : List (List Op × Nat) := [
  ([(.iconst 0, 0, 0, 0), (.istore_n 2, 2, 0, 0), (.iconst 0, 0, 0, 0), (.istore_n 3, 3, 0, 0)], 1),
  ([(.iload_n 3, 3, 0, 0), (.bipush 36, 36, 0, 0), (.if_icmp .ge 52, 3, 0, 0), (.iload_n 2, 2, 0, 0), (.aload_n 0, 0, 0, 0), (.getfield 21, 7, 1, 0), (.getfield 123, 2, 1, 0), (.iload_n 1, 1, 0, 0), (.iaload, 0, 0, 0), (.if_icmp .ge 39, 3, 0, 0), (.aload_n 0, 0, 0, 0), (.getfield 12, 7, 0, 0), (.invokevirtual 126, 35, 0, 6), (.istore 4, 4, 0, 0), (.iload 4, 4, 0, 0), (.iconst (-1), 1, 1, 0), (.if_icmp .ne 6, 2, 0, 0), (.goto 21, 3, 0, 0)], 0),
  ([(.iload_n 2, 2, 0, 0), (.aload_n 0, 0, 0, 0), (.getfield 12, 7, 0, 0), (.iload 4, 4, 0, 0), (.invokevirtual 129, 34, 1, 6), (.iadd, 0, 0, 0), (.istore_n 2, 2, 0, 0), (.iinc 3 1, 3, 1, 0), (.goto (-52), 1, 0, 0)], 0),
  ([(.aload_n 0, 0, 0, 0), (.getfield 32, 7, 3, 0), (.iload_n 1, 1, 0, 0), (.iload_n 2, 2, 0, 0), (.iastore, 0, 0, 0), (.iload_n 2, 2, 0, 0), (.aload_n 0, 0, 0, 0), (.getfield 21, 7, 1, 0), (.getfield 123, 2, 1, 0), (.iload_n 1, 1, 0, 0), (.iaload, 0, 0, 0), (.if_icmp .ge 15, 4, 0, 0), (.aload_n 0, 0, 0, 0), (.dup, 0, 0, 0), (.getfield 94, 7, 10, 0), (.iconst 1, 1, 0, 0), (.iload_n 1, 1, 0, 0), (.ishl, 0, 0, 0), (.ior, 0, 0, 0), (.putfield 94, 7, 10, 0)], 4),
  ([(.return_, 0, 0, 0)], 0)]
-- 44: X7_melt
def bt_44 : List (List Op × Nat) := [
  ([(.aload_n 0, 0, 0, 0), (.getfield 12, 7, 0, 0), (.getfield 132, 6, 1, 0), (.iconst 0, 0, 0, 0), (.aload_n 0, 0, 0, 0), (.getfield 45, 7, 9, 0), (.iconst 0, 0, 0, 0), (.bipush 6, 6, 0, 0), (.invokestatic 117, 999, 5, 0), (.iconst 0, 0, 0, 0), (.istore_n 2, 2, 0, 0), (.iconst 0, 0, 0, 0), (.istore_n 3, 3, 0, 0)], 1),
  ([(.iload_n 3, 3, 0, 0), (.bipush 6, 6, 0, 0), (.if_icmp .ge 27, 3, 0, 0), (.aload_n 0, 0, 0, 0), (.getfield 45, 7, 9, 0), (.iload_n 3, 3, 0, 0), (.iaload, 0, 0, 0), (.ifCond .le 12, 2, 0, 0), (.iload_n 2, 2, 0, 0), (.aload_n 0, 0, 0, 0), (.iload_n 3, 3, 0, 0), (.iload_n 1, 1, 0, 0), (.invokevirtual 135, 45, 2, 7), (.iadd, 0, 0, 0), (.istore_n 2, 2, 0, 0)], 2),
  ([(.iinc 3 1, 3, 1, 0), (.goto (-27), 1, 0, 0)], 0),
  ([(.iload_n 2, 2, 0, 0), (.ireturn, 0, 0, 0)], 0)]
-- 45: X7_meltColumn
def bt_45 : List (List Op × Nat) := [
  ([(.iload_n 1, 1, 0, 0), (.ifCond .ne 8, 1, 0, 0), (.bipush 6, 6, 0, 0), (.goto 11, 2, 0, 0)], 0),
  ([(.aload_n 0, 0, 0, 0), (.getfield 45, 7, 9, 0), (.iload_n 1, 1, 0, 0), (.iconst 1, 1, 0, 0), (.isub, 0, 0, 0), (.iaload, 0, 0, 0)], 2),
  ([(.istore_n 3, 3, 0, 0), (.iload_n 1, 1, 0, 0), (.iconst 5, 5, 0, 0), (.if_icmp .ne 8, 3, 0, 0), (.bipush 6, 6, 0, 0), (.goto 11, 4, 0, 0)], 0),
  ([(.aload_n 0, 0, 0, 0), (.getfield 45, 7, 9, 0), (.iload_n 1, 1, 0, 0), (.iconst 1, 1, 0, 0), (.iadd, 0, 0, 0), (.iaload, 0, 0, 0)], 4),
  ([(.istore 4, 4, 0, 0), (.aload_n 0, 0, 0, 0), (.getfield 45, 7, 9, 0), (.iload_n 1, 1, 0, 0), (.iaload, 0, 0, 0), (.iconst 1, 1, 0, 0), (.isub, 0, 0, 0), (.istore 5, 5, 0, 0), (.aload_n 0, 0, 0, 0), (.getfield 28, 7, 2, 0), (.getfield 139, 9, 0, 0), (.iload_n 1, 1, 0, 0), (.iaload, 0, 0, 0), (.iload_n 2, 2, 0, 0), (.if_icmp .gt 7, 5, 0, 0), (.iconst 1, 1, 0, 0), (.goto 4, 6, 0, 0)], 0),
  ([(.iconst 0, 0, 0, 0)], 6),
  ([(.istore 6, 6, 0, 0), (.aload_n 0, 0, 0, 0), (.getfield 28, 7, 2, 0), (.getfield 142, 9, 1, 0), (.iload_n 2, 2, 0, 0), (.ishr, 0, 0, 0), (.iconst 1, 1, 0, 0), (.iand, 0, 0, 0), (.istore 7, 7, 0, 0), (.aload_n 0, 0, 0, 0), (.getfield 28, 7, 2, 0), (.getfield 145, 9, 2, 0), (.iload_n 2, 2, 0, 0), (.ishr, 0, 0, 0), (.iconst 1, 1, 0, 0), (.iand, 0, 0, 0), (.istore 8, 8, 0, 0), (.iload 5, 5, 0, 0), (.iload_n 3, 3, 0, 0), (.iload 4, 4, 0, 0), (.invokestatic 148, 998, 2, 0), (.invokestatic 148, 998, 2, 0), (.istore 9, 9, 0, 0), (.iconst 0, 0, 0, 0), (.istore 10, 10, 0, 0), (.iload 9, 9, 0, 0), (.istore 11, 11, 0, 0), (.iload 9, 9, 0, 0), (.istore 12, 12, 0, 0)], 7),
  ([(.iload 12, 12, 0, 0), (.iload 5, 5, 0, 0), (.if_icmp .gt 160, 17, 0, 0), (.iload 12, 12, 0, 0), (.iload 5, 5, 0, 0), (.if_icmp .ne 12, 8, 0, 0), (.iload 6, 6, 0, 0), (.ifCond .ne 7, 8, 0, 0), (.iconst 1, 1, 0, 0), (.goto 4, 9, 0, 0)], 0),
  ([(.iconst 0, 0, 0, 0)], 9),
  ([(.istore 13, 13, 0, 0), (.iload 13, 13, 0, 0), (.iload_n 3, 3, 0, 0), (.iload 12, 12, 0, 0), (.if_icmp .gt 7, 10, 0, 0), (.iconst 1, 1, 0, 0), (.goto 4, 11, 0, 0)], 0),
  ([(.iconst 0, 0, 0, 0)], 11),
  ([(.iadd, 0, 0, 0), (.iload 4, 4, 0, 0), (.iload 12, 12, 0, 0), (.if_icmp .gt 7, 12, 0, 0), (.iconst 1, 1, 0, 0), (.goto 4, 13, 0, 0)], 0),
  ([(.iconst 0, 0, 0, 0)], 13),
  ([(.iadd, 0, 0, 0), (.istore 14, 14, 0, 0), (.iload 14, 14, 0, 0), (.iconst 2, 2, 0, 0), (.idiv, 0, 0, 0), (.iload 7, 7, 0, 0), (.iload 13, 13, 0, 0), (.imul, 0, 0, 0), (.iadd, 0, 0, 0), (.iload 14, 14, 0, 0), (.ifCond .le 8, 14, 0, 0), (.iload 8, 8, 0, 0), (.goto 4, 15, 0, 0)], 0),
  ([(.iconst 0, 0, 0, 0)], 15),
  ([(.iadd, 0, 0, 0), (.istore 15, 15, 0, 0), (.aload_n 0, 0, 0, 0), (.getfield 12, 7, 0, 0), (.getfield 114, 6, 0, 0), (.iload_n 1, 1, 0, 0), (.bipush 6, 6, 0, 0), (.imul, 0, 0, 0), (.iload 12, 12, 0, 0), (.iadd, 0, 0, 0), (.iaload, 0, 0, 0), (.istore 16, 16, 0, 0), (.iconst 0, 0, 0, 0), (.iload 16, 16, 0, 0), (.iload 15, 15, 0, 0), (.isub, 0, 0, 0), (.invokestatic 153, 997, 2, 0), (.istore 17, 17, 0, 0), (.iload 10, 10, 0, 0), (.iload 16, 16, 0, 0), (.iload 17, 17, 0, 0), (.isub, 0, 0, 0), (.iadd, 0, 0, 0), (.istore 10, 10, 0, 0), (.aload_n 0, 0, 0, 0), (.getfield 12, 7, 0, 0), (.getfield 114, 6, 0, 0), (.iload_n 1, 1, 0, 0), (.bipush 6, 6, 0, 0), (.imul, 0, 0, 0), (.iload 12, 12, 0, 0), (.iadd, 0, 0, 0), (.iconst 0, 0, 0, 0), (.iastore, 0, 0, 0), (.iload 17, 17, 0, 0), (.ifCond .le 23, 16, 0, 0), (.aload_n 0, 0, 0, 0), (.getfield 12, 7, 0, 0), (.getfield 114, 6, 0, 0), (.iload_n 1, 1, 0, 0), (.bipush 6, 6, 0, 0), (.imul, 0, 0, 0), (.iload 11, 11, 0, 0), (.iadd, 0, 0, 0), (.iload 17, 17, 0, 0), (.iastore, 0, 0, 0), (.iinc 11 1, 11, 1, 0)], 16),
  ([(.iinc 12 1, 12, 1, 0), (.goto (-161), 7, 0, 0)], 0),
  ([(.aload_n 0, 0, 0, 0), (.getfield 12, 7, 0, 0), (.getfield 132, 6, 1, 0), (.iload_n 1, 1, 0, 0), (.iload 11, 11, 0, 0), (.iastore, 0, 0, 0), (.iload 10, 10, 0, 0), (.ireturn, 0, 0, 0)], 0)]
-- 46: X7_standingIn
def bt_46 : List (List Op × Nat) := [
  ([(.iconst 0, 0, 0, 0), (.istore_n 3, 3, 0, 0), (.iconst 0, 0, 0, 0), (.istore 4, 4, 0, 0)], 1),
  ([(.iload 4, 4, 0, 0), (.bipush 6, 6, 0, 0), (.if_icmp .ge 36, 2, 0, 0), (.aload_n 0, 0, 0, 0), (.getfield 48, 7, 8, 0), (.ifCond .eq 29, 2, 0, 0), (.iload_n 3, 3, 0, 0), (.aload_n 0, 0, 0, 0), (.getfield 52, 7, 7, 0), (.iload_n 1, 1, 0, 0), (.bipush 36, 36, 0, 0), (.imul, 0, 0, 0), (.iload_n 2, 2, 0, 0), (.bipush 6, 6, 0, 0), (.imul, 0, 0, 0), (.iadd, 0, 0, 0), (.iload 4, 4, 0, 0), (.iadd, 0, 0, 0), (.iaload, 0, 0, 0), (.iadd, 0, 0, 0), (.istore_n 3, 3, 0, 0), (.iinc 4 1, 4, 1, 0), (.goto (-37), 1, 0, 0)], 0),
  ([(.iload_n 3, 3, 0, 0), (.ireturn, 0, 0, 0)], 0)]
-- 47: X7_sumOfAll
def bt_47 : List (List Op × Nat) := [
  ([(.iconst 0, 0, 0, 0), (.istore_n 1, 1, 0, 0), (.iconst 0, 0, 0, 0), (.istore_n 2, 2, 0, 0)], 1),
  ([(.iload_n 2, 2, 0, 0), (.aload_n 0, 0, 0, 0), (.getfield 21, 7, 1, 0), (.getfield 101, 2, 2, 0), (.if_icmp .ge 18, 2, 0, 0), (.iload_n 1, 1, 0, 0), (.aload_n 0, 0, 0, 0), (.getfield 32, 7, 3, 0), (.iload_n 2, 2, 0, 0), (.iaload, 0, 0, 0), (.iadd, 0, 0, 0), (.istore_n 1, 1, 0, 0), (.iinc 2 1, 2, 1, 0), (.goto (-23), 1, 0, 0)], 0),
  ([(.iload_n 1, 1, 0, 0), (.ireturn, 0, 0, 0)], 0)]
-- 48: X7_shortOrders
def bt_48 : List (List Op × Nat) := [
  ([(.aload_n 0, 0, 0, 0), (.getfield 94, 7, 10, 0), (.invokestatic 156, 196, 1, 0), (.ireturn, 0, 0, 0)], 0)]
-- 49: X8_append
def bt_49 : List (List Op × Nat) := [
  ([(.aload_n 0, 0, 0, 0), (.getfield 25, 8, 2, 0), (.aload_n 0, 0, 0, 0), (.getfield 21, 8, 0, 0), (.if_icmp .ge 23, 1, 0, 0), (.aload_n 0, 0, 0, 0), (.getfield 9, 8, 1, 0), (.aload_n 0, 0, 0, 0), (.getfield 25, 8, 2, 0), (.iload_n 1, 1, 0, 0), (.iastore, 0, 0, 0), (.aload_n 0, 0, 0, 0), (.dup, 0, 0, 0), (.getfield 25, 8, 2, 0), (.iconst 1, 1, 0, 0), (.iadd, 0, 0, 0), (.putfield 25, 8, 2, 0)], 1),
  ([(.return_, 0, 0, 0)], 0)]
-- 50: X9_beCalm
def bt_50 : List (List Op × Nat) := [
  ([(.aload_n 0, 0, 0, 0), (.getfield 9, 9, 0, 0), (.bipush 24, 24, 0, 0), (.invokestatic 15, 197, 2, 0), (.aload_n 0, 0, 0, 0), (.iconst 0, 0, 0, 0), (.putfield 21, 9, 1, 0), (.aload_n 0, 0, 0, 0), (.iconst 0, 0, 0, 0), (.putfield 25, 9, 2, 0), (.return_, 0, 0, 0)], 0)]
-- 51: X9_happen
def bt_51 : List (List Op × Nat) := [
  ([(.iload_n 1, 1, 0, 0), (.ifCond .ne 18, 1, 0, 0), (.aload_n 0, 0, 0, 0), (.dup, 0, 0, 0), (.getfield 21, 9, 1, 0), (.iconst 1, 1, 0, 0), (.iload_n 2, 2, 0, 0), (.ishl, 0, 0, 0), (.ior, 0, 0, 0), (.putfield 21, 9, 1, 0), (.goto 44, 3, 0, 0)], 0),
  ([(.iload_n 1, 1, 0, 0), (.iconst 1, 1, 0, 0), (.if_icmp .ne 18, 2, 0, 0), (.aload_n 0, 0, 0, 0), (.dup, 0, 0, 0), (.getfield 25, 9, 2, 0), (.iconst 1, 1, 0, 0), (.iload_n 2, 2, 0, 0), (.ishl, 0, 0, 0), (.ior, 0, 0, 0), (.putfield 25, 9, 2, 0), (.goto 24, 3, 0, 0)], 0),
  ([(.iload_n 1, 1, 0, 0), (.iconst 2, 2, 0, 0), (.if_icmp .ne 19, 3, 0, 0), (.aload_n 0, 0, 0, 0), (.getfield 9, 9, 0, 0), (.iload_n 3, 3, 0, 0), (.aload_n 0, 0, 0, 0), (.getfield 9, 9, 0, 0), (.iload_n 3, 3, 0, 0), (.iaload, 0, 0, 0), (.iload_n 2, 2, 0, 0), (.invokestatic 28, 998, 2, 0), (.iastore, 0, 0, 0)], 3),
  ([(.return_, 0, 0, 0)], 0)]
-- 52: X10_type
def bt_52 : List (List Op × Nat) := [
  ([(.iload_n 1, 1, 0, 0), (.iconst 1, 1, 0, 0), (.invokestatic 49, 93, 2, 0), (.ifCond .ne 13, 1, 0, 0), (.iload_n 2, 2, 0, 0), (.sipush 255, 255, 0, 0), (.invokestatic 49, 93, 2, 0), (.ifCond .eq 6, 2, 0, 0)], 1),
  ([(.bipush (-2), 2, 1, 0), (.ireturn, 0, 0, 0)], 0),
  ([(.aload_n 0, 0, 0, 0), (.getfield 10, 10, 0, 0), (.iload_n 1, 1, 0, 0), (.invokevirtual 53, 0, 1, 0), (.astore_n 3, 3, 0, 0), (.aload_n 3, 3, 0, 0), (.getfield 57, 8, 2, 0), (.aload_n 3, 3, 0, 0), (.getfield 62, 8, 0, 0), (.if_icmp .lt 6, 3, 0, 0), (.bipush (-4), 4, 1, 0), (.ireturn, 0, 0, 0)], 0),
  ([(.aload_n 3, 3, 0, 0), (.iload_n 2, 2, 0, 0), (.invokevirtual 65, 49, 1, 8), (.aload_n 0, 0, 0, 0), (.iload_n 1, 1, 0, 0), (.invokevirtual 69, 96, 1, 10), (.aload_n 3, 3, 0, 0), (.getfield 57, 8, 2, 0), (.ireturn, 0, 0, 0)], 0)]
-- 53: X10_wipe
def bt_53 : List (List Op × Nat) := [
  ([(.iload_n 1, 1, 0, 0), (.iconst 1, 1, 0, 0), (.invokestatic 49, 93, 2, 0), (.ifCond .eq 6, 1, 0, 0), (.bipush (-2), 2, 1, 0), (.ireturn, 0, 0, 0)], 0),
  ([(.aload_n 0, 0, 0, 0), (.getfield 10, 10, 0, 0), (.iload_n 1, 1, 0, 0), (.invokevirtual 53, 0, 1, 0), (.astore_n 2, 2, 0, 0), (.aload_n 2, 2, 0, 0), (.getfield 57, 8, 2, 0), (.istore_n 3, 3, 0, 0), (.aload_n 2, 2, 0, 0), (.iconst 0, 0, 0, 0), (.putfield 57, 8, 2, 0), (.aload_n 0, 0, 0, 0), (.iload_n 1, 1, 0, 0), (.invokevirtual 69, 96, 1, 10), (.iload_n 3, 3, 0, 0), (.ireturn, 0, 0, 0)], 0)]
-- 54: X10_undo
def bt_54 : List (List Op × Nat) := [
  ([(.iload_n 1, 1, 0, 0), (.iconst 1, 1, 0, 0), (.invokestatic 49, 93, 2, 0), (.ifCond .eq 6, 1, 0, 0), (.bipush (-2), 2, 1, 0), (.ireturn, 0, 0, 0)], 0),
  ([(.aload_n 0, 0, 0, 0), (.getfield 10, 10, 0, 0), (.iload_n 1, 1, 0, 0), (.invokevirtual 53, 0, 1, 0), (.astore_n 2, 2, 0, 0), (.aload_n 2, 2, 0, 0), (.getfield 57, 8, 2, 0), (.ifCond .ne 6, 2, 0, 0), (.bipush (-3), 3, 1, 0), (.ireturn, 0, 0, 0)], 0),
  ([(.aload_n 2, 2, 0, 0), (.dup, 0, 0, 0), (.getfield 57, 8, 2, 0), (.iconst 1, 1, 0, 0), (.isub, 0, 0, 0), (.putfield 57, 8, 2, 0), (.aload_n 0, 0, 0, 0), (.iload_n 1, 1, 0, 0), (.invokevirtual 69, 96, 1, 10), (.aload_n 2, 2, 0, 0), (.getfield 57, 8, 2, 0), (.ireturn, 0, 0, 0)], 0)]
-- 55: X10_fault
def bt_55 : List (List Op × Nat) := [
  ([(.iload_n 1, 1, 0, 0), (.iconst 1, 1, 0, 0), (.invokestatic 49, 93, 2, 0), (.ifCond .eq 6, 1, 0, 0), (.bipush (-2), 2, 1, 0), (.ireturn, 0, 0, 0)], 0),
  ([(.iload_n 1, 1, 0, 0), (.ifCond .ne 13, 2, 0, 0), (.aload_n 0, 0, 0, 0), (.getfield 10, 10, 0, 0), (.getfield 72, 0, 6, 0), (.goto 10, 3, 0, 0)], 0),
  ([(.aload_n 0, 0, 0, 0), (.getfield 10, 10, 0, 0), (.getfield 75, 0, 7, 0)], 3),
  ([(.ireturn, 0, 0, 0)], 0)]
-- 56: X10_told
def bt_56 : List (List Op × Nat) := [
  ([(.iload_n 1, 1, 0, 0), (.iconst 5, 5, 0, 0), (.invokestatic 49, 93, 2, 0), (.ifCond .ne 11, 1, 0, 0), (.iload_n 2, 2, 0, 0), (.iconst 5, 5, 0, 0), (.invokestatic 49, 93, 2, 0), (.ifCond .eq 6, 2, 0, 0)], 1),
  ([(.bipush (-2), 2, 1, 0), (.ireturn, 0, 0, 0)], 0),
  ([(.aload_n 0, 0, 0, 0), (.getfield 10, 10, 0, 0), (.getfield 78, 0, 2, 0), (.getfield 82, 6, 0, 0), (.iload_n 1, 1, 0, 0), (.bipush 6, 6, 0, 0), (.imul, 0, 0, 0), (.iload_n 2, 2, 0, 0), (.iadd, 0, 0, 0), (.iaload, 0, 0, 0), (.ireturn, 0, 0, 0)], 0)]
-- 57: X10_order
def bt_57 : List (List Op × Nat) := [
  ([(.iload_n 1, 1, 0, 0), (.aload_n 0, 0, 0, 0), (.getfield 10, 10, 0, 0), (.getfield 88, 0, 3, 0), (.getfield 92, 2, 2, 0), (.iconst 1, 1, 0, 0), (.isub, 0, 0, 0), (.invokestatic 49, 93, 2, 0), (.ifCond .ne 11, 1, 0, 0), (.iload_n 2, 2, 0, 0), (.iconst 1, 1, 0, 0), (.invokestatic 49, 93, 2, 0), (.ifCond .eq 6, 2, 0, 0)], 1),
  ([(.bipush (-2), 2, 1, 0), (.ireturn, 0, 0, 0)], 0),
  ([(.iload_n 2, 2, 0, 0), (.ifCond .ne 18, 3, 0, 0), (.aload_n 0, 0, 0, 0), (.getfield 10, 10, 0, 0), (.getfield 88, 0, 3, 0), (.getfield 97, 2, 0, 0), (.iload_n 1, 1, 0, 0), (.iaload, 0, 0, 0), (.goto 15, 4, 0, 0)], 0),
  ([(.aload_n 0, 0, 0, 0), (.getfield 10, 10, 0, 0), (.getfield 88, 0, 3, 0), (.getfield 100, 2, 1, 0), (.iload_n 1, 1, 0, 0), (.iaload, 0, 0, 0)], 4),
  ([(.ireturn, 0, 0, 0)], 0)]
-- 58: X10_event
def bt_58 : List (List Op × Nat) := [
  ([(.iload_n 1, 1, 0, 0), (.iload_n 2, 2, 0, 0), (.iload_n 3, 3, 0, 0), (.invokestatic 103, 6, 3, 0), (.ifCond .ne 6, 1, 0, 0), (.bipush (-2), 2, 1, 0), (.ireturn, 0, 0, 0)], 0),
  ([(.aload_n 0, 0, 0, 0), (.getfield 10, 10, 0, 0), (.getfield 109, 0, 4, 0), (.getfield 113, 1, 3, 0), (.bipush 8, 8, 0, 0), (.if_icmp .lt 6, 2, 0, 0), (.bipush (-4), 4, 1, 0), (.ireturn, 0, 0, 0)], 0),
  ([(.aload_n 0, 0, 0, 0), (.getfield 10, 10, 0, 0), (.getfield 109, 0, 4, 0), (.iload_n 1, 1, 0, 0), (.iload_n 2, 2, 0, 0), (.iload_n 3, 3, 0, 0), (.invokevirtual 114, 7, 3, 1), (.aload_n 0, 0, 0, 0), (.invokevirtual 117, 97, 0, 10), (.aload_n 0, 0, 0, 0), (.getfield 10, 10, 0, 0), (.getfield 109, 0, 4, 0), (.getfield 113, 1, 3, 0), (.ireturn, 0, 0, 0)], 0)]
-- 59: X10_back
def bt_59 : List (List Op × Nat) := [
  ([(.aload_n 0, 0, 0, 0), (.getfield 10, 10, 0, 0), (.getfield 109, 0, 4, 0), (.getfield 113, 1, 3, 0), (.ifCond .ne 6, 1, 0, 0), (.bipush (-3), 3, 1, 0), (.ireturn, 0, 0, 0)], 0),
  ([(.aload_n 0, 0, 0, 0), (.getfield 10, 10, 0, 0), (.getfield 109, 0, 4, 0), (.dup, 0, 0, 0), (.getfield 113, 1, 3, 0), (.iconst 1, 1, 0, 0), (.isub, 0, 0, 0), (.putfield 113, 1, 3, 0), (.aload_n 0, 0, 0, 0), (.invokevirtual 117, 97, 0, 10), (.aload_n 0, 0, 0, 0), (.getfield 10, 10, 0, 0), (.getfield 109, 0, 4, 0), (.getfield 113, 1, 3, 0), (.ireturn, 0, 0, 0)], 0)]
-- 60: X10_read
def bt_60 : List (List Op × Nat) := [
  ([(.iload_n 1, 1, 0, 0), (.iconst 3, 3, 0, 0), (.invokestatic 49, 93, 2, 0), (.ifCond .eq 6, 1, 0, 0), (.bipush (-2), 2, 1, 0), (.ireturn, 0, 0, 0)], 0),
  ([(.aload_n 0, 0, 0, 0), (.getfield 36, 10, 3, 0), (.iload_n 1, 1, 0, 0), (.aaload, 0, 0, 0), (.astore_n 2, 2, 0, 0), (.aload_n 2, 2, 0, 0), (.getfield 120, 5, 1, 0), (.iconst (-1), 1, 1, 0), (.if_icmp .ne 9, 2, 0, 0), (.aload_n 0, 0, 0, 0), (.iconst 1, 1, 0, 0), (.invokevirtual 123, 95, 1, 10), (.ireturn, 0, 0, 0)], 0),
  ([(.aload_n 0, 0, 0, 0), (.getfield 10, 10, 0, 0), (.getfield 109, 0, 4, 0), (.astore_n 3, 3, 0, 0), (.aload_n 3, 3, 0, 0), (.getfield 113, 1, 3, 0), (.istore 4, 4, 0, 0), (.iconst 0, 0, 0, 0), (.istore 5, 5, 0, 0)], 3),
  ([(.iload 5, 5, 0, 0), (.iconst 2, 2, 0, 0), (.iadd, 0, 0, 0), (.aload_n 2, 2, 0, 0), (.getfield 127, 5, 2, 0), (.if_icmp .ge 74, 5, 0, 0), (.aload_n 3, 3, 0, 0), (.getfield 113, 1, 3, 0), (.bipush 8, 8, 0, 0), (.if_icmp .ge 65, 5, 0, 0), (.aload_n 2, 2, 0, 0), (.getfield 128, 5, 0, 0), (.iload 5, 5, 0, 0), (.iaload, 0, 0, 0), (.istore 6, 6, 0, 0), (.aload_n 2, 2, 0, 0), (.getfield 128, 5, 0, 0), (.iload 5, 5, 0, 0), (.iconst 1, 1, 0, 0), (.iadd, 0, 0, 0), (.iaload, 0, 0, 0), (.istore 7, 7, 0, 0), (.aload_n 2, 2, 0, 0), (.getfield 128, 5, 0, 0), (.iload 5, 5, 0, 0), (.iconst 2, 2, 0, 0), (.iadd, 0, 0, 0), (.iaload, 0, 0, 0), (.istore 8, 8, 0, 0), (.iload 6, 6, 0, 0), (.iload 7, 7, 0, 0), (.iload 8, 8, 0, 0), (.invokestatic 103, 6, 3, 0), (.ifCond .ne 6, 4, 0, 0), (.goto 19, 5, 0, 0)], 0),
  ([(.aload_n 3, 3, 0, 0), (.iload 6, 6, 0, 0), (.iload 7, 7, 0, 0), (.iload 8, 8, 0, 0), (.invokevirtual 114, 7, 3, 1), (.iinc 5 3, 5, 3, 0), (.goto (-79), 3, 0, 0)], 0),
  ([(.aload_n 0, 0, 0, 0), (.invokevirtual 117, 97, 0, 10), (.aload_n 3, 3, 0, 0), (.getfield 113, 1, 3, 0), (.iload 4, 4, 0, 0), (.isub, 0, 0, 0), (.ireturn, 0, 0, 0)], 0)]
-- 61: X10_column
def bt_61 : List (List Op × Nat) := [
  ([(.iload_n 1, 1, 0, 0), (.bipush 23, 23, 0, 0), (.invokestatic 49, 93, 2, 0), (.ifCond .ne 19, 1, 0, 0), (.iload_n 2, 2, 0, 0), (.iconst 5, 5, 0, 0), (.invokestatic 49, 93, 2, 0), (.ifCond .ne 11, 1, 0, 0), (.iload_n 3, 3, 0, 0), (.iconst 1, 1, 0, 0), (.invokestatic 49, 93, 2, 0), (.ifCond .eq 6, 2, 0, 0)], 1),
  ([(.bipush (-2), 2, 1, 0), (.ireturn, 0, 0, 0)], 0),
  ([(.aload_n 0, 0, 0, 0), (.invokevirtual 131, 98, 0, 10), (.astore 4, 4, 0, 0), (.iload_n 3, 3, 0, 0), (.ifCond .ne 17, 3, 0, 0), (.aload 4, 4, 0, 0), (.getfield 135, 7, 6, 0), (.iload_n 1, 1, 0, 0), (.iaload, 0, 0, 0), (.iload_n 2, 2, 0, 0), (.invokestatic 138, 40, 2, 0), (.goto 10, 4, 0, 0)], 0),
  ([(.aload 4, 4, 0, 0), (.iload_n 1, 1, 0, 0), (.iload_n 2, 2, 0, 0), (.invokevirtual 142, 46, 2, 7)], 4),
  ([(.ireturn, 0, 0, 0)], 0)]
-- 62: X10_block
def bt_62 : List (List Op × Nat) := [
  ([(.iload_n 1, 1, 0, 0), (.bipush 23, 23, 0, 0), (.invokestatic 49, 93, 2, 0), (.ifCond .ne 19, 1, 0, 0), (.iload_n 2, 2, 0, 0), (.iconst 5, 5, 0, 0), (.invokestatic 49, 93, 2, 0), (.ifCond .ne 11, 1, 0, 0), (.iload_n 3, 3, 0, 0), (.iconst 5, 5, 0, 0), (.invokestatic 49, 93, 2, 0), (.ifCond .eq 6, 2, 0, 0)], 1),
  ([(.bipush (-2), 2, 1, 0), (.ireturn, 0, 0, 0)], 0),
  ([(.aload_n 0, 0, 0, 0), (.invokevirtual 131, 98, 0, 10), (.getfield 145, 7, 7, 0), (.iload_n 1, 1, 0, 0), (.bipush 36, 36, 0, 0), (.imul, 0, 0, 0), (.iload_n 2, 2, 0, 0), (.bipush 6, 6, 0, 0), (.imul, 0, 0, 0), (.iadd, 0, 0, 0), (.iload_n 3, 3, 0, 0), (.iadd, 0, 0, 0), (.iaload, 0, 0, 0), (.ireturn, 0, 0, 0)], 0)]
-- 63: X10_ice
def bt_63 : List (List Op × Nat) := [
  ([(.iload_n 1, 1, 0, 0), (.bipush 23, 23, 0, 0), (.invokestatic 49, 93, 2, 0), (.ifCond .ne 11, 1, 0, 0), (.iload_n 2, 2, 0, 0), (.iconst 1, 1, 0, 0), (.invokestatic 49, 93, 2, 0), (.ifCond .eq 6, 2, 0, 0)], 1),
  ([(.bipush (-2), 2, 1, 0), (.ireturn, 0, 0, 0)], 0),
  ([(.iload_n 2, 2, 0, 0), (.ifCond .ne 15, 3, 0, 0), (.aload_n 0, 0, 0, 0), (.invokevirtual 131, 98, 0, 10), (.getfield 148, 7, 4, 0), (.iload_n 1, 1, 0, 0), (.iaload, 0, 0, 0), (.goto 12, 4, 0, 0)], 0),
  ([(.aload_n 0, 0, 0, 0), (.invokevirtual 131, 98, 0, 10), (.getfield 151, 7, 5, 0), (.iload_n 1, 1, 0, 0), (.iaload, 0, 0, 0)], 4),
  ([(.ireturn, 0, 0, 0)], 0)]
-- 64: X10_got
def bt_64 : List (List Op × Nat) := [
  ([(.iload_n 1, 1, 0, 0), (.aload_n 0, 0, 0, 0), (.getfield 10, 10, 0, 0), (.getfield 88, 0, 3, 0), (.getfield 92, 2, 2, 0), (.iconst 1, 1, 0, 0), (.isub, 0, 0, 0), (.invokestatic 49, 93, 2, 0), (.ifCond .ne 11, 1, 0, 0), (.iload_n 2, 2, 0, 0), (.iconst 1, 1, 0, 0), (.invokestatic 49, 93, 2, 0), (.ifCond .eq 6, 2, 0, 0)], 1),
  ([(.bipush (-2), 2, 1, 0), (.ireturn, 0, 0, 0)], 0),
  ([(.aload_n 0, 0, 0, 0), (.invokevirtual 131, 98, 0, 10), (.astore_n 3, 3, 0, 0), (.iload_n 2, 2, 0, 0), (.ifCond .ne 12, 3, 0, 0), (.aload_n 3, 3, 0, 0), (.getfield 154, 7, 3, 0), (.iload_n 1, 1, 0, 0), (.iaload, 0, 0, 0), (.goto 11, 4, 0, 0)], 0),
  ([(.aload_n 3, 3, 0, 0), (.getfield 157, 7, 10, 0), (.iload_n 1, 1, 0, 0), (.ishr, 0, 0, 0), (.iconst 1, 1, 0, 0), (.iand, 0, 0, 0)], 4),
  ([(.ireturn, 0, 0, 0)], 0)]
-- 65: X10_sum
def bt_65 : List (List Op × Nat) := [
  ([(.iload_n 1, 1, 0, 0), (.iconst 1, 1, 0, 0), (.invokestatic 49, 93, 2, 0), (.ifCond .eq 6, 1, 0, 0), (.bipush (-2), 2, 1, 0), (.ireturn, 0, 0, 0)], 0),
  ([(.iload_n 1, 1, 0, 0), (.ifCond .ne 13, 2, 0, 0), (.aload_n 0, 0, 0, 0), (.invokevirtual 131, 98, 0, 10), (.invokevirtual 160, 47, 0, 7), (.goto 10, 3, 0, 0)], 0),
  ([(.aload_n 0, 0, 0, 0), (.invokevirtual 131, 98, 0, 10), (.invokevirtual 164, 48, 0, 7)], 3),
  ([(.ireturn, 0, 0, 0)], 0)]
-- 66: X10_bare
def bt_66 : List (List Op × Nat) := [
  ([(.iload_n 1, 1, 0, 0), (.iconst 5, 5, 0, 0), (.invokestatic 49, 93, 2, 0), (.ifCond .eq 6, 1, 0, 0), (.bipush (-2), 2, 1, 0), (.ireturn, 0, 0, 0)], 0),
  ([(.aload_n 0, 0, 0, 0), (.invokevirtual 131, 98, 0, 10), (.astore_n 2, 2, 0, 0), (.iconst 0, 0, 0, 0), (.istore_n 3, 3, 0, 0)], 2),
  ([(.iload_n 3, 3, 0, 0), (.bipush 24, 24, 0, 0), (.if_icmp .ge 24, 4, 0, 0), (.aload_n 2, 2, 0, 0), (.getfield 135, 7, 6, 0), (.iload_n 3, 3, 0, 0), (.iaload, 0, 0, 0), (.iload_n 1, 1, 0, 0), (.invokestatic 138, 40, 2, 0), (.ifCond .ne 5, 3, 0, 0), (.iload_n 3, 3, 0, 0), (.ireturn, 0, 0, 0)], 0),
  ([(.iinc 3 1, 3, 1, 0), (.goto (-24), 2, 0, 0)], 0),
  ([(.iconst (-1), 1, 1, 0), (.ireturn, 0, 0, 0)], 0)]
-- 67: X10_last
def bt_67 : List (List Op × Nat) := [
  ([(.aload_n 0, 0, 0, 0), (.invokevirtual 131, 98, 0, 10), (.astore_n 1, 1, 0, 0), (.iconst 0, 0, 0, 0), (.istore_n 2, 2, 0, 0)], 1),
  ([(.iload_n 2, 2, 0, 0), (.bipush 24, 24, 0, 0), (.if_icmp .ge 20, 3, 0, 0), (.aload_n 1, 1, 0, 0), (.getfield 148, 7, 4, 0), (.iload_n 2, 2, 0, 0), (.iaload, 0, 0, 0), (.ifCond .ne 5, 2, 0, 0), (.iload_n 2, 2, 0, 0), (.ireturn, 0, 0, 0)], 0),
  ([(.iinc 2 1, 2, 1, 0), (.goto (-20), 1, 0, 0)], 0),
  ([(.iconst (-1), 1, 1, 0), (.ireturn, 0, 0, 0)], 0)]
-- 68: X10_tall
def bt_68 : List (List Op × Nat) := [
  ([(.aload_n 0, 0, 0, 0), (.invokevirtual 131, 98, 0, 10), (.getfield 135, 7, 6, 0), (.bipush 23, 23, 0, 0), (.iaload, 0, 0, 0), (.istore_n 1, 1, 0, 0), (.iconst 0, 0, 0, 0), (.istore_n 2, 2, 0, 0), (.iconst 1, 1, 0, 0), (.istore_n 3, 3, 0, 0)], 1),
  ([(.iload_n 3, 3, 0, 0), (.bipush 6, 6, 0, 0), (.if_icmp .ge 24, 3, 0, 0), (.iload_n 1, 1, 0, 0), (.iload_n 3, 3, 0, 0), (.invokestatic 138, 40, 2, 0), (.iload_n 1, 1, 0, 0), (.iload_n 2, 2, 0, 0), (.invokestatic 138, 40, 2, 0), (.if_icmp .le 5, 2, 0, 0), (.iload_n 3, 3, 0, 0), (.istore_n 2, 2, 0, 0)], 2),
  ([(.iinc 3 1, 3, 1, 0), (.goto (-24), 1, 0, 0)], 0),
  ([(.iload_n 2, 2, 0, 0), (.ireturn, 0, 0, 0)], 0)]
-- 69: X10_drain
def bt_69 : List (List Op × Nat) := [
  ([(.iload_n 1, 1, 0, 0), (.iconst 1, 1, 0, 0), (.invokestatic 49, 93, 2, 0), (.ifCond .eq 6, 1, 0, 0), (.bipush (-2), 2, 1, 0), (.ireturn, 0, 0, 0)], 0),
  ([(.aload_n 0, 0, 0, 0), (.invokevirtual 131, 98, 0, 10), (.getfield 151, 7, 5, 0), (.astore_n 2, 2, 0, 0), (.iconst 0, 0, 0, 0), (.istore_n 3, 3, 0, 0), (.iconst 1, 1, 0, 0), (.istore 4, 4, 0, 0)], 2),
  ([(.iload 4, 4, 0, 0), (.bipush 24, 24, 0, 0), (.if_icmp .ge 22, 4, 0, 0), (.aload_n 2, 2, 0, 0), (.iload 4, 4, 0, 0), (.iaload, 0, 0, 0), (.aload_n 2, 2, 0, 0), (.iload_n 3, 3, 0, 0), (.iaload, 0, 0, 0), (.if_icmp .le 6, 3, 0, 0), (.iload 4, 4, 0, 0), (.istore_n 3, 3, 0, 0)], 3),
  ([(.iinc 4 1, 4, 1, 0), (.goto (-23), 2, 0, 0)], 0),
  ([(.iload_n 1, 1, 0, 0), (.ifCond .ne 7, 5, 0, 0), (.iload_n 3, 3, 0, 0), (.goto 6, 6, 0, 0)], 0),
  ([(.aload_n 2, 2, 0, 0), (.iload_n 3, 3, 0, 0), (.iaload, 0, 0, 0)], 6),
  ([(.ireturn, 0, 0, 0)], 0)]
-- 70: X10_cover
def bt_70 : List (List Op × Nat) := [
  ([(.iload_n 1, 1, 0, 0), (.iconst 1, 1, 0, 0), (.invokestatic 49, 93, 2, 0), (.ifCond .eq 6, 1, 0, 0), (.bipush (-2), 2, 1, 0), (.ireturn, 0, 0, 0)], 0),
  ([(.aload_n 0, 0, 0, 0), (.getfield 21, 10, 1, 0), (.invokevirtual 167, 9, 0, 3), (.iload_n 1, 1, 0, 0), (.ifCond .ne 13, 2, 0, 0), (.aload_n 0, 0, 0, 0), (.getfield 21, 10, 1, 0), (.getfield 170, 3, 5, 0), (.goto 10, 3, 0, 0)], 0),
  ([(.aload_n 0, 0, 0, 0), (.getfield 21, 10, 1, 0), (.getfield 173, 3, 7, 0)], 3),
  ([(.ireturn, 0, 0, 0)], 0)]
-- 71: X10_swap
def bt_71 : List (List Op × Nat) := [
  ([(.iload_n 1, 1, 0, 0), (.iconst 2, 2, 0, 0), (.invokestatic 49, 93, 2, 0), (.ifCond .eq 6, 1, 0, 0), (.bipush (-2), 2, 1, 0), (.ireturn, 0, 0, 0)], 0),
  ([(.aload_n 0, 0, 0, 0), (.getfield 21, 10, 1, 0), (.invokevirtual 176, 10, 0, 3), (.iload_n 1, 1, 0, 0), (.ifCond .ne 13, 2, 0, 0), (.aload_n 0, 0, 0, 0), (.getfield 21, 10, 1, 0), (.getfield 170, 3, 5, 0), (.goto 25, 4, 0, 0)], 0),
  ([(.iload_n 1, 1, 0, 0), (.iconst 1, 1, 0, 0), (.if_icmp .ne 13, 3, 0, 0), (.aload_n 0, 0, 0, 0), (.getfield 21, 10, 1, 0), (.getfield 179, 3, 6, 0), (.goto 10, 4, 0, 0)], 0),
  ([(.aload_n 0, 0, 0, 0), (.getfield 21, 10, 1, 0), (.getfield 173, 3, 7, 0)], 4),
  ([(.ireturn, 0, 0, 0)], 0)]
-- 72: X10_later
def bt_72 : List (List Op × Nat) := [
  ([(.iload_n 1, 1, 0, 0), (.aload_n 0, 0, 0, 0), (.getfield 10, 10, 0, 0), (.getfield 88, 0, 3, 0), (.getfield 92, 2, 2, 0), (.iconst 1, 1, 0, 0), (.isub, 0, 0, 0), (.invokestatic 49, 93, 2, 0), (.ifCond .ne 11, 1, 0, 0), (.iload_n 2, 2, 0, 0), (.iconst 1, 1, 0, 0), (.invokestatic 49, 93, 2, 0), (.ifCond .eq 6, 2, 0, 0)], 1),
  ([(.bipush (-2), 2, 1, 0), (.ireturn, 0, 0, 0)], 0),
  ([(.aload_n 0, 0, 0, 0), (.getfield 21, 10, 1, 0), (.iload_n 1, 1, 0, 0), (.invokevirtual 182, 11, 1, 3), (.iload_n 2, 2, 0, 0), (.ifCond .ne 13, 3, 0, 0), (.aload_n 0, 0, 0, 0), (.getfield 21, 10, 1, 0), (.getfield 170, 3, 5, 0), (.goto 10, 4, 0, 0)], 0),
  ([(.aload_n 0, 0, 0, 0), (.getfield 21, 10, 1, 0), (.getfield 173, 3, 7, 0)], 4),
  ([(.ireturn, 0, 0, 0)], 0)]
-- 73: X10_spare
def bt_73 : List (List Op × Nat) := [
  ([(.iload_n 1, 1, 0, 0), (.iconst (-1), 1, 1, 0), (.if_icmp .lt 8, 1, 0, 0), (.iload_n 1, 1, 0, 0), (.iconst 1, 1, 0, 0), (.if_icmp .le 6, 2, 0, 0)], 1),
  ([(.bipush (-2), 2, 1, 0), (.ireturn, 0, 0, 0)], 0),
  ([(.aload_n 0, 0, 0, 0), (.getfield 21, 10, 1, 0), (.invokevirtual 185, 14, 0, 3), (.iload_n 1, 1, 0, 0), (.iconst (-1), 1, 1, 0), (.if_icmp .ne 13, 3, 0, 0), (.aload_n 0, 0, 0, 0), (.getfield 21, 10, 1, 0), (.getfield 173, 3, 7, 0), (.goto 24, 5, 0, 0)], 0),
  ([(.iload_n 1, 1, 0, 0), (.ifCond .ne 13, 4, 0, 0), (.aload_n 0, 0, 0, 0), (.getfield 21, 10, 1, 0), (.getfield 170, 3, 5, 0), (.goto 10, 5, 0, 0)], 0),
  ([(.aload_n 0, 0, 0, 0), (.getfield 21, 10, 1, 0), (.getfield 179, 3, 6, 0)], 5),
  ([(.ireturn, 0, 0, 0)], 0)]
-- 74: X10_seen
def bt_74 : List (List Op × Nat) := [
  ([(.iload_n 1, 1, 0, 0), (.bipush 23, 23, 0, 0), (.invokestatic 49, 93, 2, 0), (.ifCond .ne 20, 1, 0, 0), (.iload_n 2, 2, 0, 0), (.iconst 5, 5, 0, 0), (.invokestatic 49, 93, 2, 0), (.ifCond .ne 12, 1, 0, 0), (.iload_n 3, 3, 0, 0), (.bipush 6, 6, 0, 0), (.invokestatic 49, 93, 2, 0), (.ifCond .eq 6, 2, 0, 0)], 1),
  ([(.bipush (-2), 2, 1, 0), (.ireturn, 0, 0, 0)], 0),
  ([(.aload_n 0, 0, 0, 0), (.getfield 10, 10, 0, 0), (.getfield 188, 0, 5, 0), (.getfield 192, 4, 3, 0), (.bipush 8, 8, 0, 0), (.if_icmp .lt 6, 3, 0, 0), (.bipush (-4), 4, 1, 0), (.ireturn, 0, 0, 0)], 0),
  ([(.aload_n 0, 0, 0, 0), (.getfield 10, 10, 0, 0), (.getfield 188, 0, 5, 0), (.iload_n 1, 1, 0, 0), (.iload_n 2, 2, 0, 0), (.iload_n 3, 3, 0, 0), (.invokevirtual 195, 25, 3, 4), (.aload_n 0, 0, 0, 0), (.getfield 10, 10, 0, 0), (.getfield 188, 0, 5, 0), (.getfield 192, 4, 3, 0), (.ireturn, 0, 0, 0)], 0)]
-- 75: X10_forget
def bt_75 : List (List Op × Nat) := [
  ([(.aload_n 0, 0, 0, 0), (.getfield 10, 10, 0, 0), (.getfield 188, 0, 5, 0), (.getfield 192, 4, 3, 0), (.istore_n 1, 1, 0, 0), (.aload_n 0, 0, 0, 0), (.getfield 10, 10, 0, 0), (.getfield 188, 0, 5, 0), (.iconst 0, 0, 0, 0), (.putfield 192, 4, 3, 0), (.iload_n 1, 1, 0, 0), (.ireturn, 0, 0, 0)], 0)]
-- 76: X10_never
def bt_76 : List (List Op × Nat) := [
  ([(.aload_n 0, 0, 0, 0), (.getfield 21, 10, 1, 0), (.invokevirtual 196, 15, 0, 3), (.ireturn, 0, 0, 0)], 0)]
-- 77: X10_size
def bt_77 : List (List Op × Nat) := [
  ([(.aload_n 0, 0, 0, 0), (.iload_n 1, 1, 0, 0), (.iload_n 2, 2, 0, 0), (.invokevirtual 199, 94, 2, 10), (.ifCond .eq 8, 1, 0, 0), (.bipush (-2), 2, 1, 0), (.goto 12, 2, 0, 0)], 0),
  ([(.aload_n 0, 0, 0, 0), (.getfield 21, 10, 1, 0), (.iload_n 1, 1, 0, 0), (.iload_n 2, 2, 0, 0), (.invokevirtual 202, 16, 2, 3)], 2),
  ([(.ireturn, 0, 0, 0)], 0)]
-- 78: X10_ask
def bt_78 : List (List Op × Nat) := [
  ([(.aload_n 0, 0, 0, 0), (.iload_n 1, 1, 0, 0), (.iload_n 2, 2, 0, 0), (.invokevirtual 199, 94, 2, 10), (.ifCond .eq 8, 1, 0, 0), (.bipush (-2), 2, 1, 0), (.goto 19, 2, 0, 0)], 0),
  ([(.aload_n 0, 0, 0, 0), (.getfield 21, 10, 1, 0), (.aload_n 0, 0, 0, 0), (.getfield 21, 10, 1, 0), (.iload_n 1, 1, 0, 0), (.iload_n 2, 2, 0, 0), (.invokevirtual 202, 16, 2, 3), (.invokevirtual 205, 17, 1, 3)], 2),
  ([(.ireturn, 0, 0, 0)], 0)]
-- 79: X10_chance
def bt_79 : List (List Op × Nat) := [
  ([(.iload_n 1, 1, 0, 0), (.bipush 16, 16, 0, 0), (.invokestatic 49, 93, 2, 0), (.ifCond .ne 30, 1, 0, 0), (.iload_n 2, 2, 0, 0), (.aload_n 0, 0, 0, 0), (.getfield 10, 10, 0, 0), (.getfield 88, 0, 3, 0), (.getfield 92, 2, 2, 0), (.iconst 1, 1, 0, 0), (.isub, 0, 0, 0), (.invokestatic 49, 93, 2, 0), (.ifCond .ne 11, 1, 0, 0), (.iload_n 3, 3, 0, 0), (.iconst 1, 1, 0, 0), (.invokestatic 49, 93, 2, 0), (.ifCond .eq 7, 2, 0, 0)], 1),
  ([(.ldc2_w 208, 9223372036854775806, 1, 0), (.lreturn, 0, 0, 0)], 0),
  ([(.aload_n 0, 0, 0, 0), (.getfield 21, 10, 1, 0), (.iload_n 1, 1, 0, 0), (.iload_n 2, 2, 0, 0), (.invokevirtual 210, 19, 2, 3), (.iload_n 3, 3, 0, 0), (.ifCond .ne 13, 3, 0, 0), (.aload_n 0, 0, 0, 0), (.getfield 21, 10, 1, 0), (.getfield 214, 3, 8, 0), (.goto 10, 4, 0, 0)], 0),
  ([(.aload_n 0, 0, 0, 0), (.getfield 21, 10, 1, 0), (.getfield 218, 3, 9, 0)], 4),
  ([(.lreturn, 0, 0, 0)], 0)]
-- 80: X10_summers
def bt_80 : List (List Op × Nat) := [
  ([(.iload_n 2, 2, 0, 0), (.bipush 8, 8, 0, 0), (.invokestatic 49, 93, 2, 0), (.ifCond .ne 11, 1, 0, 0), (.iload_n 3, 3, 0, 0), (.iconst 1, 1, 0, 0), (.invokestatic 49, 93, 2, 0), (.ifCond .eq 6, 2, 0, 0)], 1),
  ([(.bipush (-2), 2, 1, 0), (.ireturn, 0, 0, 0)], 0),
  ([(.aload_n 0, 0, 0, 0), (.getfield 21, 10, 1, 0), (.iload_n 1, 1, 0, 0), (.iload_n 2, 2, 0, 0), (.invokevirtual 221, 22, 2, 3), (.astore 4, 4, 0, 0), (.iload_n 3, 3, 0, 0), (.ifCond .ne 14, 3, 0, 0), (.aload 4, 4, 0, 0), (.getfield 148, 7, 4, 0), (.bipush 23, 23, 0, 0), (.iaload, 0, 0, 0), (.goto 8, 4, 0, 0)], 0),
  ([(.aload 4, 4, 0, 0), (.invokevirtual 164, 48, 0, 7)], 4),
  ([(.ireturn, 0, 0, 0)], 0)]
-- 81: X10_sheet
def bt_81 : List (List Op × Nat) := [
  ([(.iload_n 1, 1, 0, 0), (.iconst 3, 3, 0, 0), (.invokestatic 49, 93, 2, 0), (.ifCond .ne 17, 1, 0, 0), (.iload_n 2, 2, 0, 0), (.iconst 2, 2, 0, 0), (.invokestatic 49, 93, 2, 0), (.ifCond .ne 9, 1, 0, 0), (.iload_n 3, 3, 0, 0), (.bipush 60, 60, 0, 0), (.if_icmp .le 6, 2, 0, 0)], 1),
  ([(.bipush (-2), 2, 1, 0), (.ireturn, 0, 0, 0)], 0),
  ([(.iload_n 3, 3, 0, 0), (.ifCond .ge 9, 3, 0, 0), (.aload_n 0, 0, 0, 0), (.iconst 5, 5, 0, 0), (.invokevirtual 123, 95, 1, 10), (.ireturn, 0, 0, 0)], 0),
  ([(.aload_n 0, 0, 0, 0), (.getfield 36, 10, 3, 0), (.iload_n 1, 1, 0, 0), (.aaload, 0, 0, 0), (.iload_n 2, 2, 0, 0), (.iload_n 3, 3, 0, 0), (.invokevirtual 225, 27, 2, 5), (.iload_n 3, 3, 0, 0), (.ireturn, 0, 0, 0)], 0)]
-- 82: X10_lose
def bt_82 : List (List Op × Nat) := [
  ([(.iload_n 1, 1, 0, 0), (.iconst 3, 3, 0, 0), (.invokestatic 49, 93, 2, 0), (.ifCond .eq 6, 1, 0, 0), (.bipush (-2), 2, 1, 0), (.ireturn, 0, 0, 0)], 0),
  ([(.aload_n 0, 0, 0, 0), (.getfield 36, 10, 3, 0), (.iload_n 1, 1, 0, 0), (.aaload, 0, 0, 0), (.astore_n 2, 2, 0, 0), (.aload_n 2, 2, 0, 0), (.getfield 120, 5, 1, 0), (.iconst (-1), 1, 1, 0), (.if_icmp .ne 9, 2, 0, 0), (.aload_n 0, 0, 0, 0), (.iconst 1, 1, 0, 0), (.invokevirtual 123, 95, 1, 10), (.ireturn, 0, 0, 0)], 0),
  ([(.aload_n 2, 2, 0, 0), (.iconst (-1), 1, 1, 0), (.putfield 120, 5, 1, 0), (.aload_n 2, 2, 0, 0), (.getfield 127, 5, 2, 0), (.ireturn, 0, 0, 0)], 0)]
-- 83: X10_lay
def bt_83 : List (List Op × Nat) := [
  ([(.iload_n 1, 1, 0, 0), (.iconst 3, 3, 0, 0), (.invokestatic 49, 93, 2, 0), (.ifCond .ne 11, 1, 0, 0), (.iload_n 2, 2, 0, 0), (.iconst 2, 2, 0, 0), (.invokestatic 49, 93, 2, 0), (.ifCond .eq 6, 2, 0, 0)], 1),
  ([(.bipush (-2), 2, 1, 0), (.ireturn, 0, 0, 0)], 0),
  ([(.aload_n 0, 0, 0, 0), (.getfield 36, 10, 3, 0), (.iload_n 1, 1, 0, 0), (.aaload, 0, 0, 0), (.iload_n 2, 2, 0, 0), (.iload_n 3, 3, 0, 0), (.invokevirtual 228, 28, 2, 5), (.istore 5, 5, 0, 0), (.iload 5, 5, 0, 0), (.ifCond .eq 10, 3, 0, 0), (.aload_n 0, 0, 0, 0), (.iload 5, 5, 0, 0), (.invokevirtual 123, 95, 1, 10), (.ireturn, 0, 0, 0)], 0),
  ([(.aload_n 0, 0, 0, 0), (.getfield 36, 10, 3, 0), (.iload_n 1, 1, 0, 0), (.aaload, 0, 0, 0), (.iload_n 3, 3, 0, 0), (.iload 4, 4, 0, 0), (.invokevirtual 231, 30, 2, 5), (.iconst 1, 1, 0, 0), (.ireturn, 0, 0, 0)], 0)]
-- 84: X10_get
def bt_84 : List (List Op × Nat) := [
  ([(.iload_n 1, 1, 0, 0), (.iconst 3, 3, 0, 0), (.invokestatic 49, 93, 2, 0), (.ifCond .ne 11, 1, 0, 0), (.iload_n 2, 2, 0, 0), (.iconst 2, 2, 0, 0), (.invokestatic 49, 93, 2, 0), (.ifCond .eq 6, 2, 0, 0)], 1),
  ([(.ldc 234, 2147483648, 1, 0), (.ireturn, 0, 0, 0)], 0),
  ([(.aload_n 0, 0, 0, 0), (.getfield 36, 10, 3, 0), (.iload_n 1, 1, 0, 0), (.aaload, 0, 0, 0), (.iload_n 2, 2, 0, 0), (.iload_n 3, 3, 0, 0), (.invokevirtual 228, 28, 2, 5), (.istore 4, 4, 0, 0), (.iload 4, 4, 0, 0), (.ifCond .eq 12, 3, 0, 0), (.aload_n 0, 0, 0, 0), (.iload 4, 4, 0, 0), (.putfield 45, 10, 5, 0), (.ldc 234, 2147483648, 1, 0), (.ireturn, 0, 0, 0)], 0),
  ([(.aload_n 0, 0, 0, 0), (.getfield 36, 10, 3, 0), (.iload_n 1, 1, 0, 0), (.aaload, 0, 0, 0), (.getfield 128, 5, 0, 0), (.iload_n 3, 3, 0, 0), (.iaload, 0, 0, 0), (.ireturn, 0, 0, 0)], 0)]
-- 85: X10_copy
def bt_85 : List (List Op × Nat) := [
  ([(.iload_n 1, 1, 0, 0), (.iconst 3, 3, 0, 0), (.invokestatic 49, 93, 2, 0), (.ifCond .ne 11, 1, 0, 0), (.iload_n 3, 3, 0, 0), (.iconst 3, 3, 0, 0), (.invokestatic 49, 93, 2, 0), (.ifCond .eq 6, 2, 0, 0)], 1),
  ([(.bipush (-2), 2, 1, 0), (.ireturn, 0, 0, 0)], 0),
  ([(.aload_n 0, 0, 0, 0), (.getfield 36, 10, 3, 0), (.iload_n 1, 1, 0, 0), (.aaload, 0, 0, 0), (.astore 6, 6, 0, 0), (.aload_n 0, 0, 0, 0), (.getfield 36, 10, 3, 0), (.iload_n 3, 3, 0, 0), (.aaload, 0, 0, 0), (.astore 7, 7, 0, 0), (.aload 6, 6, 0, 0), (.getfield 120, 5, 1, 0), (.iconst (-1), 1, 1, 0), (.if_icmp .eq 12, 3, 0, 0), (.aload 7, 7, 0, 0), (.getfield 120, 5, 1, 0), (.iconst (-1), 1, 1, 0), (.if_icmp .ne 9, 4, 0, 0)], 3),
  ([(.aload_n 0, 0, 0, 0), (.iconst 1, 1, 0, 0), (.invokevirtual 123, 95, 1, 10), (.ireturn, 0, 0, 0)], 0),
  ([(.aload 6, 6, 0, 0), (.getfield 120, 5, 1, 0), (.aload 7, 7, 0, 0), (.getfield 120, 5, 1, 0), (.if_icmp .eq 9, 5, 0, 0), (.aload_n 0, 0, 0, 0), (.iconst 4, 4, 0, 0), (.invokevirtual 123, 95, 1, 10), (.ireturn, 0, 0, 0)], 0),
  ([(.aload 6, 6, 0, 0), (.iload_n 2, 2, 0, 0), (.iload 5, 5, 0, 0), (.invokevirtual 235, 29, 2, 5), (.ifCond .eq 15, 6, 0, 0), (.aload 7, 7, 0, 0), (.iload 4, 4, 0, 0), (.iload 5, 5, 0, 0), (.invokevirtual 235, 29, 2, 5), (.ifCond .ne 9, 7, 0, 0)], 6),
  ([(.aload_n 0, 0, 0, 0), (.iconst 2, 2, 0, 0), (.invokevirtual 123, 95, 1, 10), (.ireturn, 0, 0, 0)], 0),
  ([(.aload 6, 6, 0, 0), (.getfield 128, 5, 0, 0), (.iload_n 2, 2, 0, 0), (.aload 7, 7, 0, 0), (.getfield 128, 5, 0, 0), (.iload 4, 4, 0, 0), (.iload 5, 5, 0, 0), (.invokestatic 238, 999, 5, 0), (.iconst 1, 1, 0, 0), (.ireturn, 0, 0, 0)], 0)]
-- 86: X10_write
def bt_86 : List (List Op × Nat) := [
  ([(.iload_n 1, 1, 0, 0), (.iconst 5, 5, 0, 0), (.invokestatic 49, 93, 2, 0), (.ifCond .ne 11, 1, 0, 0), (.iload_n 2, 2, 0, 0), (.iconst 3, 3, 0, 0), (.invokestatic 49, 93, 2, 0), (.ifCond .eq 6, 2, 0, 0)], 1),
  ([(.bipush (-2), 2, 1, 0), (.ireturn, 0, 0, 0)], 0),
  ([(.aload_n 0, 0, 0, 0), (.getfield 36, 10, 3, 0), (.iload_n 2, 2, 0, 0), (.aaload, 0, 0, 0), (.astore_n 3, 3, 0, 0), (.aload_n 3, 3, 0, 0), (.getfield 120, 5, 1, 0), (.iconst (-1), 1, 1, 0), (.if_icmp .ne 9, 3, 0, 0), (.aload_n 0, 0, 0, 0), (.iconst 1, 1, 0, 0), (.invokevirtual 123, 95, 1, 10), (.ireturn, 0, 0, 0)], 0),
  ([(.aload_n 3, 3, 0, 0), (.getfield 127, 5, 2, 0), (.bipush 24, 24, 0, 0), (.invokestatic 244, 998, 2, 0), (.istore 4, 4, 0, 0), (.aload_n 0, 0, 0, 0), (.invokevirtual 131, 98, 0, 10), (.astore 5, 5, 0, 0), (.iconst 0, 0, 0, 0), (.istore 6, 6, 0, 0)], 4),
  ([(.iload 6, 6, 0, 0), (.iload 4, 4, 0, 0), (.if_icmp .ge 23, 5, 0, 0), (.aload_n 3, 3, 0, 0), (.iload 6, 6, 0, 0), (.aload 5, 5, 0, 0), (.iload 6, 6, 0, 0), (.iload_n 1, 1, 0, 0), (.invokevirtual 142, 46, 2, 7), (.invokevirtual 231, 30, 2, 5), (.iinc 6 1, 6, 1, 0), (.goto (-24), 4, 0, 0)], 0),
  ([(.iload 4, 4, 0, 0), (.ireturn, 0, 0, 0)], 0)]
-- 87: X10_count
def bt_87 : List (List Op × Nat) := [
  ([(.iload_n 1, 1, 0, 0), (.tableswitch 141 0 8 #[51, 62, 73, 84, 95, 106, 117, 125, 136], 0, 0, 0)], 0),
  ([(.aload_n 0, 0, 0, 0), (.getfield 10, 10, 0, 0), (.getfield 78, 0, 2, 0), (.invokevirtual 249, 37, 0, 6), (.ireturn, 0, 0, 0)], 0),
  ([(.aload_n 0, 0, 0, 0), (.getfield 10, 10, 0, 0), (.getfield 88, 0, 3, 0), (.getfield 92, 2, 2, 0), (.ireturn, 0, 0, 0)], 0),
  ([(.aload_n 0, 0, 0, 0), (.getfield 10, 10, 0, 0), (.getfield 252, 0, 0, 0), (.getfield 57, 8, 2, 0), (.ireturn, 0, 0, 0)], 0),
  ([(.aload_n 0, 0, 0, 0), (.getfield 10, 10, 0, 0), (.getfield 256, 0, 1, 0), (.getfield 57, 8, 2, 0), (.ireturn, 0, 0, 0)], 0),
  ([(.aload_n 0, 0, 0, 0), (.getfield 10, 10, 0, 0), (.getfield 109, 0, 4, 0), (.getfield 113, 1, 3, 0), (.ireturn, 0, 0, 0)], 0),
  ([(.aload_n 0, 0, 0, 0), (.invokevirtual 131, 98, 0, 10), (.getfield 148, 7, 4, 0), (.bipush 23, 23, 0, 0), (.iaload, 0, 0, 0), (.ireturn, 0, 0, 0)], 0),
  ([(.aload_n 0, 0, 0, 0), (.invokevirtual 131, 98, 0, 10), (.invokevirtual 164, 48, 0, 7), (.ireturn, 0, 0, 0)], 0),
  ([(.aload_n 0, 0, 0, 0), (.getfield 10, 10, 0, 0), (.getfield 188, 0, 5, 0), (.getfield 192, 4, 3, 0), (.ireturn, 0, 0, 0)], 0),
  ([(.aload_n 0, 0, 0, 0), (.getfield 45, 10, 5, 0), (.ireturn, 0, 0, 0)], 0),
  ([(.bipush (-2), 2, 1, 0), (.ireturn, 0, 0, 0)], 0)]
-- 88: X10_digest
def bt_88 : List (List Op × Nat) := [
  ([(.ldc2_w 259, 17, 0, 0), (.lstore_n 1, 1, 0, 0), (.iconst 0, 0, 0, 0), (.istore_n 3, 3, 0, 0)], 1),
  ([(.iload_n 3, 3, 0, 0), (.bipush 7, 7, 0, 0), (.if_icmp .gt 20, 2, 0, 0), (.lload_n 1, 1, 0, 0), (.aload_n 0, 0, 0, 0), (.iload_n 3, 3, 0, 0), (.invokevirtual 261, 87, 1, 10), (.i2l, 0, 0, 0), (.invokestatic 264, 89, 2, 0), (.lstore_n 1, 1, 0, 0), (.iinc 3 1, 3, 1, 0), (.goto (-20), 1, 0, 0)], 0),
  ([(.lload_n 1, 1, 0, 0), (.aload_n 0, 0, 0, 0), (.iconst 0, 0, 0, 0), (.invokevirtual 268, 55, 1, 10), (.i2l, 0, 0, 0), (.invokestatic 264, 89, 2, 0), (.aload_n 0, 0, 0, 0), (.iconst 1, 1, 0, 0), (.invokevirtual 268, 55, 1, 10), (.i2l, 0, 0, 0), (.invokestatic 264, 89, 2, 0), (.lstore_n 1, 1, 0, 0), (.iconst 0, 0, 0, 0), (.istore_n 3, 3, 0, 0)], 3),
  ([(.iload_n 3, 3, 0, 0), (.bipush 24, 24, 0, 0), (.if_icmp .ge 31, 4, 0, 0), (.lload_n 1, 1, 0, 0), (.aload_n 0, 0, 0, 0), (.iload_n 3, 3, 0, 0), (.iconst 0, 0, 0, 0), (.invokevirtual 271, 63, 2, 10), (.i2l, 0, 0, 0), (.invokestatic 264, 89, 2, 0), (.aload_n 0, 0, 0, 0), (.iload_n 3, 3, 0, 0), (.iconst 1, 1, 0, 0), (.invokevirtual 271, 63, 2, 10), (.i2l, 0, 0, 0), (.invokestatic 264, 89, 2, 0), (.lstore_n 1, 1, 0, 0), (.iinc 3 1, 3, 1, 0), (.goto (-31), 3, 0, 0)], 0),
  ([(.iconst 0, 0, 0, 0), (.istore_n 3, 3, 0, 0)], 5),
  ([(.iload_n 3, 3, 0, 0), (.bipush 6, 6, 0, 0), (.if_icmp .ge 16, 6, 0, 0), (.aload_n 0, 0, 0, 0), (.lload_n 1, 1, 0, 0), (.iload_n 3, 3, 0, 0), (.invokevirtual 273, 90, 2, 10), (.lstore_n 1, 1, 0, 0), (.iinc 3 1, 3, 1, 0), (.goto (-16), 5, 0, 0)], 0),
  ([(.iconst 0, 0, 0, 0), (.istore_n 3, 3, 0, 0)], 7),
  ([(.iload_n 3, 3, 0, 0), (.aload_n 0, 0, 0, 0), (.getfield 10, 10, 0, 0), (.getfield 88, 0, 3, 0), (.getfield 92, 2, 2, 0), (.if_icmp .ge 16, 8, 0, 0), (.aload_n 0, 0, 0, 0), (.lload_n 1, 1, 0, 0), (.iload_n 3, 3, 0, 0), (.invokevirtual 277, 91, 2, 10), (.lstore_n 1, 1, 0, 0), (.iinc 3 1, 3, 1, 0), (.goto (-24), 7, 0, 0)], 0),
  ([(.aload_n 0, 0, 0, 0), (.lload_n 1, 1, 0, 0), (.invokevirtual 280, 92, 1, 10), (.lreturn, 0, 0, 0)], 0)]
-- 89: X10_mixed
def bt_89 : List (List Op × Nat) := [
  ([(.ldc2_w 284, 31, 0, 0), (.lload_n 0, 0, 0, 0), (.lmul, 0, 0, 0), (.lload_n 2, 2, 0, 0), (.ladd, 0, 0, 0), (.lreturn, 0, 0, 0)], 0)]
-- 90: X10_mixedColumn
def bt_90 : List (List Op × Nat) := [
  ([(.lload_n 1, 1, 0, 0), (.aload_n 0, 0, 0, 0), (.iload_n 3, 3, 0, 0), (.invokevirtual 286, 66, 1, 10), (.i2l, 0, 0, 0), (.invokestatic 264, 89, 2, 0), (.lstore 4, 4, 0, 0), (.iconst 0, 0, 0, 0), (.istore 6, 6, 0, 0)], 1),
  ([(.iload 6, 6, 0, 0), (.bipush 6, 6, 0, 0), (.if_icmp .ge 81, 3, 0, 0), (.lload 4, 4, 0, 0), (.aload_n 0, 0, 0, 0), (.iload_n 3, 3, 0, 0), (.iload 6, 6, 0, 0), (.invokevirtual 289, 56, 2, 10), (.i2l, 0, 0, 0), (.invokestatic 264, 89, 2, 0), (.aload_n 0, 0, 0, 0), (.iconst 4, 4, 0, 0), (.iload_n 3, 3, 0, 0), (.iload 6, 6, 0, 0), (.invokevirtual 292, 62, 3, 10), (.i2l, 0, 0, 0), (.invokestatic 264, 89, 2, 0), (.lstore 4, 4, 0, 0), (.aload_n 0, 0, 0, 0), (.iload_n 3, 3, 0, 0), (.iload 6, 6, 0, 0), (.invokevirtual 199, 94, 2, 10), (.ifCond .ne 38, 2, 0, 0), (.aload_n 0, 0, 0, 0), (.getfield 21, 10, 1, 0), (.iload_n 3, 3, 0, 0), (.iload 6, 6, 0, 0), (.invokevirtual 202, 16, 2, 3), (.istore 7, 7, 0, 0), (.lload 4, 4, 0, 0), (.iload 7, 7, 0, 0), (.i2l, 0, 0, 0), (.invokestatic 264, 89, 2, 0), (.aload_n 0, 0, 0, 0), (.getfield 21, 10, 1, 0), (.iload 7, 7, 0, 0), (.invokevirtual 205, 17, 1, 3), (.i2l, 0, 0, 0), (.invokestatic 264, 89, 2, 0), (.lstore 4, 4, 0, 0)], 2),
  ([(.iinc 6 1, 6, 1, 0), (.goto (-82), 1, 0, 0)], 0),
  ([(.lload 4, 4, 0, 0), (.aload_n 0, 0, 0, 0), (.bipush 11, 11, 0, 0), (.iload_n 3, 3, 0, 0), (.iconst 0, 0, 0, 0), (.invokevirtual 296, 61, 3, 10), (.i2l, 0, 0, 0), (.invokestatic 264, 89, 2, 0), (.aload_n 0, 0, 0, 0), (.bipush 11, 11, 0, 0), (.iload_n 3, 3, 0, 0), (.iconst 1, 1, 0, 0), (.invokevirtual 296, 61, 3, 10), (.i2l, 0, 0, 0), (.invokestatic 264, 89, 2, 0), (.lreturn, 0, 0, 0)], 0)]
-- 91: X10_mixedOrder
def bt_91 : List (List Op × Nat) := [
  ([(.lload_n 1, 1, 0, 0), (.aload_n 0, 0, 0, 0), (.iload_n 3, 3, 0, 0), (.iconst 0, 0, 0, 0), (.invokevirtual 299, 57, 2, 10), (.i2l, 0, 0, 0), (.invokestatic 264, 89, 2, 0), (.aload_n 0, 0, 0, 0), (.iload_n 3, 3, 0, 0), (.iconst 1, 1, 0, 0), (.invokevirtual 299, 57, 2, 10), (.i2l, 0, 0, 0), (.invokestatic 264, 89, 2, 0), (.lstore 4, 4, 0, 0), (.lload 4, 4, 0, 0), (.aload_n 0, 0, 0, 0), (.iload_n 3, 3, 0, 0), (.iconst 0, 0, 0, 0), (.invokevirtual 302, 64, 2, 10), (.i2l, 0, 0, 0), (.invokestatic 264, 89, 2, 0), (.aload_n 0, 0, 0, 0), (.iload_n 3, 3, 0, 0), (.iconst 1, 1, 0, 0), (.invokevirtual 302, 64, 2, 10), (.i2l, 0, 0, 0), (.invokestatic 264, 89, 2, 0), (.lstore 4, 4, 0, 0), (.aload_n 0, 0, 0, 0), (.getfield 21, 10, 1, 0), (.iload_n 3, 3, 0, 0), (.invokevirtual 182, 11, 1, 3), (.lload 4, 4, 0, 0), (.aload_n 0, 0, 0, 0), (.getfield 21, 10, 1, 0), (.getfield 170, 3, 5, 0), (.i2l, 0, 0, 0), (.invokestatic 264, 89, 2, 0), (.aload_n 0, 0, 0, 0), (.getfield 21, 10, 1, 0), (.getfield 173, 3, 7, 0), (.i2l, 0, 0, 0), (.invokestatic 264, 89, 2, 0), (.lstore 4, 4, 0, 0), (.aload_n 0, 0, 0, 0), (.getfield 21, 10, 1, 0), (.iconst 5, 5, 0, 0), (.iload_n 3, 3, 0, 0), (.invokevirtual 210, 19, 2, 3), (.lload 4, 4, 0, 0), (.aload_n 0, 0, 0, 0), (.getfield 21, 10, 1, 0), (.getfield 214, 3, 8, 0), (.invokestatic 264, 89, 2, 0), (.aload_n 0, 0, 0, 0), (.getfield 21, 10, 1, 0), (.getfield 218, 3, 9, 0), (.invokestatic 264, 89, 2, 0), (.lreturn, 0, 0, 0)], 0)]
-- 92: X10_mixedPlans
def bt_92 : List (List Op × Nat) := [
  ([(.lload_n 1, 1, 0, 0), (.aload_n 0, 0, 0, 0), (.iconst 0, 0, 0, 0), (.invokevirtual 305, 65, 1, 10), (.i2l, 0, 0, 0), (.invokestatic 264, 89, 2, 0), (.aload_n 0, 0, 0, 0), (.iconst 1, 1, 0, 0), (.invokevirtual 305, 65, 1, 10), (.i2l, 0, 0, 0), (.invokestatic 264, 89, 2, 0), (.lstore_n 3, 3, 0, 0), (.lload_n 3, 3, 0, 0), (.aload_n 0, 0, 0, 0), (.invokevirtual 308, 67, 0, 10), (.i2l, 0, 0, 0), (.invokestatic 264, 89, 2, 0), (.aload_n 0, 0, 0, 0), (.invokevirtual 311, 68, 0, 10), (.i2l, 0, 0, 0), (.invokestatic 264, 89, 2, 0), (.lstore_n 3, 3, 0, 0), (.lload_n 3, 3, 0, 0), (.aload_n 0, 0, 0, 0), (.iconst 0, 0, 0, 0), (.invokevirtual 314, 69, 1, 10), (.i2l, 0, 0, 0), (.invokestatic 264, 89, 2, 0), (.aload_n 0, 0, 0, 0), (.iconst 1, 1, 0, 0), (.invokevirtual 314, 69, 1, 10), (.i2l, 0, 0, 0), (.invokestatic 264, 89, 2, 0), (.lstore_n 3, 3, 0, 0), (.aload_n 0, 0, 0, 0), (.getfield 21, 10, 1, 0), (.invokevirtual 167, 9, 0, 3), (.lload_n 3, 3, 0, 0), (.aload_n 0, 0, 0, 0), (.getfield 21, 10, 1, 0), (.getfield 170, 3, 5, 0), (.i2l, 0, 0, 0), (.invokestatic 264, 89, 2, 0), (.aload_n 0, 0, 0, 0), (.getfield 21, 10, 1, 0), (.getfield 173, 3, 7, 0), (.i2l, 0, 0, 0), (.invokestatic 264, 89, 2, 0), (.lstore_n 3, 3, 0, 0), (.aload_n 0, 0, 0, 0), (.getfield 21, 10, 1, 0), (.invokevirtual 176, 10, 0, 3), (.lload_n 3, 3, 0, 0), (.aload_n 0, 0, 0, 0), (.getfield 21, 10, 1, 0), (.getfield 170, 3, 5, 0), (.i2l, 0, 0, 0), (.invokestatic 264, 89, 2, 0), (.aload_n 0, 0, 0, 0), (.getfield 21, 10, 1, 0), (.getfield 179, 3, 6, 0), (.i2l, 0, 0, 0), (.invokestatic 264, 89, 2, 0), (.aload_n 0, 0, 0, 0), (.getfield 21, 10, 1, 0), (.getfield 173, 3, 7, 0), (.i2l, 0, 0, 0), (.invokestatic 264, 89, 2, 0), (.lstore_n 3, 3, 0, 0), (.aload_n 0, 0, 0, 0), (.getfield 21, 10, 1, 0), (.invokevirtual 185, 14, 0, 3), (.lload_n 3, 3, 0, 0), (.aload_n 0, 0, 0, 0), (.getfield 21, 10, 1, 0), (.getfield 173, 3, 7, 0), (.i2l, 0, 0, 0), (.invokestatic 264, 89, 2, 0), (.aload_n 0, 0, 0, 0), (.getfield 21, 10, 1, 0), (.getfield 170, 3, 5, 0), (.i2l, 0, 0, 0), (.invokestatic 264, 89, 2, 0), (.lstore_n 3, 3, 0, 0), (.lload_n 3, 3, 0, 0), (.aload_n 0, 0, 0, 0), (.getfield 21, 10, 1, 0), (.invokevirtual 196, 15, 0, 3), (.i2l, 0, 0, 0), (.invokestatic 264, 89, 2, 0), (.lstore_n 3, 3, 0, 0), (.aload_n 0, 0, 0, 0), (.getfield 21, 10, 1, 0), (.bipush 7, 7, 0, 0), (.bipush 6, 6, 0, 0), (.invokevirtual 221, 22, 2, 3), (.astore 5, 5, 0, 0), (.lload_n 3, 3, 0, 0), (.aload 5, 5, 0, 0), (.getfield 148, 7, 4, 0), (.bipush 23, 23, 0, 0), (.iaload, 0, 0, 0), (.i2l, 0, 0, 0), (.invokestatic 264, 89, 2, 0), (.aload 5, 5, 0, 0), (.invokevirtual 164, 48, 0, 7), (.i2l, 0, 0, 0), (.invokestatic 264, 89, 2, 0), (.lreturn, 0, 0, 0)], 0)]
-- 93: X10_outside
def bt_93 : List (List Op × Nat) := [
  ([(.iload_n 0, 0, 0, 0), (.ifCond .lt 8, 1, 0, 0), (.iload_n 0, 0, 0, 0), (.iload_n 1, 1, 0, 0), (.if_icmp .le 7, 2, 0, 0)], 1),
  ([(.iconst 1, 1, 0, 0), (.goto 4, 3, 0, 0)], 0),
  ([(.iconst 0, 0, 0, 0)], 3),
  ([(.ireturn, 1, 0, 0)], 0)]
-- 94: X10_isNoBlock
def bt_94 : List (List Op × Nat) := [
  ([(.iload_n 1, 1, 0, 0), (.iconst 5, 5, 0, 0), (.invokestatic 49, 93, 2, 0), (.ifCond .ne 31, 1, 0, 0), (.iload_n 2, 2, 0, 0), (.iconst 5, 5, 0, 0), (.invokestatic 49, 93, 2, 0), (.ifCond .ne 23, 1, 0, 0), (.aload_n 0, 0, 0, 0), (.getfield 10, 10, 0, 0), (.getfield 78, 0, 2, 0), (.getfield 82, 6, 0, 0), (.iload_n 1, 1, 0, 0), (.bipush 6, 6, 0, 0), (.imul, 0, 0, 0), (.iload_n 2, 2, 0, 0), (.iadd, 0, 0, 0), (.iaload, 0, 0, 0), (.ifCond .ne 7, 2, 0, 0)], 1),
  ([(.iconst 1, 1, 0, 0), (.goto 4, 3, 0, 0)], 0),
  ([(.iconst 0, 0, 0, 0)], 3),
  ([(.ireturn, 1, 0, 0)], 0)]
-- 95: X10_found
def bt_95 : List (List Op × Nat) := [
  ([(.aload_n 0, 0, 0, 0), (.iload_n 1, 1, 0, 0), (.putfield 45, 10, 5, 0), (.bipush (-10), 10, 1, 0), (.iload_n 1, 1, 0, 0), (.isub, 0, 0, 0), (.ireturn, 0, 0, 0)], 0)]
-- 96: X10_noteChangedText
def bt_96 : List (List Op × Nat) := [
  ([(.iload_n 1, 1, 0, 0), (.ifCond .ne 13, 1, 0, 0), (.aload_n 0, 0, 0, 0), (.getfield 10, 10, 0, 0), (.invokevirtual 317, 1, 0, 0), (.goto 10, 2, 0, 0)], 0),
  ([(.aload_n 0, 0, 0, 0), (.getfield 10, 10, 0, 0), (.invokevirtual 320, 3, 0, 0)], 2),
  ([(.aload_n 0, 0, 0, 0), (.invokevirtual 117, 97, 0, 10), (.return_, 0, 0, 0)], 0)]
-- 97: X10_noteChange
def bt_97 : List (List Op × Nat) := [
  ([(.aload_n 0, 0, 0, 0), (.iconst 0, 0, 0, 0), (.putfield 41, 10, 4, 0), (.aload_n 0, 0, 0, 0), (.getfield 21, 10, 1, 0), (.iconst 0, 0, 0, 0), (.putfield 323, 3, 4, 0), (.return_, 0, 0, 0)], 0)]
-- 98: X10_toldSummer
def bt_98 : List (List Op × Nat) := [
  ([(.aload_n 0, 0, 0, 0), (.getfield 41, 10, 4, 0), (.ifCond .ne 29, 1, 0, 0), (.aload_n 0, 0, 0, 0), (.getfield 30, 10, 2, 0), (.aload_n 0, 0, 0, 0), (.getfield 10, 10, 0, 0), (.sipush 255, 255, 0, 0), (.invokevirtual 326, 41, 2, 7), (.aload_n 0, 0, 0, 0), (.getfield 30, 10, 2, 0), (.invokevirtual 330, 42, 0, 7), (.aload_n 0, 0, 0, 0), (.iconst 1, 1, 0, 0), (.putfield 41, 10, 4, 0)], 1),
  ([(.aload_n 0, 0, 0, 0), (.getfield 30, 10, 2, 0), (.areturn, 0, 0, 0)], 0)]
-- 99: X11_in
def bt_99 : List (List Op × Nat) := [
  ([(.lload_n 0, 0, 0, 0), (.lload_n 2, 2, 0, 0), (.lcmp, 0, 0, 0), (.ifCond .lt 14, 1, 0, 0), (.lload_n 0, 0, 0, 0), (.lload 4, 4, 0, 0), (.lcmp, 0, 0, 0), (.ifCond .gt 7, 1, 0, 0), (.iconst 1, 1, 0, 0), (.goto 4, 2, 0, 0)], 0),
  ([(.iconst 0, 0, 0, 0)], 2),
  ([(.ireturn, 1, 0, 0)], 0)]
-- 100: X11_no
def bt_100 : List (List Op × Nat) := [
  ([(.ldc2_w 74, 9223372036854775808, 1, 0), (.iload_n 0, 0, 0, 0), (.i2l, 0, 0, 0), (.lsub, 0, 0, 0), (.lreturn, 0, 0, 0)], 0)]
-- 101: X11_isTwo
def bt_101 : List (List Op × Nat) := [
  ([(.iload_n 0, 0, 0, 0), (.i2l, 0, 0, 0), (.lconst 0, 0, 0, 0), (.lconst 1, 1, 0, 0), (.invokestatic 76, 99, 3, 0), (.ireturn, 1, 0, 0)], 0)]
-- 102: X11_isIn
def bt_102 : List (List Op × Nat) := [
  ([(.iload_n 0, 0, 0, 0), (.iload_n 1, 1, 0, 0), (.ishr, 0, 0, 0), (.iconst 1, 1, 0, 0), (.iand, 0, 0, 0), (.iconst 1, 1, 0, 0), (.if_icmp .ne 7, 1, 0, 0), (.iconst 1, 1, 0, 0), (.goto 4, 2, 0, 0)], 0),
  ([(.iconst 0, 0, 0, 0)], 2),
  ([(.ireturn, 1, 0, 0)], 0)]
-- 103: X11_lesser
def bt_103 : List (List Op × Nat) := [
  ([(.iload_n 0, 0, 0, 0), (.iload_n 1, 1, 0, 0), (.if_icmp .ge 7, 1, 0, 0), (.iload_n 0, 0, 0, 0), (.goto 4, 2, 0, 0)], 0),
  ([(.iload_n 1, 1, 0, 0)], 2),
  ([(.ireturn, 0, 0, 0)], 0)]
-- 104: X11_greater
def bt_104 : List (List Op × Nat) := [
  ([(.iload_n 0, 0, 0, 0), (.iload_n 1, 1, 0, 0), (.if_icmp .le 7, 1, 0, 0), (.iload_n 0, 0, 0, 0), (.goto 4, 2, 0, 0)], 0),
  ([(.iload_n 1, 1, 0, 0)], 2),
  ([(.ireturn, 0, 0, 0)], 0)]
-- 105: X11_part
def bt_105 : List (List Op × Nat) := [
  ([(.lload_n 0, 0, 0, 0), (.lstore 5, 5, 0, 0), (.lload_n 2, 2, 0, 0), (.lstore 7, 7, 0, 0)], 1),
  ([(.lload 7, 7, 0, 0), (.lconst 0, 0, 0, 0), (.lcmp, 0, 0, 0), (.ifCond .eq 21, 2, 0, 0), (.lload 5, 5, 0, 0), (.lload 7, 7, 0, 0), (.lrem, 0, 0, 0), (.lstore 9, 9, 0, 0), (.lload 7, 7, 0, 0), (.lstore 5, 5, 0, 0), (.lload 9, 9, 0, 0), (.lstore 7, 7, 0, 0), (.goto (-22), 1, 0, 0)], 0),
  ([(.iload 4, 4, 0, 0), (.ifCond .ne 7, 3, 0, 0), (.lload_n 0, 0, 0, 0), (.goto 4, 4, 0, 0)], 0),
  ([(.lload_n 2, 2, 0, 0)], 4),
  ([(.lload 5, 5, 0, 0), (.ldiv, 0, 0, 0), (.lreturn, 0, 0, 0)], 0)]
-- 106: X11_finds
def bt_106 : List (List Op × Nat) := [
  ([(.aload_n 0, 0, 0, 0), (.iload_n 1, 1, 0, 0), (.putfield 80, 11, 4, 0), (.bipush (-10), 10, 1, 0), (.iload_n 1, 1, 0, 0), (.isub, 0, 0, 0), (.ireturn, 0, 0, 0)], 0)]
-- 107: X11_isSheet
def bt_107 : List (List Op × Nat) := [
  ([(.iload_n 0, 0, 0, 0), (.i2l, 0, 0, 0), (.lconst 0, 0, 0, 0), (.ldc2_w 83, 3, 0, 0), (.invokestatic 76, 99, 3, 0), (.ireturn, 1, 0, 0)], 0)]
-- 108: X11_sheet
def bt_108 : List (List Op × Nat) := [
  ([(.iload_n 1, 1, 0, 0), (.invokestatic 85, 107, 1, 0), (.ifCond .eq 21, 1, 0, 0), (.iload_n 2, 2, 0, 0), (.i2l, 0, 0, 0), (.lconst 0, 0, 0, 0), (.ldc2_w 89, 2, 0, 0), (.invokestatic 76, 99, 3, 0), (.ifCond .eq 9, 1, 0, 0), (.iload_n 3, 3, 0, 0), (.bipush 60, 60, 0, 0), (.if_icmp .le 6, 2, 0, 0)], 1),
  ([(.bipush (-2), 2, 1, 0), (.ireturn, 0, 0, 0)], 0),
  ([(.iload_n 3, 3, 0, 0), (.ifCond .ge 9, 3, 0, 0), (.aload_n 0, 0, 0, 0), (.iconst 5, 5, 0, 0), (.invokevirtual 91, 106, 1, 11), (.ireturn, 0, 0, 0)], 0),
  ([(.aload_n 0, 0, 0, 0), (.getfield 7, 11, 0, 0), (.iload_n 1, 1, 0, 0), (.iload_n 2, 2, 0, 0), (.iastore, 0, 0, 0), (.aload_n 0, 0, 0, 0), (.getfield 13, 11, 1, 0), (.iload_n 1, 1, 0, 0), (.iload_n 3, 3, 0, 0), (.iastore, 0, 0, 0), (.iconst 0, 0, 0, 0), (.istore 4, 4, 0, 0)], 4),
  ([(.iload 4, 4, 0, 0), (.iload_n 3, 3, 0, 0), (.if_icmp .ge 22, 5, 0, 0), (.aload_n 0, 0, 0, 0), (.getfield 16, 11, 2, 0), (.bipush 60, 60, 0, 0), (.iload_n 1, 1, 0, 0), (.imul, 0, 0, 0), (.iload 4, 4, 0, 0), (.iadd, 0, 0, 0), (.iconst 0, 0, 0, 0), (.iastore, 0, 0, 0), (.iinc 4 1, 4, 1, 0), (.goto (-22), 4, 0, 0)], 0),
  ([(.iload_n 3, 3, 0, 0), (.ireturn, 0, 0, 0)], 0)]
-- 109: X11_lose
def bt_109 : List (List Op × Nat) := [
  ([(.iload_n 1, 1, 0, 0), (.invokestatic 85, 107, 1, 0), (.ifCond .ne 6, 1, 0, 0), (.bipush (-2), 2, 1, 0), (.ireturn, 0, 0, 0)], 0),
  ([(.aload_n 0, 0, 0, 0), (.getfield 7, 11, 0, 0), (.iload_n 1, 1, 0, 0), (.iaload, 0, 0, 0), (.ifCond .ge 9, 2, 0, 0), (.aload_n 0, 0, 0, 0), (.iconst 1, 1, 0, 0), (.invokevirtual 91, 106, 1, 11), (.ireturn, 0, 0, 0)], 0),
  ([(.aload_n 0, 0, 0, 0), (.getfield 7, 11, 0, 0), (.iload_n 1, 1, 0, 0), (.iconst (-1), 1, 1, 0), (.iastore, 0, 0, 0), (.aload_n 0, 0, 0, 0), (.getfield 13, 11, 1, 0), (.iload_n 1, 1, 0, 0), (.iaload, 0, 0, 0), (.ireturn, 0, 0, 0)], 0)]
-- 110: X11_lacks
def bt_110 : List (List Op × Nat) := [
  ([(.aload_n 0, 0, 0, 0), (.getfield 7, 11, 0, 0), (.iload_n 1, 1, 0, 0), (.iaload, 0, 0, 0), (.ifCond .ge 9, 1, 0, 0), (.aload_n 0, 0, 0, 0), (.iconst 1, 1, 0, 0), (.invokevirtual 91, 106, 1, 11), (.ireturn, 0, 0, 0)], 0),
  ([(.aload_n 0, 0, 0, 0), (.getfield 7, 11, 0, 0), (.iload_n 1, 1, 0, 0), (.iaload, 0, 0, 0), (.iload_n 2, 2, 0, 0), (.if_icmp .eq 9, 2, 0, 0), (.aload_n 0, 0, 0, 0), (.iconst 3, 3, 0, 0), (.invokevirtual 91, 106, 1, 11), (.ireturn, 0, 0, 0)], 0),
  ([(.iload_n 3, 3, 0, 0), (.i2l, 0, 0, 0), (.lconst 0, 0, 0, 0), (.aload_n 0, 0, 0, 0), (.getfield 13, 11, 1, 0), (.iload_n 1, 1, 0, 0), (.iaload, 0, 0, 0), (.iconst 1, 1, 0, 0), (.isub, 0, 0, 0), (.i2l, 0, 0, 0), (.invokestatic 76, 99, 3, 0), (.ifCond .eq 7, 3, 0, 0), (.iconst 0, 0, 0, 0), (.goto 8, 4, 0, 0)], 0),
  ([(.aload_n 0, 0, 0, 0), (.iconst 2, 2, 0, 0), (.invokevirtual 91, 106, 1, 11)], 4),
  ([(.ireturn, 0, 0, 0)], 0)]
-- 111: X11_cut
def bt_111 : List (List Op × Nat) := [
  ([(.iload_n 0, 0, 0, 0), (.ifCond .ne 8, 1, 0, 0), (.iload_n 1, 1, 0, 0), (.i2b, 0, 0, 0), (.goto 14, 3, 0, 0)], 0),
  ([(.iload_n 0, 0, 0, 0), (.iconst 1, 1, 0, 0), (.if_icmp .ne 8, 2, 0, 0), (.iload_n 1, 1, 0, 0), (.i2s, 0, 0, 0), (.goto 4, 3, 0, 0)], 0),
  ([(.iload_n 1, 1, 0, 0)], 3),
  ([(.ireturn, 0, 0, 0)], 0)]
-- 112: X11_lay
def bt_112 : List (List Op × Nat) := [
  ([(.iload_n 1, 1, 0, 0), (.invokestatic 85, 107, 1, 0), (.ifCond .eq 15, 1, 0, 0), (.iload_n 2, 2, 0, 0), (.i2l, 0, 0, 0), (.lconst 0, 0, 0, 0), (.ldc2_w 89, 2, 0, 0), (.invokestatic 76, 99, 3, 0), (.ifCond .ne 6, 2, 0, 0)], 1),
  ([(.bipush (-2), 2, 1, 0), (.ireturn, 0, 0, 0)], 0),
  ([(.aload_n 0, 0, 0, 0), (.iload_n 1, 1, 0, 0), (.iload_n 2, 2, 0, 0), (.iload_n 3, 3, 0, 0), (.invokevirtual 95, 110, 3, 11), (.istore 5, 5, 0, 0), (.iload 5, 5, 0, 0), (.ifCond .eq 6, 3, 0, 0), (.iload 5, 5, 0, 0), (.ireturn, 0, 0, 0)], 0),
  ([(.aload_n 0, 0, 0, 0), (.getfield 16, 11, 2, 0), (.bipush 60, 60, 0, 0), (.iload_n 1, 1, 0, 0), (.imul, 0, 0, 0), (.iload_n 3, 3, 0, 0), (.iadd, 0, 0, 0), (.iload_n 2, 2, 0, 0), (.iload 4, 4, 0, 0), (.invokestatic 99, 111, 2, 0), (.iastore, 0, 0, 0), (.iconst 1, 1, 0, 0), (.ireturn, 0, 0, 0)], 0)]
-- 113: X11_get
def bt_113 : List (List Op × Nat) := [
  ([(.iload_n 1, 1, 0, 0), (.invokestatic 85, 107, 1, 0), (.ifCond .eq 25, 1, 0, 0), (.iload_n 2, 2, 0, 0), (.i2l, 0, 0, 0), (.lconst 0, 0, 0, 0), (.ldc2_w 89, 2, 0, 0), (.invokestatic 76, 99, 3, 0), (.ifCond .eq 13, 1, 0, 0), (.aload_n 0, 0, 0, 0), (.iload_n 1, 1, 0, 0), (.iload_n 2, 2, 0, 0), (.iload_n 3, 3, 0, 0), (.invokevirtual 95, 110, 3, 11), (.ifCond .eq 6, 2, 0, 0)], 1),
  ([(.ldc 103, 2147483648, 1, 0), (.ireturn, 0, 0, 0)], 0),
  ([(.aload_n 0, 0, 0, 0), (.getfield 16, 11, 2, 0), (.bipush 60, 60, 0, 0), (.iload_n 1, 1, 0, 0), (.imul, 0, 0, 0), (.iload_n 3, 3, 0, 0), (.iadd, 0, 0, 0), (.iaload, 0, 0, 0), (.ireturn, 0, 0, 0)], 0)]
-- 114: X11_copy
def bt_114 : List (List Op × Nat) := [
  ([(.iload_n 1, 1, 0, 0), (.invokestatic 85, 107, 1, 0), (.ifCond .eq 10, 1, 0, 0), (.iload_n 3, 3, 0, 0), (.invokestatic 85, 107, 1, 0), (.ifCond .ne 6, 2, 0, 0)], 1),
  ([(.bipush (-2), 2, 1, 0), (.ireturn, 0, 0, 0)], 0),
  ([(.aload_n 0, 0, 0, 0), (.getfield 7, 11, 0, 0), (.iload_n 1, 1, 0, 0), (.iaload, 0, 0, 0), (.ifCond .lt 12, 3, 0, 0), (.aload_n 0, 0, 0, 0), (.getfield 7, 11, 0, 0), (.iload_n 3, 3, 0, 0), (.iaload, 0, 0, 0), (.ifCond .ge 9, 4, 0, 0)], 3),
  ([(.aload_n 0, 0, 0, 0), (.iconst 1, 1, 0, 0), (.invokevirtual 91, 106, 1, 11), (.ireturn, 0, 0, 0)], 0),
  ([(.aload_n 0, 0, 0, 0), (.getfield 7, 11, 0, 0), (.iload_n 1, 1, 0, 0), (.iaload, 0, 0, 0), (.aload_n 0, 0, 0, 0), (.getfield 7, 11, 0, 0), (.iload_n 3, 3, 0, 0), (.iaload, 0, 0, 0), (.if_icmp .eq 9, 5, 0, 0), (.aload_n 0, 0, 0, 0), (.iconst 4, 4, 0, 0), (.invokevirtual 91, 106, 1, 11), (.ireturn, 0, 0, 0)], 0),
  ([(.iload_n 2, 2, 0, 0), (.ifCond .lt 48, 6, 0, 0), (.iload 4, 4, 0, 0), (.ifCond .lt 43, 6, 0, 0), (.iload 5, 5, 0, 0), (.ifCond .lt 38, 6, 0, 0), (.iload_n 2, 2, 0, 0), (.i2l, 0, 0, 0), (.iload 5, 5, 0, 0), (.i2l, 0, 0, 0), (.ladd, 0, 0, 0), (.aload_n 0, 0, 0, 0), (.getfield 13, 11, 1, 0), (.iload_n 1, 1, 0, 0), (.iaload, 0, 0, 0), (.i2l, 0, 0, 0), (.lcmp, 0, 0, 0), (.ifCond .gt 21, 6, 0, 0), (.iload 4, 4, 0, 0), (.i2l, 0, 0, 0), (.iload 5, 5, 0, 0), (.i2l, 0, 0, 0), (.ladd, 0, 0, 0), (.aload_n 0, 0, 0, 0), (.getfield 13, 11, 1, 0), (.iload_n 3, 3, 0, 0), (.iaload, 0, 0, 0), (.i2l, 0, 0, 0), (.lcmp, 0, 0, 0), (.ifCond .le 9, 7, 0, 0)], 6),
  ([(.aload_n 0, 0, 0, 0), (.iconst 2, 2, 0, 0), (.invokevirtual 91, 106, 1, 11), (.ireturn, 0, 0, 0)], 0),
  ([(.iconst 0, 0, 0, 0), (.istore 6, 6, 0, 0)], 8),
  ([(.iload 6, 6, 0, 0), (.iload 5, 5, 0, 0), (.if_icmp .ge 30, 9, 0, 0), (.aload_n 0, 0, 0, 0), (.getfield 19, 11, 3, 0), (.iload 6, 6, 0, 0), (.aload_n 0, 0, 0, 0), (.getfield 16, 11, 2, 0), (.bipush 60, 60, 0, 0), (.iload_n 1, 1, 0, 0), (.imul, 0, 0, 0), (.iload_n 2, 2, 0, 0), (.iadd, 0, 0, 0), (.iload 6, 6, 0, 0), (.iadd, 0, 0, 0), (.iaload, 0, 0, 0), (.iastore, 0, 0, 0), (.iinc 6 1, 6, 1, 0), (.goto (-31), 8, 0, 0)], 0),
  ([(.iconst 0, 0, 0, 0), (.istore 6, 6, 0, 0)], 10),
  ([(.iload 6, 6, 0, 0), (.iload 5, 5, 0, 0), (.if_icmp .ge 31, 11, 0, 0), (.aload_n 0, 0, 0, 0), (.getfield 16, 11, 2, 0), (.bipush 60, 60, 0, 0), (.iload_n 3, 3, 0, 0), (.imul, 0, 0, 0), (.iload 4, 4, 0, 0), (.iadd, 0, 0, 0), (.iload 6, 6, 0, 0), (.iadd, 0, 0, 0), (.aload_n 0, 0, 0, 0), (.getfield 19, 11, 3, 0), (.iload 6, 6, 0, 0), (.iaload, 0, 0, 0), (.iastore, 0, 0, 0), (.iinc 6 1, 6, 1, 0), (.goto (-32), 10, 0, 0)], 0),
  ([(.iconst 1, 1, 0, 0), (.ireturn, 0, 0, 0)], 0)]
-- 115: X11_type
def bt_115 : List (List Op × Nat) := [
  ([(.iload_n 1, 1, 0, 0), (.invokestatic 104, 101, 1, 0), (.ifCond .eq 15, 1, 0, 0), (.iload_n 2, 2, 0, 0), (.i2l, 0, 0, 0), (.lconst 0, 0, 0, 0), (.ldc2_w 107, 255, 0, 0), (.invokestatic 76, 99, 3, 0), (.ifCond .ne 6, 2, 0, 0)], 1),
  ([(.bipush (-2), 2, 1, 0), (.ireturn, 0, 0, 0)], 0),
  ([(.aload_n 0, 0, 0, 0), (.getfield 25, 11, 6, 0), (.iload_n 1, 1, 0, 0), (.iaload, 0, 0, 0), (.iload_n 1, 1, 0, 0), (.ifCond .ne 8, 3, 0, 0), (.bipush 41, 41, 0, 0), (.goto 5, 4, 0, 0)], 0),
  ([(.bipush 35, 35, 0, 0)], 4),
  ([(.if_icmp .ne 6, 5, 0, 0), (.bipush (-4), 4, 1, 0), (.ireturn, 0, 0, 0)], 0),
  ([(.aload_n 0, 0, 0, 0), (.getfield 22, 11, 5, 0), (.bipush 42, 42, 0, 0), (.iload_n 1, 1, 0, 0), (.imul, 0, 0, 0), (.aload_n 0, 0, 0, 0), (.getfield 25, 11, 6, 0), (.iload_n 1, 1, 0, 0), (.iaload, 0, 0, 0), (.iadd, 0, 0, 0), (.iload_n 2, 2, 0, 0), (.iastore, 0, 0, 0), (.aload_n 0, 0, 0, 0), (.getfield 25, 11, 6, 0), (.iload_n 1, 1, 0, 0), (.dup2, 0, 0, 0), (.iaload, 0, 0, 0), (.iconst 1, 1, 0, 0), (.iadd, 0, 0, 0), (.iastore, 0, 0, 0), (.aload_n 0, 0, 0, 0), (.getfield 25, 11, 6, 0), (.iload_n 1, 1, 0, 0), (.iaload, 0, 0, 0), (.ireturn, 0, 0, 0)], 0)]
-- 116: X11_wipe
def bt_116 : List (List Op × Nat) := [
  ([(.iload_n 1, 1, 0, 0), (.invokestatic 104, 101, 1, 0), (.ifCond .ne 6, 1, 0, 0), (.bipush (-2), 2, 1, 0), (.ireturn, 0, 0, 0)], 0),
  ([(.aload_n 0, 0, 0, 0), (.getfield 25, 11, 6, 0), (.iload_n 1, 1, 0, 0), (.iaload, 0, 0, 0), (.istore_n 2, 2, 0, 0), (.aload_n 0, 0, 0, 0), (.getfield 25, 11, 6, 0), (.iload_n 1, 1, 0, 0), (.iconst 0, 0, 0, 0), (.iastore, 0, 0, 0), (.iload_n 2, 2, 0, 0), (.ireturn, 0, 0, 0)], 0)]
-- 117: X11_undo
def bt_117 : List (List Op × Nat) := [
  ([(.iload_n 1, 1, 0, 0), (.invokestatic 104, 101, 1, 0), (.ifCond .ne 6, 1, 0, 0), (.bipush (-2), 2, 1, 0), (.ireturn, 0, 0, 0)], 0),
  ([(.aload_n 0, 0, 0, 0), (.getfield 25, 11, 6, 0), (.iload_n 1, 1, 0, 0), (.iaload, 0, 0, 0), (.ifCond .ne 6, 2, 0, 0), (.bipush (-3), 3, 1, 0), (.ireturn, 0, 0, 0)], 0),
  ([(.aload_n 0, 0, 0, 0), (.getfield 25, 11, 6, 0), (.iload_n 1, 1, 0, 0), (.dup2, 0, 0, 0), (.iaload, 0, 0, 0), (.iconst 1, 1, 0, 0), (.isub, 0, 0, 0), (.iastore, 0, 0, 0), (.aload_n 0, 0, 0, 0), (.getfield 25, 11, 6, 0), (.iload_n 1, 1, 0, 0), (.iaload, 0, 0, 0), (.ireturn, 0, 0, 0)], 0)]
-- 118: X11_bares
def bt_118 : List (List Op × Nat) := [
  ([(.iconst 0, 0, 0, 0), (.istore_n 1, 1, 0, 0)], 1),
  ([(.iload_n 1, 1, 0, 0), (.bipush 6, 6, 0, 0), (.if_icmp .ge 16, 2, 0, 0), (.aload_n 0, 0, 0, 0), (.getfield 28, 11, 7, 0), (.iload_n 1, 1, 0, 0), (.iconst 0, 0, 0, 0), (.iastore, 0, 0, 0), (.iinc 1 1, 1, 1, 0), (.goto (-16), 1, 0, 0)], 0),
  ([(.return_, 0, 0, 0)], 0)]
-- 119: X11_readsBlocks
def bt_119 : List (List Op × Nat) := [
  ([(.aload_n 0, 0, 0, 0), (.invokevirtual 109, 118, 0, 11), (.iconst 0, 0, 0, 0), (.istore_n 1, 1, 0, 0), (.iconst 0, 0, 0, 0), (.istore_n 2, 2, 0, 0)], 1),
  ([(.iload_n 2, 2, 0, 0), (.aload_n 0, 0, 0, 0), (.getfield 25, 11, 6, 0), (.iconst 0, 0, 0, 0), (.iaload, 0, 0, 0), (.if_icmp .ge 123, 9, 0, 0), (.aload_n 0, 0, 0, 0), (.getfield 22, 11, 5, 0), (.iload_n 2, 2, 0, 0), (.iaload, 0, 0, 0), (.istore_n 3, 3, 0, 0), (.iload_n 3, 3, 0, 0), (.i2l, 0, 0, 0), (.ldc2_w 112, 49, 0, 0), (.ldc2_w 114, 57, 0, 0), (.invokestatic 76, 99, 3, 0), (.istore 4, 4, 0, 0), (.iload 4, 4, 0, 0), (.ifCond .eq 22, 3, 0, 0), (.aload_n 0, 0, 0, 0), (.getfield 28, 11, 7, 0), (.iload_n 1, 1, 0, 0), (.iaload, 0, 0, 0), (.bipush 6, 6, 0, 0), (.if_icmp .ge 7, 2, 0, 0), (.iconst 1, 1, 0, 0), (.goto 23, 5, 0, 0)], 0),
  ([(.iconst 0, 0, 0, 0), (.goto 19, 5, 0, 0)], 0),
  ([(.iload_n 3, 3, 0, 0), (.bipush 59, 59, 0, 0), (.if_icmp .ne 12, 4, 0, 0), (.iload_n 1, 1, 0, 0), (.iconst 5, 5, 0, 0), (.if_icmp .ge 7, 4, 0, 0), (.iconst 1, 1, 0, 0), (.goto 4, 5, 0, 0)], 0),
  ([(.iconst 0, 0, 0, 0)], 5),
  ([(.istore 5, 5, 0, 0), (.iload 5, 5, 0, 0), (.ifCond .ne 9, 6, 0, 0), (.aload_n 0, 0, 0, 0), (.invokevirtual 109, 118, 0, 11), (.iload_n 2, 2, 0, 0), (.ireturn, 0, 0, 0)], 0),
  ([(.iload 4, 4, 0, 0), (.ifCond .eq 36, 7, 0, 0), (.aload_n 0, 0, 0, 0), (.getfield 31, 11, 8, 0), (.bipush 6, 6, 0, 0), (.iload_n 1, 1, 0, 0), (.imul, 0, 0, 0), (.aload_n 0, 0, 0, 0), (.getfield 28, 11, 7, 0), (.iload_n 1, 1, 0, 0), (.iaload, 0, 0, 0), (.iadd, 0, 0, 0), (.iload_n 3, 3, 0, 0), (.bipush 48, 48, 0, 0), (.isub, 0, 0, 0), (.iastore, 0, 0, 0), (.aload_n 0, 0, 0, 0), (.getfield 28, 11, 7, 0), (.iload_n 1, 1, 0, 0), (.dup2, 0, 0, 0), (.iaload, 0, 0, 0), (.iconst 1, 1, 0, 0), (.iadd, 0, 0, 0), (.iastore, 0, 0, 0), (.goto 6, 8, 0, 0)], 0),
  ([(.iinc 1 1, 1, 1, 0)], 8),
  ([(.iinc 2 1, 2, 1, 0), (.goto (-127), 1, 0, 0)], 0),
  ([(.iconst (-1), 1, 1, 0), (.ireturn, 0, 0, 0)], 0)]
-- 120: X11_orderOf
def bt_120 : List (List Op × Nat) := [
  ([(.iload_n 0, 0, 0, 0), (.ifCond .ne 27, 3, 0, 0), (.iload_n 1, 1, 0, 0), (.i2l, 0, 0, 0), (.ldc2_w 116, 97, 0, 0), (.ldc2_w 118, 120, 0, 0), (.invokestatic 76, 99, 3, 0), (.ifCond .eq 10, 1, 0, 0), (.iload_n 1, 1, 0, 0), (.bipush 97, 97, 0, 0), (.isub, 0, 0, 0), (.goto 5, 2, 0, 0)], 0),
  ([(.bipush (-9), 9, 1, 0)], 2),
  ([(.ireturn, 0, 0, 0)], 0),
  ([(.iload_n 0, 0, 0, 0), (.iconst 1, 1, 0, 0), (.if_icmp .ne 29, 5, 0, 0), (.iload_n 1, 1, 0, 0), (.i2l, 0, 0, 0), (.ldc2_w 112, 49, 0, 0), (.ldc2_w 114, 57, 0, 0), (.invokestatic 76, 99, 3, 0), (.ifCond .eq 10, 4, 0, 0), (.iload_n 1, 1, 0, 0), (.bipush 48, 48, 0, 0), (.isub, 0, 0, 0), (.goto 20, 7, 0, 0)], 0),
  ([(.bipush (-9), 9, 1, 0), (.goto 15, 7, 0, 0)], 0),
  ([(.iload_n 1, 1, 0, 0), (.bipush 59, 59, 0, 0), (.if_icmp .ne 7, 6, 0, 0), (.iconst 0, 0, 0, 0), (.goto 5, 7, 0, 0)], 0),
  ([(.bipush (-9), 9, 1, 0)], 7),
  ([(.ireturn, 0, 0, 0)], 0)]
-- 121: X11_readsOrders
def bt_121 : List (List Op × Nat) := [
  ([(.aload_n 0, 0, 0, 0), (.iconst 0, 0, 0, 0), (.putfield 120, 11, 9, 0), (.aload_n 0, 0, 0, 0), (.getfield 25, 11, 6, 0), (.iconst 1, 1, 0, 0), (.iaload, 0, 0, 0), (.istore_n 1, 1, 0, 0), (.iconst 0, 0, 0, 0), (.istore_n 2, 2, 0, 0)], 1),
  ([(.iload_n 2, 2, 0, 0), (.iload_n 1, 1, 0, 0), (.if_icmp .ge 80, 6, 0, 0), (.iload_n 2, 2, 0, 0), (.iconst 3, 3, 0, 0), (.irem, 0, 0, 0), (.istore_n 3, 3, 0, 0), (.iload_n 3, 3, 0, 0), (.aload_n 0, 0, 0, 0), (.getfield 22, 11, 5, 0), (.bipush 42, 42, 0, 0), (.iload_n 2, 2, 0, 0), (.iadd, 0, 0, 0), (.iaload, 0, 0, 0), (.invokestatic 123, 120, 2, 0), (.istore 4, 4, 0, 0), (.iload 4, 4, 0, 0), (.bipush (-9), 9, 1, 0), (.if_icmp .ne 10, 2, 0, 0), (.aload_n 0, 0, 0, 0), (.iconst 0, 0, 0, 0), (.putfield 120, 11, 9, 0), (.iload_n 2, 2, 0, 0), (.ireturn, 0, 0, 0)], 0),
  ([(.iload_n 3, 3, 0, 0), (.iconst 2, 2, 0, 0), (.if_icmp .ge 17, 3, 0, 0), (.aload_n 0, 0, 0, 0), (.getfield 34, 11, 10, 0), (.iconst 2, 2, 0, 0), (.iload_n 2, 2, 0, 0), (.iconst 3, 3, 0, 0), (.idiv, 0, 0, 0), (.imul, 0, 0, 0), (.iload_n 3, 3, 0, 0), (.iadd, 0, 0, 0), (.iload 4, 4, 0, 0), (.iastore, 0, 0, 0)], 3),
  ([(.aload_n 0, 0, 0, 0), (.dup, 0, 0, 0), (.getfield 120, 11, 9, 0), (.iload_n 3, 3, 0, 0), (.iconst 1, 1, 0, 0), (.if_icmp .ne 7, 4, 0, 0), (.iconst 1, 1, 0, 0), (.goto 4, 5, 0, 0)], 0),
  ([(.iconst 0, 0, 0, 0)], 5),
  ([(.iadd, 0, 0, 0), (.putfield 120, 11, 9, 0), (.iinc 2 1, 2, 1, 0), (.goto (-79), 1, 0, 0)], 0),
  ([(.iload_n 1, 1, 0, 0), (.ifCond .le 17, 7, 0, 0), (.iload_n 1, 1, 0, 0), (.iconst 3, 3, 0, 0), (.irem, 0, 0, 0), (.iconst 2, 2, 0, 0), (.if_icmp .eq 10, 7, 0, 0), (.aload_n 0, 0, 0, 0), (.iconst 0, 0, 0, 0), (.putfield 120, 11, 9, 0), (.iload_n 1, 1, 0, 0), (.ireturn, 0, 0, 0)], 0),
  ([(.iconst (-1), 1, 1, 0), (.ireturn, 0, 0, 0)], 0)]
-- 122: X11_readsText
def bt_122 : List (List Op × Nat) := [
  ([(.iload_n 1, 1, 0, 0), (.ifCond .ne 10, 1, 0, 0), (.aload_n 0, 0, 0, 0), (.invokevirtual 126, 119, 0, 11), (.goto 7, 2, 0, 0)], 0),
  ([(.aload_n 0, 0, 0, 0), (.invokevirtual 130, 121, 0, 11)], 2),
  ([(.ireturn, 0, 0, 0)], 0)]
-- 123: X11_fault
def bt_123 : List (List Op × Nat) := [
  ([(.iload_n 1, 1, 0, 0), (.invokestatic 104, 101, 1, 0), (.ifCond .eq 11, 1, 0, 0), (.aload_n 0, 0, 0, 0), (.iload_n 1, 1, 0, 0), (.invokevirtual 133, 122, 1, 11), (.goto 5, 2, 0, 0)], 0),
  ([(.bipush (-2), 2, 1, 0)], 2),
  ([(.ireturn, 0, 0, 0)], 0)]
-- 124: X11_isColumn
def bt_124 : List (List Op × Nat) := [
  ([(.iload_n 0, 0, 0, 0), (.i2l, 0, 0, 0), (.lconst 0, 0, 0, 0), (.ldc2_w 136, 5, 0, 0), (.invokestatic 76, 99, 3, 0), (.ireturn, 1, 0, 0)], 0)]
-- 125: X11_isOrder
def bt_125 : List (List Op × Nat) := [
  ([(.iload_n 1, 1, 0, 0), (.i2l, 0, 0, 0), (.lconst 0, 0, 0, 0), (.aload_n 0, 0, 0, 0), (.getfield 120, 11, 9, 0), (.iconst 1, 1, 0, 0), (.isub, 0, 0, 0), (.i2l, 0, 0, 0), (.invokestatic 76, 99, 3, 0), (.ireturn, 1, 0, 0)], 0)]
-- 126: X11_isWeek
def bt_126 : List (List Op × Nat) := [
  ([(.iload_n 0, 0, 0, 0), (.i2l, 0, 0, 0), (.lconst 0, 0, 0, 0), (.ldc2_w 138, 23, 0, 0), (.invokestatic 76, 99, 3, 0), (.ireturn, 1, 0, 0)], 0)]
-- 127: X11_toldAt
def bt_127 : List (List Op × Nat) := [
  ([(.iload_n 2, 2, 0, 0), (.aload_n 0, 0, 0, 0), (.getfield 28, 11, 7, 0), (.iload_n 1, 1, 0, 0), (.iaload, 0, 0, 0), (.if_icmp .ge 17, 1, 0, 0), (.aload_n 0, 0, 0, 0), (.getfield 31, 11, 8, 0), (.bipush 6, 6, 0, 0), (.iload_n 1, 1, 0, 0), (.imul, 0, 0, 0), (.iload_n 2, 2, 0, 0), (.iadd, 0, 0, 0), (.iaload, 0, 0, 0), (.goto 4, 2, 0, 0)], 0),
  ([(.iconst 0, 0, 0, 0)], 2),
  ([(.ireturn, 0, 0, 0)], 0)]
-- 128: X11_told
def bt_128 : List (List Op × Nat) := [
  ([(.aload_n 0, 0, 0, 0), (.invokevirtual 126, 119, 0, 11), (.pop, 0, 0, 0), (.iload_n 1, 1, 0, 0), (.invokestatic 140, 124, 1, 0), (.ifCond .eq 24, 1, 0, 0), (.iload_n 2, 2, 0, 0), (.i2l, 0, 0, 0), (.lconst 0, 0, 0, 0), (.ldc2_w 136, 5, 0, 0), (.invokestatic 76, 99, 3, 0), (.ifCond .eq 12, 1, 0, 0), (.aload_n 0, 0, 0, 0), (.iload_n 1, 1, 0, 0), (.iload_n 2, 2, 0, 0), (.invokevirtual 143, 127, 2, 11), (.goto 5, 2, 0, 0)], 0),
  ([(.bipush (-2), 2, 1, 0)], 2),
  ([(.ireturn, 0, 0, 0)], 0)]
-- 129: X11_order
def bt_129 : List (List Op × Nat) := [
  ([(.aload_n 0, 0, 0, 0), (.invokevirtual 130, 121, 0, 11), (.pop, 0, 0, 0), (.aload_n 0, 0, 0, 0), (.iload_n 1, 1, 0, 0), (.invokevirtual 146, 125, 1, 11), (.ifCond .eq 23, 1, 0, 0), (.iload_n 2, 2, 0, 0), (.invokestatic 104, 101, 1, 0), (.ifCond .eq 16, 1, 0, 0), (.aload_n 0, 0, 0, 0), (.getfield 34, 11, 10, 0), (.iconst 2, 2, 0, 0), (.iload_n 1, 1, 0, 0), (.imul, 0, 0, 0), (.iload_n 2, 2, 0, 0), (.iadd, 0, 0, 0), (.iaload, 0, 0, 0), (.goto 5, 2, 0, 0)], 0),
  ([(.bipush (-2), 2, 1, 0)], 2),
  ([(.ireturn, 0, 0, 0)], 0)]
-- 130: X11_keeps
def bt_130 : List (List Op × Nat) := [
  ([(.aload_n 0, 0, 0, 0), (.getfield 37, 11, 12, 0), (.iconst 3, 3, 0, 0), (.aload_n 0, 0, 0, 0), (.getfield 149, 11, 11, 0), (.imul, 0, 0, 0), (.iload_n 1, 1, 0, 0), (.iastore, 0, 0, 0), (.aload_n 0, 0, 0, 0), (.getfield 37, 11, 12, 0), (.iconst 3, 3, 0, 0), (.aload_n 0, 0, 0, 0), (.getfield 149, 11, 11, 0), (.imul, 0, 0, 0), (.iconst 1, 1, 0, 0), (.iadd, 0, 0, 0), (.iload_n 2, 2, 0, 0), (.iastore, 0, 0, 0), (.aload_n 0, 0, 0, 0), (.getfield 37, 11, 12, 0), (.iconst 3, 3, 0, 0), (.aload_n 0, 0, 0, 0), (.getfield 149, 11, 11, 0), (.imul, 0, 0, 0), (.iconst 2, 2, 0, 0), (.iadd, 0, 0, 0), (.iload_n 3, 3, 0, 0), (.iastore, 0, 0, 0), (.aload_n 0, 0, 0, 0), (.dup, 0, 0, 0), (.getfield 149, 11, 11, 0), (.iconst 1, 1, 0, 0), (.iadd, 0, 0, 0), (.putfield 149, 11, 11, 0), (.return_, 0, 0, 0)], 0)]
-- 131: X11_event
def bt_131 : List (List Op × Nat) := [
  ([(.iload_n 1, 1, 0, 0), (.i2l, 0, 0, 0), (.lconst 0, 0, 0, 0), (.ldc2_w 89, 2, 0, 0), (.invokestatic 76, 99, 3, 0), (.ifCond .eq 17, 1, 0, 0), (.iload_n 2, 2, 0, 0), (.invokestatic 152, 126, 1, 0), (.ifCond .eq 10, 1, 0, 0), (.iload_n 3, 3, 0, 0), (.invokestatic 140, 124, 1, 0), (.ifCond .ne 6, 2, 0, 0)], 1),
  ([(.bipush (-2), 2, 1, 0), (.ireturn, 0, 0, 0)], 0),
  ([(.aload_n 0, 0, 0, 0), (.getfield 149, 11, 11, 0), (.bipush 8, 8, 0, 0), (.if_icmp .ne 6, 3, 0, 0), (.bipush (-4), 4, 1, 0), (.ireturn, 0, 0, 0)], 0),
  ([(.aload_n 0, 0, 0, 0), (.iload_n 1, 1, 0, 0), (.iload_n 2, 2, 0, 0), (.iload_n 3, 3, 0, 0), (.invokevirtual 155, 130, 3, 11), (.aload_n 0, 0, 0, 0), (.getfield 149, 11, 11, 0), (.ireturn, 0, 0, 0)], 0)]
-- 132: X11_back
def bt_132 : List (List Op × Nat) := [
  ([(.aload_n 0, 0, 0, 0), (.getfield 149, 11, 11, 0), (.ifCond .ne 6, 1, 0, 0), (.bipush (-3), 3, 1, 0), (.ireturn, 0, 0, 0)], 0),
  ([(.aload_n 0, 0, 0, 0), (.dup, 0, 0, 0), (.getfield 149, 11, 11, 0), (.iconst 1, 1, 0, 0), (.isub, 0, 0, 0), (.putfield 149, 11, 11, 0), (.aload_n 0, 0, 0, 0), (.getfield 149, 11, 11, 0), (.ireturn, 0, 0, 0)], 0)]
-- 133: X11_read
def bt_133 : List (List Op × Nat) := [
  ([(.iload_n 1, 1, 0, 0), (.invokestatic 85, 107, 1, 0), (.ifCond .ne 6, 1, 0, 0), (.bipush (-2), 2, 1, 0), (.ireturn, 0, 0, 0)], 0),
  ([(.aload_n 0, 0, 0, 0), (.getfield 7, 11, 0, 0), (.iload_n 1, 1, 0, 0), (.iaload, 0, 0, 0), (.ifCond .ge 9, 2, 0, 0), (.aload_n 0, 0, 0, 0), (.iconst 1, 1, 0, 0), (.invokevirtual 91, 106, 1, 11), (.ireturn, 0, 0, 0)], 0),
  ([(.iconst 0, 0, 0, 0), (.istore_n 2, 2, 0, 0), (.iconst 1, 1, 0, 0), (.istore_n 3, 3, 0, 0)], 3),
  ([(.iload_n 3, 3, 0, 0), (.ifCond .eq 80, 8, 0, 0), (.iconst 3, 3, 0, 0), (.iload_n 2, 2, 0, 0), (.imul, 0, 0, 0), (.iconst 3, 3, 0, 0), (.iadd, 0, 0, 0), (.aload_n 0, 0, 0, 0), (.getfield 13, 11, 1, 0), (.iload_n 1, 1, 0, 0), (.iaload, 0, 0, 0), (.if_icmp .gt 66, 8, 0, 0), (.bipush 60, 60, 0, 0), (.iload_n 1, 1, 0, 0), (.imul, 0, 0, 0), (.iconst 3, 3, 0, 0), (.iload_n 2, 2, 0, 0), (.imul, 0, 0, 0), (.iadd, 0, 0, 0), (.istore 4, 4, 0, 0), (.aload_n 0, 0, 0, 0), (.aload_n 0, 0, 0, 0), (.getfield 16, 11, 2, 0), (.iload 4, 4, 0, 0), (.iaload, 0, 0, 0), (.aload_n 0, 0, 0, 0), (.getfield 16, 11, 2, 0), (.iload 4, 4, 0, 0), (.iconst 1, 1, 0, 0), (.iadd, 0, 0, 0), (.iaload, 0, 0, 0), (.aload_n 0, 0, 0, 0), (.getfield 16, 11, 2, 0), (.iload 4, 4, 0, 0), (.iconst 2, 2, 0, 0), (.iadd, 0, 0, 0), (.iaload, 0, 0, 0), (.invokevirtual 159, 131, 3, 11), (.ifCond .lt 7, 4, 0, 0), (.iconst 1, 1, 0, 0), (.goto 4, 5, 0, 0)], 0),
  ([(.iconst 0, 0, 0, 0)], 5),
  ([(.istore_n 3, 3, 0, 0), (.iload_n 2, 2, 0, 0), (.iload_n 3, 3, 0, 0), (.ifCond .eq 7, 6, 0, 0), (.iconst 1, 1, 0, 0), (.goto 4, 7, 0, 0)], 0),
  ([(.iconst 0, 0, 0, 0)], 7),
  ([(.iadd, 0, 0, 0), (.istore_n 2, 2, 0, 0), (.goto (-78), 3, 0, 0)], 0),
  ([(.iload_n 2, 2, 0, 0), (.ireturn, 0, 0, 0)], 0)]
-- 134: X11_isTold
def bt_134 : List (List Op × Nat) := [
  ([(.iconst 0, 0, 0, 0), (.istore_n 3, 3, 0, 0), (.iconst 0, 0, 0, 0), (.istore 4, 4, 0, 0)], 1),
  ([(.iload 4, 4, 0, 0), (.aload_n 0, 0, 0, 0), (.getfield 149, 11, 11, 0), (.if_icmp .ge 59, 5, 0, 0), (.iload_n 3, 3, 0, 0), (.ifCond .ne 43, 2, 0, 0), (.aload_n 0, 0, 0, 0), (.getfield 37, 11, 12, 0), (.iconst 3, 3, 0, 0), (.iload 4, 4, 0, 0), (.imul, 0, 0, 0), (.iaload, 0, 0, 0), (.iload_n 1, 1, 0, 0), (.if_icmp .ne 34, 3, 0, 0), (.aload_n 0, 0, 0, 0), (.getfield 37, 11, 12, 0), (.iconst 3, 3, 0, 0), (.iload 4, 4, 0, 0), (.imul, 0, 0, 0), (.iconst 1, 1, 0, 0), (.iadd, 0, 0, 0), (.iaload, 0, 0, 0), (.iload_n 2, 2, 0, 0), (.if_icmp .ne 19, 3, 0, 0), (.aload_n 0, 0, 0, 0), (.getfield 161, 11, 13, 0), (.iload 4, 4, 0, 0), (.invokestatic 164, 102, 2, 0), (.ifCond .ne 7, 3, 0, 0)], 2),
  ([(.iconst 1, 1, 0, 0), (.goto 4, 4, 0, 0)], 0),
  ([(.iconst 0, 0, 0, 0)], 4),
  ([(.istore_n 3, 3, 0, 0), (.iinc 4 1, 4, 1, 0), (.goto (-62), 1, 0, 0)], 0),
  ([(.iload_n 3, 3, 0, 0), (.ireturn, 1, 0, 0)], 0)]
-- 135: X11_strawBy
def bt_135 : List (List Op × Nat) := [
  ([(.aload_n 0, 0, 0, 0), (.getfield 70, 11, 14, 0), (.iconst (-1), 1, 1, 0), (.if_icmp .ne 7, 1, 0, 0), (.iconst 0, 0, 0, 0), (.goto 9, 2, 0, 0)], 0),
  ([(.iconst 1, 1, 0, 0), (.aload_n 0, 0, 0, 0), (.getfield 70, 11, 14, 0), (.ishl, 0, 0, 0)], 2),
  ([(.istore_n 2, 2, 0, 0), (.iconst 0, 0, 0, 0), (.istore_n 3, 3, 0, 0)], 3),
  ([(.iload_n 3, 3, 0, 0), (.aload_n 0, 0, 0, 0), (.getfield 149, 11, 11, 0), (.if_icmp .ge 65, 6, 0, 0), (.iload_n 2, 2, 0, 0), (.aload_n 0, 0, 0, 0), (.getfield 37, 11, 12, 0), (.iconst 3, 3, 0, 0), (.iload_n 3, 3, 0, 0), (.imul, 0, 0, 0), (.iaload, 0, 0, 0), (.iconst 2, 2, 0, 0), (.if_icmp .ne 43, 4, 0, 0), (.aload_n 0, 0, 0, 0), (.getfield 37, 11, 12, 0), (.iconst 3, 3, 0, 0), (.iload_n 3, 3, 0, 0), (.imul, 0, 0, 0), (.iconst 1, 1, 0, 0), (.iadd, 0, 0, 0), (.iaload, 0, 0, 0), (.iload_n 1, 1, 0, 0), (.if_icmp .gt 29, 4, 0, 0), (.aload_n 0, 0, 0, 0), (.getfield 161, 11, 13, 0), (.iload_n 3, 3, 0, 0), (.invokestatic 164, 102, 2, 0), (.ifCond .ne 18, 4, 0, 0), (.iconst 1, 1, 0, 0), (.aload_n 0, 0, 0, 0), (.getfield 37, 11, 12, 0), (.iconst 3, 3, 0, 0), (.iload_n 3, 3, 0, 0), (.imul, 0, 0, 0), (.iconst 2, 2, 0, 0), (.iadd, 0, 0, 0), (.iaload, 0, 0, 0), (.ishl, 0, 0, 0), (.goto 4, 5, 0, 0)], 0),
  ([(.iconst 0, 0, 0, 0)], 5),
  ([(.ior, 0, 0, 0), (.istore_n 2, 2, 0, 0), (.iinc 3 1, 3, 1, 0), (.goto (-67), 3, 0, 0)], 0),
  ([(.iload_n 2, 2, 0, 0), (.ireturn, 0, 0, 0)], 0)]
-- 136: X11_topOf
def bt_136 : List (List Op × Nat) := [
  ([(.aload_n 0, 0, 0, 0), (.getfield 40, 11, 17, 0), (.iload_n 1, 1, 0, 0), (.iaload, 0, 0, 0), (.ifCond .ne 7, 1, 0, 0), (.iconst 0, 0, 0, 0), (.goto 21, 2, 0, 0)], 0),
  ([(.aload_n 0, 0, 0, 0), (.getfield 43, 11, 18, 0), (.bipush 6, 6, 0, 0), (.iload_n 1, 1, 0, 0), (.imul, 0, 0, 0), (.aload_n 0, 0, 0, 0), (.getfield 40, 11, 17, 0), (.iload_n 1, 1, 0, 0), (.iaload, 0, 0, 0), (.iadd, 0, 0, 0), (.iconst 1, 1, 0, 0), (.isub, 0, 0, 0), (.iaload, 0, 0, 0)], 2),
  ([(.ireturn, 0, 0, 0)], 0)]
-- 137: X11_greatest
def bt_137 : List (List Op × Nat) := [
  ([(.iconst (-1), 1, 1, 0), (.istore_n 1, 1, 0, 0), (.iconst 0, 0, 0, 0), (.istore_n 2, 2, 0, 0)], 1),
  ([(.iload_n 2, 2, 0, 0), (.bipush 6, 6, 0, 0), (.if_icmp .ge 37, 6, 0, 0), (.aload_n 0, 0, 0, 0), (.iload_n 2, 2, 0, 0), (.invokevirtual 168, 136, 1, 11), (.iload_n 1, 1, 0, 0), (.iconst (-1), 1, 1, 0), (.if_icmp .ne 7, 2, 0, 0), (.iconst 0, 0, 0, 0), (.goto 8, 3, 0, 0)], 0),
  ([(.aload_n 0, 0, 0, 0), (.iload_n 1, 1, 0, 0), (.invokevirtual 168, 136, 1, 11)], 3),
  ([(.if_icmp .le 7, 4, 0, 0), (.iload_n 2, 2, 0, 0), (.goto 4, 5, 0, 0)], 0),
  ([(.iload_n 1, 1, 0, 0)], 5),
  ([(.istore_n 1, 1, 0, 0), (.iinc 2 1, 2, 1, 0), (.goto (-37), 1, 0, 0)], 0),
  ([(.iload_n 1, 1, 0, 0), (.ireturn, 0, 0, 0)], 0)]
-- 138: X11_serves
def bt_138 : List (List Op × Nat) := [
  ([(.aload_n 0, 0, 0, 0), (.invokevirtual 171, 137, 0, 11), (.istore_n 2, 2, 0, 0)], 1),
  ([(.aload_n 0, 0, 0, 0), (.getfield 49, 11, 20, 0), (.iload_n 1, 1, 0, 0), (.iaload, 0, 0, 0), (.aload_n 0, 0, 0, 0), (.getfield 34, 11, 10, 0), (.iconst 2, 2, 0, 0), (.iload_n 1, 1, 0, 0), (.imul, 0, 0, 0), (.iconst 1, 1, 0, 0), (.iadd, 0, 0, 0), (.iaload, 0, 0, 0), (.if_icmp .ge 40, 2, 0, 0), (.iload_n 2, 2, 0, 0), (.iconst (-1), 1, 1, 0), (.if_icmp .eq 35, 2, 0, 0), (.aload_n 0, 0, 0, 0), (.getfield 49, 11, 20, 0), (.iload_n 1, 1, 0, 0), (.dup2, 0, 0, 0), (.iaload, 0, 0, 0), (.aload_n 0, 0, 0, 0), (.iload_n 2, 2, 0, 0), (.invokevirtual 168, 136, 1, 11), (.iadd, 0, 0, 0), (.iastore, 0, 0, 0), (.aload_n 0, 0, 0, 0), (.getfield 40, 11, 17, 0), (.iload_n 2, 2, 0, 0), (.dup2, 0, 0, 0), (.iaload, 0, 0, 0), (.iconst 1, 1, 0, 0), (.isub, 0, 0, 0), (.iastore, 0, 0, 0), (.aload_n 0, 0, 0, 0), (.invokevirtual 171, 137, 0, 11), (.istore_n 2, 2, 0, 0), (.goto (-53), 1, 0, 0)], 0),
  ([(.return_, 0, 0, 0)], 0)]
-- 139: X11_freeOf
def bt_139 : List (List Op × Nat) := [
  ([(.iload_n 2, 2, 0, 0), (.aload_n 0, 0, 0, 0), (.getfield 40, 11, 17, 0), (.iload_n 1, 1, 0, 0), (.iaload, 0, 0, 0), (.iconst 1, 1, 0, 0), (.isub, 0, 0, 0), (.if_icmp .ne 15, 1, 0, 0), (.iload_n 3, 3, 0, 0), (.iload_n 1, 1, 0, 0), (.invokestatic 164, 102, 2, 0), (.ifCond .ne 7, 1, 0, 0), (.iconst 1, 1, 0, 0), (.goto 4, 2, 0, 0)], 0),
  ([(.iconst 0, 0, 0, 0)], 2),
  ([(.istore 4, 4, 0, 0), (.iload 4, 4, 0, 0), (.iload_n 1, 1, 0, 0), (.ifCond .le 19, 3, 0, 0), (.aload_n 0, 0, 0, 0), (.getfield 40, 11, 17, 0), (.iload_n 1, 1, 0, 0), (.iconst 1, 1, 0, 0), (.isub, 0, 0, 0), (.iaload, 0, 0, 0), (.iload_n 2, 2, 0, 0), (.if_icmp .gt 7, 3, 0, 0), (.iconst 1, 1, 0, 0), (.goto 4, 4, 0, 0)], 0),
  ([(.iconst 0, 0, 0, 0)], 4),
  ([(.iadd, 0, 0, 0), (.istore 4, 4, 0, 0), (.iload 4, 4, 0, 0), (.iload_n 1, 1, 0, 0), (.iconst 5, 5, 0, 0), (.if_icmp .ge 19, 5, 0, 0), (.aload_n 0, 0, 0, 0), (.getfield 40, 11, 17, 0), (.iload_n 1, 1, 0, 0), (.iconst 1, 1, 0, 0), (.iadd, 0, 0, 0), (.iaload, 0, 0, 0), (.iload_n 2, 2, 0, 0), (.if_icmp .gt 7, 5, 0, 0), (.iconst 1, 1, 0, 0), (.goto 4, 6, 0, 0)], 0),
  ([(.iconst 0, 0, 0, 0)], 6),
  ([(.iadd, 0, 0, 0), (.ireturn, 0, 0, 0)], 0)]
-- 140: X11_melting
def bt_140 : List (List Op × Nat) := [
  ([(.aload_n 0, 0, 0, 0), (.iload_n 1, 1, 0, 0), (.invokevirtual 174, 135, 1, 11), (.istore_n 2, 2, 0, 0), (.aload_n 0, 0, 0, 0), (.iconst 0, 0, 0, 0), (.iload_n 1, 1, 0, 0), (.invokevirtual 177, 134, 2, 11), (.istore_n 3, 3, 0, 0), (.aload_n 0, 0, 0, 0), (.iconst 1, 1, 0, 0), (.iload_n 1, 1, 0, 0), (.invokevirtual 177, 134, 2, 11), (.istore 4, 4, 0, 0), (.iconst 0, 0, 0, 0), (.istore 5, 5, 0, 0)], 1),
  ([(.iload 5, 5, 0, 0), (.bipush 6, 6, 0, 0), (.if_icmp .ge 131, 8, 0, 0), (.iconst 0, 0, 0, 0), (.istore 6, 6, 0, 0)], 2),
  ([(.iload 6, 6, 0, 0), (.aload_n 0, 0, 0, 0), (.getfield 40, 11, 17, 0), (.iload 5, 5, 0, 0), (.iaload, 0, 0, 0), (.if_icmp .ge 110, 7, 0, 0), (.aload_n 0, 0, 0, 0), (.iload 5, 5, 0, 0), (.iload 6, 6, 0, 0), (.iload_n 2, 2, 0, 0), (.invokevirtual 180, 139, 3, 11), (.istore 7, 7, 0, 0), (.iload_n 3, 3, 0, 0), (.ifCond .eq 30, 3, 0, 0), (.iload 6, 6, 0, 0), (.aload_n 0, 0, 0, 0), (.getfield 40, 11, 17, 0), (.iload 5, 5, 0, 0), (.iaload, 0, 0, 0), (.iconst 1, 1, 0, 0), (.isub, 0, 0, 0), (.if_icmp .ne 16, 3, 0, 0), (.iload_n 2, 2, 0, 0), (.iload 5, 5, 0, 0), (.invokestatic 164, 102, 2, 0), (.ifCond .ne 7, 3, 0, 0), (.iconst 1, 1, 0, 0), (.goto 4, 4, 0, 0)], 0),
  ([(.iconst 0, 0, 0, 0)], 4),
  ([(.istore 8, 8, 0, 0), (.iload 8, 8, 0, 0), (.iload 4, 4, 0, 0), (.ifCond .eq 12, 5, 0, 0), (.iload 7, 7, 0, 0), (.ifCond .le 7, 5, 0, 0), (.iconst 1, 1, 0, 0), (.goto 4, 6, 0, 0)], 0),
  ([(.iconst 0, 0, 0, 0)], 6),
  ([(.iadd, 0, 0, 0), (.istore 8, 8, 0, 0), (.aload_n 0, 0, 0, 0), (.getfield 46, 11, 19, 0), (.bipush 6, 6, 0, 0), (.iload 5, 5, 0, 0), (.imul, 0, 0, 0), (.iload 6, 6, 0, 0), (.iadd, 0, 0, 0), (.iload 7, 7, 0, 0), (.iconst 2, 2, 0, 0), (.idiv, 0, 0, 0), (.iload 8, 8, 0, 0), (.iadd, 0, 0, 0), (.aload_n 0, 0, 0, 0), (.getfield 43, 11, 18, 0), (.bipush 6, 6, 0, 0), (.iload 5, 5, 0, 0), (.imul, 0, 0, 0), (.iload 6, 6, 0, 0), (.iadd, 0, 0, 0), (.iaload, 0, 0, 0), (.invokestatic 183, 103, 2, 0), (.iastore, 0, 0, 0), (.iinc 6 1, 6, 1, 0), (.goto (-116), 2, 0, 0)], 0),
  ([(.iinc 5 1, 5, 1, 0), (.goto (-132), 1, 0, 0)], 0),
  ([(.aload_n 0, 0, 0, 0), (.getfield 58, 11, 23, 0), (.iload_n 1, 1, 0, 0), (.iconst 0, 0, 0, 0), (.iastore, 0, 0, 0), (.iconst 0, 0, 0, 0), (.istore 5, 5, 0, 0)], 9),
  ([(.iload 5, 5, 0, 0), (.bipush 6, 6, 0, 0), (.if_icmp .ge 123, 14, 0, 0), (.iconst 0, 0, 0, 0), (.istore 6, 6, 0, 0), (.iconst 0, 0, 0, 0), (.istore 7, 7, 0, 0)], 10),
  ([(.iload 7, 7, 0, 0), (.aload_n 0, 0, 0, 0), (.getfield 40, 11, 17, 0), (.iload 5, 5, 0, 0), (.iaload, 0, 0, 0), (.if_icmp .ge 90, 13, 0, 0), (.aload_n 0, 0, 0, 0), (.getfield 43, 11, 18, 0), (.bipush 6, 6, 0, 0), (.iload 5, 5, 0, 0), (.imul, 0, 0, 0), (.iload 7, 7, 0, 0), (.iadd, 0, 0, 0), (.iaload, 0, 0, 0), (.aload_n 0, 0, 0, 0), (.getfield 46, 11, 19, 0), (.bipush 6, 6, 0, 0), (.iload 5, 5, 0, 0), (.imul, 0, 0, 0), (.iload 7, 7, 0, 0), (.iadd, 0, 0, 0), (.iaload, 0, 0, 0), (.isub, 0, 0, 0), (.istore 8, 8, 0, 0), (.aload_n 0, 0, 0, 0), (.getfield 58, 11, 23, 0), (.iload_n 1, 1, 0, 0), (.dup2, 0, 0, 0), (.iaload, 0, 0, 0), (.aload_n 0, 0, 0, 0), (.getfield 46, 11, 19, 0), (.bipush 6, 6, 0, 0), (.iload 5, 5, 0, 0), (.imul, 0, 0, 0), (.iload 7, 7, 0, 0), (.iadd, 0, 0, 0), (.iaload, 0, 0, 0), (.iadd, 0, 0, 0), (.iastore, 0, 0, 0), (.aload_n 0, 0, 0, 0), (.getfield 43, 11, 18, 0), (.bipush 6, 6, 0, 0), (.iload 5, 5, 0, 0), (.imul, 0, 0, 0), (.iload 6, 6, 0, 0), (.iadd, 0, 0, 0), (.iload 8, 8, 0, 0), (.iastore, 0, 0, 0), (.iload 6, 6, 0, 0), (.iload 8, 8, 0, 0), (.ifCond .le 7, 11, 0, 0), (.iconst 1, 1, 0, 0), (.goto 4, 12, 0, 0)], 0),
  ([(.iconst 0, 0, 0, 0)], 12),
  ([(.iadd, 0, 0, 0), (.istore 6, 6, 0, 0), (.iinc 7 1, 7, 1, 0), (.goto (-96), 10, 0, 0)], 0),
  ([(.aload_n 0, 0, 0, 0), (.getfield 40, 11, 17, 0), (.iload 5, 5, 0, 0), (.iload 6, 6, 0, 0), (.iastore, 0, 0, 0), (.iinc 5 1, 5, 1, 0), (.goto (-124), 9, 0, 0)], 0),
  ([(.return_, 0, 0, 0)], 0)]
-- 141: X11_passes
def bt_141 : List (List Op × Nat) := [
  ([(.iconst 0, 0, 0, 0), (.istore_n 2, 2, 0, 0)], 1),
  ([(.iload_n 2, 2, 0, 0), (.aload_n 0, 0, 0, 0), (.getfield 120, 11, 9, 0), (.if_icmp .ge 26, 3, 0, 0), (.aload_n 0, 0, 0, 0), (.getfield 34, 11, 10, 0), (.iconst 2, 2, 0, 0), (.iload_n 2, 2, 0, 0), (.imul, 0, 0, 0), (.iaload, 0, 0, 0), (.iload_n 1, 1, 0, 0), (.if_icmp .ne 8, 2, 0, 0), (.aload_n 0, 0, 0, 0), (.iload_n 2, 2, 0, 0), (.invokevirtual 186, 138, 1, 11)], 2),
  ([(.iinc 2 1, 2, 1, 0), (.goto (-28), 1, 0, 0)], 0),
  ([(.aload_n 0, 0, 0, 0), (.iload_n 1, 1, 0, 0), (.invokevirtual 190, 140, 1, 11), (.iconst 0, 0, 0, 0), (.istore_n 2, 2, 0, 0)], 4),
  ([(.iload_n 2, 2, 0, 0), (.bipush 6, 6, 0, 0), (.if_icmp .ge 81, 9, 0, 0), (.aload_n 0, 0, 0, 0), (.getfield 52, 11, 21, 0), (.bipush 6, 6, 0, 0), (.iload_n 1, 1, 0, 0), (.imul, 0, 0, 0), (.iload_n 2, 2, 0, 0), (.iadd, 0, 0, 0), (.aload_n 0, 0, 0, 0), (.getfield 40, 11, 17, 0), (.iload_n 2, 2, 0, 0), (.iaload, 0, 0, 0), (.iastore, 0, 0, 0), (.iconst 0, 0, 0, 0), (.istore_n 3, 3, 0, 0)], 5),
  ([(.iload_n 3, 3, 0, 0), (.bipush 6, 6, 0, 0), (.if_icmp .ge 50, 8, 0, 0), (.aload_n 0, 0, 0, 0), (.getfield 55, 11, 22, 0), (.bipush 36, 36, 0, 0), (.iload_n 1, 1, 0, 0), (.imul, 0, 0, 0), (.bipush 6, 6, 0, 0), (.iload_n 2, 2, 0, 0), (.imul, 0, 0, 0), (.iadd, 0, 0, 0), (.iload_n 3, 3, 0, 0), (.iadd, 0, 0, 0), (.iload_n 3, 3, 0, 0), (.aload_n 0, 0, 0, 0), (.getfield 40, 11, 17, 0), (.iload_n 2, 2, 0, 0), (.iaload, 0, 0, 0), (.if_icmp .ge 17, 6, 0, 0), (.aload_n 0, 0, 0, 0), (.getfield 43, 11, 18, 0), (.bipush 6, 6, 0, 0), (.iload_n 2, 2, 0, 0), (.imul, 0, 0, 0), (.iload_n 3, 3, 0, 0), (.iadd, 0, 0, 0), (.iaload, 0, 0, 0), (.goto 4, 7, 0, 0)], 0),
  ([(.iconst 0, 0, 0, 0)], 7),
  ([(.iastore, 0, 0, 0), (.iinc 3 1, 3, 1, 0), (.goto (-50), 5, 0, 0)], 0),
  ([(.iinc 2 1, 2, 1, 0), (.goto (-81), 4, 0, 0)], 0),
  ([(.return_, 0, 0, 0)], 0)]
-- 142: X11_lives
def bt_142 : List (List Op × Nat) := [
  ([(.iconst 0, 0, 0, 0), (.istore_n 1, 1, 0, 0)], 1),
  ([(.iload_n 1, 1, 0, 0), (.bipush 6, 6, 0, 0), (.if_icmp .ge 108, 8, 0, 0), (.aload_n 0, 0, 0, 0), (.getfield 193, 11, 15, 0), (.aload_n 0, 0, 0, 0), (.getfield 196, 11, 16, 0), (.if_icmp .ne 7, 2, 0, 0), (.iload_n 1, 1, 0, 0), (.goto 34, 5, 0, 0)], 0),
  ([(.iload_n 1, 1, 0, 0), (.aload_n 0, 0, 0, 0), (.getfield 193, 11, 15, 0), (.if_icmp .ne 10, 3, 0, 0), (.aload_n 0, 0, 0, 0), (.getfield 196, 11, 16, 0), (.goto 19, 5, 0, 0)], 0),
  ([(.iload_n 1, 1, 0, 0), (.aload_n 0, 0, 0, 0), (.getfield 196, 11, 16, 0), (.if_icmp .ne 10, 4, 0, 0), (.aload_n 0, 0, 0, 0), (.getfield 193, 11, 15, 0), (.goto 4, 5, 0, 0)], 0),
  ([(.iload_n 1, 1, 0, 0)], 5),
  ([(.istore_n 2, 2, 0, 0), (.aload_n 0, 0, 0, 0), (.getfield 40, 11, 17, 0), (.iload_n 1, 1, 0, 0), (.aload_n 0, 0, 0, 0), (.getfield 28, 11, 7, 0), (.iload_n 2, 2, 0, 0), (.iaload, 0, 0, 0), (.iastore, 0, 0, 0), (.iconst 0, 0, 0, 0), (.istore_n 3, 3, 0, 0)], 6),
  ([(.iload_n 3, 3, 0, 0), (.aload_n 0, 0, 0, 0), (.getfield 40, 11, 17, 0), (.iload_n 1, 1, 0, 0), (.iaload, 0, 0, 0), (.if_icmp .ge 31, 7, 0, 0), (.aload_n 0, 0, 0, 0), (.getfield 43, 11, 18, 0), (.bipush 6, 6, 0, 0), (.iload_n 1, 1, 0, 0), (.imul, 0, 0, 0), (.iload_n 3, 3, 0, 0), (.iadd, 0, 0, 0), (.aload_n 0, 0, 0, 0), (.getfield 31, 11, 8, 0), (.bipush 6, 6, 0, 0), (.iload_n 2, 2, 0, 0), (.imul, 0, 0, 0), (.iload_n 3, 3, 0, 0), (.iadd, 0, 0, 0), (.iaload, 0, 0, 0), (.iastore, 0, 0, 0), (.iinc 3 1, 3, 1, 0), (.goto (-35), 6, 0, 0)], 0),
  ([(.iinc 1 1, 1, 1, 0), (.goto (-108), 1, 0, 0)], 0),
  ([(.iconst 0, 0, 0, 0), (.istore_n 1, 1, 0, 0)], 9),
  ([(.iload_n 1, 1, 0, 0), (.bipush 12, 12, 0, 0), (.if_icmp .ge 16, 10, 0, 0), (.aload_n 0, 0, 0, 0), (.getfield 49, 11, 20, 0), (.iload_n 1, 1, 0, 0), (.iconst 0, 0, 0, 0), (.iastore, 0, 0, 0), (.iinc 1 1, 1, 1, 0), (.goto (-16), 9, 0, 0)], 0),
  ([(.iconst 0, 0, 0, 0), (.istore_n 1, 1, 0, 0)], 11),
  ([(.iload_n 1, 1, 0, 0), (.bipush 24, 24, 0, 0), (.if_icmp .ge 14, 12, 0, 0), (.aload_n 0, 0, 0, 0), (.iload_n 1, 1, 0, 0), (.invokevirtual 199, 141, 1, 11), (.iinc 1 1, 1, 1, 0), (.goto (-14), 11, 0, 0)], 0),
  ([(.return_, 0, 0, 0)], 0)]
-- 143: X11_find
def bt_143 : List (List Op × Nat) := [
  ([(.aload_n 0, 0, 0, 0), (.invokevirtual 126, 119, 0, 11), (.pop, 0, 0, 0), (.aload_n 0, 0, 0, 0), (.invokevirtual 130, 121, 0, 11), (.pop, 0, 0, 0), (.aload_n 0, 0, 0, 0), (.invokevirtual 202, 142, 0, 11), (.return_, 0, 0, 0)], 0)]
-- 144: X11_standsIn
def bt_144 : List (List Op × Nat) := [
  ([(.iconst 0, 0, 0, 0), (.istore_n 3, 3, 0, 0), (.iconst 0, 0, 0, 0), (.istore 4, 4, 0, 0)], 1),
  ([(.iload 4, 4, 0, 0), (.bipush 6, 6, 0, 0), (.if_icmp .ge 29, 2, 0, 0), (.iload_n 3, 3, 0, 0), (.aload_n 0, 0, 0, 0), (.getfield 55, 11, 22, 0), (.bipush 36, 36, 0, 0), (.iload_n 1, 1, 0, 0), (.imul, 0, 0, 0), (.bipush 6, 6, 0, 0), (.iload_n 2, 2, 0, 0), (.imul, 0, 0, 0), (.iadd, 0, 0, 0), (.iload 4, 4, 0, 0), (.iadd, 0, 0, 0), (.iaload, 0, 0, 0), (.iadd, 0, 0, 0), (.istore_n 3, 3, 0, 0), (.iinc 4 1, 4, 1, 0), (.goto (-30), 1, 0, 0)], 0),
  ([(.iload_n 3, 3, 0, 0), (.ireturn, 0, 0, 0)], 0)]
-- 145: X11_columnBy
def bt_145 : List (List Op × Nat) := [
  ([(.iload_n 3, 3, 0, 0), (.ifCond .ne 17, 1, 0, 0), (.aload_n 0, 0, 0, 0), (.getfield 52, 11, 21, 0), (.bipush 6, 6, 0, 0), (.iload_n 1, 1, 0, 0), (.imul, 0, 0, 0), (.iload_n 2, 2, 0, 0), (.iadd, 0, 0, 0), (.iaload, 0, 0, 0), (.goto 9, 2, 0, 0)], 0),
  ([(.aload_n 0, 0, 0, 0), (.iload_n 1, 1, 0, 0), (.iload_n 2, 2, 0, 0), (.invokevirtual 205, 144, 2, 11)], 2),
  ([(.ireturn, 0, 0, 0)], 0)]
-- 146: X11_column
def bt_146 : List (List Op × Nat) := [
  ([(.aload_n 0, 0, 0, 0), (.invokevirtual 208, 143, 0, 11), (.iload_n 1, 1, 0, 0), (.invokestatic 152, 126, 1, 0), (.ifCond .eq 27, 1, 0, 0), (.iload_n 2, 2, 0, 0), (.invokestatic 140, 124, 1, 0), (.ifCond .eq 20, 1, 0, 0), (.iload_n 3, 3, 0, 0), (.invokestatic 104, 101, 1, 0), (.ifCond .eq 13, 1, 0, 0), (.aload_n 0, 0, 0, 0), (.iload_n 1, 1, 0, 0), (.iload_n 2, 2, 0, 0), (.iload_n 3, 3, 0, 0), (.invokevirtual 211, 145, 3, 11), (.goto 5, 2, 0, 0)], 0),
  ([(.bipush (-2), 2, 1, 0)], 2),
  ([(.ireturn, 0, 0, 0)], 0)]
-- 147: X11_block
def bt_147 : List (List Op × Nat) := [
  ([(.aload_n 0, 0, 0, 0), (.invokevirtual 208, 143, 0, 11), (.iload_n 1, 1, 0, 0), (.invokestatic 152, 126, 1, 0), (.ifCond .eq 41, 1, 0, 0), (.iload_n 2, 2, 0, 0), (.invokestatic 140, 124, 1, 0), (.ifCond .eq 34, 1, 0, 0), (.iload_n 3, 3, 0, 0), (.i2l, 0, 0, 0), (.lconst 0, 0, 0, 0), (.ldc2_w 136, 5, 0, 0), (.invokestatic 76, 99, 3, 0), (.ifCond .eq 22, 1, 0, 0), (.aload_n 0, 0, 0, 0), (.getfield 55, 11, 22, 0), (.bipush 36, 36, 0, 0), (.iload_n 1, 1, 0, 0), (.imul, 0, 0, 0), (.bipush 6, 6, 0, 0), (.iload_n 2, 2, 0, 0), (.imul, 0, 0, 0), (.iadd, 0, 0, 0), (.iload_n 3, 3, 0, 0), (.iadd, 0, 0, 0), (.iaload, 0, 0, 0), (.goto 5, 2, 0, 0)], 0),
  ([(.bipush (-2), 2, 1, 0)], 2),
  ([(.ireturn, 0, 0, 0)], 0)]
-- 148: X11_allIce
def bt_148 : List (List Op × Nat) := [
  ([(.iconst 0, 0, 0, 0), (.istore_n 2, 2, 0, 0), (.iconst 0, 0, 0, 0), (.istore_n 3, 3, 0, 0)], 1),
  ([(.iload_n 3, 3, 0, 0), (.bipush 36, 36, 0, 0), (.if_icmp .ge 23, 2, 0, 0), (.iload_n 2, 2, 0, 0), (.aload_n 0, 0, 0, 0), (.getfield 55, 11, 22, 0), (.bipush 36, 36, 0, 0), (.iload_n 1, 1, 0, 0), (.imul, 0, 0, 0), (.iload_n 3, 3, 0, 0), (.iadd, 0, 0, 0), (.iaload, 0, 0, 0), (.iadd, 0, 0, 0), (.istore_n 2, 2, 0, 0), (.iinc 3 1, 3, 1, 0), (.goto (-23), 1, 0, 0)], 0),
  ([(.iload_n 2, 2, 0, 0), (.ireturn, 0, 0, 0)], 0)]
-- 149: X11_iceBy
def bt_149 : List (List Op × Nat) := [
  ([(.iload_n 2, 2, 0, 0), (.ifCond .ne 11, 1, 0, 0), (.aload_n 0, 0, 0, 0), (.iload_n 1, 1, 0, 0), (.invokevirtual 214, 148, 1, 11), (.goto 9, 2, 0, 0)], 0),
  ([(.aload_n 0, 0, 0, 0), (.getfield 58, 11, 23, 0), (.iload_n 1, 1, 0, 0), (.iaload, 0, 0, 0)], 2),
  ([(.ireturn, 0, 0, 0)], 0)]
-- 150: X11_ice
def bt_150 : List (List Op × Nat) := [
  ([(.aload_n 0, 0, 0, 0), (.invokevirtual 208, 143, 0, 11), (.iload_n 1, 1, 0, 0), (.invokestatic 152, 126, 1, 0), (.ifCond .eq 19, 1, 0, 0), (.iload_n 2, 2, 0, 0), (.invokestatic 104, 101, 1, 0), (.ifCond .eq 12, 1, 0, 0), (.aload_n 0, 0, 0, 0), (.iload_n 1, 1, 0, 0), (.iload_n 2, 2, 0, 0), (.invokevirtual 217, 149, 2, 11), (.goto 5, 2, 0, 0)], 0),
  ([(.bipush (-2), 2, 1, 0)], 2),
  ([(.ireturn, 0, 0, 0)], 0)]
-- 151: X11_isShort
def bt_151 : List (List Op × Nat) := [
  ([(.aload_n 0, 0, 0, 0), (.getfield 49, 11, 20, 0), (.iload_n 1, 1, 0, 0), (.iaload, 0, 0, 0), (.aload_n 0, 0, 0, 0), (.getfield 34, 11, 10, 0), (.iconst 2, 2, 0, 0), (.iload_n 1, 1, 0, 0), (.imul, 0, 0, 0), (.iconst 1, 1, 0, 0), (.iadd, 0, 0, 0), (.iaload, 0, 0, 0), (.if_icmp .ge 7, 1, 0, 0), (.iconst 1, 1, 0, 0), (.goto 4, 2, 0, 0)], 0),
  ([(.iconst 0, 0, 0, 0)], 2),
  ([(.ireturn, 1, 0, 0)], 0)]
-- 152: X11_gotBy
def bt_152 : List (List Op × Nat) := [
  ([(.iload_n 2, 2, 0, 0), (.ifCond .ne 12, 1, 0, 0), (.aload_n 0, 0, 0, 0), (.getfield 49, 11, 20, 0), (.iload_n 1, 1, 0, 0), (.iaload, 0, 0, 0), (.goto 16, 3, 0, 0)], 0),
  ([(.aload_n 0, 0, 0, 0), (.iload_n 1, 1, 0, 0), (.invokevirtual 220, 151, 1, 11), (.ifCond .eq 7, 2, 0, 0), (.iconst 1, 1, 0, 0), (.goto 4, 3, 0, 0)], 0),
  ([(.iconst 0, 0, 0, 0)], 3),
  ([(.ireturn, 0, 0, 0)], 0)]
-- 153: X11_got
def bt_153 : List (List Op × Nat) := [
  ([(.aload_n 0, 0, 0, 0), (.invokevirtual 208, 143, 0, 11), (.aload_n 0, 0, 0, 0), (.iload_n 1, 1, 0, 0), (.invokevirtual 146, 125, 1, 11), (.ifCond .eq 19, 1, 0, 0), (.iload_n 2, 2, 0, 0), (.invokestatic 104, 101, 1, 0), (.ifCond .eq 12, 1, 0, 0), (.aload_n 0, 0, 0, 0), (.iload_n 1, 1, 0, 0), (.iload_n 2, 2, 0, 0), (.invokevirtual 223, 152, 2, 11), (.goto 5, 2, 0, 0)], 0),
  ([(.bipush (-2), 2, 1, 0)], 2),
  ([(.ireturn, 0, 0, 0)], 0)]
-- 154: X11_sumBy
def bt_154 : List (List Op × Nat) := [
  ([(.iconst 0, 0, 0, 0), (.istore_n 2, 2, 0, 0), (.iconst 0, 0, 0, 0), (.istore_n 3, 3, 0, 0)], 1),
  ([(.iload_n 3, 3, 0, 0), (.aload_n 0, 0, 0, 0), (.getfield 120, 11, 9, 0), (.if_icmp .ge 18, 2, 0, 0), (.iload_n 2, 2, 0, 0), (.aload_n 0, 0, 0, 0), (.iload_n 3, 3, 0, 0), (.iload_n 1, 1, 0, 0), (.invokevirtual 223, 152, 2, 11), (.iadd, 0, 0, 0), (.istore_n 2, 2, 0, 0), (.iinc 3 1, 3, 1, 0), (.goto (-20), 1, 0, 0)], 0),
  ([(.iload_n 2, 2, 0, 0), (.ireturn, 0, 0, 0)], 0)]
-- 155: X11_sum
def bt_155 : List (List Op × Nat) := [
  ([(.aload_n 0, 0, 0, 0), (.invokevirtual 208, 143, 0, 11), (.iload_n 1, 1, 0, 0), (.invokestatic 104, 101, 1, 0), (.ifCond .eq 11, 1, 0, 0), (.aload_n 0, 0, 0, 0), (.iload_n 1, 1, 0, 0), (.invokevirtual 226, 154, 1, 11), (.goto 5, 2, 0, 0)], 0),
  ([(.bipush (-2), 2, 1, 0)], 2),
  ([(.ireturn, 0, 0, 0)], 0)]
-- 156: X11_bareOf
def bt_156 : List (List Op × Nat) := [
  ([(.iconst (-1), 1, 1, 0), (.istore_n 2, 2, 0, 0), (.bipush 23, 23, 0, 0), (.istore_n 3, 3, 0, 0)], 1),
  ([(.iload_n 3, 3, 0, 0), (.ifCond .lt 29, 4, 0, 0), (.aload_n 0, 0, 0, 0), (.getfield 52, 11, 21, 0), (.bipush 6, 6, 0, 0), (.iload_n 3, 3, 0, 0), (.imul, 0, 0, 0), (.iload_n 1, 1, 0, 0), (.iadd, 0, 0, 0), (.iaload, 0, 0, 0), (.ifCond .ne 7, 2, 0, 0), (.iload_n 3, 3, 0, 0), (.goto 4, 3, 0, 0)], 0),
  ([(.iload_n 2, 2, 0, 0)], 3),
  ([(.istore_n 2, 2, 0, 0), (.iinc 3 (-1), 3, 1, 1), (.goto (-27), 1, 0, 0)], 0),
  ([(.iload_n 2, 2, 0, 0), (.ireturn, 0, 0, 0)], 0)]
-- 157: X11_bare
def bt_157 : List (List Op × Nat) := [
  ([(.aload_n 0, 0, 0, 0), (.invokevirtual 208, 143, 0, 11), (.iload_n 1, 1, 0, 0), (.invokestatic 140, 124, 1, 0), (.ifCond .eq 11, 1, 0, 0), (.aload_n 0, 0, 0, 0), (.iload_n 1, 1, 0, 0), (.invokevirtual 229, 156, 1, 11), (.goto 5, 2, 0, 0)], 0),
  ([(.bipush (-2), 2, 1, 0)], 2),
  ([(.ireturn, 0, 0, 0)], 0)]
-- 158: X11_lastNow
def bt_158 : List (List Op × Nat) := [
  ([(.iconst (-1), 1, 1, 0), (.istore_n 1, 1, 0, 0), (.bipush 23, 23, 0, 0), (.istore_n 2, 2, 0, 0)], 1),
  ([(.iload_n 2, 2, 0, 0), (.ifCond .lt 23, 4, 0, 0), (.aload_n 0, 0, 0, 0), (.iload_n 2, 2, 0, 0), (.invokevirtual 214, 148, 1, 11), (.ifCond .ne 7, 2, 0, 0), (.iload_n 2, 2, 0, 0), (.goto 4, 3, 0, 0)], 0),
  ([(.iload_n 1, 1, 0, 0)], 3),
  ([(.istore_n 1, 1, 0, 0), (.iinc 2 (-1), 2, 1, 1), (.goto (-21), 1, 0, 0)], 0),
  ([(.iload_n 1, 1, 0, 0), (.ireturn, 0, 0, 0)], 0)]
-- 159: X11_last
def bt_159 : List (List Op × Nat) := [
  ([(.aload_n 0, 0, 0, 0), (.invokevirtual 208, 143, 0, 11), (.aload_n 0, 0, 0, 0), (.invokevirtual 232, 158, 0, 11), (.ireturn, 0, 0, 0)], 0)]
-- 160: X11_tallNow
def bt_160 : List (List Op × Nat) := [
  ([(.iconst 0, 0, 0, 0), (.istore_n 1, 1, 0, 0), (.iconst 1, 1, 0, 0), (.istore_n 2, 2, 0, 0)], 1),
  ([(.iload_n 2, 2, 0, 0), (.bipush 6, 6, 0, 0), (.if_icmp .ge 30, 4, 0, 0), (.aload_n 0, 0, 0, 0), (.getfield 40, 11, 17, 0), (.iload_n 2, 2, 0, 0), (.iaload, 0, 0, 0), (.aload_n 0, 0, 0, 0), (.getfield 40, 11, 17, 0), (.iload_n 1, 1, 0, 0), (.iaload, 0, 0, 0), (.if_icmp .le 7, 2, 0, 0), (.iload_n 2, 2, 0, 0), (.goto 4, 3, 0, 0)], 0),
  ([(.iload_n 1, 1, 0, 0)], 3),
  ([(.istore_n 1, 1, 0, 0), (.iinc 2 1, 2, 1, 0), (.goto (-30), 1, 0, 0)], 0),
  ([(.iload_n 1, 1, 0, 0), (.ireturn, 0, 0, 0)], 0)]
-- 161: X11_tall
def bt_161 : List (List Op × Nat) := [
  ([(.aload_n 0, 0, 0, 0), (.invokevirtual 208, 143, 0, 11), (.aload_n 0, 0, 0, 0), (.invokevirtual 235, 160, 0, 11), (.ireturn, 0, 0, 0)], 0)]
-- 162: X11_drainBy
def bt_162 : List (List Op × Nat) := [
  ([(.iconst 0, 0, 0, 0), (.istore_n 2, 2, 0, 0), (.iconst 1, 1, 0, 0), (.istore_n 3, 3, 0, 0)], 1),
  ([(.iload_n 3, 3, 0, 0), (.bipush 24, 24, 0, 0), (.if_icmp .ge 30, 4, 0, 0), (.aload_n 0, 0, 0, 0), (.getfield 58, 11, 23, 0), (.iload_n 3, 3, 0, 0), (.iaload, 0, 0, 0), (.aload_n 0, 0, 0, 0), (.getfield 58, 11, 23, 0), (.iload_n 2, 2, 0, 0), (.iaload, 0, 0, 0), (.if_icmp .le 7, 2, 0, 0), (.iload_n 3, 3, 0, 0), (.goto 4, 3, 0, 0)], 0),
  ([(.iload_n 2, 2, 0, 0)], 3),
  ([(.istore_n 2, 2, 0, 0), (.iinc 3 1, 3, 1, 0), (.goto (-30), 1, 0, 0)], 0),
  ([(.iload_n 1, 1, 0, 0), (.ifCond .ne 7, 5, 0, 0), (.iload_n 2, 2, 0, 0), (.goto 9, 6, 0, 0)], 0),
  ([(.aload_n 0, 0, 0, 0), (.getfield 58, 11, 23, 0), (.iload_n 2, 2, 0, 0), (.iaload, 0, 0, 0)], 6),
  ([(.ireturn, 0, 0, 0)], 0)]
-- 163: X11_drain
def bt_163 : List (List Op × Nat) := [
  ([(.aload_n 0, 0, 0, 0), (.invokevirtual 208, 143, 0, 11), (.iload_n 1, 1, 0, 0), (.invokestatic 104, 101, 1, 0), (.ifCond .eq 11, 1, 0, 0), (.aload_n 0, 0, 0, 0), (.iload_n 1, 1, 0, 0), (.invokevirtual 238, 162, 1, 11), (.goto 5, 2, 0, 0)], 0),
  ([(.bipush (-2), 2, 1, 0)], 2),
  ([(.ireturn, 0, 0, 0)], 0)]
-- 164: X11_coverBy
def bt_164 : List (List Op × Nat) := [
  ([(.iconst (-1), 1, 1, 0), (.istore_n 2, 2, 0, 0), (.iconst (-1), 1, 1, 0), (.istore_n 3, 3, 0, 0), (.iconst 0, 0, 0, 0), (.istore 4, 4, 0, 0)], 1),
  ([(.iload 4, 4, 0, 0), (.bipush 6, 6, 0, 0), (.if_icmp .ge 47, 4, 0, 0), (.aload_n 0, 0, 0, 0), (.iload 4, 4, 0, 0), (.putfield 70, 11, 14, 0), (.aload_n 0, 0, 0, 0), (.invokevirtual 202, 142, 0, 11), (.aload_n 0, 0, 0, 0), (.bipush 23, 23, 0, 0), (.invokevirtual 214, 148, 1, 11), (.istore 5, 5, 0, 0), (.iload 5, 5, 0, 0), (.iload_n 3, 3, 0, 0), (.if_icmp .le 8, 2, 0, 0), (.iload 4, 4, 0, 0), (.goto 4, 3, 0, 0)], 0),
  ([(.iload_n 2, 2, 0, 0)], 3),
  ([(.istore_n 2, 2, 0, 0), (.iload 5, 5, 0, 0), (.iload_n 3, 3, 0, 0), (.invokestatic 241, 104, 2, 0), (.istore_n 3, 3, 0, 0), (.iinc 4 1, 4, 1, 0), (.goto (-48), 1, 0, 0)], 0),
  ([(.aload_n 0, 0, 0, 0), (.iconst (-1), 1, 1, 0), (.putfield 70, 11, 14, 0), (.iload_n 1, 1, 0, 0), (.ifCond .ne 7, 5, 0, 0), (.iload_n 2, 2, 0, 0), (.goto 4, 6, 0, 0)], 0),
  ([(.iload_n 3, 3, 0, 0)], 6),
  ([(.ireturn, 0, 0, 0)], 0)]
-- 165: X11_cover
def bt_165 : List (List Op × Nat) := [
  ([(.aload_n 0, 0, 0, 0), (.invokevirtual 208, 143, 0, 11), (.iload_n 1, 1, 0, 0), (.invokestatic 104, 101, 1, 0), (.ifCond .eq 11, 1, 0, 0), (.aload_n 0, 0, 0, 0), (.iload_n 1, 1, 0, 0), (.invokevirtual 244, 164, 1, 11), (.goto 5, 2, 0, 0)], 0),
  ([(.bipush (-2), 2, 1, 0)], 2),
  ([(.ireturn, 0, 0, 0)], 0)]
-- 166: X11_swapBy
def bt_166 : List (List Op × Nat) := [
  ([(.iconst (-1), 1, 1, 0), (.istore_n 2, 2, 0, 0), (.iconst (-1), 1, 1, 0), (.istore_n 3, 3, 0, 0), (.iconst 0, 0, 0, 0), (.istore 4, 4, 0, 0)], 1),
  ([(.iload 4, 4, 0, 0), (.bipush 36, 36, 0, 0), (.if_icmp .ge 72, 5, 0, 0), (.iload 4, 4, 0, 0), (.bipush 6, 6, 0, 0), (.idiv, 0, 0, 0), (.iload 4, 4, 0, 0), (.bipush 6, 6, 0, 0), (.irem, 0, 0, 0), (.if_icmp .ge 53, 4, 0, 0), (.aload_n 0, 0, 0, 0), (.iload 4, 4, 0, 0), (.bipush 6, 6, 0, 0), (.idiv, 0, 0, 0), (.putfield 193, 11, 15, 0), (.aload_n 0, 0, 0, 0), (.iload 4, 4, 0, 0), (.bipush 6, 6, 0, 0), (.irem, 0, 0, 0), (.putfield 196, 11, 16, 0), (.aload_n 0, 0, 0, 0), (.invokevirtual 202, 142, 0, 11), (.aload_n 0, 0, 0, 0), (.bipush 23, 23, 0, 0), (.invokevirtual 214, 148, 1, 11), (.istore 5, 5, 0, 0), (.iload 5, 5, 0, 0), (.iload_n 3, 3, 0, 0), (.if_icmp .le 8, 2, 0, 0), (.iload 4, 4, 0, 0), (.goto 4, 3, 0, 0)], 0),
  ([(.iload_n 2, 2, 0, 0)], 3),
  ([(.istore_n 2, 2, 0, 0), (.iload 5, 5, 0, 0), (.iload_n 3, 3, 0, 0), (.invokestatic 241, 104, 2, 0), (.istore_n 3, 3, 0, 0)], 4),
  ([(.iinc 4 1, 4, 1, 0), (.goto (-73), 1, 0, 0)], 0),
  ([(.aload_n 0, 0, 0, 0), (.iconst 0, 0, 0, 0), (.putfield 193, 11, 15, 0), (.aload_n 0, 0, 0, 0), (.iconst 0, 0, 0, 0), (.putfield 196, 11, 16, 0), (.iload_n 1, 1, 0, 0), (.ifCond .ne 10, 6, 0, 0), (.iload_n 2, 2, 0, 0), (.bipush 6, 6, 0, 0), (.idiv, 0, 0, 0), (.goto 16, 8, 0, 0)], 0),
  ([(.iload_n 1, 1, 0, 0), (.iconst 1, 1, 0, 0), (.if_icmp .ne 10, 7, 0, 0), (.iload_n 2, 2, 0, 0), (.bipush 6, 6, 0, 0), (.irem, 0, 0, 0), (.goto 4, 8, 0, 0)], 0),
  ([(.iload_n 3, 3, 0, 0)], 8),
  ([(.ireturn, 0, 0, 0)], 0)]
-- 167: X11_swap
def bt_167 : List (List Op × Nat) := [
  ([(.aload_n 0, 0, 0, 0), (.invokevirtual 208, 143, 0, 11), (.iload_n 1, 1, 0, 0), (.i2l, 0, 0, 0), (.lconst 0, 0, 0, 0), (.ldc2_w 89, 2, 0, 0), (.invokestatic 76, 99, 3, 0), (.ifCond .eq 11, 1, 0, 0), (.aload_n 0, 0, 0, 0), (.iload_n 1, 1, 0, 0), (.invokevirtual 247, 166, 1, 11), (.goto 5, 2, 0, 0)], 0),
  ([(.bipush (-2), 2, 1, 0)], 2),
  ([(.ireturn, 0, 0, 0)], 0)]
-- 168: X11_laterOf
def bt_168 : List (List Op × Nat) := [
  ([(.aload_n 0, 0, 0, 0), (.getfield 34, 11, 10, 0), (.iconst 2, 2, 0, 0), (.iload_n 1, 1, 0, 0), (.imul, 0, 0, 0), (.iaload, 0, 0, 0), (.istore_n 3, 3, 0, 0), (.iconst (-1), 1, 1, 0), (.istore 4, 4, 0, 0), (.bipush 99, 99, 0, 0), (.istore 5, 5, 0, 0), (.iconst 0, 0, 0, 0), (.istore 6, 6, 0, 0)], 1),
  ([(.iload 6, 6, 0, 0), (.bipush 24, 24, 0, 0), (.if_icmp .ge 55, 4, 0, 0), (.aload_n 0, 0, 0, 0), (.getfield 34, 11, 10, 0), (.iconst 2, 2, 0, 0), (.iload_n 1, 1, 0, 0), (.imul, 0, 0, 0), (.iload 6, 6, 0, 0), (.iastore, 0, 0, 0), (.aload_n 0, 0, 0, 0), (.invokevirtual 202, 142, 0, 11), (.aload_n 0, 0, 0, 0), (.iconst 1, 1, 0, 0), (.invokevirtual 226, 154, 1, 11), (.istore 7, 7, 0, 0), (.iload 7, 7, 0, 0), (.iload 5, 5, 0, 0), (.if_icmp .ge 8, 2, 0, 0), (.iload 6, 6, 0, 0), (.goto 5, 3, 0, 0)], 0),
  ([(.iload 4, 4, 0, 0)], 3),
  ([(.istore 4, 4, 0, 0), (.iload 7, 7, 0, 0), (.iload 5, 5, 0, 0), (.invokestatic 183, 103, 2, 0), (.istore 5, 5, 0, 0), (.iinc 6 1, 6, 1, 0), (.goto (-56), 1, 0, 0)], 0),
  ([(.aload_n 0, 0, 0, 0), (.getfield 34, 11, 10, 0), (.iconst 2, 2, 0, 0), (.iload_n 1, 1, 0, 0), (.imul, 0, 0, 0), (.iload_n 3, 3, 0, 0), (.iastore, 0, 0, 0), (.iload_n 2, 2, 0, 0), (.ifCond .ne 8, 5, 0, 0), (.iload 4, 4, 0, 0), (.goto 5, 6, 0, 0)], 0),
  ([(.iload 5, 5, 0, 0)], 6),
  ([(.ireturn, 0, 0, 0)], 0)]
-- 169: X11_later
def bt_169 : List (List Op × Nat) := [
  ([(.aload_n 0, 0, 0, 0), (.invokevirtual 208, 143, 0, 11), (.aload_n 0, 0, 0, 0), (.iload_n 1, 1, 0, 0), (.invokevirtual 146, 125, 1, 11), (.ifCond .eq 19, 1, 0, 0), (.iload_n 2, 2, 0, 0), (.invokestatic 104, 101, 1, 0), (.ifCond .eq 12, 1, 0, 0), (.aload_n 0, 0, 0, 0), (.iload_n 1, 1, 0, 0), (.iload_n 2, 2, 0, 0), (.invokevirtual 250, 168, 2, 11), (.goto 5, 2, 0, 0)], 0),
  ([(.bipush (-2), 2, 1, 0)], 2),
  ([(.ireturn, 0, 0, 0)], 0)]
-- 170: X11_isSpared
def bt_170 : List (List Op × Nat) := [
  ([(.aload_n 0, 0, 0, 0), (.iload_n 1, 1, 0, 0), (.putfield 161, 11, 13, 0), (.aload_n 0, 0, 0, 0), (.invokevirtual 202, 142, 0, 11), (.aload_n 0, 0, 0, 0), (.iconst 0, 0, 0, 0), (.putfield 161, 11, 13, 0), (.aload_n 0, 0, 0, 0), (.iconst 1, 1, 0, 0), (.invokevirtual 226, 154, 1, 11), (.ifCond .ne 7, 1, 0, 0), (.iconst 1, 1, 0, 0), (.goto 4, 2, 0, 0)], 0),
  ([(.iconst 0, 0, 0, 0)], 2),
  ([(.ireturn, 1, 0, 0)], 0)]
-- 171: X11_spareBy
def bt_171 : List (List Op × Nat) := [
  ([(.aload_n 0, 0, 0, 0), (.iconst 0, 0, 0, 0), (.invokevirtual 253, 170, 1, 11), (.ifCond .eq 14, 3, 0, 0), (.iload_n 1, 1, 0, 0), (.iconst (-1), 1, 1, 0), (.if_icmp .ne 7, 1, 0, 0), (.iconst 0, 0, 0, 0), (.goto 4, 2, 0, 0)], 0),
  ([(.iconst (-1), 1, 1, 0)], 2),
  ([(.ireturn, 0, 0, 0)], 0),
  ([(.iconst 0, 0, 0, 0), (.istore_n 2, 2, 0, 0)], 4),
  ([(.iload_n 2, 2, 0, 0), (.aload_n 0, 0, 0, 0), (.getfield 149, 11, 11, 0), (.if_icmp .ge 38, 9, 0, 0), (.aload_n 0, 0, 0, 0), (.iconst 1, 1, 0, 0), (.iload_n 2, 2, 0, 0), (.ishl, 0, 0, 0), (.invokevirtual 253, 170, 1, 11), (.ifCond .eq 22, 8, 0, 0), (.iload_n 1, 1, 0, 0), (.iconst (-1), 1, 1, 0), (.if_icmp .ne 7, 5, 0, 0), (.iconst 1, 1, 0, 0), (.goto 12, 7, 0, 0)], 0),
  ([(.iload_n 1, 1, 0, 0), (.ifCond .ne 7, 6, 0, 0), (.iload_n 2, 2, 0, 0), (.goto 4, 7, 0, 0)], 0),
  ([(.iconst (-1), 1, 1, 0)], 7),
  ([(.ireturn, 0, 0, 0)], 0),
  ([(.iinc 2 1, 2, 1, 0), (.goto (-40), 4, 0, 0)], 0),
  ([(.iconst 0, 0, 0, 0), (.istore_n 2, 2, 0, 0)], 10),
  ([(.iload_n 2, 2, 0, 0), (.aload_n 0, 0, 0, 0), (.getfield 149, 11, 11, 0), (.if_icmp .ge 60, 17, 0, 0), (.iload_n 2, 2, 0, 0), (.iconst 1, 1, 0, 0), (.iadd, 0, 0, 0), (.istore_n 3, 3, 0, 0)], 11),
  ([(.iload_n 3, 3, 0, 0), (.aload_n 0, 0, 0, 0), (.getfield 149, 11, 11, 0), (.if_icmp .ge 42, 16, 0, 0), (.aload_n 0, 0, 0, 0), (.iconst 1, 1, 0, 0), (.iload_n 2, 2, 0, 0), (.ishl, 0, 0, 0), (.iconst 1, 1, 0, 0), (.iload_n 3, 3, 0, 0), (.ishl, 0, 0, 0), (.ior, 0, 0, 0), (.invokevirtual 253, 170, 1, 11), (.ifCond .eq 22, 15, 0, 0), (.iload_n 1, 1, 0, 0), (.iconst (-1), 1, 1, 0), (.if_icmp .ne 7, 12, 0, 0), (.iconst 2, 2, 0, 0), (.goto 12, 14, 0, 0)], 0),
  ([(.iload_n 1, 1, 0, 0), (.ifCond .ne 7, 13, 0, 0), (.iload_n 2, 2, 0, 0), (.goto 4, 14, 0, 0)], 0),
  ([(.iload_n 3, 3, 0, 0)], 14),
  ([(.ireturn, 0, 0, 0)], 0),
  ([(.iinc 3 1, 3, 1, 0), (.goto (-44), 11, 0, 0)], 0),
  ([(.iinc 2 1, 2, 1, 0), (.goto (-62), 10, 0, 0)], 0),
  ([(.iconst (-1), 1, 1, 0), (.ireturn, 0, 0, 0)], 0)]
-- 172: X11_spare
def bt_172 : List (List Op × Nat) := [
  ([(.aload_n 0, 0, 0, 0), (.invokevirtual 208, 143, 0, 11), (.iload_n 1, 1, 0, 0), (.i2l, 0, 0, 0), (.ldc2_w 256, 1, 1, 0), (.lconst 1, 1, 0, 0), (.invokestatic 76, 99, 3, 0), (.ifCond .eq 11, 1, 0, 0), (.aload_n 0, 0, 0, 0), (.iload_n 1, 1, 0, 0), (.invokevirtual 258, 171, 1, 11), (.goto 5, 2, 0, 0)], 0),
  ([(.bipush (-2), 2, 1, 0)], 2),
  ([(.ireturn, 0, 0, 0)], 0)]
-- 173: X11_seen
def bt_173 : List (List Op × Nat) := [
  ([(.iload_n 1, 1, 0, 0), (.invokestatic 152, 126, 1, 0), (.ifCond .eq 22, 1, 0, 0), (.iload_n 2, 2, 0, 0), (.invokestatic 140, 124, 1, 0), (.ifCond .eq 15, 1, 0, 0), (.iload_n 3, 3, 0, 0), (.i2l, 0, 0, 0), (.lconst 0, 0, 0, 0), (.ldc2_w 261, 6, 0, 0), (.invokestatic 76, 99, 3, 0), (.ifCond .ne 6, 2, 0, 0)], 1),
  ([(.bipush (-2), 2, 1, 0), (.ireturn, 0, 0, 0)], 0),
  ([(.aload_n 0, 0, 0, 0), (.getfield 263, 11, 24, 0), (.bipush 8, 8, 0, 0), (.if_icmp .ne 6, 3, 0, 0), (.bipush (-4), 4, 1, 0), (.ireturn, 0, 0, 0)], 0),
  ([(.aload_n 0, 0, 0, 0), (.getfield 61, 11, 25, 0), (.iconst 3, 3, 0, 0), (.aload_n 0, 0, 0, 0), (.getfield 263, 11, 24, 0), (.imul, 0, 0, 0), (.iload_n 1, 1, 0, 0), (.iastore, 0, 0, 0), (.aload_n 0, 0, 0, 0), (.getfield 61, 11, 25, 0), (.iconst 3, 3, 0, 0), (.aload_n 0, 0, 0, 0), (.getfield 263, 11, 24, 0), (.imul, 0, 0, 0), (.iconst 1, 1, 0, 0), (.iadd, 0, 0, 0), (.iload_n 2, 2, 0, 0), (.iastore, 0, 0, 0), (.aload_n 0, 0, 0, 0), (.getfield 61, 11, 25, 0), (.iconst 3, 3, 0, 0), (.aload_n 0, 0, 0, 0), (.getfield 263, 11, 24, 0), (.imul, 0, 0, 0), (.iconst 2, 2, 0, 0), (.iadd, 0, 0, 0), (.iload_n 3, 3, 0, 0), (.iastore, 0, 0, 0), (.aload_n 0, 0, 0, 0), (.dup, 0, 0, 0), (.getfield 263, 11, 24, 0), (.iconst 1, 1, 0, 0), (.iadd, 0, 0, 0), (.putfield 263, 11, 24, 0), (.aload_n 0, 0, 0, 0), (.getfield 263, 11, 24, 0), (.ireturn, 0, 0, 0)], 0)]
-- 174: X11_forget
def bt_174 : List (List Op × Nat) := [
  ([(.aload_n 0, 0, 0, 0), (.getfield 263, 11, 24, 0), (.istore_n 1, 1, 0, 0), (.aload_n 0, 0, 0, 0), (.iconst 0, 0, 0, 0), (.putfield 263, 11, 24, 0), (.iload_n 1, 1, 0, 0), (.ireturn, 0, 0, 0)], 0)]
-- 175: X11_isSeen
def bt_175 : List (List Op × Nat) := [
  ([(.aload_n 0, 0, 0, 0), (.invokevirtual 202, 142, 0, 11), (.iconst 1, 1, 0, 0), (.istore_n 1, 1, 0, 0), (.iconst 0, 0, 0, 0), (.istore_n 2, 2, 0, 0)], 1),
  ([(.iload_n 2, 2, 0, 0), (.aload_n 0, 0, 0, 0), (.getfield 263, 11, 24, 0), (.if_icmp .ge 59, 4, 0, 0), (.iload_n 1, 1, 0, 0), (.ifCond .eq 47, 2, 0, 0), (.aload_n 0, 0, 0, 0), (.getfield 52, 11, 21, 0), (.bipush 6, 6, 0, 0), (.aload_n 0, 0, 0, 0), (.getfield 61, 11, 25, 0), (.iconst 3, 3, 0, 0), (.iload_n 2, 2, 0, 0), (.imul, 0, 0, 0), (.iaload, 0, 0, 0), (.imul, 0, 0, 0), (.aload_n 0, 0, 0, 0), (.getfield 61, 11, 25, 0), (.iconst 3, 3, 0, 0), (.iload_n 2, 2, 0, 0), (.imul, 0, 0, 0), (.iconst 1, 1, 0, 0), (.iadd, 0, 0, 0), (.iaload, 0, 0, 0), (.iadd, 0, 0, 0), (.iaload, 0, 0, 0), (.aload_n 0, 0, 0, 0), (.getfield 61, 11, 25, 0), (.iconst 3, 3, 0, 0), (.iload_n 2, 2, 0, 0), (.imul, 0, 0, 0), (.iconst 2, 2, 0, 0), (.iadd, 0, 0, 0), (.iaload, 0, 0, 0), (.if_icmp .ne 7, 2, 0, 0), (.iconst 1, 1, 0, 0), (.goto 4, 3, 0, 0)], 0),
  ([(.iconst 0, 0, 0, 0)], 3),
  ([(.istore_n 1, 1, 0, 0), (.iinc 2 1, 2, 1, 0), (.goto (-61), 1, 0, 0)], 0),
  ([(.iload_n 1, 1, 0, 0), (.ireturn, 1, 0, 0)], 0)]
-- 176: X11_neverNow
def bt_176 : List (List Op × Nat) := [
  ([(.iconst 0, 0, 0, 0), (.istore_n 1, 1, 0, 0), (.iconst 0, 0, 0, 0), (.istore_n 2, 2, 0, 0)], 1),
  ([(.iload_n 2, 2, 0, 0), (.aload_n 0, 0, 0, 0), (.getfield 149, 11, 11, 0), (.if_icmp .ge 33, 4, 0, 0), (.aload_n 0, 0, 0, 0), (.iconst 1, 1, 0, 0), (.iload_n 2, 2, 0, 0), (.ishl, 0, 0, 0), (.putfield 161, 11, 13, 0), (.iload_n 1, 1, 0, 0), (.aload_n 0, 0, 0, 0), (.invokevirtual 266, 175, 0, 11), (.ifCond .eq 9, 2, 0, 0), (.iconst 1, 1, 0, 0), (.iload_n 2, 2, 0, 0), (.ishl, 0, 0, 0), (.goto 4, 3, 0, 0)], 0),
  ([(.iconst 0, 0, 0, 0)], 3),
  ([(.ior, 0, 0, 0), (.istore_n 1, 1, 0, 0), (.iinc 2 1, 2, 1, 0), (.goto (-35), 1, 0, 0)], 0),
  ([(.aload_n 0, 0, 0, 0), (.iconst 0, 0, 0, 0), (.putfield 161, 11, 13, 0), (.iload_n 1, 1, 0, 0), (.ireturn, 0, 0, 0)], 0)]
-- 177: X11_never
def bt_177 : List (List Op × Nat) := [
  ([(.aload_n 0, 0, 0, 0), (.invokevirtual 208, 143, 0, 11), (.aload_n 0, 0, 0, 0), (.invokevirtual 270, 176, 0, 11), (.ireturn, 0, 0, 0)], 0)]
-- 178: X11_rowOf
def bt_178 : List (List Op × Nat) := [
  ([(.iconst 0, 0, 0, 0), (.istore_n 2, 2, 0, 0), (.iconst 0, 0, 0, 0), (.istore_n 3, 3, 0, 0)], 1),
  ([(.iload_n 3, 3, 0, 0), (.bipush 6, 6, 0, 0), (.if_icmp .ge 26, 2, 0, 0), (.bipush 7, 7, 0, 0), (.iload_n 2, 2, 0, 0), (.imul, 0, 0, 0), (.aload_n 0, 0, 0, 0), (.getfield 52, 11, 21, 0), (.bipush 6, 6, 0, 0), (.iload_n 1, 1, 0, 0), (.imul, 0, 0, 0), (.iload_n 3, 3, 0, 0), (.iadd, 0, 0, 0), (.iaload, 0, 0, 0), (.iadd, 0, 0, 0), (.istore_n 2, 2, 0, 0), (.iinc 3 1, 3, 1, 0), (.goto (-26), 1, 0, 0)], 0),
  ([(.iload_n 2, 2, 0, 0), (.ireturn, 0, 0, 0)], 0)]
-- 179: X11_isBlock
def bt_179 : List (List Op × Nat) := [
  ([(.iload_n 1, 1, 0, 0), (.invokestatic 140, 124, 1, 0), (.ifCond .eq 28, 1, 0, 0), (.iload_n 2, 2, 0, 0), (.i2l, 0, 0, 0), (.lconst 0, 0, 0, 0), (.ldc2_w 136, 5, 0, 0), (.invokestatic 76, 99, 3, 0), (.ifCond .eq 16, 1, 0, 0), (.aload_n 0, 0, 0, 0), (.iload_n 1, 1, 0, 0), (.iload_n 2, 2, 0, 0), (.invokevirtual 143, 127, 2, 11), (.ifCond .le 7, 1, 0, 0), (.iconst 1, 1, 0, 0), (.goto 4, 2, 0, 0)], 0),
  ([(.iconst 0, 0, 0, 0)], 2),
  ([(.ireturn, 1, 0, 0)], 0)]
-- 180: X11_sizeOf
def bt_180 : List (List Op × Nat) := [
  ([(.bipush 6, 6, 0, 0), (.iload_n 1, 1, 0, 0), (.imul, 0, 0, 0), (.iload_n 2, 2, 0, 0), (.iadd, 0, 0, 0), (.istore_n 3, 3, 0, 0), (.aload_n 0, 0, 0, 0), (.getfield 31, 11, 8, 0), (.iload_n 3, 3, 0, 0), (.iaload, 0, 0, 0), (.istore 4, 4, 0, 0), (.iconst 0, 0, 0, 0), (.istore 5, 5, 0, 0), (.iconst 1, 1, 0, 0), (.istore 6, 6, 0, 0)], 1),
  ([(.iload 6, 6, 0, 0), (.bipush 10, 10, 0, 0), (.if_icmp .ge 72, 6, 0, 0), (.aload_n 0, 0, 0, 0), (.getfield 31, 11, 8, 0), (.iload_n 3, 3, 0, 0), (.iload 6, 6, 0, 0), (.iastore, 0, 0, 0), (.iload 5, 5, 0, 0), (.aload_n 0, 0, 0, 0), (.invokevirtual 266, 175, 0, 11), (.ifCond .eq 10, 2, 0, 0), (.iconst 1, 1, 0, 0), (.iload 6, 6, 0, 0), (.ishl, 0, 0, 0), (.goto 4, 3, 0, 0)], 0),
  ([(.iconst 0, 0, 0, 0)], 3),
  ([(.ior, 0, 0, 0), (.istore 5, 5, 0, 0), (.iconst 0, 0, 0, 0), (.istore 7, 7, 0, 0)], 4),
  ([(.iload 7, 7, 0, 0), (.bipush 24, 24, 0, 0), (.if_icmp .ge 28, 5, 0, 0), (.aload_n 0, 0, 0, 0), (.getfield 64, 11, 26, 0), (.bipush 24, 24, 0, 0), (.iload 6, 6, 0, 0), (.imul, 0, 0, 0), (.iload 7, 7, 0, 0), (.iadd, 0, 0, 0), (.aload_n 0, 0, 0, 0), (.iload 7, 7, 0, 0), (.invokevirtual 273, 178, 1, 11), (.iastore, 0, 0, 0), (.iinc 7 1, 7, 1, 0), (.goto (-29), 4, 0, 0)], 0),
  ([(.iinc 6 1, 6, 1, 0), (.goto (-73), 1, 0, 0)], 0),
  ([(.aload_n 0, 0, 0, 0), (.getfield 31, 11, 8, 0), (.iload_n 3, 3, 0, 0), (.iload 4, 4, 0, 0), (.iastore, 0, 0, 0), (.iload 5, 5, 0, 0), (.ireturn, 0, 0, 0)], 0)]
-- 181: X11_size
def bt_181 : List (List Op × Nat) := [
  ([(.aload_n 0, 0, 0, 0), (.invokevirtual 208, 143, 0, 11), (.aload_n 0, 0, 0, 0), (.iload_n 1, 1, 0, 0), (.iload_n 2, 2, 0, 0), (.invokevirtual 276, 179, 2, 11), (.ifCond .eq 12, 1, 0, 0), (.aload_n 0, 0, 0, 0), (.iload_n 1, 1, 0, 0), (.iload_n 2, 2, 0, 0), (.invokevirtual 279, 180, 2, 11), (.goto 5, 2, 0, 0)], 0),
  ([(.bipush (-2), 2, 1, 0)], 2),
  ([(.ireturn, 0, 0, 0)], 0)]
-- 182: X11_alike
def bt_182 : List (List Op × Nat) := [
  ([(.iconst 0, 0, 0, 0), (.istore_n 3, 3, 0, 0), (.iconst 1, 1, 0, 0), (.istore 4, 4, 0, 0)], 1),
  ([(.iload 4, 4, 0, 0), (.bipush 10, 10, 0, 0), (.if_icmp .ge 90, 6, 0, 0), (.iconst 0, 0, 0, 0), (.istore 5, 5, 0, 0), (.iconst 1, 1, 0, 0), (.istore 6, 6, 0, 0)], 2),
  ([(.iload 6, 6, 0, 0), (.bipush 10, 10, 0, 0), (.if_icmp .ge 64, 5, 0, 0), (.iload 5, 5, 0, 0), (.iload_n 1, 1, 0, 0), (.iload 4, 4, 0, 0), (.invokestatic 164, 102, 2, 0), (.ifCond .eq 43, 3, 0, 0), (.iload_n 1, 1, 0, 0), (.iload 6, 6, 0, 0), (.invokestatic 164, 102, 2, 0), (.ifCond .eq 34, 3, 0, 0), (.aload_n 0, 0, 0, 0), (.getfield 64, 11, 26, 0), (.bipush 24, 24, 0, 0), (.iload 4, 4, 0, 0), (.imul, 0, 0, 0), (.iload_n 2, 2, 0, 0), (.iadd, 0, 0, 0), (.iaload, 0, 0, 0), (.aload_n 0, 0, 0, 0), (.getfield 64, 11, 26, 0), (.bipush 24, 24, 0, 0), (.iload 6, 6, 0, 0), (.imul, 0, 0, 0), (.iload_n 2, 2, 0, 0), (.iadd, 0, 0, 0), (.iaload, 0, 0, 0), (.if_icmp .ne 7, 3, 0, 0), (.iconst 1, 1, 0, 0), (.goto 4, 4, 0, 0)], 0),
  ([(.iconst 0, 0, 0, 0)], 4),
  ([(.iadd, 0, 0, 0), (.istore 5, 5, 0, 0), (.iinc 6 1, 6, 1, 0), (.goto (-65), 2, 0, 0)], 0),
  ([(.iload 5, 5, 0, 0), (.iload_n 3, 3, 0, 0), (.invokestatic 241, 104, 2, 0), (.istore_n 3, 3, 0, 0), (.iinc 4 1, 4, 1, 0), (.goto (-91), 1, 0, 0)], 0),
  ([(.iload_n 3, 3, 0, 0), (.ireturn, 0, 0, 0)], 0)]
-- 183: X11_askOf
def bt_183 : List (List Op × Nat) := [
  ([(.aload_n 0, 0, 0, 0), (.iload_n 1, 1, 0, 0), (.iload_n 2, 2, 0, 0), (.invokevirtual 279, 180, 2, 11), (.istore_n 3, 3, 0, 0), (.iconst 0, 0, 0, 0), (.istore 4, 4, 0, 0), (.iconst 1, 1, 0, 0), (.istore 5, 5, 0, 0)], 1),
  ([(.iload 5, 5, 0, 0), (.bipush 24, 24, 0, 0), (.if_icmp .ge 35, 4, 0, 0), (.aload_n 0, 0, 0, 0), (.iload_n 3, 3, 0, 0), (.iload 5, 5, 0, 0), (.invokevirtual 282, 182, 2, 11), (.aload_n 0, 0, 0, 0), (.iload_n 3, 3, 0, 0), (.iload 4, 4, 0, 0), (.invokevirtual 282, 182, 2, 11), (.if_icmp .ge 8, 2, 0, 0), (.iload 5, 5, 0, 0), (.goto 5, 3, 0, 0)], 0),
  ([(.iload 4, 4, 0, 0)], 3),
  ([(.istore 4, 4, 0, 0), (.iinc 5 1, 5, 1, 0), (.goto (-36), 1, 0, 0)], 0),
  ([(.iload 4, 4, 0, 0), (.ireturn, 0, 0, 0)], 0)]
-- 184: X11_ask
def bt_184 : List (List Op × Nat) := [
  ([(.aload_n 0, 0, 0, 0), (.invokevirtual 208, 143, 0, 11), (.aload_n 0, 0, 0, 0), (.iload_n 1, 1, 0, 0), (.iload_n 2, 2, 0, 0), (.invokevirtual 276, 179, 2, 11), (.ifCond .eq 12, 1, 0, 0), (.aload_n 0, 0, 0, 0), (.iload_n 1, 1, 0, 0), (.iload_n 2, 2, 0, 0), (.invokevirtual 285, 183, 2, 11), (.goto 5, 2, 0, 0)], 0),
  ([(.bipush (-2), 2, 1, 0)], 2),
  ([(.ireturn, 0, 0, 0)], 0)]
-- 185: X11_chanceOf
def bt_185 : List (List Op × Nat) := [
  ([(.lconst 0, 0, 0, 0), (.lstore 4, 4, 0, 0), (.iconst 0, 0, 0, 0), (.istore 6, 6, 0, 0)], 1),
  ([(.iload 6, 6, 0, 0), (.iconst 1, 1, 0, 0), (.aload_n 0, 0, 0, 0), (.getfield 149, 11, 11, 0), (.ishl, 0, 0, 0), (.if_icmp .ge 84, 8, 0, 0), (.aload_n 0, 0, 0, 0), (.iload 6, 6, 0, 0), (.putfield 161, 11, 13, 0), (.aload_n 0, 0, 0, 0), (.invokevirtual 202, 142, 0, 11), (.aload_n 0, 0, 0, 0), (.iload_n 2, 2, 0, 0), (.invokevirtual 220, 151, 1, 11), (.ifCond .eq 7, 2, 0, 0), (.lconst 1, 1, 0, 0), (.goto 4, 3, 0, 0)], 0),
  ([(.lconst 0, 0, 0, 0)], 3),
  ([(.lstore 7, 7, 0, 0), (.iconst 0, 0, 0, 0), (.istore 9, 9, 0, 0)], 4),
  ([(.iload 9, 9, 0, 0), (.aload_n 0, 0, 0, 0), (.getfield 149, 11, 11, 0), (.if_icmp .ge 34, 7, 0, 0), (.lload 7, 7, 0, 0), (.iload 6, 6, 0, 0), (.iload 9, 9, 0, 0), (.invokestatic 164, 102, 2, 0), (.ifCond .eq 11, 5, 0, 0), (.bipush 16, 16, 0, 0), (.iload_n 1, 1, 0, 0), (.isub, 0, 0, 0), (.i2l, 0, 0, 0), (.goto 5, 6, 0, 0)], 0),
  ([(.iload_n 1, 1, 0, 0), (.i2l, 0, 0, 0)], 6),
  ([(.lmul, 0, 0, 0), (.lstore 7, 7, 0, 0), (.iinc 9 1, 9, 1, 0), (.goto (-37), 4, 0, 0)], 0),
  ([(.lload 4, 4, 0, 0), (.lload 7, 7, 0, 0), (.ladd, 0, 0, 0), (.lstore 4, 4, 0, 0), (.iinc 6 1, 6, 1, 0), (.goto (-89), 1, 0, 0)], 0),
  ([(.aload_n 0, 0, 0, 0), (.iconst 0, 0, 0, 0), (.putfield 161, 11, 13, 0), (.lload 4, 4, 0, 0), (.lconst 1, 1, 0, 0), (.iconst 4, 4, 0, 0), (.aload_n 0, 0, 0, 0), (.getfield 149, 11, 11, 0), (.imul, 0, 0, 0), (.lshl, 0, 0, 0), (.iload_n 3, 3, 0, 0), (.invokestatic 288, 105, 3, 0), (.lreturn, 0, 0, 0)], 0)]
-- 186: X11_chance
def bt_186 : List (List Op × Nat) := [
  ([(.aload_n 0, 0, 0, 0), (.invokevirtual 208, 143, 0, 11), (.iload_n 1, 1, 0, 0), (.i2l, 0, 0, 0), (.lconst 0, 0, 0, 0), (.ldc2_w 292, 16, 0, 0), (.invokestatic 76, 99, 3, 0), (.ifCond .eq 28, 1, 0, 0), (.aload_n 0, 0, 0, 0), (.iload_n 2, 2, 0, 0), (.invokevirtual 146, 125, 1, 11), (.ifCond .eq 20, 1, 0, 0), (.iload_n 3, 3, 0, 0), (.invokestatic 104, 101, 1, 0), (.ifCond .eq 13, 1, 0, 0), (.aload_n 0, 0, 0, 0), (.iload_n 1, 1, 0, 0), (.iload_n 2, 2, 0, 0), (.iload_n 3, 3, 0, 0), (.invokevirtual 294, 185, 3, 11), (.goto 8, 2, 0, 0)], 0),
  ([(.bipush (-2), 2, 1, 0), (.invokestatic 298, 100, 1, 0)], 2),
  ([(.lreturn, 0, 0, 0)], 0)]
-- 187: X11_lot
def bt_187 : List (List Op × Nat) := [
  ([(.aload_n 0, 0, 0, 0), (.ldc_w 302, 1103515245, 0, 0), (.aload_n 0, 0, 0, 0), (.getfield 303, 11, 27, 0), (.imul, 0, 0, 0), (.sipush 12345, 12345, 0, 0), (.iadd, 0, 0, 0), (.putfield 303, 11, 27, 0), (.aload_n 0, 0, 0, 0), (.getfield 303, 11, 27, 0), (.bipush 16, 16, 0, 0), (.iushr, 0, 0, 0), (.iload_n 1, 1, 0, 0), (.irem, 0, 0, 0), (.ireturn, 0, 0, 0)], 0)]
-- 188: X11_summersOf
def bt_188 : List (List Op × Nat) := [
  ([(.aload_n 0, 0, 0, 0), (.getfield 149, 11, 11, 0), (.istore 4, 4, 0, 0), (.iconst 0, 0, 0, 0), (.istore 5, 5, 0, 0)], 1),
  ([(.iload 5, 5, 0, 0), (.bipush 24, 24, 0, 0), (.if_icmp .ge 23, 2, 0, 0), (.aload_n 0, 0, 0, 0), (.getfield 67, 11, 28, 0), (.iload 5, 5, 0, 0), (.aload_n 0, 0, 0, 0), (.getfield 37, 11, 12, 0), (.iload 5, 5, 0, 0), (.iaload, 0, 0, 0), (.iastore, 0, 0, 0), (.iinc 5 1, 5, 1, 0), (.goto (-24), 1, 0, 0)], 0),
  ([(.aload_n 0, 0, 0, 0), (.iload_n 1, 1, 0, 0), (.putfield 303, 11, 27, 0), (.aload_n 0, 0, 0, 0), (.iconst 0, 0, 0, 0), (.putfield 149, 11, 11, 0), (.iconst 0, 0, 0, 0), (.istore 5, 5, 0, 0)], 3),
  ([(.iload 5, 5, 0, 0), (.iload_n 2, 2, 0, 0), (.if_icmp .ge 38, 4, 0, 0), (.aload_n 0, 0, 0, 0), (.iconst 3, 3, 0, 0), (.invokevirtual 306, 187, 1, 11), (.istore 6, 6, 0, 0), (.aload_n 0, 0, 0, 0), (.bipush 24, 24, 0, 0), (.invokevirtual 306, 187, 1, 11), (.istore 7, 7, 0, 0), (.aload_n 0, 0, 0, 0), (.iload 6, 6, 0, 0), (.iload 7, 7, 0, 0), (.aload_n 0, 0, 0, 0), (.bipush 6, 6, 0, 0), (.invokevirtual 306, 187, 1, 11), (.invokevirtual 155, 130, 3, 11), (.iinc 5 1, 5, 1, 0), (.goto (-38), 3, 0, 0)], 0),
  ([(.aload_n 0, 0, 0, 0), (.invokevirtual 202, 142, 0, 11), (.iconst 0, 0, 0, 0), (.istore 5, 5, 0, 0)], 5),
  ([(.iload 5, 5, 0, 0), (.bipush 24, 24, 0, 0), (.if_icmp .ge 23, 6, 0, 0), (.aload_n 0, 0, 0, 0), (.getfield 37, 11, 12, 0), (.iload 5, 5, 0, 0), (.aload_n 0, 0, 0, 0), (.getfield 67, 11, 28, 0), (.iload 5, 5, 0, 0), (.iaload, 0, 0, 0), (.iastore, 0, 0, 0), (.iinc 5 1, 5, 1, 0), (.goto (-24), 5, 0, 0)], 0),
  ([(.aload_n 0, 0, 0, 0), (.iload 4, 4, 0, 0), (.putfield 149, 11, 11, 0), (.iload_n 3, 3, 0, 0), (.ifCond .ne 12, 7, 0, 0), (.aload_n 0, 0, 0, 0), (.bipush 23, 23, 0, 0), (.invokevirtual 214, 148, 1, 11), (.goto 8, 8, 0, 0)], 0),
  ([(.aload_n 0, 0, 0, 0), (.iconst 1, 1, 0, 0), (.invokevirtual 226, 154, 1, 11)], 8),
  ([(.ireturn, 0, 0, 0)], 0)]
-- 189: X11_summers
def bt_189 : List (List Op × Nat) := [
  ([(.aload_n 0, 0, 0, 0), (.invokevirtual 208, 143, 0, 11), (.iload_n 2, 2, 0, 0), (.i2l, 0, 0, 0), (.lconst 0, 0, 0, 0), (.ldc2_w 309, 8, 0, 0), (.invokestatic 76, 99, 3, 0), (.ifCond .eq 20, 1, 0, 0), (.iload_n 3, 3, 0, 0), (.invokestatic 104, 101, 1, 0), (.ifCond .eq 13, 1, 0, 0), (.aload_n 0, 0, 0, 0), (.iload_n 1, 1, 0, 0), (.iload_n 2, 2, 0, 0), (.iload_n 3, 3, 0, 0), (.invokevirtual 311, 188, 3, 11), (.goto 5, 2, 0, 0)], 0),
  ([(.bipush (-2), 2, 1, 0)], 2),
  ([(.ireturn, 0, 0, 0)], 0)]
-- 190: X11_write
def bt_190 : List (List Op × Nat) := [
  ([(.iload_n 1, 1, 0, 0), (.invokestatic 140, 124, 1, 0), (.ifCond .eq 10, 1, 0, 0), (.iload_n 2, 2, 0, 0), (.invokestatic 85, 107, 1, 0), (.ifCond .ne 6, 2, 0, 0)], 1),
  ([(.bipush (-2), 2, 1, 0), (.ireturn, 0, 0, 0)], 0),
  ([(.aload_n 0, 0, 0, 0), (.getfield 7, 11, 0, 0), (.iload_n 2, 2, 0, 0), (.iaload, 0, 0, 0), (.ifCond .ge 9, 3, 0, 0), (.aload_n 0, 0, 0, 0), (.iconst 1, 1, 0, 0), (.invokevirtual 91, 106, 1, 11), (.ireturn, 0, 0, 0)], 0),
  ([(.aload_n 0, 0, 0, 0), (.invokevirtual 208, 143, 0, 11), (.aload_n 0, 0, 0, 0), (.getfield 13, 11, 1, 0), (.iload_n 2, 2, 0, 0), (.iaload, 0, 0, 0), (.bipush 24, 24, 0, 0), (.invokestatic 183, 103, 2, 0), (.istore_n 3, 3, 0, 0), (.iconst 0, 0, 0, 0), (.istore 4, 4, 0, 0)], 4),
  ([(.iload 4, 4, 0, 0), (.iload_n 3, 3, 0, 0), (.if_icmp .ge 37, 5, 0, 0), (.aload_n 0, 0, 0, 0), (.getfield 16, 11, 2, 0), (.bipush 60, 60, 0, 0), (.iload_n 2, 2, 0, 0), (.imul, 0, 0, 0), (.iload 4, 4, 0, 0), (.iadd, 0, 0, 0), (.aload_n 0, 0, 0, 0), (.getfield 7, 11, 0, 0), (.iload_n 2, 2, 0, 0), (.iaload, 0, 0, 0), (.aload_n 0, 0, 0, 0), (.iload 4, 4, 0, 0), (.iload_n 1, 1, 0, 0), (.invokevirtual 205, 144, 2, 11), (.invokestatic 99, 111, 2, 0), (.iastore, 0, 0, 0), (.iinc 4 1, 4, 1, 0), (.goto (-37), 4, 0, 0)], 0),
  ([(.iload_n 3, 3, 0, 0), (.ireturn, 0, 0, 0)], 0)]
-- 191: X11_manyBlocks
def bt_191 : List (List Op × Nat) := [
  ([(.iconst 0, 0, 0, 0), (.istore_n 1, 1, 0, 0), (.iconst 0, 0, 0, 0), (.istore_n 2, 2, 0, 0)], 1),
  ([(.iload_n 2, 2, 0, 0), (.bipush 6, 6, 0, 0), (.if_icmp .ge 18, 2, 0, 0), (.iload_n 1, 1, 0, 0), (.aload_n 0, 0, 0, 0), (.getfield 28, 11, 7, 0), (.iload_n 2, 2, 0, 0), (.iaload, 0, 0, 0), (.iadd, 0, 0, 0), (.istore_n 1, 1, 0, 0), (.iinc 2 1, 2, 1, 0), (.goto (-18), 1, 0, 0)], 0),
  ([(.iload_n 1, 1, 0, 0), (.ireturn, 0, 0, 0)], 0)]
-- 192: X11_count
def bt_192 : List (List Op × Nat) := [
  ([(.aload_n 0, 0, 0, 0), (.invokevirtual 208, 143, 0, 11), (.iload_n 1, 1, 0, 0), (.tableswitch 98 0 8 #[51, 56, 61, 61, 70, 75, 82, 88, 93], 1, 0, 0)], 0),
  ([(.aload_n 0, 0, 0, 0), (.invokevirtual 314, 191, 0, 11), (.ireturn, 0, 0, 0)], 0),
  ([(.aload_n 0, 0, 0, 0), (.getfield 120, 11, 9, 0), (.ireturn, 0, 0, 0)], 0),
  ([(.aload_n 0, 0, 0, 0), (.getfield 25, 11, 6, 0), (.iload_n 1, 1, 0, 0), (.iconst 2, 2, 0, 0), (.isub, 0, 0, 0), (.iaload, 0, 0, 0), (.ireturn, 0, 0, 0)], 0),
  ([(.aload_n 0, 0, 0, 0), (.getfield 149, 11, 11, 0), (.ireturn, 0, 0, 0)], 0),
  ([(.aload_n 0, 0, 0, 0), (.bipush 23, 23, 0, 0), (.invokevirtual 214, 148, 1, 11), (.ireturn, 0, 0, 0)], 0),
  ([(.aload_n 0, 0, 0, 0), (.iconst 1, 1, 0, 0), (.invokevirtual 226, 154, 1, 11), (.ireturn, 0, 0, 0)], 0),
  ([(.aload_n 0, 0, 0, 0), (.getfield 263, 11, 24, 0), (.ireturn, 0, 0, 0)], 0),
  ([(.aload_n 0, 0, 0, 0), (.getfield 80, 11, 4, 0), (.ireturn, 0, 0, 0)], 0),
  ([(.bipush (-2), 2, 1, 0), (.ireturn, 0, 0, 0)], 0)]
-- 193: X11_tellsColumn
def bt_193 : List (List Op × Nat) := [
  ([(.aload_n 0, 0, 0, 0), (.invokevirtual 202, 142, 0, 11), (.ldc2_w 317, 31, 0, 0), (.lload_n 1, 1, 0, 0), (.lmul, 0, 0, 0), (.aload_n 0, 0, 0, 0), (.iload_n 3, 3, 0, 0), (.invokevirtual 229, 156, 1, 11), (.i2l, 0, 0, 0), (.ladd, 0, 0, 0), (.lstore 4, 4, 0, 0), (.iconst 0, 0, 0, 0), (.istore 6, 6, 0, 0)], 1),
  ([(.iload 6, 6, 0, 0), (.bipush 6, 6, 0, 0), (.if_icmp .ge 100, 3, 0, 0), (.aload_n 0, 0, 0, 0), (.invokevirtual 202, 142, 0, 11), (.ldc2_w 317, 31, 0, 0), (.lload 4, 4, 0, 0), (.lmul, 0, 0, 0), (.aload_n 0, 0, 0, 0), (.iload_n 3, 3, 0, 0), (.iload 6, 6, 0, 0), (.invokevirtual 143, 127, 2, 11), (.i2l, 0, 0, 0), (.ladd, 0, 0, 0), (.lstore 4, 4, 0, 0), (.ldc2_w 317, 31, 0, 0), (.lload 4, 4, 0, 0), (.lmul, 0, 0, 0), (.aload_n 0, 0, 0, 0), (.getfield 55, 11, 22, 0), (.sipush 144, 144, 0, 0), (.bipush 6, 6, 0, 0), (.iload_n 3, 3, 0, 0), (.imul, 0, 0, 0), (.iadd, 0, 0, 0), (.iload 6, 6, 0, 0), (.iadd, 0, 0, 0), (.iaload, 0, 0, 0), (.i2l, 0, 0, 0), (.ladd, 0, 0, 0), (.lstore 4, 4, 0, 0), (.aload_n 0, 0, 0, 0), (.iload_n 3, 3, 0, 0), (.iload 6, 6, 0, 0), (.invokevirtual 143, 127, 2, 11), (.ifCond .le 37, 2, 0, 0), (.ldc2_w 317, 31, 0, 0), (.lload 4, 4, 0, 0), (.lmul, 0, 0, 0), (.aload_n 0, 0, 0, 0), (.iload_n 3, 3, 0, 0), (.iload 6, 6, 0, 0), (.invokevirtual 279, 180, 2, 11), (.i2l, 0, 0, 0), (.ladd, 0, 0, 0), (.lstore 4, 4, 0, 0), (.ldc2_w 317, 31, 0, 0), (.lload 4, 4, 0, 0), (.lmul, 0, 0, 0), (.aload_n 0, 0, 0, 0), (.iload_n 3, 3, 0, 0), (.iload 6, 6, 0, 0), (.invokevirtual 285, 183, 2, 11), (.i2l, 0, 0, 0), (.ladd, 0, 0, 0), (.lstore 4, 4, 0, 0)], 2),
  ([(.iinc 6 1, 6, 1, 0), (.goto (-101), 1, 0, 0)], 0),
  ([(.aload_n 0, 0, 0, 0), (.invokevirtual 202, 142, 0, 11), (.ldc2_w 317, 31, 0, 0), (.lload 4, 4, 0, 0), (.lmul, 0, 0, 0), (.aload_n 0, 0, 0, 0), (.bipush 11, 11, 0, 0), (.iload_n 3, 3, 0, 0), (.iconst 0, 0, 0, 0), (.invokevirtual 211, 145, 3, 11), (.i2l, 0, 0, 0), (.ladd, 0, 0, 0), (.lstore 4, 4, 0, 0), (.ldc2_w 317, 31, 0, 0), (.lload 4, 4, 0, 0), (.lmul, 0, 0, 0), (.aload_n 0, 0, 0, 0), (.bipush 11, 11, 0, 0), (.iload_n 3, 3, 0, 0), (.iconst 1, 1, 0, 0), (.invokevirtual 211, 145, 3, 11), (.i2l, 0, 0, 0), (.ladd, 0, 0, 0), (.lreturn, 0, 0, 0)], 0)]
-- 194: X11_tellsOrder
def bt_194 : List (List Op × Nat) := [
  ([(.aload_n 0, 0, 0, 0), (.invokevirtual 202, 142, 0, 11), (.ldc2_w 317, 31, 0, 0), (.lload_n 1, 1, 0, 0), (.lmul, 0, 0, 0), (.aload_n 0, 0, 0, 0), (.getfield 34, 11, 10, 0), (.iconst 2, 2, 0, 0), (.iload_n 3, 3, 0, 0), (.imul, 0, 0, 0), (.iaload, 0, 0, 0), (.i2l, 0, 0, 0), (.ladd, 0, 0, 0), (.lstore 4, 4, 0, 0), (.ldc2_w 317, 31, 0, 0), (.lload 4, 4, 0, 0), (.lmul, 0, 0, 0), (.aload_n 0, 0, 0, 0), (.getfield 34, 11, 10, 0), (.iconst 2, 2, 0, 0), (.iload_n 3, 3, 0, 0), (.imul, 0, 0, 0), (.iconst 1, 1, 0, 0), (.iadd, 0, 0, 0), (.iaload, 0, 0, 0), (.i2l, 0, 0, 0), (.ladd, 0, 0, 0), (.lstore 4, 4, 0, 0), (.ldc2_w 317, 31, 0, 0), (.lload 4, 4, 0, 0), (.lmul, 0, 0, 0), (.aload_n 0, 0, 0, 0), (.iload_n 3, 3, 0, 0), (.iconst 0, 0, 0, 0), (.invokevirtual 223, 152, 2, 11), (.i2l, 0, 0, 0), (.ladd, 0, 0, 0), (.lstore 4, 4, 0, 0), (.ldc2_w 317, 31, 0, 0), (.lload 4, 4, 0, 0), (.lmul, 0, 0, 0), (.aload_n 0, 0, 0, 0), (.iload_n 3, 3, 0, 0), (.iconst 1, 1, 0, 0), (.invokevirtual 223, 152, 2, 11), (.i2l, 0, 0, 0), (.ladd, 0, 0, 0), (.lstore 4, 4, 0, 0), (.ldc2_w 317, 31, 0, 0), (.lload 4, 4, 0, 0), (.lmul, 0, 0, 0), (.aload_n 0, 0, 0, 0), (.iload_n 3, 3, 0, 0), (.iconst 0, 0, 0, 0), (.invokevirtual 250, 168, 2, 11), (.i2l, 0, 0, 0), (.ladd, 0, 0, 0), (.lstore 4, 4, 0, 0), (.ldc2_w 317, 31, 0, 0), (.lload 4, 4, 0, 0), (.lmul, 0, 0, 0), (.aload_n 0, 0, 0, 0), (.iload_n 3, 3, 0, 0), (.iconst 1, 1, 0, 0), (.invokevirtual 250, 168, 2, 11), (.i2l, 0, 0, 0), (.ladd, 0, 0, 0), (.lstore 4, 4, 0, 0), (.ldc2_w 317, 31, 0, 0), (.lload 4, 4, 0, 0), (.lmul, 0, 0, 0), (.aload_n 0, 0, 0, 0), (.iconst 5, 5, 0, 0), (.iload_n 3, 3, 0, 0), (.iconst 0, 0, 0, 0), (.invokevirtual 294, 185, 3, 11), (.ladd, 0, 0, 0), (.lstore 4, 4, 0, 0), (.ldc2_w 317, 31, 0, 0), (.lload 4, 4, 0, 0), (.lmul, 0, 0, 0), (.aload_n 0, 0, 0, 0), (.iconst 5, 5, 0, 0), (.iload_n 3, 3, 0, 0), (.iconst 1, 1, 0, 0), (.invokevirtual 294, 185, 3, 11), (.ladd, 0, 0, 0), (.lreturn, 0, 0, 0)], 0)]
-- 195: X11_digest
def bt_195 : List (List Op × Nat) := [
  ([(.ldc2_w 319, 17, 0, 0), (.lstore_n 1, 1, 0, 0), (.iconst 0, 0, 0, 0), (.istore_n 3, 3, 0, 0)], 1),
  ([(.iload_n 3, 3, 0, 0), (.bipush 8, 8, 0, 0), (.if_icmp .ge 22, 2, 0, 0), (.ldc2_w 317, 31, 0, 0), (.lload_n 1, 1, 0, 0), (.lmul, 0, 0, 0), (.aload_n 0, 0, 0, 0), (.iload_n 3, 3, 0, 0), (.invokevirtual 321, 192, 1, 11), (.i2l, 0, 0, 0), (.ladd, 0, 0, 0), (.lstore_n 1, 1, 0, 0), (.iinc 3 1, 3, 1, 0), (.goto (-22), 1, 0, 0)], 0),
  ([(.iconst 0, 0, 0, 0), (.istore_n 3, 3, 0, 0)], 3),
  ([(.iload_n 3, 3, 0, 0), (.iconst 2, 2, 0, 0), (.if_icmp .ge 22, 4, 0, 0), (.ldc2_w 317, 31, 0, 0), (.lload_n 1, 1, 0, 0), (.lmul, 0, 0, 0), (.aload_n 0, 0, 0, 0), (.iload_n 3, 3, 0, 0), (.invokevirtual 133, 122, 1, 11), (.i2l, 0, 0, 0), (.ladd, 0, 0, 0), (.lstore_n 1, 1, 0, 0), (.iinc 3 1, 3, 1, 0), (.goto (-21), 3, 0, 0)], 0),
  ([(.aload_n 0, 0, 0, 0), (.invokevirtual 202, 142, 0, 11), (.iconst 0, 0, 0, 0), (.istore_n 3, 3, 0, 0)], 5),
  ([(.iload_n 3, 3, 0, 0), (.bipush 24, 24, 0, 0), (.if_icmp .ge 37, 6, 0, 0), (.ldc2_w 317, 31, 0, 0), (.lload_n 1, 1, 0, 0), (.lmul, 0, 0, 0), (.aload_n 0, 0, 0, 0), (.iload_n 3, 3, 0, 0), (.iconst 0, 0, 0, 0), (.invokevirtual 217, 149, 2, 11), (.i2l, 0, 0, 0), (.ladd, 0, 0, 0), (.lstore_n 1, 1, 0, 0), (.ldc2_w 317, 31, 0, 0), (.lload_n 1, 1, 0, 0), (.lmul, 0, 0, 0), (.aload_n 0, 0, 0, 0), (.iload_n 3, 3, 0, 0), (.iconst 1, 1, 0, 0), (.invokevirtual 217, 149, 2, 11), (.i2l, 0, 0, 0), (.ladd, 0, 0, 0), (.lstore_n 1, 1, 0, 0), (.iinc 3 1, 3, 1, 0), (.goto (-37), 5, 0, 0)], 0),
  ([(.iconst 0, 0, 0, 0), (.istore_n 3, 3, 0, 0)], 7),
  ([(.iload_n 3, 3, 0, 0), (.bipush 6, 6, 0, 0), (.if_icmp .ge 16, 8, 0, 0), (.aload_n 0, 0, 0, 0), (.lload_n 1, 1, 0, 0), (.iload_n 3, 3, 0, 0), (.invokevirtual 324, 193, 2, 11), (.lstore_n 1, 1, 0, 0), (.iinc 3 1, 3, 1, 0), (.goto (-16), 7, 0, 0)], 0),
  ([(.iconst 0, 0, 0, 0), (.istore_n 3, 3, 0, 0)], 9),
  ([(.iload_n 3, 3, 0, 0), (.aload_n 0, 0, 0, 0), (.getfield 120, 11, 9, 0), (.if_icmp .ge 16, 10, 0, 0), (.aload_n 0, 0, 0, 0), (.lload_n 1, 1, 0, 0), (.iload_n 3, 3, 0, 0), (.invokevirtual 328, 194, 2, 11), (.lstore_n 1, 1, 0, 0), (.iinc 3 1, 3, 1, 0), (.goto (-18), 9, 0, 0)], 0),
  ([(.aload_n 0, 0, 0, 0), (.invokevirtual 202, 142, 0, 11), (.ldc2_w 317, 31, 0, 0), (.lload_n 1, 1, 0, 0), (.lmul, 0, 0, 0), (.aload_n 0, 0, 0, 0), (.iconst 0, 0, 0, 0), (.invokevirtual 226, 154, 1, 11), (.i2l, 0, 0, 0), (.ladd, 0, 0, 0), (.lstore_n 1, 1, 0, 0), (.ldc2_w 317, 31, 0, 0), (.lload_n 1, 1, 0, 0), (.lmul, 0, 0, 0), (.aload_n 0, 0, 0, 0), (.iconst 1, 1, 0, 0), (.invokevirtual 226, 154, 1, 11), (.i2l, 0, 0, 0), (.ladd, 0, 0, 0), (.lstore_n 1, 1, 0, 0), (.ldc2_w 317, 31, 0, 0), (.lload_n 1, 1, 0, 0), (.lmul, 0, 0, 0), (.aload_n 0, 0, 0, 0), (.invokevirtual 232, 158, 0, 11), (.i2l, 0, 0, 0), (.ladd, 0, 0, 0), (.lstore_n 1, 1, 0, 0), (.ldc2_w 317, 31, 0, 0), (.lload_n 1, 1, 0, 0), (.lmul, 0, 0, 0), (.aload_n 0, 0, 0, 0), (.invokevirtual 235, 160, 0, 11), (.i2l, 0, 0, 0), (.ladd, 0, 0, 0), (.lstore_n 1, 1, 0, 0), (.ldc2_w 317, 31, 0, 0), (.lload_n 1, 1, 0, 0), (.lmul, 0, 0, 0), (.aload_n 0, 0, 0, 0), (.iconst 0, 0, 0, 0), (.invokevirtual 238, 162, 1, 11), (.i2l, 0, 0, 0), (.ladd, 0, 0, 0), (.lstore_n 1, 1, 0, 0), (.ldc2_w 317, 31, 0, 0), (.lload_n 1, 1, 0, 0), (.lmul, 0, 0, 0), (.aload_n 0, 0, 0, 0), (.iconst 1, 1, 0, 0), (.invokevirtual 238, 162, 1, 11), (.i2l, 0, 0, 0), (.ladd, 0, 0, 0), (.lstore_n 1, 1, 0, 0), (.ldc2_w 317, 31, 0, 0), (.lload_n 1, 1, 0, 0), (.lmul, 0, 0, 0), (.aload_n 0, 0, 0, 0), (.iconst 0, 0, 0, 0), (.invokevirtual 244, 164, 1, 11), (.i2l, 0, 0, 0), (.ladd, 0, 0, 0), (.lstore_n 1, 1, 0, 0), (.ldc2_w 317, 31, 0, 0), (.lload_n 1, 1, 0, 0), (.lmul, 0, 0, 0), (.aload_n 0, 0, 0, 0), (.iconst 1, 1, 0, 0), (.invokevirtual 244, 164, 1, 11), (.i2l, 0, 0, 0), (.ladd, 0, 0, 0), (.lstore_n 1, 1, 0, 0), (.iconst 0, 0, 0, 0), (.istore_n 3, 3, 0, 0)], 11),
  ([(.iload_n 3, 3, 0, 0), (.iconst 3, 3, 0, 0), (.if_icmp .ge 22, 12, 0, 0), (.ldc2_w 317, 31, 0, 0), (.lload_n 1, 1, 0, 0), (.lmul, 0, 0, 0), (.aload_n 0, 0, 0, 0), (.iload_n 3, 3, 0, 0), (.invokevirtual 247, 166, 1, 11), (.i2l, 0, 0, 0), (.ladd, 0, 0, 0), (.lstore_n 1, 1, 0, 0), (.iinc 3 1, 3, 1, 0), (.goto (-21), 11, 0, 0)], 0),
  ([(.ldc2_w 317, 31, 0, 0), (.lload_n 1, 1, 0, 0), (.lmul, 0, 0, 0), (.aload_n 0, 0, 0, 0), (.iconst (-1), 1, 1, 0), (.invokevirtual 258, 171, 1, 11), (.i2l, 0, 0, 0), (.ladd, 0, 0, 0), (.lstore_n 1, 1, 0, 0), (.ldc2_w 317, 31, 0, 0), (.lload_n 1, 1, 0, 0), (.lmul, 0, 0, 0), (.aload_n 0, 0, 0, 0), (.iconst 0, 0, 0, 0), (.invokevirtual 258, 171, 1, 11), (.i2l, 0, 0, 0), (.ladd, 0, 0, 0), (.lstore_n 1, 1, 0, 0), (.ldc2_w 317, 31, 0, 0), (.lload_n 1, 1, 0, 0), (.lmul, 0, 0, 0), (.aload_n 0, 0, 0, 0), (.invokevirtual 270, 176, 0, 11), (.i2l, 0, 0, 0), (.ladd, 0, 0, 0), (.lstore_n 1, 1, 0, 0), (.ldc2_w 317, 31, 0, 0), (.lload_n 1, 1, 0, 0), (.lmul, 0, 0, 0), (.aload_n 0, 0, 0, 0), (.bipush 7, 7, 0, 0), (.bipush 6, 6, 0, 0), (.iconst 0, 0, 0, 0), (.invokevirtual 311, 188, 3, 11), (.i2l, 0, 0, 0), (.ladd, 0, 0, 0), (.lstore_n 1, 1, 0, 0), (.ldc2_w 317, 31, 0, 0), (.lload_n 1, 1, 0, 0), (.lmul, 0, 0, 0), (.aload_n 0, 0, 0, 0), (.bipush 7, 7, 0, 0), (.bipush 6, 6, 0, 0), (.iconst 1, 1, 0, 0), (.invokevirtual 311, 188, 3, 11), (.i2l, 0, 0, 0), (.ladd, 0, 0, 0), (.lreturn, 0, 0, 0)], 0)]
-- 196: J6_bitCount_0f7a4
def bt_196 : List (List Op × Nat) := [
  ([(.iload_n 0, 0, 0, 0), (.iload_n 0, 0, 0, 0), (.iconst 1, 1, 0, 0), (.iushr, 0, 0, 0), (.ldc_w 265, 1431655765, 0, 0), (.iand, 0, 0, 0), (.isub, 0, 0, 0), (.istore_n 0, 0, 0, 0), (.iload_n 0, 0, 0, 0), (.ldc_w 266, 858993459, 0, 0), (.iand, 0, 0, 0), (.iload_n 0, 0, 0, 0), (.iconst 2, 2, 0, 0), (.iushr, 0, 0, 0), (.ldc_w 266, 858993459, 0, 0), (.iand, 0, 0, 0), (.iadd, 0, 0, 0), (.istore_n 0, 0, 0, 0), (.iload_n 0, 0, 0, 0), (.iload_n 0, 0, 0, 0), (.iconst 4, 4, 0, 0), (.iushr, 0, 0, 0), (.iadd, 0, 0, 0), (.ldc_w 267, 252645135, 0, 0), (.iand, 0, 0, 0), (.istore_n 0, 0, 0, 0), (.iload_n 0, 0, 0, 0), (.iload_n 0, 0, 0, 0), (.bipush 8, 8, 0, 0), (.iushr, 0, 0, 0), (.iadd, 0, 0, 0), (.istore_n 0, 0, 0, 0), (.iload_n 0, 0, 0, 0), (.iload_n 0, 0, 0, 0), (.bipush 16, 16, 0, 0), (.iushr, 0, 0, 0), (.iadd, 0, 0, 0), (.istore_n 0, 0, 0, 0), (.iload_n 0, 0, 0, 0), (.bipush 63, 63, 0, 0), (.iand, 0, 0, 0), (.ireturn, 0, 0, 0)], 0)]
-- 197: J7_fill_53178
def bt_197 : List (List Op × Nat) := [
  ([(.iconst 0, 0, 0, 0), (.istore_n 2, 2, 0, 0), (.aload_n 0, 0, 0, 0), (.arraylength, 0, 0, 0), (.istore_n 3, 3, 0, 0)], 1),
  ([(.iload_n 2, 2, 0, 0), (.iload_n 3, 3, 0, 0), (.if_icmp .ge 13, 2, 0, 0), (.aload_n 0, 0, 0, 0), (.iload_n 2, 2, 0, 0), (.iload_n 1, 1, 0, 0), (.iastore, 0, 0, 0), (.iinc 2 1, 2, 1, 0), (.goto (-12), 1, 0, 0)], 0),
  ([(.return_, 0, 0, 0)], 0)]
def blkT : List (List (List Op × Nat)) := [bt_0, bt_1, bt_2, bt_3, bt_4, bt_5, bt_6, bt_7, bt_8, bt_9, bt_10, bt_11, bt_12, bt_13, bt_14, bt_15, bt_16, bt_17, bt_18, bt_19, bt_20, bt_21, bt_22, bt_23, bt_24, bt_25, bt_26, bt_27, bt_28, bt_29, bt_30, bt_31, bt_32, bt_33, bt_34, bt_35, bt_36, bt_37, bt_38, bt_39, bt_40, bt_41, bt_42, bt_43, bt_44, bt_45, bt_46, bt_47, bt_48, bt_49, bt_50, bt_51, bt_52, bt_53, bt_54, bt_55, bt_56, bt_57, bt_58, bt_59, bt_60, bt_61, bt_62, bt_63, bt_64, bt_65, bt_66, bt_67, bt_68, bt_69, bt_70, bt_71, bt_72, bt_73, bt_74, bt_75, bt_76, bt_77, bt_78, bt_79, bt_80, bt_81, bt_82, bt_83, bt_84, bt_85, bt_86, bt_87, bt_88, bt_89, bt_90, bt_91, bt_92, bt_93, bt_94, bt_95, bt_96, bt_97, bt_98, bt_99, bt_100, bt_101, bt_102, bt_103, bt_104, bt_105, bt_106, bt_107, bt_108, bt_109, bt_110, bt_111, bt_112, bt_113, bt_114, bt_115, bt_116, bt_117, bt_118, bt_119, bt_120, bt_121, bt_122, bt_123, bt_124, bt_125, bt_126, bt_127, bt_128, bt_129, bt_130, bt_131, bt_132, bt_133, bt_134, bt_135, bt_136, bt_137, bt_138, bt_139, bt_140, bt_141, bt_142, bt_143, bt_144, bt_145, bt_146, bt_147, bt_148, bt_149, bt_150, bt_151, bt_152, bt_153, bt_154, bt_155, bt_156, bt_157, bt_158, bt_159, bt_160, bt_161, bt_162, bt_163, bt_164, bt_165, bt_166, bt_167, bt_168, bt_169, bt_170, bt_171, bt_172, bt_173, bt_174, bt_175, bt_176, bt_177, bt_178, bt_179, bt_180, bt_181, bt_182, bt_183, bt_184, bt_185, bt_186, bt_187, bt_188, bt_189, bt_190, bt_191, bt_192, bt_193, bt_194, bt_195, bt_196, bt_197]
def blk (z k : Nat) : List Op × Nat := (blkT.getD z []).getD k ([], 0)
def bsT : List (List Nat) := [[0, 11, 15], [0, 30], [0, 4, 42, 78, 80, 86], [0, 32], [0, 10, 81, 141, 153, 155, 161, 172, 176, 177], [0, 16, 17], [0, 29, 30], [0, 49], [0], [0, 12, 81, 87], [0, 17, 27, 100, 106, 112], [0, 13, 83, 89], [0, 39, 40], [0], [0, 33, 35, 65, 71, 73, 90, 124, 130, 136], [0, 4, 71, 77], [0, 5, 103, 109], [0, 8, 36, 42], [0, 5, 18, 74, 80, 93], [0, 23, 82, 88, 102, 159, 165], [0, 2, 63], [0, 5, 21], [0, 17, 79], [0], [0, 9, 15], [0, 49], [0, 2, 38, 44], [0], [0, 10, 20, 37, 38], [0, 30, 31], [0, 30, 43, 44, 45], [0], [0], [0, 38], [0, 11], [0, 6, 25, 43, 56, 62], [0, 2, 62], [0, 4, 25], [0, 4, 25], [0, 4, 29], [0], [0, 37, 84, 90], [0, 15, 23, 61, 67, 135, 141], [0, 4, 41, 59, 91], [0, 22, 46, 52], [0, 9, 17, 28, 36, 65, 66, 118, 141, 142, 156, 157, 169, 170, 193, 194, 276, 282], [0, 5, 45], [0, 4, 30], [0], [0, 31], [0], [0, 19, 39, 60], [0, 18, 21, 44], [0, 11], [0, 11, 30], [0, 11, 25, 32], [0, 16, 19], [0, 27, 30, 49, 61], [0, 12, 30], [0, 16], [0, 11, 32, 49, 115, 131], [0, 25, 28, 52, 59], [0, 25, 28], [0, 17, 20, 36, 45], [0, 27, 30, 48, 56], [0, 11, 25, 32], [0, 11, 18, 39, 45], [0, 7, 24, 30], [0, 15, 36, 42], [0, 11, 24, 44, 50, 58, 61], [0, 11, 32, 39], [0, 11, 32, 47, 54], [0, 27, 30, 52, 59], [0, 10, 13, 35, 49, 56], [0, 26, 29, 47], [0], [0], [0, 14, 23], [0, 14, 30], [0, 36, 40, 63, 70], [0, 17, 20, 46, 51], [0, 22, 25, 35], [0, 11, 32], [0, 16, 19, 44], [0, 16, 19, 46], [0, 16, 19, 53, 59, 78, 101, 107], [0, 16, 19, 40, 60, 87], [0, 52, 63, 74, 85, 96, 107, 118, 126, 137, 142], [0, 6, 29, 51, 85, 87, 106, 108, 135], [0], [0, 15, 94, 100], [0], [0], [0, 9, 13, 14], [0, 36, 40, 41], [0], [0, 14, 21], [0], [0, 33], [0, 17, 18], [0], [0], [0, 13, 14], [0, 9, 10], [0, 9, 10], [0, 6, 31, 40, 41], [0], [0], [0, 25, 28, 38, 55, 80], [0, 10, 25], [0, 15, 31, 53, 58], [0, 9, 19, 20], [0, 19, 22, 39], [0, 29, 32], [0, 14, 17, 35, 41, 62, 111, 117, 120, 154, 157, 192], [0, 19, 22, 37, 39, 45], [0, 10], [0, 10, 22], [0, 2, 21], [0, 8, 58, 62, 77, 78, 91, 129, 132, 138], [0, 25, 27, 28, 54, 59, 69, 71], [0, 14, 52, 71, 85, 86, 96, 114], [0, 11, 15], [0, 15, 17], [0], [0], [0], [0, 24, 25], [0, 33, 35], [0, 33, 35], [0], [0, 26, 29, 41], [0, 10], [0, 10, 25, 29, 93, 94, 104, 105, 110], [0, 5, 58, 62, 63, 70], [0, 12, 18, 21, 82, 83, 91], [0, 13, 31], [0, 4, 24, 29, 36, 37, 44], [0, 5, 61], [0, 24, 25, 49, 50, 76, 77], [0, 24, 34, 88, 89, 107, 108, 153, 159, 169, 182, 271, 272, 281, 296], [0, 2, 27, 33, 40, 65, 110, 111, 118, 124], [0, 2, 23, 38, 53, 54, 69, 107, 113, 115, 134, 136, 153], [0], [0, 5, 38], [0, 18, 24], [0, 35, 37], [0, 49, 51], [0, 4, 30], [0, 12, 18], [0, 27, 29], [0, 23, 24], [0, 13, 25, 26], [0, 28, 30], [0, 4, 27], [0, 19, 21], [0, 5, 27, 28, 35], [0, 19, 21], [0, 5, 21, 22, 29], [0], [0, 4, 29, 30, 37], [0], [0, 4, 29, 30, 37, 45, 51], [0, 19, 21], [0, 7, 43, 44, 58, 71, 72], [0, 19, 21], [0, 7, 68, 69, 77, 83, 104, 116, 117], [0, 24, 26], [0, 19, 59, 61, 78, 96, 98], [0, 28, 30], [0, 26, 27], [0, 17, 18, 19, 21, 48, 56, 57, 58, 64, 66, 78, 109, 117, 118, 119, 125, 131], [0, 24, 26], [0, 26, 29, 41], [0], [0, 8, 64, 65, 72], [0, 4, 33, 34, 42], [0], [0, 4, 33], [0, 32, 33], [0, 21, 52, 53, 59, 91, 97], [0, 22, 24], [0, 5, 18, 76, 77, 86, 99], [0, 13, 42, 44, 52], [0, 22, 24], [0, 6, 39, 40, 45, 74, 76, 85, 98], [0, 41, 46], [0], [0, 9, 36, 49, 90, 97, 124, 143, 148], [0, 33, 35], [0, 14, 17, 32, 51, 91], [0, 4, 25], [0, 56, 61, 66, 75, 80, 87, 93, 98, 103], [0, 21, 119, 125], [0], [0, 6, 31, 33, 57, 63, 103, 105, 124, 126, 147, 255, 279], [0], [0, 5, 20]]
def bs (z k : Nat) : Nat := (bsT.getD z []).getD k 0
abbrev MI : Type := MethodName × Nat × Option FieldType × Nat × Nat × Nat
def mT_0 : List MI := [(yX0_textOf, 2, (Option.some (FieldType.object "IceHouse$Text")), 0, 0, 0),
  (yX0_parseBlocks, 1, (Option.none : Option FieldType), 0, 2, 45),
  (yX0_placeBlocks, 4, (Option.some FieldType.int), 0, 1, 22),
  (yX0_parseOrders, 1, (Option.none : Option FieldType), 0, 2, 44),
  (yX0_placeOrders, 5, (Option.some FieldType.int), 0, 1, 20),
  (yX0_isFigure, 1, (Option.some FieldType.boolean), 0, 0, 0),
  (yX1_mayBe, 3, (Option.some FieldType.boolean), 1, 1, 21),
  (yX1_append, 4, (Option.none : Option FieldType), 1, 0, 0),
  (yX2_become, 2, (Option.none : Option FieldType), 2, 1, 60),
  (yX3_findCover, 3, (Option.none : Option FieldType), 3, 4, 143),
  (yX3_findSwap, 4, (Option.none : Option FieldType), 3, 4, 143),
  (yX3_findWait, 3, (Option.none : Option FieldType), 3, 4, 143),
  (yX3_noneIsShortWithout, 2, (Option.some FieldType.boolean), 3, 4, 143),
  (yX3_keepSpare, 4, (Option.none : Option FieldType), 3, 0, 0),
  (yX3_findSpare, 4, (Option.none : Option FieldType), 3, 5, 164),
  (yX3_findNever, 3, (Option.some FieldType.int), 3, 4, 143),
  (yX3_findSizes, 5, (Option.some FieldType.int), 3, 4, 143),
  (yX3_findAsk, 6, (Option.some FieldType.int), 3, 2, 86),
  (yX3_mostAlike, 7, (Option.some FieldType.int), 3, 1, 60),
  (yX3_findChance, 6, (Option.none : Option FieldType), 3, 5, 164),
  (yX3_learnShorts, 2, (Option.none : Option FieldType), 3, 4, 143),
  (yX3_power, 6, (Option.some FieldType.long), 3, 0, 0),
  (yX3_drawnSummer, 7, (Option.some (FieldType.object "IceHouse$Summer")), 3, 4, 143),
  (yX3_nextSeed, 1, (Option.some FieldType.int), 3, 0, 0),
  (yX3_lot, 2, (Option.some FieldType.int), 3, 0, 0)]
def mT_1 : List MI := [(yX4_append, 4, (Option.none : Option FieldType), 4, 0, 0),
  (yX4_fits, 3, (Option.some FieldType.boolean), 4, 1, 21),
  (yX5_renew, 3, (Option.none : Option FieldType), 5, 1, 23),
  (yX5_hindrance, 3, (Option.some FieldType.int), 5, 1, 21),
  (yX5_hasRow, 3, (Option.some FieldType.boolean), 5, 0, 0),
  (yX5_put, 3, (Option.none : Option FieldType), 5, 1, 21),
  (yX6_clearAll, 1, (Option.none : Option FieldType), 6, 1, 23),
  (yX6_become, 2, (Option.none : Option FieldType), 6, 1, 60),
  (yX6_putOnTop, 3, (Option.none : Option FieldType), 6, 0, 0),
  (yX6_takeFromTop, 4, (Option.some FieldType.int), 6, 0, 0),
  (yX6_columnOfGreatestTop, 5, (Option.some FieldType.int), 6, 0, 0),
  (yX6_exchange, 5, (Option.none : Option FieldType), 6, 0, 0),
  (yX6_numberOfBlocks, 3, (Option.some FieldType.int), 6, 0, 0),
  (yX6_total, 3, (Option.some FieldType.int), 6, 0, 0),
  (yX6_shapeOfAll, 3, (Option.some FieldType.int), 6, 0, 0),
  (yX7_highIn, 2, (Option.some FieldType.int), 7, 0, 0),
  (yX7_prepare, 5, (Option.none : Option FieldType), 7, 2, 83),
  (yX7_run, 4, (Option.none : Option FieldType), 7, 3, 120),
  (yX7_serve, 5, (Option.none : Option FieldType), 7, 1, 24),
  (yX7_melt, 4, (Option.some FieldType.int), 7, 2, 97),
  (yX7_meltColumn, 18, (Option.some FieldType.int), 7, 1, 60),
  (yX7_standingIn, 5, (Option.some FieldType.int), 7, 0, 0),
  (yX7_sumOfAll, 3, (Option.some FieldType.int), 7, 0, 0),
  (yX7_shortOrders, 1, (Option.some FieldType.int), 7, 1, 20),
  (yX8_append, 2, (Option.none : Option FieldType), 8, 0, 0)]
def mT_2 : List MI := [(yX9_beCalm, 1, (Option.none : Option FieldType), 9, 1, 23),
  (yX9_happen, 4, (Option.none : Option FieldType), 9, 1, 60),
  (yX10_type, 4, (Option.some FieldType.int), 10, 4, 86),
  (yX10_wipe, 4, (Option.some FieldType.int), 10, 4, 86),
  (yX10_undo, 3, (Option.some FieldType.int), 10, 4, 86),
  (yX10_fault, 2, (Option.some FieldType.int), 10, 1, 21),
  (yX10_told, 3, (Option.some FieldType.int), 10, 1, 21),
  (yX10_order, 3, (Option.some FieldType.int), 10, 1, 21),
  (yX10_event, 4, (Option.some FieldType.int), 10, 2, 43),
  (yX10_back, 1, (Option.some FieldType.int), 10, 1, 20),
  (yX10_read, 9, (Option.some FieldType.int), 10, 2, 43),
  (yX10_column, 5, (Option.some FieldType.int), 10, 5, 163),
  (yX10_block, 4, (Option.some FieldType.int), 10, 5, 163),
  (yX10_ice, 3, (Option.some FieldType.int), 10, 5, 163),
  (yX10_got, 4, (Option.some FieldType.int), 10, 5, 163),
  (yX10_sum, 2, (Option.some FieldType.int), 10, 5, 163),
  (yX10_bare, 4, (Option.some FieldType.int), 10, 5, 163),
  (yX10_last, 3, (Option.some FieldType.int), 10, 5, 163),
  (yX10_tall, 4, (Option.some FieldType.int), 10, 5, 163),
  (yX10_drain, 5, (Option.some FieldType.int), 10, 5, 163),
  (yX10_cover, 2, (Option.some FieldType.int), 10, 5, 165),
  (yX10_swap, 2, (Option.some FieldType.int), 10, 5, 166),
  (yX10_later, 3, (Option.some FieldType.int), 10, 5, 165),
  (yX10_spare, 2, (Option.some FieldType.int), 10, 6, 187),
  (yX10_seen, 4, (Option.some FieldType.int), 10, 1, 23)]
def mT_3 : List MI := [(yX10_forget, 2, (Option.some FieldType.int), 10, 0, 0),
  (yX10_never, 1, (Option.some FieldType.int), 10, 5, 165),
  (yX10_size, 3, (Option.some FieldType.int), 10, 5, 167),
  (yX10_ask, 3, (Option.some FieldType.int), 10, 5, 167),
  (yX10_chance, 4, (Option.some FieldType.long), 10, 6, 189),
  (yX10_summers, 5, (Option.some FieldType.int), 10, 5, 169),
  (yX10_sheet, 4, (Option.some FieldType.int), 10, 2, 45),
  (yX10_lose, 3, (Option.some FieldType.int), 10, 1, 21),
  (yX10_lay, 6, (Option.some FieldType.int), 10, 2, 43),
  (yX10_get, 5, (Option.some FieldType.int), 10, 2, 43),
  (yX10_copy, 8, (Option.some FieldType.int), 10, 1, 60),
  (yX10_write, 7, (Option.some FieldType.int), 10, 5, 163),
  (yX10_count, 2, (Option.some FieldType.int), 10, 5, 163),
  (yX10_digest, 4, (Option.some FieldType.long), 10, 7, 214),
  (yX10_mixed, 4, (Option.some FieldType.long), 10, 0, 0),
  (yX10_mixedColumn, 8, (Option.some FieldType.long), 10, 6, 187),
  (yX10_mixedOrder, 6, (Option.some FieldType.long), 10, 6, 189),
  (yX10_mixedPlans, 6, (Option.some FieldType.long), 10, 6, 187),
  (yX10_outside, 2, (Option.some FieldType.boolean), 10, 0, 0),
  (yX10_isNoBlock, 3, (Option.some FieldType.boolean), 10, 1, 21),
  (yX10_found, 2, (Option.some FieldType.int), 10, 0, 0),
  (yX10_noteChangedText, 2, (Option.none : Option FieldType), 10, 3, 65),
  (yX10_noteChange, 1, (Option.none : Option FieldType), 10, 0, 0),
  (yX10_toldSummer, 1, (Option.some (FieldType.object "IceHouse$Summer")), 10, 4, 143),
  (yX11_in, 6, (Option.some FieldType.boolean), 11, 0, 0)]
def mT_4 : List MI := [(yX11_no, 1, (Option.some FieldType.long), 11, 0, 0),
  (yX11_isTwo, 1, (Option.some FieldType.boolean), 11, 1, 25),
  (yX11_isIn, 2, (Option.some FieldType.boolean), 11, 0, 0),
  (yX11_lesser, 2, (Option.some FieldType.int), 11, 0, 0),
  (yX11_greater, 2, (Option.some FieldType.int), 11, 0, 0),
  (yX11_part, 11, (Option.some FieldType.long), 11, 0, 0),
  (yX11_finds, 2, (Option.some FieldType.int), 11, 0, 0),
  (yX11_isSheet, 1, (Option.some FieldType.boolean), 11, 1, 25),
  (yX11_sheet, 5, (Option.some FieldType.int), 11, 2, 45),
  (yX11_lose, 2, (Option.some FieldType.int), 11, 2, 45),
  (yX11_lacks, 4, (Option.some FieldType.int), 11, 1, 25),
  (yX11_cut, 2, (Option.some FieldType.int), 11, 0, 0),
  (yX11_lay, 6, (Option.some FieldType.int), 11, 2, 48),
  (yX11_get, 4, (Option.some FieldType.int), 11, 2, 48),
  (yX11_copy, 7, (Option.some FieldType.int), 11, 2, 45),
  (yX11_type, 3, (Option.some FieldType.int), 11, 2, 45),
  (yX11_wipe, 3, (Option.some FieldType.int), 11, 2, 45),
  (yX11_undo, 2, (Option.some FieldType.int), 11, 2, 45),
  (yX11_bares, 2, (Option.none : Option FieldType), 11, 0, 0),
  (yX11_readsBlocks, 6, (Option.some FieldType.int), 11, 1, 25),
  (yX11_orderOf, 2, (Option.some FieldType.int), 11, 1, 25),
  (yX11_readsOrders, 5, (Option.some FieldType.int), 11, 2, 46),
  (yX11_readsText, 2, (Option.some FieldType.int), 11, 3, 70),
  (yX11_fault, 2, (Option.some FieldType.int), 11, 4, 91),
  (yX11_isColumn, 1, (Option.some FieldType.boolean), 11, 1, 25)]
def mT_5 : List MI := [(yX11_isOrder, 2, (Option.some FieldType.boolean), 11, 1, 25),
  (yX11_isWeek, 1, (Option.some FieldType.boolean), 11, 1, 25),
  (yX11_toldAt, 3, (Option.some FieldType.int), 11, 0, 0),
  (yX11_told, 3, (Option.some FieldType.int), 11, 2, 50),
  (yX11_order, 3, (Option.some FieldType.int), 11, 3, 70),
  (yX11_keeps, 4, (Option.none : Option FieldType), 11, 0, 0),
  (yX11_event, 4, (Option.some FieldType.int), 11, 2, 45),
  (yX11_back, 1, (Option.some FieldType.int), 11, 0, 0),
  (yX11_read, 5, (Option.some FieldType.int), 11, 3, 68),
  (yX11_isTold, 5, (Option.some FieldType.boolean), 11, 1, 21),
  (yX11_strawBy, 4, (Option.some FieldType.int), 11, 1, 21),
  (yX11_topOf, 2, (Option.some FieldType.int), 11, 0, 0),
  (yX11_greatest, 3, (Option.some FieldType.int), 11, 1, 21),
  (yX11_serves, 3, (Option.none : Option FieldType), 11, 2, 43),
  (yX11_freeOf, 5, (Option.some FieldType.int), 11, 1, 21),
  (yX11_melting, 9, (Option.none : Option FieldType), 11, 2, 45),
  (yX11_passes, 4, (Option.none : Option FieldType), 11, 3, 73),
  (yX11_lives, 4, (Option.none : Option FieldType), 11, 4, 96),
  (yX11_find, 1, (Option.none : Option FieldType), 11, 5, 119),
  (yX11_standsIn, 5, (Option.some FieldType.int), 11, 0, 0),
  (yX11_columnBy, 4, (Option.some FieldType.int), 11, 1, 24),
  (yX11_column, 4, (Option.some FieldType.int), 11, 6, 139),
  (yX11_block, 4, (Option.some FieldType.int), 11, 6, 139),
  (yX11_allIce, 4, (Option.some FieldType.int), 11, 0, 0),
  (yX11_iceBy, 3, (Option.some FieldType.int), 11, 1, 23)]
def mT_6 : List MI := [(yX11_ice, 3, (Option.some FieldType.int), 11, 6, 139),
  (yX11_isShort, 2, (Option.some FieldType.boolean), 11, 0, 0),
  (yX11_gotBy, 3, (Option.some FieldType.int), 11, 1, 21),
  (yX11_got, 3, (Option.some FieldType.int), 11, 6, 139),
  (yX11_sumBy, 4, (Option.some FieldType.int), 11, 2, 43),
  (yX11_sum, 2, (Option.some FieldType.int), 11, 6, 139),
  (yX11_bareOf, 4, (Option.some FieldType.int), 11, 0, 0),
  (yX11_bare, 2, (Option.some FieldType.int), 11, 6, 139),
  (yX11_lastNow, 3, (Option.some FieldType.int), 11, 1, 23),
  (yX11_last, 1, (Option.some FieldType.int), 11, 6, 139),
  (yX11_tallNow, 3, (Option.some FieldType.int), 11, 0, 0),
  (yX11_tall, 1, (Option.some FieldType.int), 11, 6, 139),
  (yX11_drainBy, 4, (Option.some FieldType.int), 11, 0, 0),
  (yX11_drain, 2, (Option.some FieldType.int), 11, 6, 139),
  (yX11_coverBy, 6, (Option.some FieldType.int), 11, 5, 119),
  (yX11_cover, 2, (Option.some FieldType.int), 11, 6, 144),
  (yX11_swapBy, 6, (Option.some FieldType.int), 11, 5, 119),
  (yX11_swap, 2, (Option.some FieldType.int), 11, 6, 144),
  (yX11_laterOf, 8, (Option.some FieldType.int), 11, 5, 119),
  (yX11_later, 3, (Option.some FieldType.int), 11, 6, 146),
  (yX11_isSpared, 2, (Option.some FieldType.boolean), 11, 5, 119),
  (yX11_spareBy, 4, (Option.some FieldType.int), 11, 6, 140),
  (yX11_spare, 2, (Option.some FieldType.int), 11, 7, 163),
  (yX11_seen, 4, (Option.some FieldType.int), 11, 2, 45),
  (yX11_forget, 2, (Option.some FieldType.int), 11, 0, 0)]
def mT_7 : List MI := [(yX11_isSeen, 3, (Option.some FieldType.boolean), 11, 5, 119),
  (yX11_neverNow, 3, (Option.some FieldType.int), 11, 6, 141),
  (yX11_never, 1, (Option.some FieldType.int), 11, 7, 163),
  (yX11_rowOf, 4, (Option.some FieldType.int), 11, 0, 0),
  (yX11_isBlock, 3, (Option.some FieldType.boolean), 11, 2, 45),
  (yX11_sizeOf, 8, (Option.some FieldType.int), 11, 6, 141),
  (yX11_size, 3, (Option.some FieldType.int), 11, 7, 168),
  (yX11_alike, 7, (Option.some FieldType.int), 11, 1, 21),
  (yX11_askOf, 6, (Option.some FieldType.int), 11, 7, 168),
  (yX11_ask, 3, (Option.some FieldType.int), 11, 8, 193),
  (yX11_chanceOf, 10, (Option.some FieldType.long), 11, 5, 119),
  (yX11_chance, 4, (Option.some FieldType.long), 11, 6, 148),
  (yX11_lot, 2, (Option.some FieldType.int), 11, 0, 0),
  (yX11_summersOf, 8, (Option.some FieldType.int), 11, 5, 119),
  (yX11_summers, 4, (Option.some FieldType.int), 11, 6, 146),
  (yX11_write, 5, (Option.some FieldType.int), 11, 6, 139),
  (yX11_manyBlocks, 3, (Option.some FieldType.int), 11, 0, 0),
  (yX11_count, 2, (Option.some FieldType.int), 11, 6, 139),
  (yX11_tellsColumn, 7, (Option.some FieldType.long), 11, 8, 193),
  (yX11_tellsOrder, 6, (Option.some FieldType.long), 11, 6, 148),
  (yX11_digest, 4, (Option.some FieldType.long), 11, 9, 219),
  (yJ6_bitCount_0f7a4, 1, (Option.some FieldType.int), 12, 0, 0),
  (yJ7_fill_53178, 4, (Option.none : Option FieldType), 13, 0, 0)]
def mT : List MI := mT_0 ++ mT_1 ++ mT_2 ++ mT_3 ++ mT_4 ++ mT_5 ++ mT_6 ++ mT_7
def mi (z : Nat) : MI := mT.getD z (yL_law, 0, none, 14, 0, 0)
def my (z : Nat) : MethodName := (mi z).1
def mL (z : Nat) : Nat := (mi z).2.1
def mr (z : Nat) : Option FieldType := (mi z).2.2.1
def mc (z : Nat) : Nat := (mi z).2.2.2.1
def mf (z : Nat) : Nat := (mi z).2.2.2.2.1
def mo (z : Nat) : Nat := (mi z).2.2.2.2.2
def rn (c : Nat) : String := ([RX0, RX1, RX2, RX3, RX4, RX5, RX6, RX7, RX8, RX9, RX10, RX11, RJ6, RJ7] : List String).getD c RL
def tT (c : Nat) : u_T := ([TX0, TX1, TX2, TX3, TX4, TX5, TX6, TX7, TX8, TX9, TX10, TX11] : List u_T).getD c TX0
def nF (c : Nat) : Nat := ([8, 4, 3, 10, 4, 3, 2, 11, 3, 3, 6, 29] : List Nat).getD c 0
abbrev cls_ : List vw_C := [(RX0, TX0, 8), (RX1, TX1, 4), (RX2, TX2, 3), (RX3, TX3, 10), (RX4, TX4, 4), (RX5, TX5, 3), (RX6, TX6, 2), (RX7, TX7, 11), (RX8, TX8, 3), (RX9, TX9, 3), (RX10, TX10, 6), (RX11, TX11, 29)]
def jtT : List (Int × List Nat × Nat) := [(0, [1, 2, 3, 4, 5, 6, 7, 8, 9], 10), (0, [1, 2, 3, 3, 4, 5, 6, 7, 8], 9)]
end
section
/-! THE ABSTRACT MACHINE: the class and the reference have a fixed set of cells (part 02, sh); memory is Nat → Nat → Int32 (cell, place); a run is a function with fuel -/
abbrev Mem : Type := Nat → Nat → Int32
abbrev Lo : Type := List (Option Value)
abbrev Rs : Type := Option Value × Mem
def mI (n : Nat) : Int32 := Int32.ofInt (-(n : Int))
def mN (n : Nat) : Int64 := Int64.ofInt (-(n : Int))
def cI (a b : Nat) : Int32 := if b = 0 then nI a else mI a
def cL (a b : Nat) : Int64 := if b = 0 then lN a else mN a
def lget : Lo → Nat → Option Value
  | [], _ => none
  | v :: _, 0 => v
  | _ :: L, k + 1 => lget L k
def lput : Lo → Nat → Option Value → Lo
  | [], _, _ => []
  | _ :: L, 0, v => v :: L
  | u :: L, k + 1, v => u :: lput L k v
def kl (v : Option Value) : Option Value := match v with
  | some (.long _) => none
  | some (.double _) => none
  | v => v
/-- a store at place k: what of two slots began ahead of it is gone -/
def lkill : Lo → Nat → Lo
  | [], _ => []
  | L, 0 => L
  | u :: L, 1 => kl u :: L
  | u :: L, k + 2 => u :: lkill L (k + 1)
def setC (M : Mem) (c : Nat) (f : Nat → Int32) : Mem := fun c' => if c' = c then f else M c'
def stM (M : Mem) (c i : Nat) (x : Int32) : Mem := setC M c (upd (M c) i x)
def jnl (x : Int64) : Int32 := Int32.ofNat (x.toBitVec.toNat % 2 ^ 32)
def jnh (x : Int64) : Int32 := Int32.ofNat (x.toBitVec.toNat / 2 ^ 32)
def jn (a b : Int32) : Int64 := Int64.ofNat (a.toBitVec.toNat + 2 ^ 32 * b.toBitVec.toNat)
def cls (c : Nat) : Nat := match sh c with
  | some (.inr (.inr o)) => o.1
  | _ => 99
def fld (c a b : Nat) : Option (Nat × Nat × Nat) := match sh c with
  | some (.inr (.inr o)) => if o.1 = a then o.2[b]? else none
  | _ => none
def alen (c : Nat) : Option Nat := match sh c with
  | some (.inl n) => some n
  | _ => none
def rarr (c : Nat) : List Nat := match sh c with
  | some (.inr (.inl cs)) => cs
  | _ => []
def fval (M : Mem) (c : Nat) (f : Nat × Nat × Nat) : Value := match f.1 with
  | 0 => .ref f.2.1
  | 1 => .int (M c f.2.1)
  | 2 => .int (M c f.2.1)
  | _ => .long (jn (M c f.2.1) (M c f.2.2))
/-- a value comes into a field -/
def fput (M : Mem) (c : Nat) (f : Nat × Nat × Nat) (v : Value) : Option Mem := match f.1, v with
  | 1, .int x => some (stM M c f.2.1 x)
  | 2, .int x => if x = 0 ∨ x = 1 then some (stM M c f.2.1 x) else none
  | 3, .long x => some (stM (stM M c f.2.1 (jnl x)) c f.2.2 (jnh x))
  | _, _ => none
def cmpI (cd : Jvm.ClassFile.Cond) (x y : Int32) : Bool := match cd with
  | .eq => decide (x = y)
  | .ne => decide (¬ x = y)
  | .lt => decide (x < y)
  | .ge => decide (y ≤ x)
  | .gt => decide (y < x)
  | .le => decide (x ≤ y)
def brI (o : Op) (S : List Value) : Option (Bool × List Value) := match o.1 with
  | .ifCond cd _ => match S with
    | .int x :: S => some (cmpI cd x 0, S)
    | _ => none
  | .if_icmp cd _ => match S with
    | .int y :: .int x :: S => some (cmpI cd x y, S)
    | _ => none
  | _ => none
def swt (k : Nat) (x : Int32) : Nat := match jtT[k]? with
  | some (lo, ts, df) => if x.toInt < lo ∨ lo + (ts.length : Int) ≤ x.toInt then df else ts.getD (x.toInt - lo).toNat 0
  | none => 0
def cpyM (M : Mem) (cs cd sp dp n : Nat) : Mem := setC M cd (va_cpy (M cs) (M cd) sp dp n)
abbrev St3 : Type := Lo × List Value × Mem
def gI (v : Option Value) (K : Int32 → Option St3) : Option St3 := match v with
  | some (.int x) => K x
  | _ => none
def gL (v : Option Value) (K : Int64 → Option St3) : Option St3 := match v with
  | some (.long x) => K x
  | _ => none
def gR (v : Option Value) (K : Nat → Option St3) : Option St3 := match v with
  | some (.ref x) => K x
  | _ => none
def s1 (S : List Value) (K : Int32 → List Value → Option St3) : Option St3 := match S with
  | .int x :: S => K x S
  | _ => none
def s2 (S : List Value) (K : Int32 → Int32 → List Value → Option St3) : Option St3 := match S with
  | .int y :: .int x :: S => K x y S
  | _ => none
def s1L (S : List Value) (K : Int64 → List Value → Option St3) : Option St3 := match S with
  | .long x :: S => K x S
  | _ => none
def s2L (S : List Value) (K : Int64 → Int64 → List Value → Option St3) : Option St3 := match S with
  | .long y :: .long x :: S => K x y S
  | _ => none
def acp (L : Lo) (S : List Value) (M : Mem) : Option St3 := match S with
  | .int n :: .int dp :: .ref cd :: .int sp :: .ref cs :: S => match alen cs, alen cd with
    | some n0, some n1 => if ¬ sp < 0 ∧ ¬ dp < 0 ∧ ¬ n < 0 ∧ sp.toNatClampNeg + n.toNatClampNeg ≤ n0 ∧ dp.toNatClampNeg + n.toNatClampNeg ≤ n1 ∧ S.length ≤ 4 then some (L, S, cpyM M cs cd sp.toNatClampNeg dp.toNatClampNeg n.toNatClampNeg) else none
    | _, _ => none
  | _ => none
def mm2 (S : List Value) (K : Int32 → Int32 → List Value → Option St3) : Option St3 := match S with
  | .int y :: .int x :: S => if S.length ≤ 4 then K x y S else none
  | _ => none
/-- what an instruction that neither calls, nor branches, nor returns does -/
def eff (o : Op) (L : Lo) (S : List Value) (M : Mem) : Option St3 := match o.1 with
  | .iconst _ => some (L, .int (cI o.2.1 o.2.2.1) :: S, M)
  | .bipush _ => some (L, .int (cI o.2.1 o.2.2.1) :: S, M)
  | .sipush _ => some (L, .int (cI o.2.1 o.2.2.1) :: S, M)
  | .ldc _ => some (L, .int (cI o.2.1 o.2.2.1) :: S, M)
  | .ldc_w _ => some (L, .int (cI o.2.1 o.2.2.1) :: S, M)
  | .lconst _ => some (L, .long (cL o.2.1 o.2.2.1) :: S, M)
  | .ldc2_w _ => some (L, .long (cL o.2.1 o.2.2.1) :: S, M)
  | .iload _ => gI (lget L o.2.1) fun x => some (L, .int x :: S, M)
  | .iload_n _ => gI (lget L o.2.1) fun x => some (L, .int x :: S, M)
  | .lload _ => gL (lget L o.2.1) fun x => some (L, .long x :: S, M)
  | .lload_n _ => gL (lget L o.2.1) fun x => some (L, .long x :: S, M)
  | .aload _ => gR (lget L o.2.1) fun x => some (L, .ref x :: S, M)
  | .aload_n _ => gR (lget L o.2.1) fun x => some (L, .ref x :: S, M)
  | .istore _ => s1 S fun x S => some (lput (lkill L o.2.1) o.2.1 (some (.int x)), S, M)
  | .istore_n _ => s1 S fun x S => some (lput (lkill L o.2.1) o.2.1 (some (.int x)), S, M)
  | .lstore _ => s1L S fun x S => some (lput (lput (lkill L o.2.1) o.2.1 (some (.long x))) (o.2.1 + 1) none, S, M)
  | .lstore_n _ => s1L S fun x S => some (lput (lput (lkill L o.2.1) o.2.1 (some (.long x))) (o.2.1 + 1) none, S, M)
  | .astore _ => match S with
    | .ref c :: S => some (lput (lkill L o.2.1) o.2.1 (some (.ref c)), S, M)
    | _ => none
  | .astore_n _ => match S with
    | .ref c :: S => some (lput (lkill L o.2.1) o.2.1 (some (.ref c)), S, M)
    | _ => none
  | .iinc _ _ => gI (lget L o.2.1) fun x => some (lput (lkill L o.2.1) o.2.1 (some (.int (x + cI o.2.2.1 o.2.2.2))), S, M)
  | .iadd => s2 S fun x y S => some (L, .int (x + y) :: S, M)
  | .isub => s2 S fun x y S => some (L, .int (x - y) :: S, M)
  | .imul => s2 S fun x y S => some (L, .int (x * y) :: S, M)
  | .idiv => s2 S fun x y S => if y = 0 then none else some (L, .int (x / y) :: S, M)
  | .irem => s2 S fun x y S => if y = 0 then none else some (L, .int (x - x / y * y) :: S, M)
  | .iand => s2 S fun x y S => some (L, .int (x &&& y) :: S, M)
  | .ior => s2 S fun x y S => some (L, .int (x ||| y) :: S, M)
  | .ixor => s2 S fun x y S => some (L, .int (x ^^^ y) :: S, M)
  | .ishl => s2 S fun x y S => some (L, .int (x <<< (y &&& 31)) :: S, M)
  | .ishr => s2 S fun x y S => some (L, .int (x >>> (y &&& 31)) :: S, M)
  | .iushr => s2 S fun x y S => some (L, .int (x.toUInt32 >>> (y.toUInt32 &&& Int32.toUInt32 31)).toInt32 :: S, M)
  | .ladd => s2L S fun x y S => some (L, .long (x + y) :: S, M)
  | .lsub => s2L S fun x y S => some (L, .long (x - y) :: S, M)
  | .lmul => s2L S fun x y S => some (L, .long (x * y) :: S, M)
  | .ldiv => s2L S fun x y S => if y = 0 then none else some (L, .long (x / y) :: S, M)
  | .lrem => s2L S fun x y S => if y = 0 then none else some (L, .long (x - x / y * y) :: S, M)
  | .lshl => match S with
    | .int y :: .long x :: S => some (L, .long (x <<< (y.toInt64 &&& 63)) :: S, M)
    | _ => none
  | .i2l => s1 S fun x S => some (L, .long x.toInt64 :: S, M)
  | .i2b => s1 S fun x S => some (L, .int x.toInt8.toInt32 :: S, M)
  | .i2s => s1 S fun x S => some (L, .int x.toInt16.toInt32 :: S, M)
  | .lcmp => s2L S fun x y S => some (L, .int (lg_cmp x y) :: S, M)
  | .dup => match S with
    | .int x :: S => some (L, .int x :: .int x :: S, M)
    | .ref x :: S => some (L, .ref x :: .ref x :: S, M)
    | _ => none
  | .dup2 => match S with
    | .int x :: .int y :: S => some (L, .int x :: .int y :: .int x :: .int y :: S, M)
    | .int x :: .ref y :: S => some (L, .int x :: .ref y :: .int x :: .ref y :: S, M)
    | .long x :: S => some (L, .long x :: .long x :: S, M)
    | _ => none
  | .pop => s1 S fun _ S => some (L, S, M)
  | .getfield _ => match S with
    | .ref c :: S => match fld c o.2.1 o.2.2.1 with
      | some f => some (L, fval M c f :: S, M)
      | none => none
    | _ => none
  | .putfield _ => match S with
    | v :: .ref c :: S => match fld c o.2.1 o.2.2.1 with
      | some f => match fput M c f v with
        | some M' => some (L, S, M')
        | none => none
      | none => none
    | _ => none
  | .iaload => match S with
    | .int i :: .ref c :: S => match alen c with
      | some n => if i < 0 ∨ n ≤ i.toNatClampNeg then none else some (L, .int (M c i.toNatClampNeg) :: S, M)
      | none => none
    | _ => none
  | .iastore => match S with
    | .int x :: .int i :: .ref c :: S => match alen c with
      | some n => if i < 0 ∨ n ≤ i.toNatClampNeg then none else some (L, S, stM M c i.toNatClampNeg x)
      | none => none
    | _ => none
  | .aaload => match S with
    | .int i :: .ref c :: S => if i < 0 ∨ (rarr c).length ≤ i.toNatClampNeg then none else some (L, .ref ((rarr c).getD i.toNatClampNeg 0) :: S, M)
    | _ => none
  | .arraylength => match S with
    | .ref c :: S => match alen c with
      | some n => some (L, .int (nI n) :: S, M)
      | none => none
    | _ => none
  | .invokestatic _ => if o.2.1 = 999 then acp L S M
    else if o.2.1 = 998 then mm2 S fun x y S => some (L, .int (if y < x then y else x) :: S, M)
    else if o.2.1 = 997 then mm2 S fun x y S => some (L, .int (if x < y then y else x) :: S, M)
    else none
  | _ => none
def entL : List Value → Lo
  | [] => []
  | .long x :: vs => some (.long x) :: none :: entL vs
  | .double x :: vs => some (.double x) :: none :: entL vs
  | v :: vs => some v :: entL vs
def ent (z : Nat) (vs : List Value) : Lo := entL vs ++ List.replicate (mL z - (entL vs).length) none
abbrev RcT : Type := Nat → List Op → Nat → Lo → List Value → Mem → Option Rs
def cal (rc : RcT) (z : Nat) (as : List Value) (M : Mem) : Option Rs := if (ent z as).length = mL z then rc z [] 0 (ent z as) [] M else none
def onE (x : Option St3) (K : Lo → List Value → Mem → Option Rs) : Option Rs := match x with
  | some q => K q.1 q.2.1 q.2.2
  | none => none
def onC (x : Option Rs) (K : Option Value → Mem → Option Rs) : Option Rs := match x with
  | some q => K q.1 q.2
  | none => none
def onB (x : Option (Bool × List Value)) (K1 K2 : List Value → Option Rs) (K : Option Rs) : Option Rs := match x with
  | some q => if q.1 then K1 q.2 else K2 q.2
  | none => K
def rtI (a : Nat) (S : List Value) (M : Mem) : Option Rs := match S with
  | [.int x] => if a = 0 ∨ x = 0 ∨ x = 1 then some (some (.int x), M) else none
  | _ => none
def rtL (S : List Value) (M : Mem) : Option Rs := match S with
  | [.long x] => some (some (.long x), M)
  | _ => none
def rtR (S : List Value) (M : Mem) : Option Rs := match S with
  | [.ref x] => some (some (.ref x), M)
  | _ => none
def rtV (S : List Value) (M : Mem) : Option Rs := match S with
  | [] => some (none, M)
  | _ => none
def swI (S : List Value) (K : Int32 → List Value → Option Rs) : Option Rs := match S with
  | .int x :: S => K x S
  | _ => none
def ivI (S : List Value) (K : Nat → List Value → Option Rs) : Option Rs := match S with
  | .ref c :: S => K c S
  | _ => none
def stp (rc : RcT) (y : Nat) (is : List Op) (ft : Nat) (L : Lo) (S : List Value) (M : Mem) : Option Rs := match is with
  | [] => rc y (blk y ft).1 (blk y ft).2 L S M
  | o :: is => match o.1 with
    | .ireturn => rtI o.2.1 S M
    | .lreturn => rtL S M
    | .areturn => rtR S M
    | .return_ => rtV S M
    | .goto _ => rc y [] o.2.1 L S M
    | .tableswitch _ _ _ _ => swI S fun x S => rc y [] (swt o.2.1 x) L S M
    | .invokevirtual _ => ivI (S.drop o.2.2.1) fun c S' => if cls c = o.2.2.2 ∧ S'.length ≤ 4 then
          onC (cal rc o.2.1 (.ref c :: (S.take o.2.2.1).reverse) M) fun r M' => rc y is ft L (r.toList ++ S') M'
        else none
    | .invokestatic _ =>
      if 997 ≤ o.2.1 then onE (eff o L S M) fun L' S' M' => rc y is ft L' S' M'
      else if o.2.2.1 ≤ S.length ∧ (S.drop o.2.2.1).length ≤ 4 then
        onC (cal rc o.2.1 (S.take o.2.2.1).reverse M) fun r M' => rc y is ft L (r.toList ++ S.drop o.2.2.1) M'
      else none
    | _ => onB (brI o S) (fun S' => rc y [] o.2.1 L S' M) (fun S' => rc y is ft L S' M) (onE (eff o L S M) fun L' S' M' => rc y is ft L' S' M')
/-- the run: fuel, method, the rest of a block, the block behind it, locals, stack, memory -/
def arun : Nat → RcT
  | 0 => fun _ _ _ _ _ _ => none
  | n + 1 => fun y is ft L S M => stp (arun n) y is ft L S M
def WP (y : Nat) (is : List Op) (ft : Nat) (L : Lo) (S : List Value) (M : Mem) (Q : Option Value → Mem → Prop) : Prop := ∃ n r, arun n y is ft L S M = some r ∧ Q r.1 r.2
def Ct (z : Nat) (as : List Value) (M : Mem) (Q : Option Value → Mem → Prop) : Prop := ∃ n r, cal (arun n) z as M = some r ∧ Q r.1 r.2
/-- the call's one outcome -/
def Ev (z : Nat) (as : List Value) (M : Mem) (r : Option Value) (M' : Mem) : Prop := ∃ n, cal (arun n) z as M = some (r, M')
theorem onE_mono {x : Option St3} {K K' : Lo → List Value → Mem → Option Rs} {r : Rs} (hk : ∀ L S M r, K L S M = some r → K' L S M = some r) (h : onE x K = some r) : onE x K' = some r := by
  cases x with
  | none => cases h
  | some q => exact hk _ _ _ _ h
theorem onC_mono {x x' : Option Rs} {K K' : Option Value → Mem → Option Rs} {r : Rs} (hx : ∀ r, x = some r → x' = some r) (hk : ∀ v M r, K v M = some r → K' v M = some r) (h : onC x K = some r) : onC x' K' = some r := by
  cases x with
  | none => cases h
  | some q => rw [hx q rfl]; exact hk _ _ _ h
theorem onB_mono {x : Option (Bool × List Value)} {K1 K2 K1' K2' : List Value → Option Rs} {K K' : Option Rs} {r : Rs} (h1 : ∀ S r, K1 S = some r → K1' S = some r) (h2 : ∀ S r, K2 S = some r → K2' S = some r) (hk : K = some r → K' = some r) (h : onB x K1 K2 K = some r) : onB x K1' K2' K' = some r := by
  cases x with
  | none => exact hk h
  | some q =>
    obtain ⟨b, S⟩ := q
    cases b
    · exact h2 _ _ h
    · exact h1 _ _ h
theorem cal_mono {rc rc' : RcT} (ih : ∀ y is ft L S M r, rc y is ft L S M = some r → rc' y is ft L S M = some r) {z : Nat} {as : List Value} {M : Mem} {r : Rs} (h : cal rc z as M = some r) : cal rc' z as M = some r := by
  unfold cal at h ⊢
  split at h
  · rename_i hc; rw [if_pos hc]; exact ih _ _ _ _ _ _ _ h
  · cases h
theorem stp_mono {rc rc' : RcT} (ih : ∀ y is ft L S M r, rc y is ft L S M = some r → rc' y is ft L S M = some r) {y : Nat} {is : List Op} {ft : Nat} {L : Lo} {S : List Value} {M : Mem} {r : Rs} (h : stp rc y is ft L S M = some r) : stp rc' y is ft L S M = some r := by
  cases is with
  | nil => exact ih _ _ _ _ _ _ _ h
  | cons o is =>
    obtain ⟨i, a, b, c⟩ := o
    cases i with
    | ireturn => exact h
    | lreturn => exact h
    | areturn => exact h
    | return_ => exact h
    | goto _ => exact ih _ _ _ _ _ _ _ h
    | tableswitch _ _ _ _ =>
      dsimp only [stp] at h ⊢
      unfold swI at h ⊢
      split at h
      · exact ih _ _ _ _ _ _ _ h
      · cases h
    | invokevirtual _ =>
      dsimp only [stp] at h ⊢
      unfold ivI at h ⊢
      split at h
      · dsimp only at h
        split at h
        · rename_i hc; dsimp only; rw [if_pos hc]; exact onC_mono (fun _ => cal_mono ih) (fun _ _ _ => ih _ _ _ _ _ _ _) h
        · cases h
      · cases h
    | invokestatic _ =>
      dsimp only [stp] at h ⊢
      split at h
      · rename_i hc; rw [if_pos hc]; exact onE_mono (fun _ _ _ _ => ih _ _ _ _ _ _ _) h
      · rename_i hc; rw [if_neg hc]
        split at h
        · rename_i hc; rw [if_pos hc]; exact onC_mono (fun _ => cal_mono ih) (fun _ _ _ => ih _ _ _ _ _ _ _) h
        · cases h
    | _ =>
      dsimp only [stp] at h ⊢
      exact onB_mono (K1 := fun S' => rc y [] a L S' M) (K2 := fun S' => rc y is ft L S' M) (fun _ _ => ih _ _ _ _ _ _ _) (fun _ _ => ih _ _ _ _ _ _ _) (onE_mono (K := fun L' S' M' => rc y is ft L' S' M') (fun _ _ _ _ => ih _ _ _ _ _ _ _)) h
theorem arun_mono : ∀ (n y : Nat) (is : List Op) (ft : Nat) (L : Lo) (S : List Value) (M : Mem) (r : Rs), arun n y is ft L S M = some r → arun (n + 1) y is ft L S M = some r
  | 0 => fun _ _ _ _ _ _ _ h => by cases h
  | n + 1 => fun _ _ _ _ _ _ _ h => stp_mono (rc := arun n) (rc' := arun (n + 1)) (arun_mono n) h
theorem arun_le {n k y : Nat} {is : List Op} {ft : Nat} {L : Lo} {S : List Value} {M : Mem} {r : Rs} (h : arun n y is ft L S M = some r) (hk : n ≤ k) : arun k y is ft L S M = some r := by
  induction hk with
  | refl => exact h
  | step _ ih => exact arun_mono _ _ _ _ _ _ _ _ ih
theorem cal_le {n k z : Nat} {as : List Value} {M : Mem} {r : Rs} (h : cal (arun n) z as M = some r) (hk : n ≤ k) : cal (arun k) z as M = some r := cal_mono (fun _ _ _ _ _ _ _ q => arun_le q hk) h
end
section
/-! RULES: what WP is at each instruction, as equations -/
theorem wp_step {y y' : Nat} {is is' : List Op} {ft ft' : Nat} {L L' : Lo} {S S' : List Value} {M M' : Mem} {Q : Option Value → Mem → Prop} (h : ∀ n, arun (n + 1) y is ft L S M = arun n y' is' ft' L' S' M') : WP y is ft L S M Q = WP y' is' ft' L' S' M' Q := by
  apply propext
  constructor
  · rintro ⟨n, r, h1, h2⟩
    cases n with
    | zero => cases h1
    | succ n => exact ⟨n, r, (h n) ▸ h1, h2⟩
  · rintro ⟨n, r, h1, h2⟩
    exact ⟨n + 1, r, (h n).trans h1, h2⟩
theorem wp_false {y : Nat} {is : List Op} {ft : Nat} {L : Lo} {S : List Value} {M : Mem} {Q : Option Value → Mem → Prop} (h : ∀ n, arun (n + 1) y is ft L S M = none) : WP y is ft L S M Q = False := by
  apply propext
  refine ⟨?_, False.elim⟩
  rintro ⟨n, r, h1, h2⟩
  cases n with
  | zero => cases h1
  | succ n => rw [h n] at h1; cases h1
theorem wp_done {y : Nat} {is : List Op} {ft : Nat} {L : Lo} {S : List Value} {M M' : Mem} {v : Option Value} {Q : Option Value → Mem → Prop} (h : ∀ n, arun (n + 1) y is ft L S M = some (v, M')) : WP y is ft L S M Q = Q v M' := by
  apply propext
  constructor
  · rintro ⟨n, r, h1, h2⟩
    cases n with
    | zero => cases h1
    | succ n => rw [h n] at h1; cases h1; exact h2
  · intro h2
    exact ⟨1, (v, M'), h 0, h2⟩
theorem wp_call {y z : Nat} {is is' : List Op} {ft : Nat} {L : Lo} {S S' as : List Value} {M : Mem} {Q : Option Value → Mem → Prop} (h : ∀ n, arun (n + 1) y is ft L S M = onC (cal (arun n) z as M) fun r M' => arun n y is' ft L (r.toList ++ S') M') : WP y is ft L S M Q = Ct z as M (fun r M' => WP y is' ft L (r.toList ++ S') M' Q) := by
  apply propext
  constructor
  · rintro ⟨n, r, h1, h2⟩
    cases n with
    | zero => cases h1
    | succ n =>
      rw [h n] at h1
      cases hx : cal (arun n) z as M with
      | none => rw [hx] at h1; cases h1
      | some q => rw [hx] at h1; exact ⟨n, q, hx, n, r, h1, h2⟩
  · rintro ⟨n, q, hx, k, r, h1, h2⟩
    refine ⟨n + k + 1, r, ?_, h2⟩
    rw [h, cal_le hx (Nat.le_add_right n k)]
    exact arun_le h1 (Nat.le_add_left k n)
theorem Ev.ct {z : Nat} {as : List Value} {M M' : Mem} {r : Option Value} (h : Ev z as M r M') (Q : Option Value → Mem → Prop) : Ct z as M Q = Q r M' := by
  apply propext
  obtain ⟨n, h⟩ := h
  constructor
  · rintro ⟨k, q, h1, h2⟩
    have e1 := cal_le h (Nat.le_add_right n k)
    have e2 := cal_le h1 (Nat.le_add_left k n)
    rw [e1] at e2
    cases e2
    exact h2
  · intro h2
    exact ⟨n, _, h, h2⟩
theorem Ev.of {z : Nat} {as : List Value} {M M' : Mem} {r : Option Value} (h : Ct z as M (fun v N => v = r ∧ N = M')) : Ev z as M r M' := by
  obtain ⟨n, q, h1, h2, h3⟩ := h
  obtain ⟨v, N⟩ := q
  exact ⟨n, by rw [h1]; cases h2; cases h3; rfl⟩
theorem Ct.ev {z : Nat} {as : List Value} {M : Mem} {Q : Option Value → Mem → Prop} (h : Ct z as M Q) : ∃ r M', Ev z as M r M' ∧ Q r M' := by
  obtain ⟨n, q, h1, h2⟩ := h
  exact ⟨q.1, q.2, ⟨n, h1⟩, h2⟩
theorem WP.mono {y : Nat} {is : List Op} {ft : Nat} {L : Lo} {S : List Value} {M : Mem} {Q Q' : Option Value → Mem → Prop} (h : WP y is ft L S M Q) (hq : ∀ r M', Q r M' → Q' r M') : WP y is ft L S M Q' := by
  obtain ⟨n, r, h1, h2⟩ := h
  exact ⟨n, r, h1, hq _ _ h2⟩
theorem Ct.mono {z : Nat} {as : List Value} {M : Mem} {Q Q' : Option Value → Mem → Prop} (h : Ct z as M Q) (hq : ∀ r M', Q r M' → Q' r M') : Ct z as M Q' := by
  obtain ⟨n, r, h1, h2⟩ := h
  exact ⟨n, r, h1, hq _ _ h2⟩
theorem ct_wp {z : Nat} {as : List Value} (h : (ent z as).length = mL z) (M : Mem) (Q : Option Value → Mem → Prop) : Ct z as M Q = WP z [] 0 (ent z as) [] M Q := by
  unfold Ct WP cal
  simp only [if_pos h]
theorem wp_blk {y k : Nat} {is : List Op} {ft : Nat} (h : blk y k = (is, ft)) (L : Lo) (S : List Value) (M : Mem) (Q : Option Value → Mem → Prop) : WP y [] k L S M Q = WP y is ft L S M Q := wp_step (fun n => by show arun n y (blk y k).1 (blk y k).2 L S M = _; rw [h])
def brc (c A B : Prop) : Prop := (c → A) ∧ (¬ c → B)
theorem brc_pos {c A B : Prop} (h : c) : brc c A B = A := propext ⟨fun q => q.1 h, fun a => ⟨fun _ => a, fun n => absurd h n⟩⟩
theorem brc_neg {c A B : Prop} (h : ¬ c) : brc c A B = B := propext ⟨fun q => q.2 h, fun b => ⟨fun c => absurd c h, fun _ => b⟩⟩
theorem brc_i {c A B : Prop} (a : c → A) (b : ¬ c → B) : brc c A B := ⟨a, b⟩
theorem brc_T {A B : Prop} : brc True A B = A := brc_pos trivial
theorem brc_F {A B : Prop} : brc False A B = B := brc_neg not_false
theorem brc_nT {A B : Prop} : brc (¬ True) A B = B := brc_neg (fun h => h trivial)
theorem brc_nF {A B : Prop} : brc (¬ False) A B = A := brc_pos not_false
def onI (v : Option Value) (K : Int32 → Prop) : Prop := match v with
  | some (.int x) => K x
  | _ => False
def onL (v : Option Value) (K : Int64 → Prop) : Prop := match v with
  | some (.long x) => K x
  | _ => False
def onR (v : Option Value) (K : Nat → Prop) : Prop := match v with
  | some (.ref x) => K x
  | _ => False
def onO {α : Type} (v : Option α) (K : α → Prop) : Prop := match v with
  | some x => K x
  | none => False
theorem onI_s (x : Int32) (K : Int32 → Prop) : onI (some (.int x)) K = K x := rfl
theorem onL_s (x : Int64) (K : Int64 → Prop) : onL (some (.long x)) K = K x := rfl
theorem onR_s (x : Nat) (K : Nat → Prop) : onR (some (.ref x)) K = K x := rfl
theorem onO_s {α : Type} (x : α) (K : α → Prop) : onO (some x) K = K x := rfl
def inb (c : Nat) (i : Int32) : Prop := onO (alen c) (vp_in i)
theorem inb_s {c n : Nat} {i : Int32} (h : alen c = some n) : inb c i = vp_in i n := by unfold inb; rw [h]; rfl
theorem r_iconst_p {y : Nat} {is : List Op} {ft : Nat} {L : Lo} {S : List Value} {M : Mem} {Q : Option Value → Mem → Prop} {a c : Nat} {k : Int} : WP y ((.iconst k, a, 0, c) :: is) ft L S M Q = WP y is ft L (.int (nI a) :: S) M Q := wp_step (fun n => rfl)
theorem r_iconst_m {y : Nat} {is : List Op} {ft : Nat} {L : Lo} {S : List Value} {M : Mem} {Q : Option Value → Mem → Prop} {a c : Nat} {k : Int} : WP y ((.iconst k, a, 1, c) :: is) ft L S M Q = WP y is ft L (.int (mI a) :: S) M Q := wp_step (fun n => rfl)
theorem r_bipush_p {y : Nat} {is : List Op} {ft : Nat} {L : Lo} {S : List Value} {M : Mem} {Q : Option Value → Mem → Prop} {a c : Nat} {k : Int} : WP y ((.bipush k, a, 0, c) :: is) ft L S M Q = WP y is ft L (.int (nI a) :: S) M Q := wp_step (fun n => rfl)
theorem r_bipush_m {y : Nat} {is : List Op} {ft : Nat} {L : Lo} {S : List Value} {M : Mem} {Q : Option Value → Mem → Prop} {a c : Nat} {k : Int} : WP y ((.bipush k, a, 1, c) :: is) ft L S M Q = WP y is ft L (.int (mI a) :: S) M Q := wp_step (fun n => rfl)
theorem r_sipush_p {y : Nat} {is : List Op} {ft : Nat} {L : Lo} {S : List Value} {M : Mem} {Q : Option Value → Mem → Prop} {a c : Nat} {k : Int} : WP y ((.sipush k, a, 0, c) :: is) ft L S M Q = WP y is ft L (.int (nI a) :: S) M Q := wp_step (fun n => rfl)
theorem r_sipush_m {y : Nat} {is : List Op} {ft : Nat} {L : Lo} {S : List Value} {M : Mem} {Q : Option Value → Mem → Prop} {a c : Nat} {k : Int} : WP y ((.sipush k, a, 1, c) :: is) ft L S M Q = WP y is ft L (.int (mI a) :: S) M Q := wp_step (fun n => rfl)
theorem r_ldc_p {y : Nat} {is : List Op} {ft : Nat} {L : Lo} {S : List Value} {M : Mem} {Q : Option Value → Mem → Prop} {a c : Nat} {k : Nat} : WP y ((.ldc k, a, 0, c) :: is) ft L S M Q = WP y is ft L (.int (nI a) :: S) M Q := wp_step (fun n => rfl)
theorem r_ldc_m {y : Nat} {is : List Op} {ft : Nat} {L : Lo} {S : List Value} {M : Mem} {Q : Option Value → Mem → Prop} {a c : Nat} {k : Nat} : WP y ((.ldc k, a, 1, c) :: is) ft L S M Q = WP y is ft L (.int (mI a) :: S) M Q := wp_step (fun n => rfl)
theorem r_ldc_w_p {y : Nat} {is : List Op} {ft : Nat} {L : Lo} {S : List Value} {M : Mem} {Q : Option Value → Mem → Prop} {a c : Nat} {k : Nat} : WP y ((.ldc_w k, a, 0, c) :: is) ft L S M Q = WP y is ft L (.int (nI a) :: S) M Q := wp_step (fun n => rfl)
theorem r_ldc_w_m {y : Nat} {is : List Op} {ft : Nat} {L : Lo} {S : List Value} {M : Mem} {Q : Option Value → Mem → Prop} {a c : Nat} {k : Nat} : WP y ((.ldc_w k, a, 1, c) :: is) ft L S M Q = WP y is ft L (.int (mI a) :: S) M Q := wp_step (fun n => rfl)
theorem r_lconst_p {y : Nat} {is : List Op} {ft : Nat} {L : Lo} {S : List Value} {M : Mem} {Q : Option Value → Mem → Prop} {a c : Nat} {k : Fin 2} : WP y ((.lconst k, a, 0, c) :: is) ft L S M Q = WP y is ft L (.long (lN a) :: S) M Q := wp_step (fun n => rfl)
theorem r_lconst_m {y : Nat} {is : List Op} {ft : Nat} {L : Lo} {S : List Value} {M : Mem} {Q : Option Value → Mem → Prop} {a c : Nat} {k : Fin 2} : WP y ((.lconst k, a, 1, c) :: is) ft L S M Q = WP y is ft L (.long (mN a) :: S) M Q := wp_step (fun n => rfl)
theorem r_ldc2_w_p {y : Nat} {is : List Op} {ft : Nat} {L : Lo} {S : List Value} {M : Mem} {Q : Option Value → Mem → Prop} {a c : Nat} {k : Nat} : WP y ((.ldc2_w k, a, 0, c) :: is) ft L S M Q = WP y is ft L (.long (lN a) :: S) M Q := wp_step (fun n => rfl)
theorem r_ldc2_w_m {y : Nat} {is : List Op} {ft : Nat} {L : Lo} {S : List Value} {M : Mem} {Q : Option Value → Mem → Prop} {a c : Nat} {k : Nat} : WP y ((.ldc2_w k, a, 1, c) :: is) ft L S M Q = WP y is ft L (.long (mN a) :: S) M Q := wp_step (fun n => rfl)
theorem r_iload {y : Nat} {is : List Op} {ft : Nat} {L : Lo} {S : List Value} {M : Mem} {Q : Option Value → Mem → Prop} {a b c : Nat} {k : Nat} : WP y ((.iload k, a, b, c) :: is) ft L S M Q = onI (lget L a) (fun x => WP y is ft L (.int x :: S) M Q) := by
  cases h : lget L a with
  | none => exact wp_false (fun n => by show onE (gI (lget L a) _) _ = _; rw [h]; rfl)
  | some v => cases v <;> first | exact wp_step (fun n => by show onE (gI (lget L a) _) _ = _; rw [h]; rfl) | exact wp_false (fun n => by show onE (gI (lget L a) _) _ = _; rw [h]; rfl)
theorem r_iload_n {y : Nat} {is : List Op} {ft : Nat} {L : Lo} {S : List Value} {M : Mem} {Q : Option Value → Mem → Prop} {a b c : Nat} {k : Fin 4} : WP y ((.iload_n k, a, b, c) :: is) ft L S M Q = onI (lget L a) (fun x => WP y is ft L (.int x :: S) M Q) := by
  cases h : lget L a with
  | none => exact wp_false (fun n => by show onE (gI (lget L a) _) _ = _; rw [h]; rfl)
  | some v => cases v <;> first | exact wp_step (fun n => by show onE (gI (lget L a) _) _ = _; rw [h]; rfl) | exact wp_false (fun n => by show onE (gI (lget L a) _) _ = _; rw [h]; rfl)
theorem r_lload {y : Nat} {is : List Op} {ft : Nat} {L : Lo} {S : List Value} {M : Mem} {Q : Option Value → Mem → Prop} {a b c : Nat} {k : Nat} : WP y ((.lload k, a, b, c) :: is) ft L S M Q = onL (lget L a) (fun x => WP y is ft L (.long x :: S) M Q) := by
  cases h : lget L a with
  | none => exact wp_false (fun n => by show onE (gL (lget L a) _) _ = _; rw [h]; rfl)
  | some v => cases v <;> first | exact wp_step (fun n => by show onE (gL (lget L a) _) _ = _; rw [h]; rfl) | exact wp_false (fun n => by show onE (gL (lget L a) _) _ = _; rw [h]; rfl)
theorem r_lload_n {y : Nat} {is : List Op} {ft : Nat} {L : Lo} {S : List Value} {M : Mem} {Q : Option Value → Mem → Prop} {a b c : Nat} {k : Fin 4} : WP y ((.lload_n k, a, b, c) :: is) ft L S M Q = onL (lget L a) (fun x => WP y is ft L (.long x :: S) M Q) := by
  cases h : lget L a with
  | none => exact wp_false (fun n => by show onE (gL (lget L a) _) _ = _; rw [h]; rfl)
  | some v => cases v <;> first | exact wp_step (fun n => by show onE (gL (lget L a) _) _ = _; rw [h]; rfl) | exact wp_false (fun n => by show onE (gL (lget L a) _) _ = _; rw [h]; rfl)
theorem r_aload {y : Nat} {is : List Op} {ft : Nat} {L : Lo} {S : List Value} {M : Mem} {Q : Option Value → Mem → Prop} {a b c : Nat} {k : Nat} : WP y ((.aload k, a, b, c) :: is) ft L S M Q = onR (lget L a) (fun x => WP y is ft L (.ref x :: S) M Q) := by
  cases h : lget L a with
  | none => exact wp_false (fun n => by show onE (gR (lget L a) _) _ = _; rw [h]; rfl)
  | some v => cases v <;> first | exact wp_step (fun n => by show onE (gR (lget L a) _) _ = _; rw [h]; rfl) | exact wp_false (fun n => by show onE (gR (lget L a) _) _ = _; rw [h]; rfl)
theorem r_aload_n {y : Nat} {is : List Op} {ft : Nat} {L : Lo} {S : List Value} {M : Mem} {Q : Option Value → Mem → Prop} {a b c : Nat} {k : Fin 4} : WP y ((.aload_n k, a, b, c) :: is) ft L S M Q = onR (lget L a) (fun x => WP y is ft L (.ref x :: S) M Q) := by
  cases h : lget L a with
  | none => exact wp_false (fun n => by show onE (gR (lget L a) _) _ = _; rw [h]; rfl)
  | some v => cases v <;> first | exact wp_step (fun n => by show onE (gR (lget L a) _) _ = _; rw [h]; rfl) | exact wp_false (fun n => by show onE (gR (lget L a) _) _ = _; rw [h]; rfl)
theorem r_istore {y : Nat} {is : List Op} {ft : Nat} {L : Lo} {S : List Value} {M : Mem} {Q : Option Value → Mem → Prop} {a b c : Nat} {k : Nat} {x : Int32} : WP y ((.istore k, a, b, c) :: is) ft L (.int x :: S) M Q = WP y is ft (lput (lkill L a) a (some (.int x))) S M Q := wp_step (fun n => rfl)
theorem r_istore_n {y : Nat} {is : List Op} {ft : Nat} {L : Lo} {S : List Value} {M : Mem} {Q : Option Value → Mem → Prop} {a b c : Nat} {k : Fin 4} {x : Int32} : WP y ((.istore_n k, a, b, c) :: is) ft L (.int x :: S) M Q = WP y is ft (lput (lkill L a) a (some (.int x))) S M Q := wp_step (fun n => rfl)
theorem r_astore {y : Nat} {is : List Op} {ft : Nat} {L : Lo} {S : List Value} {M : Mem} {Q : Option Value → Mem → Prop} {a b c : Nat} {k : Nat} {x : Nat} : WP y ((.astore k, a, b, c) :: is) ft L (.ref x :: S) M Q = WP y is ft (lput (lkill L a) a (some (.ref x))) S M Q := wp_step (fun n => rfl)
theorem r_astore_n {y : Nat} {is : List Op} {ft : Nat} {L : Lo} {S : List Value} {M : Mem} {Q : Option Value → Mem → Prop} {a b c : Nat} {k : Fin 4} {x : Nat} : WP y ((.astore_n k, a, b, c) :: is) ft L (.ref x :: S) M Q = WP y is ft (lput (lkill L a) a (some (.ref x))) S M Q := wp_step (fun n => rfl)
theorem r_lstore {y : Nat} {is : List Op} {ft : Nat} {L : Lo} {S : List Value} {M : Mem} {Q : Option Value → Mem → Prop} {a b c : Nat} {k : Nat} {x : Int64} : WP y ((.lstore k, a, b, c) :: is) ft L (.long x :: S) M Q = WP y is ft (lput (lput (lkill L a) a (some (.long x))) (a + 1) none) S M Q := wp_step (fun n => rfl)
theorem r_lstore_n {y : Nat} {is : List Op} {ft : Nat} {L : Lo} {S : List Value} {M : Mem} {Q : Option Value → Mem → Prop} {a b c : Nat} {k : Fin 4} {x : Int64} : WP y ((.lstore_n k, a, b, c) :: is) ft L (.long x :: S) M Q = WP y is ft (lput (lput (lkill L a) a (some (.long x))) (a + 1) none) S M Q := wp_step (fun n => rfl)
theorem r_iinc_p {y : Nat} {is : List Op} {ft : Nat} {L : Lo} {S : List Value} {M : Mem} {Q : Option Value → Mem → Prop} {a b : Nat} {k : Nat} {kk : Int} : WP y ((.iinc k kk, a, b, 0) :: is) ft L S M Q = onI (lget L a) (fun x => WP y is ft (lput (lkill L a) a (some (.int (x + nI b)))) S M Q) := by
  cases h : lget L a with
  | none => exact wp_false (fun n => by show onE (gI (lget L a) _) _ = _; rw [h]; rfl)
  | some v => cases v <;> first | exact wp_step (fun n => by show onE (gI (lget L a) _) _ = _; rw [h]; rfl) | exact wp_false (fun n => by show onE (gI (lget L a) _) _ = _; rw [h]; rfl)
theorem r_iinc_m {y : Nat} {is : List Op} {ft : Nat} {L : Lo} {S : List Value} {M : Mem} {Q : Option Value → Mem → Prop} {a b : Nat} {k : Nat} {kk : Int} : WP y ((.iinc k kk, a, b, 1) :: is) ft L S M Q = onI (lget L a) (fun x => WP y is ft (lput (lkill L a) a (some (.int (x + mI b)))) S M Q) := by
  cases h : lget L a with
  | none => exact wp_false (fun n => by show onE (gI (lget L a) _) _ = _; rw [h]; rfl)
  | some v => cases v <;> first | exact wp_step (fun n => by show onE (gI (lget L a) _) _ = _; rw [h]; rfl) | exact wp_false (fun n => by show onE (gI (lget L a) _) _ = _; rw [h]; rfl)
theorem r_iadd {y : Nat} {is : List Op} {ft : Nat} {L : Lo} {S : List Value} {M : Mem} {Q : Option Value → Mem → Prop} {a b c : Nat} {u v : Int32} : WP y ((.iadd, a, b, c) :: is) ft L (.int v :: .int u :: S) M Q = WP y is ft L (.int (u + v) :: S) M Q := wp_step (fun n => rfl)
theorem r_isub {y : Nat} {is : List Op} {ft : Nat} {L : Lo} {S : List Value} {M : Mem} {Q : Option Value → Mem → Prop} {a b c : Nat} {u v : Int32} : WP y ((.isub, a, b, c) :: is) ft L (.int v :: .int u :: S) M Q = WP y is ft L (.int (u - v) :: S) M Q := wp_step (fun n => rfl)
theorem r_imul {y : Nat} {is : List Op} {ft : Nat} {L : Lo} {S : List Value} {M : Mem} {Q : Option Value → Mem → Prop} {a b c : Nat} {u v : Int32} : WP y ((.imul, a, b, c) :: is) ft L (.int v :: .int u :: S) M Q = WP y is ft L (.int (u * v) :: S) M Q := wp_step (fun n => rfl)
theorem r_iand {y : Nat} {is : List Op} {ft : Nat} {L : Lo} {S : List Value} {M : Mem} {Q : Option Value → Mem → Prop} {a b c : Nat} {u v : Int32} : WP y ((.iand, a, b, c) :: is) ft L (.int v :: .int u :: S) M Q = WP y is ft L (.int (u &&& v) :: S) M Q := wp_step (fun n => rfl)
theorem r_ior {y : Nat} {is : List Op} {ft : Nat} {L : Lo} {S : List Value} {M : Mem} {Q : Option Value → Mem → Prop} {a b c : Nat} {u v : Int32} : WP y ((.ior, a, b, c) :: is) ft L (.int v :: .int u :: S) M Q = WP y is ft L (.int (u ||| v) :: S) M Q := wp_step (fun n => rfl)
theorem r_ixor {y : Nat} {is : List Op} {ft : Nat} {L : Lo} {S : List Value} {M : Mem} {Q : Option Value → Mem → Prop} {a b c : Nat} {u v : Int32} : WP y ((.ixor, a, b, c) :: is) ft L (.int v :: .int u :: S) M Q = WP y is ft L (.int (u ^^^ v) :: S) M Q := wp_step (fun n => rfl)
theorem r_ishl {y : Nat} {is : List Op} {ft : Nat} {L : Lo} {S : List Value} {M : Mem} {Q : Option Value → Mem → Prop} {a b c : Nat} {u v : Int32} : WP y ((.ishl, a, b, c) :: is) ft L (.int v :: .int u :: S) M Q = WP y is ft L (.int (u <<< (v &&& 31)) :: S) M Q := wp_step (fun n => rfl)
theorem r_ishr {y : Nat} {is : List Op} {ft : Nat} {L : Lo} {S : List Value} {M : Mem} {Q : Option Value → Mem → Prop} {a b c : Nat} {u v : Int32} : WP y ((.ishr, a, b, c) :: is) ft L (.int v :: .int u :: S) M Q = WP y is ft L (.int (u >>> (v &&& 31)) :: S) M Q := wp_step (fun n => rfl)
theorem r_iushr {y : Nat} {is : List Op} {ft : Nat} {L : Lo} {S : List Value} {M : Mem} {Q : Option Value → Mem → Prop} {a b c : Nat} {u v : Int32} : WP y ((.iushr, a, b, c) :: is) ft L (.int v :: .int u :: S) M Q = WP y is ft L (.int ((u.toUInt32 >>> (v.toUInt32 &&& Int32.toUInt32 31)).toInt32) :: S) M Q := wp_step (fun n => rfl)
theorem r_idiv {y : Nat} {is : List Op} {ft : Nat} {L : Lo} {S : List Value} {M : Mem} {Q : Option Value → Mem → Prop} {a b c : Nat} {u v : Int32} : WP y ((.idiv, a, b, c) :: is) ft L (.int v :: .int u :: S) M Q = (¬ v = nI 0 ∧ WP y is ft L (.int (u / v) :: S) M Q) := by
  rw [nI_0]
  by_cases h : v = 0
  · rw [wp_false (fun n => by simp [arun, stp, brI, onB, eff, s2, onE, h])]; simp [h]
  · rw [wp_step (y' := y) (is' := is) (ft' := ft) (L' := L) (S' := .int (u / v) :: S) (M' := M) (fun n => by simp [arun, stp, brI, onB, eff, s2, onE, h])]; simp [h]
theorem r_irem {y : Nat} {is : List Op} {ft : Nat} {L : Lo} {S : List Value} {M : Mem} {Q : Option Value → Mem → Prop} {a b c : Nat} {u v : Int32} : WP y ((.irem, a, b, c) :: is) ft L (.int v :: .int u :: S) M Q = (¬ v = nI 0 ∧ WP y is ft L (.int (u - u / v * v) :: S) M Q) := by
  rw [nI_0]
  by_cases h : v = 0
  · rw [wp_false (fun n => by simp [arun, stp, brI, onB, eff, s2, onE, h])]; simp [h]
  · rw [wp_step (y' := y) (is' := is) (ft' := ft) (L' := L) (S' := .int (u - u / v * v) :: S) (M' := M) (fun n => by simp [arun, stp, brI, onB, eff, s2, onE, h])]; simp [h]
theorem r_ladd {y : Nat} {is : List Op} {ft : Nat} {L : Lo} {S : List Value} {M : Mem} {Q : Option Value → Mem → Prop} {a b c : Nat} {u v : Int64} : WP y ((.ladd, a, b, c) :: is) ft L (.long v :: .long u :: S) M Q = WP y is ft L (.long (u + v) :: S) M Q := wp_step (fun n => rfl)
theorem r_lsub {y : Nat} {is : List Op} {ft : Nat} {L : Lo} {S : List Value} {M : Mem} {Q : Option Value → Mem → Prop} {a b c : Nat} {u v : Int64} : WP y ((.lsub, a, b, c) :: is) ft L (.long v :: .long u :: S) M Q = WP y is ft L (.long (u - v) :: S) M Q := wp_step (fun n => rfl)
theorem r_lmul {y : Nat} {is : List Op} {ft : Nat} {L : Lo} {S : List Value} {M : Mem} {Q : Option Value → Mem → Prop} {a b c : Nat} {u v : Int64} : WP y ((.lmul, a, b, c) :: is) ft L (.long v :: .long u :: S) M Q = WP y is ft L (.long (u * v) :: S) M Q := wp_step (fun n => rfl)
theorem r_ldiv {y : Nat} {is : List Op} {ft : Nat} {L : Lo} {S : List Value} {M : Mem} {Q : Option Value → Mem → Prop} {a b c : Nat} {u v : Int64} : WP y ((.ldiv, a, b, c) :: is) ft L (.long v :: .long u :: S) M Q = (¬ v = lN 0 ∧ WP y is ft L (.long (u / v) :: S) M Q) := by
  rw [show lN 0 = 0 from rfl]
  by_cases h : v = 0
  · rw [wp_false (fun n => by simp [arun, stp, brI, onB, eff, s2L, onE, h])]; simp [h]
  · rw [wp_step (y' := y) (is' := is) (ft' := ft) (L' := L) (S' := .long (u / v) :: S) (M' := M) (fun n => by simp [arun, stp, brI, onB, eff, s2L, onE, h])]; simp [h]
theorem r_lrem {y : Nat} {is : List Op} {ft : Nat} {L : Lo} {S : List Value} {M : Mem} {Q : Option Value → Mem → Prop} {a b c : Nat} {u v : Int64} : WP y ((.lrem, a, b, c) :: is) ft L (.long v :: .long u :: S) M Q = (¬ v = lN 0 ∧ WP y is ft L (.long (u - u / v * v) :: S) M Q) := by
  rw [show lN 0 = 0 from rfl]
  by_cases h : v = 0
  · rw [wp_false (fun n => by simp [arun, stp, brI, onB, eff, s2L, onE, h])]; simp [h]
  · rw [wp_step (y' := y) (is' := is) (ft' := ft) (L' := L) (S' := .long (u - u / v * v) :: S) (M' := M) (fun n => by simp [arun, stp, brI, onB, eff, s2L, onE, h])]; simp [h]
theorem r_lshl {y : Nat} {is : List Op} {ft : Nat} {L : Lo} {S : List Value} {M : Mem} {Q : Option Value → Mem → Prop} {a b c : Nat} {u : Int64} {v : Int32} : WP y ((.lshl, a, b, c) :: is) ft L (.int v :: .long u :: S) M Q = WP y is ft L (.long (u <<< (v.toInt64 &&& 63)) :: S) M Q := wp_step (fun n => rfl)
theorem r_lcmp {y : Nat} {is : List Op} {ft : Nat} {L : Lo} {S : List Value} {M : Mem} {Q : Option Value → Mem → Prop} {a b c : Nat} {u v : Int64} : WP y ((.lcmp, a, b, c) :: is) ft L (.long v :: .long u :: S) M Q = WP y is ft L (.int (lg_cmp u v) :: S) M Q := wp_step (fun n => rfl)
theorem r_i2l {y : Nat} {is : List Op} {ft : Nat} {L : Lo} {S : List Value} {M : Mem} {Q : Option Value → Mem → Prop} {a b c : Nat} {u : Int32} : WP y ((.i2l, a, b, c) :: is) ft L (.int u :: S) M Q = WP y is ft L (.long u.toInt64 :: S) M Q := wp_step (fun n => rfl)
theorem r_i2b {y : Nat} {is : List Op} {ft : Nat} {L : Lo} {S : List Value} {M : Mem} {Q : Option Value → Mem → Prop} {a b c : Nat} {u : Int32} : WP y ((.i2b, a, b, c) :: is) ft L (.int u :: S) M Q = WP y is ft L (.int u.toInt8.toInt32 :: S) M Q := wp_step (fun n => rfl)
theorem r_i2s {y : Nat} {is : List Op} {ft : Nat} {L : Lo} {S : List Value} {M : Mem} {Q : Option Value → Mem → Prop} {a b c : Nat} {u : Int32} : WP y ((.i2s, a, b, c) :: is) ft L (.int u :: S) M Q = WP y is ft L (.int u.toInt16.toInt32 :: S) M Q := wp_step (fun n => rfl)
theorem r_dup_i {y : Nat} {is : List Op} {ft : Nat} {L : Lo} {S : List Value} {M : Mem} {Q : Option Value → Mem → Prop} {a b c : Nat} {u : Int32} : WP y ((.dup, a, b, c) :: is) ft L (.int u :: S) M Q = WP y is ft L (.int u :: .int u :: S) M Q := wp_step (fun n => rfl)
theorem r_dup_r {y : Nat} {is : List Op} {ft : Nat} {L : Lo} {S : List Value} {M : Mem} {Q : Option Value → Mem → Prop} {a b c : Nat} {u : Nat} : WP y ((.dup, a, b, c) :: is) ft L (.ref u :: S) M Q = WP y is ft L (.ref u :: .ref u :: S) M Q := wp_step (fun n => rfl)
theorem r_dup2_ii {y : Nat} {is : List Op} {ft : Nat} {L : Lo} {S : List Value} {M : Mem} {Q : Option Value → Mem → Prop} {a b c : Nat} {u v : Int32} : WP y ((.dup2, a, b, c) :: is) ft L (.int u :: .int v :: S) M Q = WP y is ft L (.int u :: .int v :: .int u :: .int v :: S) M Q := wp_step (fun n => rfl)
theorem r_dup2_ir {y : Nat} {is : List Op} {ft : Nat} {L : Lo} {S : List Value} {M : Mem} {Q : Option Value → Mem → Prop} {a b c : Nat} {u : Int32} {v : Nat} : WP y ((.dup2, a, b, c) :: is) ft L (.int u :: .ref v :: S) M Q = WP y is ft L (.int u :: .ref v :: .int u :: .ref v :: S) M Q := wp_step (fun n => rfl)
theorem r_dup2_l {y : Nat} {is : List Op} {ft : Nat} {L : Lo} {S : List Value} {M : Mem} {Q : Option Value → Mem → Prop} {a b c : Nat} {u : Int64} : WP y ((.dup2, a, b, c) :: is) ft L (.long u :: S) M Q = WP y is ft L (.long u :: .long u :: S) M Q := wp_step (fun n => rfl)
theorem r_pop {y : Nat} {is : List Op} {ft : Nat} {L : Lo} {S : List Value} {M : Mem} {Q : Option Value → Mem → Prop} {a b c : Nat} {u : Int32} : WP y ((.pop, a, b, c) :: is) ft L (.int u :: S) M Q = WP y is ft L S M Q := wp_step (fun n => rfl)
theorem r_getfield {y : Nat} {is : List Op} {ft : Nat} {L : Lo} {S : List Value} {M : Mem} {Q : Option Value → Mem → Prop} {a b c : Nat} {k u : Nat} : WP y ((.getfield k, a, b, c) :: is) ft L (.ref u :: S) M Q = onO (fld u a b) (fun f => WP y is ft L (fval M u f :: S) M Q) := by
  cases h : fld u a b with
  | none => exact wp_false (fun n => by show onE (match fld u a b with | some f => _ | none => _) _ = _; rw [h]; rfl)
  | some f => exact wp_step (fun n => by show onE (match fld u a b with | some f => _ | none => _) _ = _; rw [h]; rfl)
theorem r_putfield {y : Nat} {is : List Op} {ft : Nat} {L : Lo} {S : List Value} {M : Mem} {Q : Option Value → Mem → Prop} {a b c : Nat} {k u : Nat} {v : Value} : WP y ((.putfield k, a, b, c) :: is) ft L (v :: .ref u :: S) M Q = onO (fld u a b) (fun f => onO (fput M u f v) (fun M' => WP y is ft L S M' Q)) := by
  cases h : fld u a b with
  | none => exact wp_false (fun n => by show onE (match fld u a b with | some f => _ | none => _) _ = _; rw [h]; rfl)
  | some f =>
    cases h2 : fput M u f v with
    | none => rw [wp_false (fun n => by show onE (match fld u a b with | some f => _ | none => _) _ = _; rw [h]; show onE (match fput M u f v with | some M' => _ | none => _) _ = _; rw [h2]; rfl)]; show False = onO (fput M u f v) _; rw [h2]; rfl
    | some M' => rw [wp_step (fun n => by show onE (match fld u a b with | some f => _ | none => _) _ = _; rw [h]; show onE (match fput M u f v with | some M' => _ | none => _) _ = _; rw [h2]; rfl)]; show _ = onO (fput M u f v) _; rw [h2]; rfl
theorem r_iaload {y : Nat} {is : List Op} {ft : Nat} {L : Lo} {S : List Value} {M : Mem} {Q : Option Value → Mem → Prop} {a b c : Nat} {u : Nat} {i : Int32} : WP y ((.iaload, a, b, c) :: is) ft L (.int i :: .ref u :: S) M Q = (inb u i ∧ WP y is ft L (.int (M u i.toNatClampNeg) :: S) M Q) := by
  unfold inb
  cases h : alen u with
  | none => rw [wp_false (fun n => by show onE (match alen u with | some n => _ | none => _) _ = _; rw [h]; rfl)]; simp [onO]
  | some n =>
    by_cases hc : i < 0 ∨ n ≤ i.toNatClampNeg
    · rw [wp_false (fun n => by show onE (match alen u with | some n => _ | none => _) _ = _; rw [h]; show onE (if _ then _ else _) _ = _; rw [if_pos hc]; rfl)]; simp [onO, vp_in, hc]
    · rw [wp_step (fun n => by show onE (match alen u with | some n => _ | none => _) _ = _; rw [h]; show onE (if _ then _ else _) _ = _; rw [if_neg hc]; rfl)]; simp [onO, vp_in, hc]
theorem r_iastore {y : Nat} {is : List Op} {ft : Nat} {L : Lo} {S : List Value} {M : Mem} {Q : Option Value → Mem → Prop} {a b c : Nat} {u : Nat} {i x : Int32} : WP y ((.iastore, a, b, c) :: is) ft L (.int x :: .int i :: .ref u :: S) M Q = (inb u i ∧ WP y is ft L S (stM M u i.toNatClampNeg x) Q) := by
  unfold inb
  cases h : alen u with
  | none => rw [wp_false (fun n => by show onE (match alen u with | some n => _ | none => _) _ = _; rw [h]; rfl)]; simp [onO]
  | some n =>
    by_cases hc : i < 0 ∨ n ≤ i.toNatClampNeg
    · rw [wp_false (fun n => by show onE (match alen u with | some n => _ | none => _) _ = _; rw [h]; show onE (if _ then _ else _) _ = _; rw [if_pos hc]; rfl)]; simp [onO, vp_in, hc]
    · rw [wp_step (fun n => by show onE (match alen u with | some n => _ | none => _) _ = _; rw [h]; show onE (if _ then _ else _) _ = _; rw [if_neg hc]; rfl)]; simp [onO, vp_in, hc]
theorem r_aaload {y : Nat} {is : List Op} {ft : Nat} {L : Lo} {S : List Value} {M : Mem} {Q : Option Value → Mem → Prop} {a b c : Nat} {u : Nat} {i : Int32} : WP y ((.aaload, a, b, c) :: is) ft L (.int i :: .ref u :: S) M Q = (vp_in i (rarr u).length ∧ WP y is ft L (.ref ((rarr u).getD i.toNatClampNeg 0) :: S) M Q) := by
  by_cases hc : i < 0 ∨ (rarr u).length ≤ i.toNatClampNeg
  · rw [wp_false (fun n => by show onE (if _ then _ else _) _ = _; rw [if_pos hc]; rfl)]; simp [vp_in, hc]
  · rw [wp_step (fun n => by show onE (if _ then _ else _) _ = _; rw [if_neg hc]; rfl)]; simp [vp_in, hc]
theorem r_arraylength {y : Nat} {is : List Op} {ft : Nat} {L : Lo} {S : List Value} {M : Mem} {Q : Option Value → Mem → Prop} {a b c : Nat} {u : Nat} : WP y ((.arraylength, a, b, c) :: is) ft L (.ref u :: S) M Q = onO (alen u) (fun n => WP y is ft L (.int (nI n) :: S) M Q) := by
  cases h : alen u with
  | none => exact wp_false (fun n => by show onE (match alen u with | some f => _ | none => _) _ = _; rw [h]; rfl)
  | some f => exact wp_step (fun n => by show onE (match alen u with | some f => _ | none => _) _ = _; rw [h]; rfl)
theorem r_if_eq {y : Nat} {is : List Op} {ft : Nat} {L : Lo} {S : List Value} {M : Mem} {Q : Option Value → Mem → Prop} {a b c : Nat} {k : Int} {u : Int32} : WP y ((.ifCond .eq k, a, b, c) :: is) ft L (.int u :: S) M Q = brc (u = nI 0) (WP y [] a L S M Q) (WP y is ft L S M Q) := by
  by_cases h : u = nI 0
  · rw [brc_pos h]; exact wp_step (fun n => by show (if decide (u = nI 0) then _ else _) = _; rw [decide_eq_true h]; rfl)
  · rw [brc_neg h]; exact wp_step (fun n => by show (if decide (u = nI 0) then _ else _) = _; rw [decide_eq_false h]; rfl)
theorem r_icmp_eq {y : Nat} {is : List Op} {ft : Nat} {L : Lo} {S : List Value} {M : Mem} {Q : Option Value → Mem → Prop} {a b c : Nat} {k : Int} {u v : Int32} : WP y ((.if_icmp .eq k, a, b, c) :: is) ft L (.int v :: .int u :: S) M Q = brc (u = v) (WP y [] a L S M Q) (WP y is ft L S M Q) := by
  by_cases h : u = v
  · rw [brc_pos h]; exact wp_step (fun n => by show (if decide (u = v) then _ else _) = _; rw [decide_eq_true h]; rfl)
  · rw [brc_neg h]; exact wp_step (fun n => by show (if decide (u = v) then _ else _) = _; rw [decide_eq_false h]; rfl)
theorem r_if_ne {y : Nat} {is : List Op} {ft : Nat} {L : Lo} {S : List Value} {M : Mem} {Q : Option Value → Mem → Prop} {a b c : Nat} {k : Int} {u : Int32} : WP y ((.ifCond .ne k, a, b, c) :: is) ft L (.int u :: S) M Q = brc (¬ u = nI 0) (WP y [] a L S M Q) (WP y is ft L S M Q) := by
  by_cases h : ¬ u = nI 0
  · rw [brc_pos h]; exact wp_step (fun n => by show (if decide (¬ u = nI 0) then _ else _) = _; rw [decide_eq_true h]; rfl)
  · rw [brc_neg h]; exact wp_step (fun n => by show (if decide (¬ u = nI 0) then _ else _) = _; rw [decide_eq_false h]; rfl)
theorem r_icmp_ne {y : Nat} {is : List Op} {ft : Nat} {L : Lo} {S : List Value} {M : Mem} {Q : Option Value → Mem → Prop} {a b c : Nat} {k : Int} {u v : Int32} : WP y ((.if_icmp .ne k, a, b, c) :: is) ft L (.int v :: .int u :: S) M Q = brc (¬ u = v) (WP y [] a L S M Q) (WP y is ft L S M Q) := by
  by_cases h : ¬ u = v
  · rw [brc_pos h]; exact wp_step (fun n => by show (if decide (¬ u = v) then _ else _) = _; rw [decide_eq_true h]; rfl)
  · rw [brc_neg h]; exact wp_step (fun n => by show (if decide (¬ u = v) then _ else _) = _; rw [decide_eq_false h]; rfl)
theorem r_if_lt {y : Nat} {is : List Op} {ft : Nat} {L : Lo} {S : List Value} {M : Mem} {Q : Option Value → Mem → Prop} {a b c : Nat} {k : Int} {u : Int32} : WP y ((.ifCond .lt k, a, b, c) :: is) ft L (.int u :: S) M Q = brc (u < nI 0) (WP y [] a L S M Q) (WP y is ft L S M Q) := by
  by_cases h : u < nI 0
  · rw [brc_pos h]; exact wp_step (fun n => by show (if decide (u < nI 0) then _ else _) = _; rw [decide_eq_true h]; rfl)
  · rw [brc_neg h]; exact wp_step (fun n => by show (if decide (u < nI 0) then _ else _) = _; rw [decide_eq_false h]; rfl)
theorem r_icmp_lt {y : Nat} {is : List Op} {ft : Nat} {L : Lo} {S : List Value} {M : Mem} {Q : Option Value → Mem → Prop} {a b c : Nat} {k : Int} {u v : Int32} : WP y ((.if_icmp .lt k, a, b, c) :: is) ft L (.int v :: .int u :: S) M Q = brc (u < v) (WP y [] a L S M Q) (WP y is ft L S M Q) := by
  by_cases h : u < v
  · rw [brc_pos h]; exact wp_step (fun n => by show (if decide (u < v) then _ else _) = _; rw [decide_eq_true h]; rfl)
  · rw [brc_neg h]; exact wp_step (fun n => by show (if decide (u < v) then _ else _) = _; rw [decide_eq_false h]; rfl)
theorem r_if_ge {y : Nat} {is : List Op} {ft : Nat} {L : Lo} {S : List Value} {M : Mem} {Q : Option Value → Mem → Prop} {a b c : Nat} {k : Int} {u : Int32} : WP y ((.ifCond .ge k, a, b, c) :: is) ft L (.int u :: S) M Q = brc (nI 0 ≤ u) (WP y [] a L S M Q) (WP y is ft L S M Q) := by
  by_cases h : nI 0 ≤ u
  · rw [brc_pos h]; exact wp_step (fun n => by show (if decide (nI 0 ≤ u) then _ else _) = _; rw [decide_eq_true h]; rfl)
  · rw [brc_neg h]; exact wp_step (fun n => by show (if decide (nI 0 ≤ u) then _ else _) = _; rw [decide_eq_false h]; rfl)
theorem r_icmp_ge {y : Nat} {is : List Op} {ft : Nat} {L : Lo} {S : List Value} {M : Mem} {Q : Option Value → Mem → Prop} {a b c : Nat} {k : Int} {u v : Int32} : WP y ((.if_icmp .ge k, a, b, c) :: is) ft L (.int v :: .int u :: S) M Q = brc (v ≤ u) (WP y [] a L S M Q) (WP y is ft L S M Q) := by
  by_cases h : v ≤ u
  · rw [brc_pos h]; exact wp_step (fun n => by show (if decide (v ≤ u) then _ else _) = _; rw [decide_eq_true h]; rfl)
  · rw [brc_neg h]; exact wp_step (fun n => by show (if decide (v ≤ u) then _ else _) = _; rw [decide_eq_false h]; rfl)
theorem r_if_gt {y : Nat} {is : List Op} {ft : Nat} {L : Lo} {S : List Value} {M : Mem} {Q : Option Value → Mem → Prop} {a b c : Nat} {k : Int} {u : Int32} : WP y ((.ifCond .gt k, a, b, c) :: is) ft L (.int u :: S) M Q = brc (nI 0 < u) (WP y [] a L S M Q) (WP y is ft L S M Q) := by
  by_cases h : nI 0 < u
  · rw [brc_pos h]; exact wp_step (fun n => by show (if decide (nI 0 < u) then _ else _) = _; rw [decide_eq_true h]; rfl)
  · rw [brc_neg h]; exact wp_step (fun n => by show (if decide (nI 0 < u) then _ else _) = _; rw [decide_eq_false h]; rfl)
theorem r_icmp_gt {y : Nat} {is : List Op} {ft : Nat} {L : Lo} {S : List Value} {M : Mem} {Q : Option Value → Mem → Prop} {a b c : Nat} {k : Int} {u v : Int32} : WP y ((.if_icmp .gt k, a, b, c) :: is) ft L (.int v :: .int u :: S) M Q = brc (v < u) (WP y [] a L S M Q) (WP y is ft L S M Q) := by
  by_cases h : v < u
  · rw [brc_pos h]; exact wp_step (fun n => by show (if decide (v < u) then _ else _) = _; rw [decide_eq_true h]; rfl)
  · rw [brc_neg h]; exact wp_step (fun n => by show (if decide (v < u) then _ else _) = _; rw [decide_eq_false h]; rfl)
theorem r_if_le {y : Nat} {is : List Op} {ft : Nat} {L : Lo} {S : List Value} {M : Mem} {Q : Option Value → Mem → Prop} {a b c : Nat} {k : Int} {u : Int32} : WP y ((.ifCond .le k, a, b, c) :: is) ft L (.int u :: S) M Q = brc (u ≤ nI 0) (WP y [] a L S M Q) (WP y is ft L S M Q) := by
  by_cases h : u ≤ nI 0
  · rw [brc_pos h]; exact wp_step (fun n => by show (if decide (u ≤ nI 0) then _ else _) = _; rw [decide_eq_true h]; rfl)
  · rw [brc_neg h]; exact wp_step (fun n => by show (if decide (u ≤ nI 0) then _ else _) = _; rw [decide_eq_false h]; rfl)
theorem r_icmp_le {y : Nat} {is : List Op} {ft : Nat} {L : Lo} {S : List Value} {M : Mem} {Q : Option Value → Mem → Prop} {a b c : Nat} {k : Int} {u v : Int32} : WP y ((.if_icmp .le k, a, b, c) :: is) ft L (.int v :: .int u :: S) M Q = brc (u ≤ v) (WP y [] a L S M Q) (WP y is ft L S M Q) := by
  by_cases h : u ≤ v
  · rw [brc_pos h]; exact wp_step (fun n => by show (if decide (u ≤ v) then _ else _) = _; rw [decide_eq_true h]; rfl)
  · rw [brc_neg h]; exact wp_step (fun n => by show (if decide (u ≤ v) then _ else _) = _; rw [decide_eq_false h]; rfl)
theorem r_goto {y : Nat} {is : List Op} {ft : Nat} {L : Lo} {S : List Value} {M : Mem} {Q : Option Value → Mem → Prop} {a b c : Nat} {k : Int} : WP y ((.goto k, a, b, c) :: is) ft L S M Q = WP y [] a L S M Q := wp_step (fun n => rfl)
theorem r_switch {y : Nat} {is : List Op} {ft : Nat} {L : Lo} {S : List Value} {M : Mem} {Q : Option Value → Mem → Prop} {a b c : Nat} {k1 k2 k3 : Int} {k4 : Array Int} {u : Int32} : WP y ((.tableswitch k1 k2 k3 k4, a, b, c) :: is) ft L (.int u :: S) M Q = WP y [] (swt a u) L S M Q := wp_step (fun n => rfl)
theorem r_ireturn0 {y : Nat} {is : List Op} {ft : Nat} {L : Lo} {M : Mem} {Q : Option Value → Mem → Prop} {b c : Nat} {u : Int32} : WP y ((.ireturn, 0, b, c) :: is) ft L [.int u] M Q = Q (some (.int u)) M := wp_done (fun n => by simp [arun, stp, rtI])
theorem r_ireturn1 {y : Nat} {is : List Op} {ft : Nat} {L : Lo} {M : Mem} {Q : Option Value → Mem → Prop} {b c : Nat} {u : Int32} : WP y ((.ireturn, 1, b, c) :: is) ft L [.int u] M Q = ((u = nI 0 ∨ u = nI 1) ∧ Q (some (.int u)) M) := by
  rw [nI_0, show nI 1 = 1 from rfl]
  by_cases h : (1 : Nat) = 0 ∨ u = 0 ∨ u = 1
  · rw [wp_done (fun n => by show (if _ then _ else _) = _; rw [if_pos h])]; simp at h; simp [h]
  · rw [wp_false (fun n => by show (if _ then _ else _) = _; rw [if_neg h])]; simp at h; simp [h]
theorem r_lreturn {y : Nat} {is : List Op} {ft : Nat} {L : Lo} {M : Mem} {Q : Option Value → Mem → Prop} {a b c : Nat} {u : Int64} : WP y ((.lreturn, a, b, c) :: is) ft L [.long u] M Q = Q (some (.long u)) M := wp_done (fun n => rfl)
theorem r_areturn {y : Nat} {is : List Op} {ft : Nat} {L : Lo} {M : Mem} {Q : Option Value → Mem → Prop} {a b c : Nat} {u : Nat} : WP y ((.areturn, a, b, c) :: is) ft L [.ref u] M Q = Q (some (.ref u)) M := wp_done (fun n => rfl)
theorem r_return {y : Nat} {is : List Op} {ft : Nat} {L : Lo} {M : Mem} {Q : Option Value → Mem → Prop} {a b c : Nat}  : WP y ((.return_, a, b, c) :: is) ft L [] M Q = Q none M := wp_done (fun n => rfl)
theorem r_inv0 {y : Nat} {is : List Op} {ft : Nat} {L : Lo} {S : List Value} {M : Mem} {Q : Option Value → Mem → Prop} {a c : Nat} {k u : Nat}  : WP y ((.invokevirtual k, a, 0, c) :: is) ft L (.ref u :: S) M Q = (cls u = c ∧ S.length ≤ 4 ∧ Ct a [.ref u] M (fun r M' => WP y is ft L (r.toList ++ S) M' Q)) := by
  by_cases h : cls u = c ∧ S.length ≤ 4
  · rw [wp_call (z := a) (as := [.ref u]) (S' := S) (is' := is) (fun n => by show (if _ then _ else _) = _; rw [if_pos h]; rfl)]; simp [h]
  · rw [wp_false (fun n => by show (if _ then _ else _) = _; rw [if_neg h])]
    apply propext
    exact ⟨False.elim, fun q => h ⟨q.1, q.2.1⟩⟩
theorem r_inv1 {y : Nat} {is : List Op} {ft : Nat} {L : Lo} {S : List Value} {M : Mem} {Q : Option Value → Mem → Prop} {a c : Nat} {k u : Nat} {x1 : Value} : WP y ((.invokevirtual k, a, 1, c) :: is) ft L (x1 :: .ref u :: S) M Q = (cls u = c ∧ S.length ≤ 4 ∧ Ct a [.ref u, x1] M (fun r M' => WP y is ft L (r.toList ++ S) M' Q)) := by
  by_cases h : cls u = c ∧ S.length ≤ 4
  · rw [wp_call (z := a) (as := [.ref u, x1]) (S' := S) (is' := is) (fun n => by show (if _ then _ else _) = _; rw [if_pos h]; rfl)]; simp [h]
  · rw [wp_false (fun n => by show (if _ then _ else _) = _; rw [if_neg h])]
    apply propext
    exact ⟨False.elim, fun q => h ⟨q.1, q.2.1⟩⟩
theorem r_inv2 {y : Nat} {is : List Op} {ft : Nat} {L : Lo} {S : List Value} {M : Mem} {Q : Option Value → Mem → Prop} {a c : Nat} {k u : Nat} {x1 x2 : Value} : WP y ((.invokevirtual k, a, 2, c) :: is) ft L (x2 :: x1 :: .ref u :: S) M Q = (cls u = c ∧ S.length ≤ 4 ∧ Ct a [.ref u, x1, x2] M (fun r M' => WP y is ft L (r.toList ++ S) M' Q)) := by
  by_cases h : cls u = c ∧ S.length ≤ 4
  · rw [wp_call (z := a) (as := [.ref u, x1, x2]) (S' := S) (is' := is) (fun n => by show (if _ then _ else _) = _; rw [if_pos h]; rfl)]; simp [h]
  · rw [wp_false (fun n => by show (if _ then _ else _) = _; rw [if_neg h])]
    apply propext
    exact ⟨False.elim, fun q => h ⟨q.1, q.2.1⟩⟩
theorem r_inv3 {y : Nat} {is : List Op} {ft : Nat} {L : Lo} {S : List Value} {M : Mem} {Q : Option Value → Mem → Prop} {a c : Nat} {k u : Nat} {x1 x2 x3 : Value} : WP y ((.invokevirtual k, a, 3, c) :: is) ft L (x3 :: x2 :: x1 :: .ref u :: S) M Q = (cls u = c ∧ S.length ≤ 4 ∧ Ct a [.ref u, x1, x2, x3] M (fun r M' => WP y is ft L (r.toList ++ S) M' Q)) := by
  by_cases h : cls u = c ∧ S.length ≤ 4
  · rw [wp_call (z := a) (as := [.ref u, x1, x2, x3]) (S' := S) (is' := is) (fun n => by show (if _ then _ else _) = _; rw [if_pos h]; rfl)]; simp [h]
  · rw [wp_false (fun n => by show (if _ then _ else _) = _; rw [if_neg h])]
    apply propext
    exact ⟨False.elim, fun q => h ⟨q.1, q.2.1⟩⟩
theorem r_inv4 {y : Nat} {is : List Op} {ft : Nat} {L : Lo} {S : List Value} {M : Mem} {Q : Option Value → Mem → Prop} {a c : Nat} {k u : Nat} {x1 x2 x3 x4 : Value} : WP y ((.invokevirtual k, a, 4, c) :: is) ft L (x4 :: x3 :: x2 :: x1 :: .ref u :: S) M Q = (cls u = c ∧ S.length ≤ 4 ∧ Ct a [.ref u, x1, x2, x3, x4] M (fun r M' => WP y is ft L (r.toList ++ S) M' Q)) := by
  by_cases h : cls u = c ∧ S.length ≤ 4
  · rw [wp_call (z := a) (as := [.ref u, x1, x2, x3, x4]) (S' := S) (is' := is) (fun n => by show (if _ then _ else _) = _; rw [if_pos h]; rfl)]; simp [h]
  · rw [wp_false (fun n => by show (if _ then _ else _) = _; rw [if_neg h])]
    apply propext
    exact ⟨False.elim, fun q => h ⟨q.1, q.2.1⟩⟩
theorem r_inv5 {y : Nat} {is : List Op} {ft : Nat} {L : Lo} {S : List Value} {M : Mem} {Q : Option Value → Mem → Prop} {a c : Nat} {k u : Nat} {x1 x2 x3 x4 x5 : Value} : WP y ((.invokevirtual k, a, 5, c) :: is) ft L (x5 :: x4 :: x3 :: x2 :: x1 :: .ref u :: S) M Q = (cls u = c ∧ S.length ≤ 4 ∧ Ct a [.ref u, x1, x2, x3, x4, x5] M (fun r M' => WP y is ft L (r.toList ++ S) M' Q)) := by
  by_cases h : cls u = c ∧ S.length ≤ 4
  · rw [wp_call (z := a) (as := [.ref u, x1, x2, x3, x4, x5]) (S' := S) (is' := is) (fun n => by show (if _ then _ else _) = _; rw [if_pos h]; rfl)]; simp [h]
  · rw [wp_false (fun n => by show (if _ then _ else _) = _; rw [if_neg h])]
    apply propext
    exact ⟨False.elim, fun q => h ⟨q.1, q.2.1⟩⟩
theorem r_ins0 {y : Nat} {is : List Op} {ft : Nat} {L : Lo} {S : List Value} {M : Mem} {Q : Option Value → Mem → Prop} {a c : Nat} {k : Nat}  (hz : ¬ 997 ≤ a) : WP y ((.invokestatic k, a, 0, c) :: is) ft L (S) M Q = (S.length ≤ 4 ∧ Ct a [] M (fun r M' => WP y is ft L (r.toList ++ S) M' Q)) := by
  by_cases h : S.length ≤ 4
  · rw [wp_call (z := a) (as := []) (S' := S) (is' := is) (fun n => by show (if _ then _ else if _ then _ else _) = _; rw [if_neg hz, if_pos (by simp; omega)]; rfl)]; simp [h]
  · rw [wp_false (fun n => by show (if _ then _ else if _ then _ else _) = _; rw [if_neg hz, if_neg (by simp; omega)])]; simp [h]
theorem r_ins1 {y : Nat} {is : List Op} {ft : Nat} {L : Lo} {S : List Value} {M : Mem} {Q : Option Value → Mem → Prop} {a c : Nat} {k : Nat} {x1 : Value} (hz : ¬ 997 ≤ a) : WP y ((.invokestatic k, a, 1, c) :: is) ft L (x1 :: S) M Q = (S.length ≤ 4 ∧ Ct a [x1] M (fun r M' => WP y is ft L (r.toList ++ S) M' Q)) := by
  by_cases h : S.length ≤ 4
  · rw [wp_call (z := a) (as := [x1]) (S' := S) (is' := is) (fun n => by show (if _ then _ else if _ then _ else _) = _; rw [if_neg hz, if_pos (by simp; omega)]; rfl)]; simp [h]
  · rw [wp_false (fun n => by show (if _ then _ else if _ then _ else _) = _; rw [if_neg hz, if_neg (by simp; omega)])]; simp [h]
theorem r_ins2 {y : Nat} {is : List Op} {ft : Nat} {L : Lo} {S : List Value} {M : Mem} {Q : Option Value → Mem → Prop} {a c : Nat} {k : Nat} {x1 x2 : Value} (hz : ¬ 997 ≤ a) : WP y ((.invokestatic k, a, 2, c) :: is) ft L (x2 :: x1 :: S) M Q = (S.length ≤ 4 ∧ Ct a [x1, x2] M (fun r M' => WP y is ft L (r.toList ++ S) M' Q)) := by
  by_cases h : S.length ≤ 4
  · rw [wp_call (z := a) (as := [x1, x2]) (S' := S) (is' := is) (fun n => by show (if _ then _ else if _ then _ else _) = _; rw [if_neg hz, if_pos (by simp; omega)]; rfl)]; simp [h]
  · rw [wp_false (fun n => by show (if _ then _ else if _ then _ else _) = _; rw [if_neg hz, if_neg (by simp; omega)])]; simp [h]
theorem r_ins3 {y : Nat} {is : List Op} {ft : Nat} {L : Lo} {S : List Value} {M : Mem} {Q : Option Value → Mem → Prop} {a c : Nat} {k : Nat} {x1 x2 x3 : Value} (hz : ¬ 997 ≤ a) : WP y ((.invokestatic k, a, 3, c) :: is) ft L (x3 :: x2 :: x1 :: S) M Q = (S.length ≤ 4 ∧ Ct a [x1, x2, x3] M (fun r M' => WP y is ft L (r.toList ++ S) M' Q)) := by
  by_cases h : S.length ≤ 4
  · rw [wp_call (z := a) (as := [x1, x2, x3]) (S' := S) (is' := is) (fun n => by show (if _ then _ else if _ then _ else _) = _; rw [if_neg hz, if_pos (by simp; omega)]; rfl)]; simp [h]
  · rw [wp_false (fun n => by show (if _ then _ else if _ then _ else _) = _; rw [if_neg hz, if_neg (by simp; omega)])]; simp [h]
theorem r_ins4 {y : Nat} {is : List Op} {ft : Nat} {L : Lo} {S : List Value} {M : Mem} {Q : Option Value → Mem → Prop} {a c : Nat} {k : Nat} {x1 x2 x3 x4 : Value} (hz : ¬ 997 ≤ a) : WP y ((.invokestatic k, a, 4, c) :: is) ft L (x4 :: x3 :: x2 :: x1 :: S) M Q = (S.length ≤ 4 ∧ Ct a [x1, x2, x3, x4] M (fun r M' => WP y is ft L (r.toList ++ S) M' Q)) := by
  by_cases h : S.length ≤ 4
  · rw [wp_call (z := a) (as := [x1, x2, x3, x4]) (S' := S) (is' := is) (fun n => by show (if _ then _ else if _ then _ else _) = _; rw [if_neg hz, if_pos (by simp; omega)]; rfl)]; simp [h]
  · rw [wp_false (fun n => by show (if _ then _ else if _ then _ else _) = _; rw [if_neg hz, if_neg (by simp; omega)])]; simp [h]
theorem r_ins5 {y : Nat} {is : List Op} {ft : Nat} {L : Lo} {S : List Value} {M : Mem} {Q : Option Value → Mem → Prop} {a c : Nat} {k : Nat} {x1 x2 x3 x4 x5 : Value} (hz : ¬ 997 ≤ a) : WP y ((.invokestatic k, a, 5, c) :: is) ft L (x5 :: x4 :: x3 :: x2 :: x1 :: S) M Q = (S.length ≤ 4 ∧ Ct a [x1, x2, x3, x4, x5] M (fun r M' => WP y is ft L (r.toList ++ S) M' Q)) := by
  by_cases h : S.length ≤ 4
  · rw [wp_call (z := a) (as := [x1, x2, x3, x4, x5]) (S' := S) (is' := is) (fun n => by show (if _ then _ else if _ then _ else _) = _; rw [if_neg hz, if_pos (by simp; omega)]; rfl)]; simp [h]
  · rw [wp_false (fun n => by show (if _ then _ else if _ then _ else _) = _; rw [if_neg hz, if_neg (by simp; omega)])]; simp [h]
theorem r_min {y : Nat} {is : List Op} {ft : Nat} {L : Lo} {S : List Value} {M : Mem} {Q : Option Value → Mem → Prop} {b c : Nat} {k : Nat} {u v : Int32} : WP y ((.invokestatic k, 998, b, c) :: is) ft L (.int v :: .int u :: S) M Q = (S.length ≤ 4 ∧ WP y is ft L (.int (if v < u then v else u) :: S) M Q) := by
  by_cases h : S.length ≤ 4
  · rw [wp_step (y' := y) (is' := is) (ft' := ft) (L' := L) (S' := .int (if v < u then v else u) :: S) (M' := M) (fun n => by simp [arun, stp, eff, mm2, onE, h])]; simp [h]
  · rw [wp_false (fun n => by simp [arun, stp, eff, mm2, onE, h])]; simp [h]
theorem r_max {y : Nat} {is : List Op} {ft : Nat} {L : Lo} {S : List Value} {M : Mem} {Q : Option Value → Mem → Prop} {b c : Nat} {k : Nat} {u v : Int32} : WP y ((.invokestatic k, 997, b, c) :: is) ft L (.int v :: .int u :: S) M Q = (S.length ≤ 4 ∧ WP y is ft L (.int (if u < v then v else u) :: S) M Q) := by
  by_cases h : S.length ≤ 4
  · rw [wp_step (y' := y) (is' := is) (ft' := ft) (L' := L) (S' := .int (if u < v then v else u) :: S) (M' := M) (fun n => by simp [arun, stp, eff, mm2, onE, h])]; simp [h]
  · rw [wp_false (fun n => by simp [arun, stp, eff, mm2, onE, h])]; simp [h]
theorem r_acopy {y : Nat} {is : List Op} {ft : Nat} {L : Lo} {S : List Value} {M : Mem} {Q : Option Value → Mem → Prop} {b c : Nat} {k u v : Nat} {n sp dp : Int32} : WP y ((.invokestatic k, 999, b, c) :: is) ft L (.int n :: .int dp :: .ref v :: .int sp :: .ref u :: S) M Q = (onO (alen u) (fun n0 => onO (alen v) (fun n1 => ¬ sp < nI 0 ∧ ¬ dp < nI 0 ∧ ¬ n < nI 0 ∧ sp.toNatClampNeg + n.toNatClampNeg ≤ n0 ∧ dp.toNatClampNeg + n.toNatClampNeg ≤ n1 ∧ S.length ≤ 4)) ∧ WP y is ft L S (cpyM M u v sp.toNatClampNeg dp.toNatClampNeg n.toNatClampNeg) Q) := by
  cases h0 : alen u with
  | none => rw [wp_false (fun n => by show onE (match alen u, alen v with | some n0, some n1 => _ | _, _ => _) _ = _; rw [h0]; rfl)]; simp [onO]
  | some n0 =>
    cases h1 : alen v with
    | none => rw [wp_false (fun n => by show onE (match alen u, alen v with | some n0, some n1 => _ | _, _ => _) _ = _; rw [h0, h1]; rfl)]; simp [onO]
    | some n1 =>
      by_cases h : ¬ sp < 0 ∧ ¬ dp < 0 ∧ ¬ n < 0 ∧ sp.toNatClampNeg + n.toNatClampNeg ≤ n0 ∧ dp.toNatClampNeg + n.toNatClampNeg ≤ n1 ∧ S.length ≤ 4
      · rw [wp_step (fun n => by show onE (match alen u, alen v with | some n0, some n1 => _ | _, _ => _) _ = _; rw [h0, h1]; show onE (if _ then _ else _) _ = _; rw [if_pos h]; rfl)]
        exact propext ⟨fun q => ⟨h, q⟩, fun q => q.2⟩
      · rw [wp_false (fun n => by show onE (match alen u, alen v with | some n0, some n1 => _ | _, _ => _) _ = _; rw [h0, h1]; show onE (if _ then _ else _) _ = _; rw [if_neg h]; rfl)]
        exact propext ⟨False.elim, fun q => h q.1⟩
theorem fv0 {M : Mem} {c i j : Nat} : fval M c (0, i, j) = .ref i := rfl
theorem fv1 {M : Mem} {c i j : Nat} : fval M c (1, i, j) = .int (M c i) := rfl
theorem fv2 {M : Mem} {c i j : Nat} : fval M c (2, i, j) = .int (M c i) := rfl
theorem fv3 {M : Mem} {c i j : Nat} : fval M c (3, i, j) = .long (jn (M c i) (M c j)) := rfl
theorem fp1 {M : Mem} {c i j : Nat} {x : Int32} : fput M c (1, i, j) (.int x) = some (stM M c i x) := rfl
theorem fp20 {M : Mem} {c i j : Nat} : fput M c (2, i, j) (.int (nI 0)) = some (stM M c i (nI 0)) := rfl
theorem fp21 {M : Mem} {c i j : Nat} : fput M c (2, i, j) (.int (nI 1)) = some (stM M c i (nI 1)) := rfl
theorem fp3 {M : Mem} {c i j : Nat} {x : Int64} : fput M c (3, i, j) (.long x) = some (stM (stM M c i (jnl x)) c j (jnh x)) := rfl
theorem tl_s {v : Value} {S : List Value} : (some v).toList ++ S = v :: S := rfl
theorem tl_n {S : List Value} : (none : Option Value).toList ++ S = S := rfl
theorem lg0 {v0 : Option Value} {L : Lo} : lget (v0 :: L) 0 = v0 := rfl
theorem ls0 {v0 w : Option Value} {L : Lo} : lput (v0 :: L) 0 w = w :: L := rfl
theorem lg1 {v0 v1 : Option Value} {L : Lo} : lget (v0 :: v1 :: L) 1 = v1 := rfl
theorem ls1 {v0 v1 w : Option Value} {L : Lo} : lput (v0 :: v1 :: L) 1 w = v0 :: w :: L := rfl
theorem lk1 {v0 : Option Value} {L : Lo} : lkill (v0 :: L) 1 = kl v0 :: L := rfl
theorem lg2 {v0 v1 v2 : Option Value} {L : Lo} : lget (v0 :: v1 :: v2 :: L) 2 = v2 := rfl
theorem ls2 {v0 v1 v2 w : Option Value} {L : Lo} : lput (v0 :: v1 :: v2 :: L) 2 w = v0 :: v1 :: w :: L := rfl
theorem lk2 {v0 v1 : Option Value} {L : Lo} : lkill (v0 :: v1 :: L) 2 = v0 :: kl v1 :: L := rfl
theorem lg3 {v0 v1 v2 v3 : Option Value} {L : Lo} : lget (v0 :: v1 :: v2 :: v3 :: L) 3 = v3 := rfl
theorem ls3 {v0 v1 v2 v3 w : Option Value} {L : Lo} : lput (v0 :: v1 :: v2 :: v3 :: L) 3 w = v0 :: v1 :: v2 :: w :: L := rfl
theorem lk3 {v0 v1 v2 : Option Value} {L : Lo} : lkill (v0 :: v1 :: v2 :: L) 3 = v0 :: v1 :: kl v2 :: L := rfl
theorem lg4 {v0 v1 v2 v3 v4 : Option Value} {L : Lo} : lget (v0 :: v1 :: v2 :: v3 :: v4 :: L) 4 = v4 := rfl
theorem ls4 {v0 v1 v2 v3 v4 w : Option Value} {L : Lo} : lput (v0 :: v1 :: v2 :: v3 :: v4 :: L) 4 w = v0 :: v1 :: v2 :: v3 :: w :: L := rfl
theorem lk4 {v0 v1 v2 v3 : Option Value} {L : Lo} : lkill (v0 :: v1 :: v2 :: v3 :: L) 4 = v0 :: v1 :: v2 :: kl v3 :: L := rfl
theorem lg5 {v0 v1 v2 v3 v4 v5 : Option Value} {L : Lo} : lget (v0 :: v1 :: v2 :: v3 :: v4 :: v5 :: L) 5 = v5 := rfl
theorem ls5 {v0 v1 v2 v3 v4 v5 w : Option Value} {L : Lo} : lput (v0 :: v1 :: v2 :: v3 :: v4 :: v5 :: L) 5 w = v0 :: v1 :: v2 :: v3 :: v4 :: w :: L := rfl
theorem lk5 {v0 v1 v2 v3 v4 : Option Value} {L : Lo} : lkill (v0 :: v1 :: v2 :: v3 :: v4 :: L) 5 = v0 :: v1 :: v2 :: v3 :: kl v4 :: L := rfl
theorem lg6 {v0 v1 v2 v3 v4 v5 v6 : Option Value} {L : Lo} : lget (v0 :: v1 :: v2 :: v3 :: v4 :: v5 :: v6 :: L) 6 = v6 := rfl
theorem ls6 {v0 v1 v2 v3 v4 v5 v6 w : Option Value} {L : Lo} : lput (v0 :: v1 :: v2 :: v3 :: v4 :: v5 :: v6 :: L) 6 w = v0 :: v1 :: v2 :: v3 :: v4 :: v5 :: w :: L := rfl
theorem lk6 {v0 v1 v2 v3 v4 v5 : Option Value} {L : Lo} : lkill (v0 :: v1 :: v2 :: v3 :: v4 :: v5 :: L) 6 = v0 :: v1 :: v2 :: v3 :: v4 :: kl v5 :: L := rfl
theorem lg7 {v0 v1 v2 v3 v4 v5 v6 v7 : Option Value} {L : Lo} : lget (v0 :: v1 :: v2 :: v3 :: v4 :: v5 :: v6 :: v7 :: L) 7 = v7 := rfl
theorem ls7 {v0 v1 v2 v3 v4 v5 v6 v7 w : Option Value} {L : Lo} : lput (v0 :: v1 :: v2 :: v3 :: v4 :: v5 :: v6 :: v7 :: L) 7 w = v0 :: v1 :: v2 :: v3 :: v4 :: v5 :: v6 :: w :: L := rfl
theorem lk7 {v0 v1 v2 v3 v4 v5 v6 : Option Value} {L : Lo} : lkill (v0 :: v1 :: v2 :: v3 :: v4 :: v5 :: v6 :: L) 7 = v0 :: v1 :: v2 :: v3 :: v4 :: v5 :: kl v6 :: L := rfl
theorem lg8 {v0 v1 v2 v3 v4 v5 v6 v7 v8 : Option Value} {L : Lo} : lget (v0 :: v1 :: v2 :: v3 :: v4 :: v5 :: v6 :: v7 :: v8 :: L) 8 = v8 := rfl
theorem ls8 {v0 v1 v2 v3 v4 v5 v6 v7 v8 w : Option Value} {L : Lo} : lput (v0 :: v1 :: v2 :: v3 :: v4 :: v5 :: v6 :: v7 :: v8 :: L) 8 w = v0 :: v1 :: v2 :: v3 :: v4 :: v5 :: v6 :: v7 :: w :: L := rfl
theorem lk8 {v0 v1 v2 v3 v4 v5 v6 v7 : Option Value} {L : Lo} : lkill (v0 :: v1 :: v2 :: v3 :: v4 :: v5 :: v6 :: v7 :: L) 8 = v0 :: v1 :: v2 :: v3 :: v4 :: v5 :: v6 :: kl v7 :: L := rfl
theorem lg9 {v0 v1 v2 v3 v4 v5 v6 v7 v8 v9 : Option Value} {L : Lo} : lget (v0 :: v1 :: v2 :: v3 :: v4 :: v5 :: v6 :: v7 :: v8 :: v9 :: L) 9 = v9 := rfl
theorem ls9 {v0 v1 v2 v3 v4 v5 v6 v7 v8 v9 w : Option Value} {L : Lo} : lput (v0 :: v1 :: v2 :: v3 :: v4 :: v5 :: v6 :: v7 :: v8 :: v9 :: L) 9 w = v0 :: v1 :: v2 :: v3 :: v4 :: v5 :: v6 :: v7 :: v8 :: w :: L := rfl
theorem lk9 {v0 v1 v2 v3 v4 v5 v6 v7 v8 : Option Value} {L : Lo} : lkill (v0 :: v1 :: v2 :: v3 :: v4 :: v5 :: v6 :: v7 :: v8 :: L) 9 = v0 :: v1 :: v2 :: v3 :: v4 :: v5 :: v6 :: v7 :: kl v8 :: L := rfl
theorem lg10 {v0 v1 v2 v3 v4 v5 v6 v7 v8 v9 v10 : Option Value} {L : Lo} : lget (v0 :: v1 :: v2 :: v3 :: v4 :: v5 :: v6 :: v7 :: v8 :: v9 :: v10 :: L) 10 = v10 := rfl
theorem ls10 {v0 v1 v2 v3 v4 v5 v6 v7 v8 v9 v10 w : Option Value} {L : Lo} : lput (v0 :: v1 :: v2 :: v3 :: v4 :: v5 :: v6 :: v7 :: v8 :: v9 :: v10 :: L) 10 w = v0 :: v1 :: v2 :: v3 :: v4 :: v5 :: v6 :: v7 :: v8 :: v9 :: w :: L := rfl
theorem lk10 {v0 v1 v2 v3 v4 v5 v6 v7 v8 v9 : Option Value} {L : Lo} : lkill (v0 :: v1 :: v2 :: v3 :: v4 :: v5 :: v6 :: v7 :: v8 :: v9 :: L) 10 = v0 :: v1 :: v2 :: v3 :: v4 :: v5 :: v6 :: v7 :: v8 :: kl v9 :: L := rfl
theorem lg11 {v0 v1 v2 v3 v4 v5 v6 v7 v8 v9 v10 v11 : Option Value} {L : Lo} : lget (v0 :: v1 :: v2 :: v3 :: v4 :: v5 :: v6 :: v7 :: v8 :: v9 :: v10 :: v11 :: L) 11 = v11 := rfl
theorem ls11 {v0 v1 v2 v3 v4 v5 v6 v7 v8 v9 v10 v11 w : Option Value} {L : Lo} : lput (v0 :: v1 :: v2 :: v3 :: v4 :: v5 :: v6 :: v7 :: v8 :: v9 :: v10 :: v11 :: L) 11 w = v0 :: v1 :: v2 :: v3 :: v4 :: v5 :: v6 :: v7 :: v8 :: v9 :: v10 :: w :: L := rfl
theorem lk11 {v0 v1 v2 v3 v4 v5 v6 v7 v8 v9 v10 : Option Value} {L : Lo} : lkill (v0 :: v1 :: v2 :: v3 :: v4 :: v5 :: v6 :: v7 :: v8 :: v9 :: v10 :: L) 11 = v0 :: v1 :: v2 :: v3 :: v4 :: v5 :: v6 :: v7 :: v8 :: v9 :: kl v10 :: L := rfl
theorem lg12 {v0 v1 v2 v3 v4 v5 v6 v7 v8 v9 v10 v11 v12 : Option Value} {L : Lo} : lget (v0 :: v1 :: v2 :: v3 :: v4 :: v5 :: v6 :: v7 :: v8 :: v9 :: v10 :: v11 :: v12 :: L) 12 = v12 := rfl
theorem ls12 {v0 v1 v2 v3 v4 v5 v6 v7 v8 v9 v10 v11 v12 w : Option Value} {L : Lo} : lput (v0 :: v1 :: v2 :: v3 :: v4 :: v5 :: v6 :: v7 :: v8 :: v9 :: v10 :: v11 :: v12 :: L) 12 w = v0 :: v1 :: v2 :: v3 :: v4 :: v5 :: v6 :: v7 :: v8 :: v9 :: v10 :: v11 :: w :: L := rfl
theorem lk12 {v0 v1 v2 v3 v4 v5 v6 v7 v8 v9 v10 v11 : Option Value} {L : Lo} : lkill (v0 :: v1 :: v2 :: v3 :: v4 :: v5 :: v6 :: v7 :: v8 :: v9 :: v10 :: v11 :: L) 12 = v0 :: v1 :: v2 :: v3 :: v4 :: v5 :: v6 :: v7 :: v8 :: v9 :: v10 :: kl v11 :: L := rfl
theorem lg13 {v0 v1 v2 v3 v4 v5 v6 v7 v8 v9 v10 v11 v12 v13 : Option Value} {L : Lo} : lget (v0 :: v1 :: v2 :: v3 :: v4 :: v5 :: v6 :: v7 :: v8 :: v9 :: v10 :: v11 :: v12 :: v13 :: L) 13 = v13 := rfl
theorem ls13 {v0 v1 v2 v3 v4 v5 v6 v7 v8 v9 v10 v11 v12 v13 w : Option Value} {L : Lo} : lput (v0 :: v1 :: v2 :: v3 :: v4 :: v5 :: v6 :: v7 :: v8 :: v9 :: v10 :: v11 :: v12 :: v13 :: L) 13 w = v0 :: v1 :: v2 :: v3 :: v4 :: v5 :: v6 :: v7 :: v8 :: v9 :: v10 :: v11 :: v12 :: w :: L := rfl
theorem lk13 {v0 v1 v2 v3 v4 v5 v6 v7 v8 v9 v10 v11 v12 : Option Value} {L : Lo} : lkill (v0 :: v1 :: v2 :: v3 :: v4 :: v5 :: v6 :: v7 :: v8 :: v9 :: v10 :: v11 :: v12 :: L) 13 = v0 :: v1 :: v2 :: v3 :: v4 :: v5 :: v6 :: v7 :: v8 :: v9 :: v10 :: v11 :: kl v12 :: L := rfl
theorem lg14 {v0 v1 v2 v3 v4 v5 v6 v7 v8 v9 v10 v11 v12 v13 v14 : Option Value} {L : Lo} : lget (v0 :: v1 :: v2 :: v3 :: v4 :: v5 :: v6 :: v7 :: v8 :: v9 :: v10 :: v11 :: v12 :: v13 :: v14 :: L) 14 = v14 := rfl
theorem ls14 {v0 v1 v2 v3 v4 v5 v6 v7 v8 v9 v10 v11 v12 v13 v14 w : Option Value} {L : Lo} : lput (v0 :: v1 :: v2 :: v3 :: v4 :: v5 :: v6 :: v7 :: v8 :: v9 :: v10 :: v11 :: v12 :: v13 :: v14 :: L) 14 w = v0 :: v1 :: v2 :: v3 :: v4 :: v5 :: v6 :: v7 :: v8 :: v9 :: v10 :: v11 :: v12 :: v13 :: w :: L := rfl
theorem lk14 {v0 v1 v2 v3 v4 v5 v6 v7 v8 v9 v10 v11 v12 v13 : Option Value} {L : Lo} : lkill (v0 :: v1 :: v2 :: v3 :: v4 :: v5 :: v6 :: v7 :: v8 :: v9 :: v10 :: v11 :: v12 :: v13 :: L) 14 = v0 :: v1 :: v2 :: v3 :: v4 :: v5 :: v6 :: v7 :: v8 :: v9 :: v10 :: v11 :: v12 :: kl v13 :: L := rfl
theorem lg15 {v0 v1 v2 v3 v4 v5 v6 v7 v8 v9 v10 v11 v12 v13 v14 v15 : Option Value} {L : Lo} : lget (v0 :: v1 :: v2 :: v3 :: v4 :: v5 :: v6 :: v7 :: v8 :: v9 :: v10 :: v11 :: v12 :: v13 :: v14 :: v15 :: L) 15 = v15 := rfl
theorem ls15 {v0 v1 v2 v3 v4 v5 v6 v7 v8 v9 v10 v11 v12 v13 v14 v15 w : Option Value} {L : Lo} : lput (v0 :: v1 :: v2 :: v3 :: v4 :: v5 :: v6 :: v7 :: v8 :: v9 :: v10 :: v11 :: v12 :: v13 :: v14 :: v15 :: L) 15 w = v0 :: v1 :: v2 :: v3 :: v4 :: v5 :: v6 :: v7 :: v8 :: v9 :: v10 :: v11 :: v12 :: v13 :: v14 :: w :: L := rfl
theorem lk15 {v0 v1 v2 v3 v4 v5 v6 v7 v8 v9 v10 v11 v12 v13 v14 : Option Value} {L : Lo} : lkill (v0 :: v1 :: v2 :: v3 :: v4 :: v5 :: v6 :: v7 :: v8 :: v9 :: v10 :: v11 :: v12 :: v13 :: v14 :: L) 15 = v0 :: v1 :: v2 :: v3 :: v4 :: v5 :: v6 :: v7 :: v8 :: v9 :: v10 :: v11 :: v12 :: v13 :: kl v14 :: L := rfl
theorem lg16 {v0 v1 v2 v3 v4 v5 v6 v7 v8 v9 v10 v11 v12 v13 v14 v15 v16 : Option Value} {L : Lo} : lget (v0 :: v1 :: v2 :: v3 :: v4 :: v5 :: v6 :: v7 :: v8 :: v9 :: v10 :: v11 :: v12 :: v13 :: v14 :: v15 :: v16 :: L) 16 = v16 := rfl
theorem ls16 {v0 v1 v2 v3 v4 v5 v6 v7 v8 v9 v10 v11 v12 v13 v14 v15 v16 w : Option Value} {L : Lo} : lput (v0 :: v1 :: v2 :: v3 :: v4 :: v5 :: v6 :: v7 :: v8 :: v9 :: v10 :: v11 :: v12 :: v13 :: v14 :: v15 :: v16 :: L) 16 w = v0 :: v1 :: v2 :: v3 :: v4 :: v5 :: v6 :: v7 :: v8 :: v9 :: v10 :: v11 :: v12 :: v13 :: v14 :: v15 :: w :: L := rfl
theorem lk16 {v0 v1 v2 v3 v4 v5 v6 v7 v8 v9 v10 v11 v12 v13 v14 v15 : Option Value} {L : Lo} : lkill (v0 :: v1 :: v2 :: v3 :: v4 :: v5 :: v6 :: v7 :: v8 :: v9 :: v10 :: v11 :: v12 :: v13 :: v14 :: v15 :: L) 16 = v0 :: v1 :: v2 :: v3 :: v4 :: v5 :: v6 :: v7 :: v8 :: v9 :: v10 :: v11 :: v12 :: v13 :: v14 :: kl v15 :: L := rfl
theorem lg17 {v0 v1 v2 v3 v4 v5 v6 v7 v8 v9 v10 v11 v12 v13 v14 v15 v16 v17 : Option Value} {L : Lo} : lget (v0 :: v1 :: v2 :: v3 :: v4 :: v5 :: v6 :: v7 :: v8 :: v9 :: v10 :: v11 :: v12 :: v13 :: v14 :: v15 :: v16 :: v17 :: L) 17 = v17 := rfl
theorem ls17 {v0 v1 v2 v3 v4 v5 v6 v7 v8 v9 v10 v11 v12 v13 v14 v15 v16 v17 w : Option Value} {L : Lo} : lput (v0 :: v1 :: v2 :: v3 :: v4 :: v5 :: v6 :: v7 :: v8 :: v9 :: v10 :: v11 :: v12 :: v13 :: v14 :: v15 :: v16 :: v17 :: L) 17 w = v0 :: v1 :: v2 :: v3 :: v4 :: v5 :: v6 :: v7 :: v8 :: v9 :: v10 :: v11 :: v12 :: v13 :: v14 :: v15 :: v16 :: w :: L := rfl
theorem lk17 {v0 v1 v2 v3 v4 v5 v6 v7 v8 v9 v10 v11 v12 v13 v14 v15 v16 : Option Value} {L : Lo} : lkill (v0 :: v1 :: v2 :: v3 :: v4 :: v5 :: v6 :: v7 :: v8 :: v9 :: v10 :: v11 :: v12 :: v13 :: v14 :: v15 :: v16 :: L) 17 = v0 :: v1 :: v2 :: v3 :: v4 :: v5 :: v6 :: v7 :: v8 :: v9 :: v10 :: v11 :: v12 :: v13 :: v14 :: v15 :: kl v16 :: L := rfl
theorem lk0 {v : Option Value} {L : Lo} : lkill (v :: L) 0 = v :: L := rfl
theorem kl_n : kl none = none := rfl
theorem kl_i {x : Int32} : kl (some (.int x)) = some (.int x) := rfl
theorem kl_r {x : Nat} : kl (some (.ref x)) = some (.ref x) := rfl
theorem kl_l {x : Int64} : kl (some (.long x)) = none := rfl
end
section
-- X0_textOf
theorem E_0 (q0 : Nat) (q1 : Int32) (M : Mem) (Q : Option Value → Mem → Prop) : Ct 0 [.ref q0, .int q1] M Q = WP 0 [] 0 [some (.ref q0), some (.int q1)] [] M Q := ct_wp rfl M Q
theorem B_0_0 : ∀ (L : Lo) (S : List Value) (M : Mem) (Q : Option Value → Mem → Prop), WP 0 [] 0 L S M Q = WP 0 [(.iload_n 1, 1, 0, 0), (.ifCond .ne 10, 1, 0, 0), (.aload_n 0, 0, 0, 0), (.getfield 14, 0, 0, 0), (.goto 7, 2, 0, 0)] 0 L S M Q := wp_blk rfl
theorem B_0_1 : ∀ (L : Lo) (S : List Value) (M : Mem) (Q : Option Value → Mem → Prop), WP 0 [] 1 L S M Q = WP 0 [(.aload_n 0, 0, 0, 0), (.getfield 20, 0, 1, 0)] 2 L S M Q := wp_blk rfl
theorem B_0_2 : ∀ (L : Lo) (S : List Value) (M : Mem) (Q : Option Value → Mem → Prop), WP 0 [] 2 L S M Q = WP 0 [(.areturn, 0, 0, 0)] 0 L S M Q := wp_blk rfl
-- X0_parseBlocks
theorem E_1 (q0 : Nat) (M : Mem) (Q : Option Value → Mem → Prop) : Ct 1 [.ref q0] M Q = WP 1 [] 0 [some (.ref q0)] [] M Q := ct_wp rfl M Q
theorem B_1_0 : ∀ (L : Lo) (S : List Value) (M : Mem) (Q : Option Value → Mem → Prop), WP 1 [] 0 L S M Q = WP 1 [(.aload_n 0, 0, 0, 0), (.getfield 26, 0, 2, 0), (.invokevirtual 58, 31, 0, 6), (.aload_n 0, 0, 0, 0), (.aload_n 0, 0, 0, 0), (.invokevirtual 61, 2, 0, 0), (.putfield 51, 0, 6, 0), (.aload_n 0, 0, 0, 0), (.getfield 51, 0, 6, 0), (.iconst (-1), 1, 1, 0), (.if_icmp .eq 10, 1, 0, 0), (.aload_n 0, 0, 0, 0), (.getfield 26, 0, 2, 0), (.invokevirtual 58, 31, 0, 6)] 1 L S M Q := wp_blk rfl
theorem B_1_1 : ∀ (L : Lo) (S : List Value) (M : Mem) (Q : Option Value → Mem → Prop), WP 1 [] 1 L S M Q = WP 1 [(.return_, 0, 0, 0)] 0 L S M Q := wp_blk rfl
-- X0_placeBlocks
theorem E_2 (q0 : Nat) (M : Mem) (Q : Option Value → Mem → Prop) : Ct 2 [.ref q0] M Q = WP 2 [] 0 [some (.ref q0), none, none, none] [] M Q := ct_wp rfl M Q
theorem B_2_0 : ∀ (L : Lo) (S : List Value) (M : Mem) (Q : Option Value → Mem → Prop), WP 2 [] 0 L S M Q = WP 2 [(.iconst 0, 0, 0, 0), (.istore_n 1, 1, 0, 0), (.iconst 0, 0, 0, 0), (.istore_n 2, 2, 0, 0)] 1 L S M Q := wp_blk rfl
theorem B_2_1 : ∀ (L : Lo) (S : List Value) (M : Mem) (Q : Option Value → Mem → Prop), WP 2 [] 1 L S M Q = WP 2 [(.iload_n 2, 2, 0, 0), (.aload_n 0, 0, 0, 0), (.getfield 14, 0, 0, 0), (.getfield 65, 8, 2, 0), (.if_icmp .ge 74, 5, 0, 0), (.aload_n 0, 0, 0, 0), (.getfield 14, 0, 0, 0), (.getfield 68, 8, 1, 0), (.iload_n 2, 2, 0, 0), (.iaload, 0, 0, 0), (.istore_n 3, 3, 0, 0), (.iload_n 3, 3, 0, 0), (.bipush 59, 59, 0, 0), (.if_icmp .ne 14, 2, 0, 0), (.iload_n 1, 1, 0, 0), (.iconst 5, 5, 0, 0), (.if_icmp .ge 9, 2, 0, 0), (.iinc 1 1, 1, 1, 0), (.goto 41, 4, 0, 0)] 0 L S M Q := wp_blk rfl
theorem B_2_2 : ∀ (L : Lo) (S : List Value) (M : Mem) (Q : Option Value → Mem → Prop), WP 2 [] 2 L S M Q = WP 2 [(.iload_n 3, 3, 0, 0), (.invokestatic 72, 5, 1, 0), (.ifCond .eq 32, 3, 0, 0), (.aload_n 0, 0, 0, 0), (.getfield 26, 0, 2, 0), (.getfield 76, 6, 1, 0), (.iload_n 1, 1, 0, 0), (.iaload, 0, 0, 0), (.bipush 6, 6, 0, 0), (.if_icmp .ge 18, 3, 0, 0), (.aload_n 0, 0, 0, 0), (.getfield 26, 0, 2, 0), (.iload_n 1, 1, 0, 0), (.iload_n 3, 3, 0, 0), (.bipush 48, 48, 0, 0), (.isub, 0, 0, 0), (.invokevirtual 79, 33, 2, 6), (.goto 5, 4, 0, 0)] 0 L S M Q := wp_blk rfl
theorem B_2_3 : ∀ (L : Lo) (S : List Value) (M : Mem) (Q : Option Value → Mem → Prop), WP 2 [] 3 L S M Q = WP 2 [(.iload_n 2, 2, 0, 0), (.ireturn, 0, 0, 0)] 0 L S M Q := wp_blk rfl
theorem B_2_4 : ∀ (L : Lo) (S : List Value) (M : Mem) (Q : Option Value → Mem → Prop), WP 2 [] 4 L S M Q = WP 2 [(.iinc 2 1, 2, 1, 0), (.goto (-79), 1, 0, 0)] 0 L S M Q := wp_blk rfl
theorem B_2_5 : ∀ (L : Lo) (S : List Value) (M : Mem) (Q : Option Value → Mem → Prop), WP 2 [] 5 L S M Q = WP 2 [(.iconst (-1), 1, 1, 0), (.ireturn, 0, 0, 0)] 0 L S M Q := wp_blk rfl
-- X0_parseOrders
theorem E_3 (q0 : Nat) (M : Mem) (Q : Option Value → Mem → Prop) : Ct 3 [.ref q0] M Q = WP 3 [] 0 [some (.ref q0)] [] M Q := ct_wp rfl M Q
theorem B_3_0 : ∀ (L : Lo) (S : List Value) (M : Mem) (Q : Option Value → Mem → Prop), WP 3 [] 0 L S M Q = WP 3 [(.aload_n 0, 0, 0, 0), (.getfield 33, 0, 3, 0), (.iconst 0, 0, 0, 0), (.putfield 83, 2, 2, 0), (.aload_n 0, 0, 0, 0), (.aload_n 0, 0, 0, 0), (.invokevirtual 86, 4, 0, 0), (.putfield 55, 0, 7, 0), (.aload_n 0, 0, 0, 0), (.getfield 55, 0, 7, 0), (.iconst (-1), 1, 1, 0), (.if_icmp .eq 11, 1, 0, 0), (.aload_n 0, 0, 0, 0), (.getfield 33, 0, 3, 0), (.iconst 0, 0, 0, 0), (.putfield 83, 2, 2, 0)] 1 L S M Q := wp_blk rfl
theorem B_3_1 : ∀ (L : Lo) (S : List Value) (M : Mem) (Q : Option Value → Mem → Prop), WP 3 [] 1 L S M Q = WP 3 [(.return_, 0, 0, 0)] 0 L S M Q := wp_blk rfl
-- X0_placeOrders
theorem E_4 (q0 : Nat) (M : Mem) (Q : Option Value → Mem → Prop) : Ct 4 [.ref q0] M Q = WP 4 [] 0 [some (.ref q0), none, none, none, none] [] M Q := ct_wp rfl M Q
theorem B_4_0 : ∀ (L : Lo) (S : List Value) (M : Mem) (Q : Option Value → Mem → Prop), WP 4 [] 0 L S M Q = WP 4 [(.aload_n 0, 0, 0, 0), (.getfield 20, 0, 1, 0), (.getfield 65, 8, 2, 0), (.istore_n 1, 1, 0, 0), (.iconst 0, 0, 0, 0), (.istore_n 2, 2, 0, 0)] 1 L S M Q := wp_blk rfl
theorem B_4_1 : ∀ (L : Lo) (S : List Value) (M : Mem) (Q : Option Value → Mem → Prop), WP 4 [] 1 L S M Q = WP 4 [(.iload_n 2, 2, 0, 0), (.iload_n 1, 1, 0, 0), (.if_icmp .ge 149, 6, 0, 0), (.aload_n 0, 0, 0, 0), (.getfield 20, 0, 1, 0), (.getfield 68, 8, 1, 0), (.iload_n 2, 2, 0, 0), (.iaload, 0, 0, 0), (.istore_n 3, 3, 0, 0), (.iload_n 2, 2, 0, 0), (.iconst 3, 3, 0, 0), (.irem, 0, 0, 0), (.istore 4, 4, 0, 0), (.iload 4, 4, 0, 0), (.ifCond .ne 49, 2, 0, 0), (.iload_n 3, 3, 0, 0), (.bipush 97, 97, 0, 0), (.if_icmp .lt 43, 2, 0, 0), (.iload_n 3, 3, 0, 0), (.bipush 120, 120, 0, 0), (.if_icmp .gt 37, 2, 0, 0), (.aload_n 0, 0, 0, 0), (.getfield 33, 0, 3, 0), (.getfield 83, 2, 2, 0), (.bipush 12, 12, 0, 0), (.if_icmp .ge 25, 2, 0, 0), (.aload_n 0, 0, 0, 0), (.getfield 33, 0, 3, 0), (.getfield 89, 2, 0, 0), (.aload_n 0, 0, 0, 0), (.getfield 33, 0, 3, 0), (.getfield 83, 2, 2, 0), (.iload_n 3, 3, 0, 0), (.bipush 97, 97, 0, 0), (.isub, 0, 0, 0), (.iastore, 0, 0, 0), (.goto 77, 5, 0, 0)] 0 L S M Q := wp_blk rfl
theorem B_4_2 : ∀ (L : Lo) (S : List Value) (M : Mem) (Q : Option Value → Mem → Prop), WP 4 [] 2 L S M Q = WP 4 [(.iload 4, 4, 0, 0), (.iconst 1, 1, 0, 0), (.if_icmp .ne 57, 3, 0, 0), (.iload_n 3, 3, 0, 0), (.invokestatic 72, 5, 1, 0), (.ifCond .eq 50, 3, 0, 0), (.aload_n 0, 0, 0, 0), (.getfield 33, 0, 3, 0), (.getfield 83, 2, 2, 0), (.bipush 12, 12, 0, 0), (.if_icmp .ge 38, 3, 0, 0), (.aload_n 0, 0, 0, 0), (.getfield 33, 0, 3, 0), (.getfield 92, 2, 1, 0), (.aload_n 0, 0, 0, 0), (.getfield 33, 0, 3, 0), (.getfield 83, 2, 2, 0), (.iload_n 3, 3, 0, 0), (.bipush 48, 48, 0, 0), (.isub, 0, 0, 0), (.iastore, 0, 0, 0), (.aload_n 0, 0, 0, 0), (.getfield 33, 0, 3, 0), (.dup, 0, 0, 0), (.getfield 83, 2, 2, 0), (.iconst 1, 1, 0, 0), (.iadd, 0, 0, 0), (.putfield 83, 2, 2, 0), (.goto 17, 5, 0, 0)] 0 L S M Q := wp_blk rfl
theorem B_4_3 : ∀ (L : Lo) (S : List Value) (M : Mem) (Q : Option Value → Mem → Prop), WP 4 [] 3 L S M Q = WP 4 [(.iload 4, 4, 0, 0), (.iconst 2, 2, 0, 0), (.if_icmp .ne 9, 4, 0, 0), (.iload_n 3, 3, 0, 0), (.bipush 59, 59, 0, 0), (.if_icmp .eq 5, 5, 0, 0)] 4 L S M Q := wp_blk rfl
theorem B_4_4 : ∀ (L : Lo) (S : List Value) (M : Mem) (Q : Option Value → Mem → Prop), WP 4 [] 4 L S M Q = WP 4 [(.iload_n 2, 2, 0, 0), (.ireturn, 0, 0, 0)] 0 L S M Q := wp_blk rfl
theorem B_4_5 : ∀ (L : Lo) (S : List Value) (M : Mem) (Q : Option Value → Mem → Prop), WP 4 [] 5 L S M Q = WP 4 [(.iinc 2 1, 2, 1, 0), (.goto (-148), 1, 0, 0)] 0 L S M Q := wp_blk rfl
theorem B_4_6 : ∀ (L : Lo) (S : List Value) (M : Mem) (Q : Option Value → Mem → Prop), WP 4 [] 6 L S M Q = WP 4 [(.iload_n 1, 1, 0, 0), (.ifCond .eq 10, 7, 0, 0), (.iload_n 1, 1, 0, 0), (.iconst 3, 3, 0, 0), (.irem, 0, 0, 0), (.iconst 2, 2, 0, 0), (.if_icmp .ne 7, 8, 0, 0)] 7 L S M Q := wp_blk rfl
theorem B_4_7 : ∀ (L : Lo) (S : List Value) (M : Mem) (Q : Option Value → Mem → Prop), WP 4 [] 7 L S M Q = WP 4 [(.iconst (-1), 1, 1, 0), (.goto 4, 9, 0, 0)] 0 L S M Q := wp_blk rfl
theorem B_4_8 : ∀ (L : Lo) (S : List Value) (M : Mem) (Q : Option Value → Mem → Prop), WP 4 [] 8 L S M Q = WP 4 [(.iload_n 1, 1, 0, 0)] 9 L S M Q := wp_blk rfl
theorem B_4_9 : ∀ (L : Lo) (S : List Value) (M : Mem) (Q : Option Value → Mem → Prop), WP 4 [] 9 L S M Q = WP 4 [(.ireturn, 0, 0, 0)] 0 L S M Q := wp_blk rfl
-- X0_isFigure
theorem E_5 (q0 : Int32) (M : Mem) (Q : Option Value → Mem → Prop) : Ct 5 [.int q0] M Q = WP 5 [] 0 [some (.int q0)] [] M Q := ct_wp rfl M Q
theorem B_5_0 : ∀ (L : Lo) (S : List Value) (M : Mem) (Q : Option Value → Mem → Prop), WP 5 [] 0 L S M Q = WP 5 [(.iload_n 0, 0, 0, 0), (.bipush 49, 49, 0, 0), (.if_icmp .lt 13, 1, 0, 0), (.iload_n 0, 0, 0, 0), (.bipush 57, 57, 0, 0), (.if_icmp .gt 7, 1, 0, 0), (.iconst 1, 1, 0, 0), (.goto 4, 2, 0, 0)] 0 L S M Q := wp_blk rfl
theorem B_5_1 : ∀ (L : Lo) (S : List Value) (M : Mem) (Q : Option Value → Mem → Prop), WP 5 [] 1 L S M Q = WP 5 [(.iconst 0, 0, 0, 0)] 2 L S M Q := wp_blk rfl
theorem B_5_2 : ∀ (L : Lo) (S : List Value) (M : Mem) (Q : Option Value → Mem → Prop), WP 5 [] 2 L S M Q = WP 5 [(.ireturn, 1, 0, 0)] 0 L S M Q := wp_blk rfl
-- X1_mayBe
theorem E_6 (q0 : Int32) (q1 : Int32) (q2 : Int32) (M : Mem) (Q : Option Value → Mem → Prop) : Ct 6 [.int q0, .int q1, .int q2] M Q = WP 6 [] 0 [some (.int q0), some (.int q1), some (.int q2)] [] M Q := ct_wp rfl M Q
theorem B_6_0 : ∀ (L : Lo) (S : List Value) (M : Mem) (Q : Option Value → Mem → Prop), WP 6 [] 0 L S M Q = WP 6 [(.iload_n 0, 0, 0, 0), (.iconst 2, 2, 0, 0), (.invokestatic 21, 93, 2, 1), (.ifCond .ne 24, 1, 0, 0), (.iload_n 1, 1, 0, 0), (.bipush 23, 23, 0, 0), (.invokestatic 21, 93, 2, 1), (.ifCond .ne 15, 1, 0, 0), (.iload_n 2, 2, 0, 0), (.iconst 5, 5, 0, 0), (.invokestatic 21, 93, 2, 1), (.ifCond .ne 7, 1, 0, 0), (.iconst 1, 1, 0, 0), (.goto 4, 2, 0, 0)] 0 L S M Q := wp_blk rfl
theorem B_6_1 : ∀ (L : Lo) (S : List Value) (M : Mem) (Q : Option Value → Mem → Prop), WP 6 [] 1 L S M Q = WP 6 [(.iconst 0, 0, 0, 0)] 2 L S M Q := wp_blk rfl
theorem B_6_2 : ∀ (L : Lo) (S : List Value) (M : Mem) (Q : Option Value → Mem → Prop), WP 6 [] 2 L S M Q = WP 6 [(.ireturn, 1, 0, 0)] 0 L S M Q := wp_blk rfl
-- X1_append
theorem E_7 (q0 : Nat) (q1 : Int32) (q2 : Int32) (q3 : Int32) (M : Mem) (Q : Option Value → Mem → Prop) : Ct 7 [.ref q0, .int q1, .int q2, .int q3] M Q = WP 7 [] 0 [some (.ref q0), some (.int q1), some (.int q2), some (.int q3)] [] M Q := ct_wp rfl M Q
theorem B_7_0 : ∀ (L : Lo) (S : List Value) (M : Mem) (Q : Option Value → Mem → Prop), WP 7 [] 0 L S M Q = WP 7 [(.aload_n 0, 0, 0, 0), (.getfield 25, 1, 3, 0), (.bipush 8, 8, 0, 0), (.if_icmp .ge 43, 1, 0, 0), (.aload_n 0, 0, 0, 0), (.getfield 9, 1, 0, 0), (.aload_n 0, 0, 0, 0), (.getfield 25, 1, 3, 0), (.iload_n 1, 1, 0, 0), (.iastore, 0, 0, 0), (.aload_n 0, 0, 0, 0), (.getfield 15, 1, 1, 0), (.aload_n 0, 0, 0, 0), (.getfield 25, 1, 3, 0), (.iload_n 2, 2, 0, 0), (.iastore, 0, 0, 0), (.aload_n 0, 0, 0, 0), (.getfield 18, 1, 2, 0), (.aload_n 0, 0, 0, 0), (.getfield 25, 1, 3, 0), (.iload_n 3, 3, 0, 0), (.iastore, 0, 0, 0), (.aload_n 0, 0, 0, 0), (.dup, 0, 0, 0), (.getfield 25, 1, 3, 0), (.iconst 1, 1, 0, 0), (.iadd, 0, 0, 0), (.putfield 25, 1, 3, 0)] 1 L S M Q := wp_blk rfl
theorem B_7_1 : ∀ (L : Lo) (S : List Value) (M : Mem) (Q : Option Value → Mem → Prop), WP 7 [] 1 L S M Q = WP 7 [(.return_, 0, 0, 0)] 0 L S M Q := wp_blk rfl
-- X2_become
theorem E_8 (q0 : Nat) (q1 : Nat) (M : Mem) (Q : Option Value → Mem → Prop) : Ct 8 [.ref q0, .ref q1] M Q = WP 8 [] 0 [some (.ref q0), some (.ref q1)] [] M Q := ct_wp rfl M Q
theorem B_8_0 : ∀ (L : Lo) (S : List Value) (M : Mem) (Q : Option Value → Mem → Prop), WP 8 [] 0 L S M Q = WP 8 [(.aload_n 1, 1, 0, 0), (.getfield 9, 2, 0, 0), (.iconst 0, 0, 0, 0), (.aload_n 0, 0, 0, 0), (.getfield 9, 2, 0, 0), (.iconst 0, 0, 0, 0), (.bipush 12, 12, 0, 0), (.invokestatic 18, 999, 5, 0), (.aload_n 1, 1, 0, 0), (.getfield 15, 2, 1, 0), (.iconst 0, 0, 0, 0), (.aload_n 0, 0, 0, 0), (.getfield 15, 2, 1, 0), (.iconst 0, 0, 0, 0), (.bipush 12, 12, 0, 0), (.invokestatic 18, 999, 5, 0), (.aload_n 0, 0, 0, 0), (.aload_n 1, 1, 0, 0), (.getfield 24, 2, 2, 0), (.putfield 24, 2, 2, 0), (.return_, 0, 0, 0)] 0 L S M Q := wp_blk rfl
-- X3_findCover
theorem E_9 (q0 : Nat) (M : Mem) (Q : Option Value → Mem → Prop) : Ct 9 [.ref q0] M Q = WP 9 [] 0 [some (.ref q0), none, none] [] M Q := ct_wp rfl M Q
theorem B_9_0 : ∀ (L : Lo) (S : List Value) (M : Mem) (Q : Option Value → Mem → Prop), WP 9 [] 0 L S M Q = WP 9 [(.aload_n 0, 0, 0, 0), (.iconst (-1), 1, 1, 0), (.putfield 31, 3, 5, 0), (.aload_n 0, 0, 0, 0), (.iconst (-1), 1, 1, 0), (.putfield 35, 3, 7, 0), (.iconst 0, 0, 0, 0), (.istore_n 1, 1, 0, 0)] 1 L S M Q := wp_blk rfl
theorem B_9_1 : ∀ (L : Lo) (S : List Value) (M : Mem) (Q : Option Value → Mem → Prop), WP 9 [] 1 L S M Q = WP 9 [(.iload_n 1, 1, 0, 0), (.bipush 6, 6, 0, 0), (.if_icmp .ge 72, 3, 0, 0), (.aload_n 0, 0, 0, 0), (.getfield 14, 3, 1, 0), (.aload_n 0, 0, 0, 0), (.getfield 27, 3, 0, 0), (.sipush 255, 255, 0, 0), (.invokevirtual 38, 41, 2, 7), (.aload_n 0, 0, 0, 0), (.getfield 14, 3, 1, 0), (.getfield 42, 7, 2, 0), (.iconst 2, 2, 0, 0), (.iconst 0, 0, 0, 0), (.iload_n 1, 1, 0, 0), (.invokevirtual 46, 51, 3, 9), (.aload_n 0, 0, 0, 0), (.getfield 14, 3, 1, 0), (.invokevirtual 52, 42, 0, 7), (.aload_n 0, 0, 0, 0), (.getfield 14, 3, 1, 0), (.getfield 55, 7, 4, 0), (.bipush 23, 23, 0, 0), (.iaload, 0, 0, 0), (.istore_n 2, 2, 0, 0), (.iload_n 2, 2, 0, 0), (.aload_n 0, 0, 0, 0), (.getfield 35, 3, 7, 0), (.if_icmp .le 13, 2, 0, 0), (.aload_n 0, 0, 0, 0), (.iload_n 2, 2, 0, 0), (.putfield 35, 3, 7, 0), (.aload_n 0, 0, 0, 0), (.iload_n 1, 1, 0, 0), (.putfield 31, 3, 5, 0)] 2 L S M Q := wp_blk rfl
theorem B_9_2 : ∀ (L : Lo) (S : List Value) (M : Mem) (Q : Option Value → Mem → Prop), WP 9 [] 2 L S M Q = WP 9 [(.iinc 1 1, 1, 1, 0), (.goto (-72), 1, 0, 0)] 0 L S M Q := wp_blk rfl
theorem B_9_3 : ∀ (L : Lo) (S : List Value) (M : Mem) (Q : Option Value → Mem → Prop), WP 9 [] 3 L S M Q = WP 9 [(.return_, 0, 0, 0)] 0 L S M Q := wp_blk rfl
-- X3_findSwap
theorem E_10 (q0 : Nat) (M : Mem) (Q : Option Value → Mem → Prop) : Ct 10 [.ref q0] M Q = WP 10 [] 0 [some (.ref q0), none, none, none] [] M Q := ct_wp rfl M Q
theorem B_10_0 : ∀ (L : Lo) (S : List Value) (M : Mem) (Q : Option Value → Mem → Prop), WP 10 [] 0 L S M Q = WP 10 [(.aload_n 0, 0, 0, 0), (.iconst (-1), 1, 1, 0), (.putfield 31, 3, 5, 0), (.aload_n 0, 0, 0, 0), (.iconst (-1), 1, 1, 0), (.putfield 58, 3, 6, 0), (.aload_n 0, 0, 0, 0), (.iconst (-1), 1, 1, 0), (.putfield 35, 3, 7, 0), (.iconst 0, 0, 0, 0), (.istore_n 1, 1, 0, 0)] 1 L S M Q := wp_blk rfl
theorem B_10_1 : ∀ (L : Lo) (S : List Value) (M : Mem) (Q : Option Value → Mem → Prop), WP 10 [] 1 L S M Q = WP 10 [(.iload_n 1, 1, 0, 0), (.bipush 6, 6, 0, 0), (.if_icmp .ge 92, 5, 0, 0), (.iload_n 1, 1, 0, 0), (.iconst 1, 1, 0, 0), (.iadd, 0, 0, 0), (.istore_n 2, 2, 0, 0)] 2 L S M Q := wp_blk rfl
theorem B_10_2 : ∀ (L : Lo) (S : List Value) (M : Mem) (Q : Option Value → Mem → Prop), WP 10 [] 2 L S M Q = WP 10 [(.iload_n 2, 2, 0, 0), (.bipush 6, 6, 0, 0), (.if_icmp .ge 76, 4, 0, 0), (.aload_n 0, 0, 0, 0), (.getfield 14, 3, 1, 0), (.aload_n 0, 0, 0, 0), (.getfield 27, 3, 0, 0), (.sipush 255, 255, 0, 0), (.invokevirtual 38, 41, 2, 7), (.aload_n 0, 0, 0, 0), (.getfield 14, 3, 1, 0), (.getfield 61, 7, 0, 0), (.iload_n 1, 1, 0, 0), (.iload_n 2, 2, 0, 0), (.invokevirtual 65, 36, 2, 6), (.aload_n 0, 0, 0, 0), (.getfield 14, 3, 1, 0), (.invokevirtual 52, 42, 0, 7), (.aload_n 0, 0, 0, 0), (.getfield 14, 3, 1, 0), (.getfield 55, 7, 4, 0), (.bipush 23, 23, 0, 0), (.iaload, 0, 0, 0), (.istore_n 3, 3, 0, 0), (.iload_n 3, 3, 0, 0), (.aload_n 0, 0, 0, 0), (.getfield 35, 3, 7, 0), (.if_icmp .le 18, 3, 0, 0), (.aload_n 0, 0, 0, 0), (.iload_n 3, 3, 0, 0), (.putfield 35, 3, 7, 0), (.aload_n 0, 0, 0, 0), (.iload_n 1, 1, 0, 0), (.putfield 31, 3, 5, 0), (.aload_n 0, 0, 0, 0), (.iload_n 2, 2, 0, 0), (.putfield 58, 3, 6, 0)] 3 L S M Q := wp_blk rfl
theorem B_10_3 : ∀ (L : Lo) (S : List Value) (M : Mem) (Q : Option Value → Mem → Prop), WP 10 [] 3 L S M Q = WP 10 [(.iinc 2 1, 2, 1, 0), (.goto (-76), 2, 0, 0)] 0 L S M Q := wp_blk rfl
theorem B_10_4 : ∀ (L : Lo) (S : List Value) (M : Mem) (Q : Option Value → Mem → Prop), WP 10 [] 4 L S M Q = WP 10 [(.iinc 1 1, 1, 1, 0), (.goto (-92), 1, 0, 0)] 0 L S M Q := wp_blk rfl
theorem B_10_5 : ∀ (L : Lo) (S : List Value) (M : Mem) (Q : Option Value → Mem → Prop), WP 10 [] 5 L S M Q = WP 10 [(.return_, 0, 0, 0)] 0 L S M Q := wp_blk rfl
-- X3_findWait
theorem E_11 (q0 : Nat) (q1 : Int32) (M : Mem) (Q : Option Value → Mem → Prop) : Ct 11 [.ref q0, .int q1] M Q = WP 11 [] 0 [some (.ref q0), some (.int q1), none] [] M Q := ct_wp rfl M Q
theorem B_11_0 : ∀ (L : Lo) (S : List Value) (M : Mem) (Q : Option Value → Mem → Prop), WP 11 [] 0 L S M Q = WP 11 [(.aload_n 0, 0, 0, 0), (.iconst (-1), 1, 1, 0), (.putfield 31, 3, 5, 0), (.aload_n 0, 0, 0, 0), (.bipush 13, 13, 0, 0), (.putfield 35, 3, 7, 0), (.iconst 0, 0, 0, 0), (.istore_n 2, 2, 0, 0)] 1 L S M Q := wp_blk rfl
theorem B_11_1 : ∀ (L : Lo) (S : List Value) (M : Mem) (Q : Option Value → Mem → Prop), WP 11 [] 1 L S M Q = WP 11 [(.iload_n 2, 2, 0, 0), (.bipush 24, 24, 0, 0), (.if_icmp .ge 73, 3, 0, 0), (.aload_n 0, 0, 0, 0), (.getfield 14, 3, 1, 0), (.aload_n 0, 0, 0, 0), (.getfield 27, 3, 0, 0), (.sipush 255, 255, 0, 0), (.invokevirtual 38, 41, 2, 7), (.aload_n 0, 0, 0, 0), (.getfield 14, 3, 1, 0), (.getfield 71, 7, 1, 0), (.getfield 75, 2, 0, 0), (.iload_n 1, 1, 0, 0), (.iload_n 2, 2, 0, 0), (.iastore, 0, 0, 0), (.aload_n 0, 0, 0, 0), (.getfield 14, 3, 1, 0), (.invokevirtual 52, 42, 0, 7), (.aload_n 0, 0, 0, 0), (.getfield 14, 3, 1, 0), (.invokevirtual 80, 48, 0, 7), (.aload_n 0, 0, 0, 0), (.getfield 35, 3, 7, 0), (.if_icmp .ge 19, 2, 0, 0), (.aload_n 0, 0, 0, 0), (.aload_n 0, 0, 0, 0), (.getfield 14, 3, 1, 0), (.invokevirtual 80, 48, 0, 7), (.putfield 35, 3, 7, 0), (.aload_n 0, 0, 0, 0), (.iload_n 2, 2, 0, 0), (.putfield 31, 3, 5, 0)] 2 L S M Q := wp_blk rfl
theorem B_11_2 : ∀ (L : Lo) (S : List Value) (M : Mem) (Q : Option Value → Mem → Prop), WP 11 [] 2 L S M Q = WP 11 [(.iinc 2 1, 2, 1, 0), (.goto (-73), 1, 0, 0)] 0 L S M Q := wp_blk rfl
theorem B_11_3 : ∀ (L : Lo) (S : List Value) (M : Mem) (Q : Option Value → Mem → Prop), WP 11 [] 3 L S M Q = WP 11 [(.return_, 0, 0, 0)] 0 L S M Q := wp_blk rfl
-- X3_noneIsShortWithout
theorem E_12 (q0 : Nat) (q1 : Int32) (M : Mem) (Q : Option Value → Mem → Prop) : Ct 12 [.ref q0, .int q1] M Q = WP 12 [] 0 [some (.ref q0), some (.int q1)] [] M Q := ct_wp rfl M Q
theorem B_12_0 : ∀ (L : Lo) (S : List Value) (M : Mem) (Q : Option Value → Mem → Prop), WP 12 [] 0 L S M Q = WP 12 [(.aload_n 0, 0, 0, 0), (.getfield 14, 3, 1, 0), (.aload_n 0, 0, 0, 0), (.getfield 27, 3, 0, 0), (.sipush 255, 255, 0, 0), (.iload_n 1, 1, 0, 0), (.iconst (-1), 1, 1, 0), (.ixor, 0, 0, 0), (.iand, 0, 0, 0), (.invokevirtual 38, 41, 2, 7), (.aload_n 0, 0, 0, 0), (.getfield 14, 3, 1, 0), (.invokevirtual 52, 42, 0, 7), (.aload_n 0, 0, 0, 0), (.getfield 14, 3, 1, 0), (.getfield 84, 7, 10, 0), (.ifCond .ne 7, 1, 0, 0), (.iconst 1, 1, 0, 0), (.goto 4, 2, 0, 0)] 0 L S M Q := wp_blk rfl
theorem B_12_1 : ∀ (L : Lo) (S : List Value) (M : Mem) (Q : Option Value → Mem → Prop), WP 12 [] 1 L S M Q = WP 12 [(.iconst 0, 0, 0, 0)] 2 L S M Q := wp_blk rfl
theorem B_12_2 : ∀ (L : Lo) (S : List Value) (M : Mem) (Q : Option Value → Mem → Prop), WP 12 [] 2 L S M Q = WP 12 [(.ireturn, 1, 0, 0)] 0 L S M Q := wp_blk rfl
-- X3_keepSpare
theorem E_13 (q0 : Nat) (q1 : Int32) (q2 : Int32) (q3 : Int32) (M : Mem) (Q : Option Value → Mem → Prop) : Ct 13 [.ref q0, .int q1, .int q2, .int q3] M Q = WP 13 [] 0 [some (.ref q0), some (.int q1), some (.int q2), some (.int q3)] [] M Q := ct_wp rfl M Q
theorem B_13_0 : ∀ (L : Lo) (S : List Value) (M : Mem) (Q : Option Value → Mem → Prop), WP 13 [] 0 L S M Q = WP 13 [(.aload_n 0, 0, 0, 0), (.iload_n 1, 1, 0, 0), (.putfield 35, 3, 7, 0), (.aload_n 0, 0, 0, 0), (.iload_n 2, 2, 0, 0), (.putfield 31, 3, 5, 0), (.aload_n 0, 0, 0, 0), (.iload_n 3, 3, 0, 0), (.putfield 58, 3, 6, 0), (.return_, 0, 0, 0)] 0 L S M Q := wp_blk rfl
-- X3_findSpare
theorem E_14 (q0 : Nat) (M : Mem) (Q : Option Value → Mem → Prop) : Ct 14 [.ref q0] M Q = WP 14 [] 0 [some (.ref q0), none, none, none] [] M Q := ct_wp rfl M Q
theorem B_14_0 : ∀ (L : Lo) (S : List Value) (M : Mem) (Q : Option Value → Mem → Prop), WP 14 [] 0 L S M Q = WP 14 [(.aload_n 0, 0, 0, 0), (.iconst (-1), 1, 1, 0), (.iconst (-1), 1, 1, 0), (.iconst (-1), 1, 1, 0), (.invokevirtual 87, 13, 3, 3), (.aload_n 0, 0, 0, 0), (.getfield 27, 3, 0, 0), (.getfield 90, 0, 4, 0), (.getfield 96, 1, 3, 0), (.istore_n 1, 1, 0, 0), (.aload_n 0, 0, 0, 0), (.iconst 0, 0, 0, 0), (.invokevirtual 101, 12, 1, 3), (.ifCond .eq 10, 1, 0, 0), (.aload_n 0, 0, 0, 0), (.iconst 0, 0, 0, 0), (.iconst (-1), 1, 1, 0), (.iconst (-1), 1, 1, 0), (.invokevirtual 87, 13, 3, 3)] 1 L S M Q := wp_blk rfl
theorem B_14_1 : ∀ (L : Lo) (S : List Value) (M : Mem) (Q : Option Value → Mem → Prop), WP 14 [] 1 L S M Q = WP 14 [(.iconst 0, 0, 0, 0), (.istore_n 2, 2, 0, 0)] 2 L S M Q := wp_blk rfl
theorem B_14_2 : ∀ (L : Lo) (S : List Value) (M : Mem) (Q : Option Value → Mem → Prop), WP 14 [] 2 L S M Q = WP 14 [(.iload_n 2, 2, 0, 0), (.iload_n 1, 1, 0, 0), (.if_icmp .ge 34, 4, 0, 0), (.aload_n 0, 0, 0, 0), (.getfield 35, 3, 7, 0), (.iconst (-1), 1, 1, 0), (.if_icmp .ne 26, 4, 0, 0), (.aload_n 0, 0, 0, 0), (.iconst 1, 1, 0, 0), (.iload_n 2, 2, 0, 0), (.ishl, 0, 0, 0), (.invokevirtual 101, 12, 1, 3), (.ifCond .eq 10, 3, 0, 0), (.aload_n 0, 0, 0, 0), (.iconst 1, 1, 0, 0), (.iload_n 2, 2, 0, 0), (.iconst (-1), 1, 1, 0), (.invokevirtual 87, 13, 3, 3)] 3 L S M Q := wp_blk rfl
theorem B_14_3 : ∀ (L : Lo) (S : List Value) (M : Mem) (Q : Option Value → Mem → Prop), WP 14 [] 3 L S M Q = WP 14 [(.iinc 2 1, 2, 1, 0), (.goto (-33), 2, 0, 0)] 0 L S M Q := wp_blk rfl
theorem B_14_4 : ∀ (L : Lo) (S : List Value) (M : Mem) (Q : Option Value → Mem → Prop), WP 14 [] 4 L S M Q = WP 14 [(.iconst 0, 0, 0, 0), (.istore_n 2, 2, 0, 0)] 5 L S M Q := wp_blk rfl
theorem B_14_5 : ∀ (L : Lo) (S : List Value) (M : Mem) (Q : Option Value → Mem → Prop), WP 14 [] 5 L S M Q = WP 14 [(.iload_n 2, 2, 0, 0), (.iload_n 1, 1, 0, 0), (.if_icmp .ge 61, 9, 0, 0), (.aload_n 0, 0, 0, 0), (.getfield 35, 3, 7, 0), (.iconst (-1), 1, 1, 0), (.if_icmp .ne 53, 9, 0, 0), (.iload_n 2, 2, 0, 0), (.iconst 1, 1, 0, 0), (.iadd, 0, 0, 0), (.istore_n 3, 3, 0, 0)] 6 L S M Q := wp_blk rfl
theorem B_14_6 : ∀ (L : Lo) (S : List Value) (M : Mem) (Q : Option Value → Mem → Prop), WP 14 [] 6 L S M Q = WP 14 [(.iload_n 3, 3, 0, 0), (.iload_n 1, 1, 0, 0), (.if_icmp .ge 38, 8, 0, 0), (.aload_n 0, 0, 0, 0), (.getfield 35, 3, 7, 0), (.iconst (-1), 1, 1, 0), (.if_icmp .ne 30, 8, 0, 0), (.aload_n 0, 0, 0, 0), (.iconst 1, 1, 0, 0), (.iload_n 2, 2, 0, 0), (.ishl, 0, 0, 0), (.iconst 1, 1, 0, 0), (.iload_n 3, 3, 0, 0), (.ishl, 0, 0, 0), (.ior, 0, 0, 0), (.invokevirtual 101, 12, 1, 3), (.ifCond .eq 10, 7, 0, 0), (.aload_n 0, 0, 0, 0), (.iconst 2, 2, 0, 0), (.iload_n 2, 2, 0, 0), (.iload_n 3, 3, 0, 0), (.invokevirtual 87, 13, 3, 3)] 7 L S M Q := wp_blk rfl
theorem B_14_7 : ∀ (L : Lo) (S : List Value) (M : Mem) (Q : Option Value → Mem → Prop), WP 14 [] 7 L S M Q = WP 14 [(.iinc 3 1, 3, 1, 0), (.goto (-37), 6, 0, 0)] 0 L S M Q := wp_blk rfl
theorem B_14_8 : ∀ (L : Lo) (S : List Value) (M : Mem) (Q : Option Value → Mem → Prop), WP 14 [] 8 L S M Q = WP 14 [(.iinc 2 1, 2, 1, 0), (.goto (-60), 5, 0, 0)] 0 L S M Q := wp_blk rfl
theorem B_14_9 : ∀ (L : Lo) (S : List Value) (M : Mem) (Q : Option Value → Mem → Prop), WP 14 [] 9 L S M Q = WP 14 [(.return_, 0, 0, 0)] 0 L S M Q := wp_blk rfl
-- X3_findNever
theorem E_15 (q0 : Nat) (M : Mem) (Q : Option Value → Mem → Prop) : Ct 15 [.ref q0] M Q = WP 15 [] 0 [some (.ref q0), none, none] [] M Q := ct_wp rfl M Q
theorem B_15_0 : ∀ (L : Lo) (S : List Value) (M : Mem) (Q : Option Value → Mem → Prop), WP 15 [] 0 L S M Q = WP 15 [(.iconst 0, 0, 0, 0), (.istore_n 1, 1, 0, 0), (.iconst 0, 0, 0, 0), (.istore_n 2, 2, 0, 0)] 1 L S M Q := wp_blk rfl
theorem B_15_1 : ∀ (L : Lo) (S : List Value) (M : Mem) (Q : Option Value → Mem → Prop), WP 15 [] 1 L S M Q = WP 15 [(.iload_n 2, 2, 0, 0), (.aload_n 0, 0, 0, 0), (.getfield 27, 3, 0, 0), (.getfield 90, 0, 4, 0), (.getfield 96, 1, 3, 0), (.if_icmp .ge 62, 3, 0, 0), (.aload_n 0, 0, 0, 0), (.getfield 14, 3, 1, 0), (.aload_n 0, 0, 0, 0), (.getfield 27, 3, 0, 0), (.sipush 255, 255, 0, 0), (.iconst 1, 1, 0, 0), (.iload_n 2, 2, 0, 0), (.ishl, 0, 0, 0), (.iconst (-1), 1, 1, 0), (.ixor, 0, 0, 0), (.iand, 0, 0, 0), (.invokevirtual 38, 41, 2, 7), (.aload_n 0, 0, 0, 0), (.getfield 14, 3, 1, 0), (.invokevirtual 52, 42, 0, 7), (.aload_n 0, 0, 0, 0), (.getfield 27, 3, 0, 0), (.getfield 105, 0, 5, 0), (.aload_n 0, 0, 0, 0), (.getfield 14, 3, 1, 0), (.getfield 109, 7, 6, 0), (.invokevirtual 112, 26, 1, 4), (.ifCond .eq 9, 2, 0, 0), (.iload_n 1, 1, 0, 0), (.iconst 1, 1, 0, 0), (.iload_n 2, 2, 0, 0), (.ishl, 0, 0, 0), (.ior, 0, 0, 0), (.istore_n 1, 1, 0, 0)] 2 L S M Q := wp_blk rfl
theorem B_15_2 : ∀ (L : Lo) (S : List Value) (M : Mem) (Q : Option Value → Mem → Prop), WP 15 [] 2 L S M Q = WP 15 [(.iinc 2 1, 2, 1, 0), (.goto (-70), 1, 0, 0)] 0 L S M Q := wp_blk rfl
theorem B_15_3 : ∀ (L : Lo) (S : List Value) (M : Mem) (Q : Option Value → Mem → Prop), WP 15 [] 3 L S M Q = WP 15 [(.iload_n 1, 1, 0, 0), (.ireturn, 0, 0, 0)] 0 L S M Q := wp_blk rfl
-- X3_findSizes
theorem E_16 (q0 : Nat) (q1 : Int32) (q2 : Int32) (M : Mem) (Q : Option Value → Mem → Prop) : Ct 16 [.ref q0, .int q1, .int q2] M Q = WP 16 [] 0 [some (.ref q0), some (.int q1), some (.int q2), none, none] [] M Q := ct_wp rfl M Q
theorem B_16_0 : ∀ (L : Lo) (S : List Value) (M : Mem) (Q : Option Value → Mem → Prop), WP 16 [] 0 L S M Q = WP 16 [(.iconst 0, 0, 0, 0), (.istore_n 3, 3, 0, 0), (.iconst 1, 1, 0, 0), (.istore 4, 4, 0, 0)] 1 L S M Q := wp_blk rfl
theorem B_16_1 : ∀ (L : Lo) (S : List Value) (M : Mem) (Q : Option Value → Mem → Prop), WP 16 [] 1 L S M Q = WP 16 [(.iload 4, 4, 0, 0), (.bipush 9, 9, 0, 0), (.if_icmp .gt 100, 3, 0, 0), (.aload_n 0, 0, 0, 0), (.getfield 14, 3, 1, 0), (.aload_n 0, 0, 0, 0), (.getfield 27, 3, 0, 0), (.sipush 255, 255, 0, 0), (.invokevirtual 38, 41, 2, 7), (.aload_n 0, 0, 0, 0), (.getfield 14, 3, 1, 0), (.getfield 61, 7, 0, 0), (.getfield 118, 6, 0, 0), (.iload_n 1, 1, 0, 0), (.bipush 6, 6, 0, 0), (.imul, 0, 0, 0), (.iload_n 2, 2, 0, 0), (.iadd, 0, 0, 0), (.iload 4, 4, 0, 0), (.iastore, 0, 0, 0), (.aload_n 0, 0, 0, 0), (.getfield 14, 3, 1, 0), (.invokevirtual 52, 42, 0, 7), (.aload_n 0, 0, 0, 0), (.getfield 14, 3, 1, 0), (.getfield 109, 7, 6, 0), (.iconst 0, 0, 0, 0), (.aload_n 0, 0, 0, 0), (.getfield 24, 3, 3, 0), (.iload 4, 4, 0, 0), (.iconst 1, 1, 0, 0), (.isub, 0, 0, 0), (.bipush 24, 24, 0, 0), (.imul, 0, 0, 0), (.bipush 24, 24, 0, 0), (.invokestatic 121, 999, 5, 0), (.aload_n 0, 0, 0, 0), (.getfield 27, 3, 0, 0), (.getfield 105, 0, 5, 0), (.aload_n 0, 0, 0, 0), (.getfield 14, 3, 1, 0), (.getfield 109, 7, 6, 0), (.invokevirtual 112, 26, 1, 4), (.ifCond .eq 10, 2, 0, 0), (.iload_n 3, 3, 0, 0), (.iconst 1, 1, 0, 0), (.iload 4, 4, 0, 0), (.ishl, 0, 0, 0), (.ior, 0, 0, 0), (.istore_n 3, 3, 0, 0)] 2 L S M Q := wp_blk rfl
theorem B_16_2 : ∀ (L : Lo) (S : List Value) (M : Mem) (Q : Option Value → Mem → Prop), WP 16 [] 2 L S M Q = WP 16 [(.iinc 4 1, 4, 1, 0), (.goto (-101), 1, 0, 0)] 0 L S M Q := wp_blk rfl
theorem B_16_3 : ∀ (L : Lo) (S : List Value) (M : Mem) (Q : Option Value → Mem → Prop), WP 16 [] 3 L S M Q = WP 16 [(.iload_n 3, 3, 0, 0), (.ireturn, 0, 0, 0)] 0 L S M Q := wp_blk rfl
-- X3_findAsk
theorem E_17 (q0 : Nat) (q1 : Int32) (M : Mem) (Q : Option Value → Mem → Prop) : Ct 17 [.ref q0, .int q1] M Q = WP 17 [] 0 [some (.ref q0), some (.int q1), none, none, none, none] [] M Q := ct_wp rfl M Q
theorem B_17_0 : ∀ (L : Lo) (S : List Value) (M : Mem) (Q : Option Value → Mem → Prop), WP 17 [] 0 L S M Q = WP 17 [(.iconst (-1), 1, 1, 0), (.istore_n 2, 2, 0, 0), (.bipush 10, 10, 0, 0), (.istore_n 3, 3, 0, 0), (.iconst 0, 0, 0, 0), (.istore 4, 4, 0, 0)] 1 L S M Q := wp_blk rfl
theorem B_17_1 : ∀ (L : Lo) (S : List Value) (M : Mem) (Q : Option Value → Mem → Prop), WP 17 [] 1 L S M Q = WP 17 [(.iload 4, 4, 0, 0), (.bipush 24, 24, 0, 0), (.if_icmp .ge 30, 3, 0, 0), (.aload_n 0, 0, 0, 0), (.iload_n 1, 1, 0, 0), (.iload 4, 4, 0, 0), (.invokevirtual 127, 18, 2, 3), (.istore 5, 5, 0, 0), (.iload 5, 5, 0, 0), (.iload_n 3, 3, 0, 0), (.if_icmp .ge 9, 2, 0, 0), (.iload 5, 5, 0, 0), (.istore_n 3, 3, 0, 0), (.iload 4, 4, 0, 0), (.istore_n 2, 2, 0, 0)] 2 L S M Q := wp_blk rfl
theorem B_17_2 : ∀ (L : Lo) (S : List Value) (M : Mem) (Q : Option Value → Mem → Prop), WP 17 [] 2 L S M Q = WP 17 [(.iinc 4 1, 4, 1, 0), (.goto (-31), 1, 0, 0)] 0 L S M Q := wp_blk rfl
theorem B_17_3 : ∀ (L : Lo) (S : List Value) (M : Mem) (Q : Option Value → Mem → Prop), WP 17 [] 3 L S M Q = WP 17 [(.iload_n 2, 2, 0, 0), (.ireturn, 0, 0, 0)] 0 L S M Q := wp_blk rfl
-- X3_mostAlike
theorem E_18 (q0 : Nat) (q1 : Int32) (q2 : Int32) (M : Mem) (Q : Option Value → Mem → Prop) : Ct 18 [.ref q0, .int q1, .int q2] M Q = WP 18 [] 0 [some (.ref q0), some (.int q1), some (.int q2), none, none, none, none] [] M Q := ct_wp rfl M Q
theorem B_18_0 : ∀ (L : Lo) (S : List Value) (M : Mem) (Q : Option Value → Mem → Prop), WP 18 [] 0 L S M Q = WP 18 [(.iconst 0, 0, 0, 0), (.istore_n 3, 3, 0, 0), (.iconst 1, 1, 0, 0), (.istore 4, 4, 0, 0)] 1 L S M Q := wp_blk rfl
theorem B_18_1 : ∀ (L : Lo) (S : List Value) (M : Mem) (Q : Option Value → Mem → Prop), WP 18 [] 1 L S M Q = WP 18 [(.iload 4, 4, 0, 0), (.bipush 9, 9, 0, 0), (.if_icmp .gt 84, 5, 0, 0), (.iconst 0, 0, 0, 0), (.istore 5, 5, 0, 0), (.iconst 1, 1, 0, 0), (.istore 6, 6, 0, 0)] 2 L S M Q := wp_blk rfl
theorem B_18_2 : ∀ (L : Lo) (S : List Value) (M : Mem) (Q : Option Value → Mem → Prop), WP 18 [] 2 L S M Q = WP 18 [(.iload 6, 6, 0, 0), (.bipush 9, 9, 0, 0), (.if_icmp .gt 58, 4, 0, 0), (.iload_n 1, 1, 0, 0), (.iload 4, 4, 0, 0), (.ishr, 0, 0, 0), (.iload_n 1, 1, 0, 0), (.iload 6, 6, 0, 0), (.ishr, 0, 0, 0), (.iand, 0, 0, 0), (.iconst 1, 1, 0, 0), (.iand, 0, 0, 0), (.iconst 1, 1, 0, 0), (.if_icmp .ne 37, 3, 0, 0), (.aload_n 0, 0, 0, 0), (.getfield 24, 3, 3, 0), (.iload 4, 4, 0, 0), (.iconst 1, 1, 0, 0), (.isub, 0, 0, 0), (.bipush 24, 24, 0, 0), (.imul, 0, 0, 0), (.iload_n 2, 2, 0, 0), (.iadd, 0, 0, 0), (.iaload, 0, 0, 0), (.aload_n 0, 0, 0, 0), (.getfield 24, 3, 3, 0), (.iload 6, 6, 0, 0), (.iconst 1, 1, 0, 0), (.isub, 0, 0, 0), (.bipush 24, 24, 0, 0), (.imul, 0, 0, 0), (.iload_n 2, 2, 0, 0), (.iadd, 0, 0, 0), (.iaload, 0, 0, 0), (.if_icmp .ne 6, 3, 0, 0), (.iinc 5 1, 5, 1, 0)] 3 L S M Q := wp_blk rfl
theorem B_18_3 : ∀ (L : Lo) (S : List Value) (M : Mem) (Q : Option Value → Mem → Prop), WP 18 [] 3 L S M Q = WP 18 [(.iinc 6 1, 6, 1, 0), (.goto (-59), 2, 0, 0)] 0 L S M Q := wp_blk rfl
theorem B_18_4 : ∀ (L : Lo) (S : List Value) (M : Mem) (Q : Option Value → Mem → Prop), WP 18 [] 4 L S M Q = WP 18 [(.iload_n 3, 3, 0, 0), (.iload 5, 5, 0, 0), (.invokestatic 131, 997, 2, 0), (.istore_n 3, 3, 0, 0), (.iinc 4 1, 4, 1, 0), (.goto (-85), 1, 0, 0)] 0 L S M Q := wp_blk rfl
theorem B_18_5 : ∀ (L : Lo) (S : List Value) (M : Mem) (Q : Option Value → Mem → Prop), WP 18 [] 5 L S M Q = WP 18 [(.iload_n 3, 3, 0, 0), (.ireturn, 0, 0, 0)] 0 L S M Q := wp_blk rfl
-- X3_findChance
theorem E_19 (q0 : Nat) (q1 : Int32) (q2 : Int32) (M : Mem) (Q : Option Value → Mem → Prop) : Ct 19 [.ref q0, .int q1, .int q2] M Q = WP 19 [] 0 [some (.ref q0), some (.int q1), some (.int q2), none, none, none] [] M Q := ct_wp rfl M Q
theorem B_19_0 : ∀ (L : Lo) (S : List Value) (M : Mem) (Q : Option Value → Mem → Prop), WP 19 [] 0 L S M Q = WP 19 [(.aload_n 0, 0, 0, 0), (.invokevirtual 136, 20, 0, 3), (.aload_n 0, 0, 0, 0), (.getfield 27, 3, 0, 0), (.getfield 90, 0, 4, 0), (.getfield 96, 1, 3, 0), (.istore_n 3, 3, 0, 0), (.aload_n 0, 0, 0, 0), (.lconst 0, 0, 0, 0), (.putfield 139, 3, 8, 0), (.iconst 0, 0, 0, 0), (.istore 4, 4, 0, 0)] 1 L S M Q := wp_blk rfl
theorem B_19_1 : ∀ (L : Lo) (S : List Value) (M : Mem) (Q : Option Value → Mem → Prop), WP 19 [] 1 L S M Q = WP 19 [(.iload 4, 4, 0, 0), (.iconst 1, 1, 0, 0), (.iload_n 3, 3, 0, 0), (.ishl, 0, 0, 0), (.if_icmp .ge 60, 3, 0, 0), (.aload_n 0, 0, 0, 0), (.getfield 20, 3, 2, 0), (.iload 4, 4, 0, 0), (.iaload, 0, 0, 0), (.iload_n 2, 2, 0, 0), (.ishr, 0, 0, 0), (.iconst 1, 1, 0, 0), (.iand, 0, 0, 0), (.iconst 1, 1, 0, 0), (.if_icmp .ne 39, 2, 0, 0), (.iload 4, 4, 0, 0), (.invokestatic 143, 196, 1, 0), (.istore 5, 5, 0, 0), (.aload_n 0, 0, 0, 0), (.dup, 0, 0, 0), (.getfield 139, 3, 8, 0), (.iload_n 1, 1, 0, 0), (.i2l, 0, 0, 0), (.iload 5, 5, 0, 0), (.invokestatic 149, 21, 2, 0), (.bipush 16, 16, 0, 0), (.iload_n 1, 1, 0, 0), (.isub, 0, 0, 0), (.i2l, 0, 0, 0), (.iload_n 3, 3, 0, 0), (.iload 5, 5, 0, 0), (.isub, 0, 0, 0), (.invokestatic 149, 21, 2, 0), (.lmul, 0, 0, 0), (.ladd, 0, 0, 0), (.putfield 139, 3, 8, 0)] 2 L S M Q := wp_blk rfl
theorem B_19_2 : ∀ (L : Lo) (S : List Value) (M : Mem) (Q : Option Value → Mem → Prop), WP 19 [] 2 L S M Q = WP 19 [(.iinc 4 1, 4, 1, 0), (.goto (-62), 1, 0, 0)] 0 L S M Q := wp_blk rfl
theorem B_19_3 : ∀ (L : Lo) (S : List Value) (M : Mem) (Q : Option Value → Mem → Prop), WP 19 [] 3 L S M Q = WP 19 [(.aload_n 0, 0, 0, 0), (.ldc2_w 153, 16, 0, 0), (.iload_n 3, 3, 0, 0), (.invokestatic 149, 21, 2, 0), (.putfield 155, 3, 9, 0), (.iconst 0, 0, 0, 0), (.istore 4, 4, 0, 0)] 4 L S M Q := wp_blk rfl
theorem B_19_4 : ∀ (L : Lo) (S : List Value) (M : Mem) (Q : Option Value → Mem → Prop), WP 19 [] 4 L S M Q = WP 19 [(.iload 4, 4, 0, 0), (.bipush 32, 32, 0, 0), (.if_icmp .ge 59, 6, 0, 0), (.aload_n 0, 0, 0, 0), (.getfield 139, 3, 8, 0), (.ldc2_w 158, 2, 0, 0), (.lrem, 0, 0, 0), (.lconst 0, 0, 0, 0), (.lcmp, 0, 0, 0), (.ifCond .ne 40, 5, 0, 0), (.aload_n 0, 0, 0, 0), (.getfield 155, 3, 9, 0), (.ldc2_w 158, 2, 0, 0), (.lrem, 0, 0, 0), (.lconst 0, 0, 0, 0), (.lcmp, 0, 0, 0), (.ifCond .ne 27, 5, 0, 0), (.aload_n 0, 0, 0, 0), (.dup, 0, 0, 0), (.getfield 139, 3, 8, 0), (.ldc2_w 158, 2, 0, 0), (.ldiv, 0, 0, 0), (.putfield 139, 3, 8, 0), (.aload_n 0, 0, 0, 0), (.dup, 0, 0, 0), (.getfield 155, 3, 9, 0), (.ldc2_w 158, 2, 0, 0), (.ldiv, 0, 0, 0), (.putfield 155, 3, 9, 0)] 5 L S M Q := wp_blk rfl
theorem B_19_5 : ∀ (L : Lo) (S : List Value) (M : Mem) (Q : Option Value → Mem → Prop), WP 19 [] 5 L S M Q = WP 19 [(.iinc 4 1, 4, 1, 0), (.goto (-60), 4, 0, 0)] 0 L S M Q := wp_blk rfl
theorem B_19_6 : ∀ (L : Lo) (S : List Value) (M : Mem) (Q : Option Value → Mem → Prop), WP 19 [] 6 L S M Q = WP 19 [(.return_, 0, 0, 0)] 0 L S M Q := wp_blk rfl
-- X3_learnShorts
theorem E_20 (q0 : Nat) (M : Mem) (Q : Option Value → Mem → Prop) : Ct 20 [.ref q0] M Q = WP 20 [] 0 [some (.ref q0), none] [] M Q := ct_wp rfl M Q
theorem B_20_0 : ∀ (L : Lo) (S : List Value) (M : Mem) (Q : Option Value → Mem → Prop), WP 20 [] 0 L S M Q = WP 20 [(.iconst 0, 0, 0, 0), (.istore_n 1, 1, 0, 0)] 1 L S M Q := wp_blk rfl
theorem B_20_1 : ∀ (L : Lo) (S : List Value) (M : Mem) (Q : Option Value → Mem → Prop), WP 20 [] 1 L S M Q = WP 20 [(.iload_n 1, 1, 0, 0), (.iconst 1, 1, 0, 0), (.aload_n 0, 0, 0, 0), (.getfield 27, 3, 0, 0), (.getfield 90, 0, 4, 0), (.getfield 96, 1, 3, 0), (.ishl, 0, 0, 0), (.if_icmp .ge 48, 2, 0, 0), (.aload_n 0, 0, 0, 0), (.getfield 160, 3, 4, 0), (.ifCond .ne 41, 2, 0, 0), (.aload_n 0, 0, 0, 0), (.getfield 14, 3, 1, 0), (.aload_n 0, 0, 0, 0), (.getfield 27, 3, 0, 0), (.iload_n 1, 1, 0, 0), (.invokevirtual 38, 41, 2, 7), (.aload_n 0, 0, 0, 0), (.getfield 14, 3, 1, 0), (.invokevirtual 52, 42, 0, 7), (.aload_n 0, 0, 0, 0), (.getfield 20, 3, 2, 0), (.iload_n 1, 1, 0, 0), (.aload_n 0, 0, 0, 0), (.getfield 14, 3, 1, 0), (.getfield 84, 7, 10, 0), (.iastore, 0, 0, 0), (.iinc 1 1, 1, 1, 0), (.goto (-58), 1, 0, 0)] 0 L S M Q := wp_blk rfl
theorem B_20_2 : ∀ (L : Lo) (S : List Value) (M : Mem) (Q : Option Value → Mem → Prop), WP 20 [] 2 L S M Q = WP 20 [(.aload_n 0, 0, 0, 0), (.iconst 1, 1, 0, 0), (.putfield 160, 3, 4, 0), (.return_, 0, 0, 0)] 0 L S M Q := wp_blk rfl
-- X3_power
theorem E_21 (q0 : Int64) (q1 : Int32) (M : Mem) (Q : Option Value → Mem → Prop) : Ct 21 [.long q0, .int q1] M Q = WP 21 [] 0 [some (.long q0), none, some (.int q1), none, none, none] [] M Q := ct_wp rfl M Q
theorem B_21_0 : ∀ (L : Lo) (S : List Value) (M : Mem) (Q : Option Value → Mem → Prop), WP 21 [] 0 L S M Q = WP 21 [(.lconst 1, 1, 0, 0), (.lstore_n 3, 3, 0, 0), (.iconst 0, 0, 0, 0), (.istore 5, 5, 0, 0)] 1 L S M Q := wp_blk rfl
theorem B_21_1 : ∀ (L : Lo) (S : List Value) (M : Mem) (Q : Option Value → Mem → Prop), WP 21 [] 1 L S M Q = WP 21 [(.iload 5, 5, 0, 0), (.iload_n 2, 2, 0, 0), (.if_icmp .ge 13, 2, 0, 0), (.lload_n 3, 3, 0, 0), (.lload_n 0, 0, 0, 0), (.lmul, 0, 0, 0), (.lstore_n 3, 3, 0, 0), (.iinc 5 1, 5, 1, 0), (.goto (-13), 1, 0, 0)] 0 L S M Q := wp_blk rfl
theorem B_21_2 : ∀ (L : Lo) (S : List Value) (M : Mem) (Q : Option Value → Mem → Prop), WP 21 [] 2 L S M Q = WP 21 [(.lload_n 3, 3, 0, 0), (.lreturn, 0, 0, 0)] 0 L S M Q := wp_blk rfl
-- X3_drawnSummer
theorem E_22 (q0 : Nat) (q1 : Int32) (q2 : Int32) (M : Mem) (Q : Option Value → Mem → Prop) : Ct 22 [.ref q0, .int q1, .int q2] M Q = WP 22 [] 0 [some (.ref q0), some (.int q1), some (.int q2), none, none, none, none] [] M Q := ct_wp rfl M Q
theorem B_22_0 : ∀ (L : Lo) (S : List Value) (M : Mem) (Q : Option Value → Mem → Prop), WP 22 [] 0 L S M Q = WP 22 [(.aload_n 0, 0, 0, 0), (.getfield 14, 3, 1, 0), (.aload_n 0, 0, 0, 0), (.getfield 27, 3, 0, 0), (.iconst 0, 0, 0, 0), (.invokevirtual 38, 41, 2, 7), (.iload_n 1, 1, 0, 0), (.istore_n 3, 3, 0, 0), (.iconst 0, 0, 0, 0), (.istore 4, 4, 0, 0)] 1 L S M Q := wp_blk rfl
theorem B_22_1 : ∀ (L : Lo) (S : List Value) (M : Mem) (Q : Option Value → Mem → Prop), WP 22 [] 1 L S M Q = WP 22 [(.iload 4, 4, 0, 0), (.iload_n 2, 2, 0, 0), (.if_icmp .ge 59, 2, 0, 0), (.iload_n 3, 3, 0, 0), (.invokestatic 164, 23, 1, 0), (.istore_n 3, 3, 0, 0), (.iload_n 3, 3, 0, 0), (.iconst 3, 3, 0, 0), (.invokestatic 167, 24, 2, 0), (.istore 5, 5, 0, 0), (.iload_n 3, 3, 0, 0), (.invokestatic 164, 23, 1, 0), (.istore_n 3, 3, 0, 0), (.iload_n 3, 3, 0, 0), (.bipush 24, 24, 0, 0), (.invokestatic 167, 24, 2, 0), (.istore 6, 6, 0, 0), (.iload_n 3, 3, 0, 0), (.invokestatic 164, 23, 1, 0), (.istore_n 3, 3, 0, 0), (.aload_n 0, 0, 0, 0), (.getfield 14, 3, 1, 0), (.getfield 42, 7, 2, 0), (.iload 5, 5, 0, 0), (.iload 6, 6, 0, 0), (.iload_n 3, 3, 0, 0), (.bipush 6, 6, 0, 0), (.invokestatic 167, 24, 2, 0), (.invokevirtual 46, 51, 3, 9), (.iinc 4 1, 4, 1, 0), (.goto (-59), 1, 0, 0)] 0 L S M Q := wp_blk rfl
theorem B_22_2 : ∀ (L : Lo) (S : List Value) (M : Mem) (Q : Option Value → Mem → Prop), WP 22 [] 2 L S M Q = WP 22 [(.aload_n 0, 0, 0, 0), (.getfield 14, 3, 1, 0), (.invokevirtual 52, 42, 0, 7), (.aload_n 0, 0, 0, 0), (.getfield 14, 3, 1, 0), (.areturn, 0, 0, 0)] 0 L S M Q := wp_blk rfl
-- X3_nextSeed
theorem E_23 (q0 : Int32) (M : Mem) (Q : Option Value → Mem → Prop) : Ct 23 [.int q0] M Q = WP 23 [] 0 [some (.int q0)] [] M Q := ct_wp rfl M Q
theorem B_23_0 : ∀ (L : Lo) (S : List Value) (M : Mem) (Q : Option Value → Mem → Prop), WP 23 [] 0 L S M Q = WP 23 [(.ldc 170, 1103515245, 0, 0), (.iload_n 0, 0, 0, 0), (.imul, 0, 0, 0), (.sipush 12345, 12345, 0, 0), (.iadd, 0, 0, 0), (.ireturn, 0, 0, 0)] 0 L S M Q := wp_blk rfl
-- X3_lot
theorem E_24 (q0 : Int32) (q1 : Int32) (M : Mem) (Q : Option Value → Mem → Prop) : Ct 24 [.int q0, .int q1] M Q = WP 24 [] 0 [some (.int q0), some (.int q1)] [] M Q := ct_wp rfl M Q
theorem B_24_0 : ∀ (L : Lo) (S : List Value) (M : Mem) (Q : Option Value → Mem → Prop), WP 24 [] 0 L S M Q = WP 24 [(.iload_n 1, 1, 0, 0), (.iconst 1, 1, 0, 0), (.if_icmp .ge 7, 1, 0, 0), (.iconst 0, 0, 0, 0), (.goto 9, 2, 0, 0)] 0 L S M Q := wp_blk rfl
theorem B_24_1 : ∀ (L : Lo) (S : List Value) (M : Mem) (Q : Option Value → Mem → Prop), WP 24 [] 1 L S M Q = WP 24 [(.iload_n 0, 0, 0, 0), (.bipush 16, 16, 0, 0), (.iushr, 0, 0, 0), (.iload_n 1, 1, 0, 0), (.irem, 0, 0, 0)] 2 L S M Q := wp_blk rfl
theorem B_24_2 : ∀ (L : Lo) (S : List Value) (M : Mem) (Q : Option Value → Mem → Prop), WP 24 [] 2 L S M Q = WP 24 [(.ireturn, 0, 0, 0)] 0 L S M Q := wp_blk rfl
-- X4_append
theorem E_25 (q0 : Nat) (q1 : Int32) (q2 : Int32) (q3 : Int32) (M : Mem) (Q : Option Value → Mem → Prop) : Ct 25 [.ref q0, .int q1, .int q2, .int q3] M Q = WP 25 [] 0 [some (.ref q0), some (.int q1), some (.int q2), some (.int q3)] [] M Q := ct_wp rfl M Q
theorem B_25_0 : ∀ (L : Lo) (S : List Value) (M : Mem) (Q : Option Value → Mem → Prop), WP 25 [] 0 L S M Q = WP 25 [(.aload_n 0, 0, 0, 0), (.getfield 21, 4, 3, 0), (.bipush 8, 8, 0, 0), (.if_icmp .ge 43, 1, 0, 0), (.aload_n 0, 0, 0, 0), (.getfield 9, 4, 0, 0), (.aload_n 0, 0, 0, 0), (.getfield 21, 4, 3, 0), (.iload_n 1, 1, 0, 0), (.iastore, 0, 0, 0), (.aload_n 0, 0, 0, 0), (.getfield 15, 4, 1, 0), (.aload_n 0, 0, 0, 0), (.getfield 21, 4, 3, 0), (.iload_n 2, 2, 0, 0), (.iastore, 0, 0, 0), (.aload_n 0, 0, 0, 0), (.getfield 18, 4, 2, 0), (.aload_n 0, 0, 0, 0), (.getfield 21, 4, 3, 0), (.iload_n 3, 3, 0, 0), (.iastore, 0, 0, 0), (.aload_n 0, 0, 0, 0), (.dup, 0, 0, 0), (.getfield 21, 4, 3, 0), (.iconst 1, 1, 0, 0), (.iadd, 0, 0, 0), (.putfield 21, 4, 3, 0)] 1 L S M Q := wp_blk rfl
theorem B_25_1 : ∀ (L : Lo) (S : List Value) (M : Mem) (Q : Option Value → Mem → Prop), WP 25 [] 1 L S M Q = WP 25 [(.return_, 0, 0, 0)] 0 L S M Q := wp_blk rfl
-- X4_fits
theorem E_26 (q0 : Nat) (q1 : Nat) (M : Mem) (Q : Option Value → Mem → Prop) : Ct 26 [.ref q0, .ref q1] M Q = WP 26 [] 0 [some (.ref q0), some (.ref q1), none] [] M Q := ct_wp rfl M Q
theorem B_26_0 : ∀ (L : Lo) (S : List Value) (M : Mem) (Q : Option Value → Mem → Prop), WP 26 [] 0 L S M Q = WP 26 [(.iconst 0, 0, 0, 0), (.istore_n 2, 2, 0, 0)] 1 L S M Q := wp_blk rfl
theorem B_26_1 : ∀ (L : Lo) (S : List Value) (M : Mem) (Q : Option Value → Mem → Prop), WP 26 [] 1 L S M Q = WP 26 [(.iload_n 2, 2, 0, 0), (.aload_n 0, 0, 0, 0), (.getfield 21, 4, 3, 0), (.if_icmp .ge 37, 3, 0, 0), (.aload_n 1, 1, 0, 0), (.aload_n 0, 0, 0, 0), (.getfield 9, 4, 0, 0), (.iload_n 2, 2, 0, 0), (.iaload, 0, 0, 0), (.iaload, 0, 0, 0), (.aload_n 0, 0, 0, 0), (.getfield 15, 4, 1, 0), (.iload_n 2, 2, 0, 0), (.iaload, 0, 0, 0), (.invokestatic 25, 40, 2, 0), (.aload_n 0, 0, 0, 0), (.getfield 18, 4, 2, 0), (.iload_n 2, 2, 0, 0), (.iaload, 0, 0, 0), (.if_icmp .eq 5, 2, 0, 0), (.iconst 0, 0, 0, 0), (.ireturn, 1, 0, 0)] 0 L S M Q := wp_blk rfl
theorem B_26_2 : ∀ (L : Lo) (S : List Value) (M : Mem) (Q : Option Value → Mem → Prop), WP 26 [] 2 L S M Q = WP 26 [(.iinc 2 1, 2, 1, 0), (.goto (-39), 1, 0, 0)] 0 L S M Q := wp_blk rfl
theorem B_26_3 : ∀ (L : Lo) (S : List Value) (M : Mem) (Q : Option Value → Mem → Prop), WP 26 [] 3 L S M Q = WP 26 [(.iconst 1, 1, 0, 0), (.ireturn, 1, 0, 0)] 0 L S M Q := wp_blk rfl
-- X5_renew
theorem E_27 (q0 : Nat) (q1 : Int32) (q2 : Int32) (M : Mem) (Q : Option Value → Mem → Prop) : Ct 27 [.ref q0, .int q1, .int q2] M Q = WP 27 [] 0 [some (.ref q0), some (.int q1), some (.int q2)] [] M Q := ct_wp rfl M Q
theorem B_27_0 : ∀ (L : Lo) (S : List Value) (M : Mem) (Q : Option Value → Mem → Prop), WP 27 [] 0 L S M Q = WP 27 [(.aload_n 0, 0, 0, 0), (.getfield 9, 5, 0, 0), (.iconst 0, 0, 0, 0), (.invokestatic 19, 197, 2, 0), (.aload_n 0, 0, 0, 0), (.iload_n 1, 1, 0, 0), (.putfield 15, 5, 1, 0), (.aload_n 0, 0, 0, 0), (.iload_n 2, 2, 0, 0), (.putfield 25, 5, 2, 0), (.return_, 0, 0, 0)] 0 L S M Q := wp_blk rfl
-- X5_hindrance
theorem E_28 (q0 : Nat) (q1 : Int32) (q2 : Int32) (M : Mem) (Q : Option Value → Mem → Prop) : Ct 28 [.ref q0, .int q1, .int q2] M Q = WP 28 [] 0 [some (.ref q0), some (.int q1), some (.int q2)] [] M Q := ct_wp rfl M Q
theorem B_28_0 : ∀ (L : Lo) (S : List Value) (M : Mem) (Q : Option Value → Mem → Prop), WP 28 [] 0 L S M Q = WP 28 [(.aload_n 0, 0, 0, 0), (.getfield 15, 5, 1, 0), (.iconst (-1), 1, 1, 0), (.if_icmp .ne 5, 1, 0, 0), (.iconst 1, 1, 0, 0), (.ireturn, 0, 0, 0)] 0 L S M Q := wp_blk rfl
theorem B_28_1 : ∀ (L : Lo) (S : List Value) (M : Mem) (Q : Option Value → Mem → Prop), WP 28 [] 1 L S M Q = WP 28 [(.aload_n 0, 0, 0, 0), (.getfield 15, 5, 1, 0), (.iload_n 1, 1, 0, 0), (.if_icmp .eq 5, 2, 0, 0), (.iconst 3, 3, 0, 0), (.ireturn, 0, 0, 0)] 0 L S M Q := wp_blk rfl
theorem B_28_2 : ∀ (L : Lo) (S : List Value) (M : Mem) (Q : Option Value → Mem → Prop), WP 28 [] 2 L S M Q = WP 28 [(.iload_n 2, 2, 0, 0), (.aload_n 0, 0, 0, 0), (.getfield 25, 5, 2, 0), (.iconst 1, 1, 0, 0), (.isub, 0, 0, 0), (.invokestatic 28, 93, 2, 1), (.ifCond .eq 7, 3, 0, 0), (.iconst 2, 2, 0, 0), (.goto 4, 4, 0, 0)] 0 L S M Q := wp_blk rfl
theorem B_28_3 : ∀ (L : Lo) (S : List Value) (M : Mem) (Q : Option Value → Mem → Prop), WP 28 [] 3 L S M Q = WP 28 [(.iconst 0, 0, 0, 0)] 4 L S M Q := wp_blk rfl
theorem B_28_4 : ∀ (L : Lo) (S : List Value) (M : Mem) (Q : Option Value → Mem → Prop), WP 28 [] 4 L S M Q = WP 28 [(.ireturn, 0, 0, 0)] 0 L S M Q := wp_blk rfl
-- X5_hasRow
theorem E_29 (q0 : Nat) (q1 : Int32) (q2 : Int32) (M : Mem) (Q : Option Value → Mem → Prop) : Ct 29 [.ref q0, .int q1, .int q2] M Q = WP 29 [] 0 [some (.ref q0), some (.int q1), some (.int q2)] [] M Q := ct_wp rfl M Q
theorem B_29_0 : ∀ (L : Lo) (S : List Value) (M : Mem) (Q : Option Value → Mem → Prop), WP 29 [] 0 L S M Q = WP 29 [(.iload_n 1, 1, 0, 0), (.ifCond .lt 29, 1, 0, 0), (.iload_n 2, 2, 0, 0), (.ifCond .lt 25, 1, 0, 0), (.iload_n 1, 1, 0, 0), (.aload_n 0, 0, 0, 0), (.getfield 25, 5, 2, 0), (.if_icmp .gt 17, 1, 0, 0), (.iload_n 2, 2, 0, 0), (.aload_n 0, 0, 0, 0), (.getfield 25, 5, 2, 0), (.iload_n 1, 1, 0, 0), (.isub, 0, 0, 0), (.if_icmp .gt 7, 1, 0, 0), (.iconst 1, 1, 0, 0), (.goto 4, 2, 0, 0)] 0 L S M Q := wp_blk rfl
theorem B_29_1 : ∀ (L : Lo) (S : List Value) (M : Mem) (Q : Option Value → Mem → Prop), WP 29 [] 1 L S M Q = WP 29 [(.iconst 0, 0, 0, 0)] 2 L S M Q := wp_blk rfl
theorem B_29_2 : ∀ (L : Lo) (S : List Value) (M : Mem) (Q : Option Value → Mem → Prop), WP 29 [] 2 L S M Q = WP 29 [(.ireturn, 1, 0, 0)] 0 L S M Q := wp_blk rfl
-- X5_put
theorem E_30 (q0 : Nat) (q1 : Int32) (q2 : Int32) (M : Mem) (Q : Option Value → Mem → Prop) : Ct 30 [.ref q0, .int q1, .int q2] M Q = WP 30 [] 0 [some (.ref q0), some (.int q1), some (.int q2)] [] M Q := ct_wp rfl M Q
theorem B_30_0 : ∀ (L : Lo) (S : List Value) (M : Mem) (Q : Option Value → Mem → Prop), WP 30 [] 0 L S M Q = WP 30 [(.iload_n 1, 1, 0, 0), (.aload_n 0, 0, 0, 0), (.getfield 25, 5, 2, 0), (.iconst 1, 1, 0, 0), (.isub, 0, 0, 0), (.invokestatic 28, 93, 2, 1), (.ifCond .ne 35, 4, 0, 0), (.aload_n 0, 0, 0, 0), (.getfield 9, 5, 0, 0), (.iload_n 1, 1, 0, 0), (.aload_n 0, 0, 0, 0), (.getfield 15, 5, 1, 0), (.ifCond .ne 8, 1, 0, 0), (.iload_n 2, 2, 0, 0), (.i2b, 0, 0, 0), (.goto 17, 3, 0, 0)] 0 L S M Q := wp_blk rfl
theorem B_30_1 : ∀ (L : Lo) (S : List Value) (M : Mem) (Q : Option Value → Mem → Prop), WP 30 [] 1 L S M Q = WP 30 [(.aload_n 0, 0, 0, 0), (.getfield 15, 5, 1, 0), (.iconst 1, 1, 0, 0), (.if_icmp .ne 8, 2, 0, 0), (.iload_n 2, 2, 0, 0), (.i2s, 0, 0, 0), (.goto 4, 3, 0, 0)] 0 L S M Q := wp_blk rfl
theorem B_30_2 : ∀ (L : Lo) (S : List Value) (M : Mem) (Q : Option Value → Mem → Prop), WP 30 [] 2 L S M Q = WP 30 [(.iload_n 2, 2, 0, 0)] 3 L S M Q := wp_blk rfl
theorem B_30_3 : ∀ (L : Lo) (S : List Value) (M : Mem) (Q : Option Value → Mem → Prop), WP 30 [] 3 L S M Q = WP 30 [(.iastore, 0, 0, 0)] 4 L S M Q := wp_blk rfl
theorem B_30_4 : ∀ (L : Lo) (S : List Value) (M : Mem) (Q : Option Value → Mem → Prop), WP 30 [] 4 L S M Q = WP 30 [(.return_, 0, 0, 0)] 0 L S M Q := wp_blk rfl
-- X6_clearAll
theorem E_31 (q0 : Nat) (M : Mem) (Q : Option Value → Mem → Prop) : Ct 31 [.ref q0] M Q = WP 31 [] 0 [some (.ref q0)] [] M Q := ct_wp rfl M Q
theorem B_31_0 : ∀ (L : Lo) (S : List Value) (M : Mem) (Q : Option Value → Mem → Prop), WP 31 [] 0 L S M Q = WP 31 [(.aload_n 0, 0, 0, 0), (.getfield 9, 6, 0, 0), (.iconst 0, 0, 0, 0), (.invokestatic 18, 197, 2, 0), (.aload_n 0, 0, 0, 0), (.getfield 15, 6, 1, 0), (.iconst 0, 0, 0, 0), (.invokestatic 18, 197, 2, 0), (.return_, 0, 0, 0)] 0 L S M Q := wp_blk rfl
-- X6_become
theorem E_32 (q0 : Nat) (q1 : Nat) (M : Mem) (Q : Option Value → Mem → Prop) : Ct 32 [.ref q0, .ref q1] M Q = WP 32 [] 0 [some (.ref q0), some (.ref q1)] [] M Q := ct_wp rfl M Q
theorem B_32_0 : ∀ (L : Lo) (S : List Value) (M : Mem) (Q : Option Value → Mem → Prop), WP 32 [] 0 L S M Q = WP 32 [(.aload_n 1, 1, 0, 0), (.getfield 9, 6, 0, 0), (.iconst 0, 0, 0, 0), (.aload_n 0, 0, 0, 0), (.getfield 9, 6, 0, 0), (.iconst 0, 0, 0, 0), (.bipush 36, 36, 0, 0), (.invokestatic 24, 999, 5, 0), (.aload_n 1, 1, 0, 0), (.getfield 15, 6, 1, 0), (.iconst 0, 0, 0, 0), (.aload_n 0, 0, 0, 0), (.getfield 15, 6, 1, 0), (.iconst 0, 0, 0, 0), (.bipush 6, 6, 0, 0), (.invokestatic 24, 999, 5, 0), (.return_, 0, 0, 0)] 0 L S M Q := wp_blk rfl
-- X6_putOnTop
theorem E_33 (q0 : Nat) (q1 : Int32) (q2 : Int32) (M : Mem) (Q : Option Value → Mem → Prop) : Ct 33 [.ref q0, .int q1, .int q2] M Q = WP 33 [] 0 [some (.ref q0), some (.int q1), some (.int q2)] [] M Q := ct_wp rfl M Q
theorem B_33_0 : ∀ (L : Lo) (S : List Value) (M : Mem) (Q : Option Value → Mem → Prop), WP 33 [] 0 L S M Q = WP 33 [(.aload_n 0, 0, 0, 0), (.getfield 15, 6, 1, 0), (.iload_n 1, 1, 0, 0), (.iaload, 0, 0, 0), (.bipush 6, 6, 0, 0), (.if_icmp .ge 30, 1, 0, 0), (.aload_n 0, 0, 0, 0), (.getfield 9, 6, 0, 0), (.iload_n 1, 1, 0, 0), (.bipush 6, 6, 0, 0), (.imul, 0, 0, 0), (.aload_n 0, 0, 0, 0), (.getfield 15, 6, 1, 0), (.iload_n 1, 1, 0, 0), (.iaload, 0, 0, 0), (.iadd, 0, 0, 0), (.iload_n 2, 2, 0, 0), (.iastore, 0, 0, 0), (.aload_n 0, 0, 0, 0), (.getfield 15, 6, 1, 0), (.iload_n 1, 1, 0, 0), (.dup2, 0, 0, 0), (.iaload, 0, 0, 0), (.iconst 1, 1, 0, 0), (.iadd, 0, 0, 0), (.iastore, 0, 0, 0)] 1 L S M Q := wp_blk rfl
theorem B_33_1 : ∀ (L : Lo) (S : List Value) (M : Mem) (Q : Option Value → Mem → Prop), WP 33 [] 1 L S M Q = WP 33 [(.return_, 0, 0, 0)] 0 L S M Q := wp_blk rfl
-- X6_takeFromTop
theorem E_34 (q0 : Nat) (q1 : Int32) (M : Mem) (Q : Option Value → Mem → Prop) : Ct 34 [.ref q0, .int q1] M Q = WP 34 [] 0 [some (.ref q0), some (.int q1), none, none] [] M Q := ct_wp rfl M Q
theorem B_34_0 : ∀ (L : Lo) (S : List Value) (M : Mem) (Q : Option Value → Mem → Prop), WP 34 [] 0 L S M Q = WP 34 [(.aload_n 0, 0, 0, 0), (.getfield 15, 6, 1, 0), (.iload_n 1, 1, 0, 0), (.iaload, 0, 0, 0), (.ifCond .ne 5, 1, 0, 0), (.iconst 0, 0, 0, 0), (.ireturn, 0, 0, 0)] 0 L S M Q := wp_blk rfl
theorem B_34_1 : ∀ (L : Lo) (S : List Value) (M : Mem) (Q : Option Value → Mem → Prop), WP 34 [] 1 L S M Q = WP 34 [(.aload_n 0, 0, 0, 0), (.getfield 15, 6, 1, 0), (.iload_n 1, 1, 0, 0), (.dup2, 0, 0, 0), (.iaload, 0, 0, 0), (.iconst 1, 1, 0, 0), (.isub, 0, 0, 0), (.iastore, 0, 0, 0), (.iload_n 1, 1, 0, 0), (.bipush 6, 6, 0, 0), (.imul, 0, 0, 0), (.aload_n 0, 0, 0, 0), (.getfield 15, 6, 1, 0), (.iload_n 1, 1, 0, 0), (.iaload, 0, 0, 0), (.iadd, 0, 0, 0), (.istore_n 2, 2, 0, 0), (.aload_n 0, 0, 0, 0), (.getfield 9, 6, 0, 0), (.iload_n 2, 2, 0, 0), (.iaload, 0, 0, 0), (.istore_n 3, 3, 0, 0), (.aload_n 0, 0, 0, 0), (.getfield 9, 6, 0, 0), (.iload_n 2, 2, 0, 0), (.iconst 0, 0, 0, 0), (.iastore, 0, 0, 0), (.iload_n 3, 3, 0, 0), (.ireturn, 0, 0, 0)] 0 L S M Q := wp_blk rfl
-- X6_columnOfGreatestTop
theorem E_35 (q0 : Nat) (M : Mem) (Q : Option Value → Mem → Prop) : Ct 35 [.ref q0] M Q = WP 35 [] 0 [some (.ref q0), none, none, none, none] [] M Q := ct_wp rfl M Q
theorem B_35_0 : ∀ (L : Lo) (S : List Value) (M : Mem) (Q : Option Value → Mem → Prop), WP 35 [] 0 L S M Q = WP 35 [(.iconst (-1), 1, 1, 0), (.istore_n 1, 1, 0, 0), (.iconst 0, 0, 0, 0), (.istore_n 2, 2, 0, 0), (.iconst 0, 0, 0, 0), (.istore_n 3, 3, 0, 0)] 1 L S M Q := wp_blk rfl
theorem B_35_1 : ∀ (L : Lo) (S : List Value) (M : Mem) (Q : Option Value → Mem → Prop), WP 35 [] 1 L S M Q = WP 35 [(.iload_n 3, 3, 0, 0), (.bipush 6, 6, 0, 0), (.if_icmp .ge 53, 5, 0, 0), (.aload_n 0, 0, 0, 0), (.getfield 15, 6, 1, 0), (.iload_n 3, 3, 0, 0), (.iaload, 0, 0, 0), (.ifCond .ne 7, 2, 0, 0), (.iconst 0, 0, 0, 0), (.goto 21, 3, 0, 0)] 0 L S M Q := wp_blk rfl
theorem B_35_2 : ∀ (L : Lo) (S : List Value) (M : Mem) (Q : Option Value → Mem → Prop), WP 35 [] 2 L S M Q = WP 35 [(.aload_n 0, 0, 0, 0), (.getfield 9, 6, 0, 0), (.iload_n 3, 3, 0, 0), (.bipush 6, 6, 0, 0), (.imul, 0, 0, 0), (.aload_n 0, 0, 0, 0), (.getfield 15, 6, 1, 0), (.iload_n 3, 3, 0, 0), (.iaload, 0, 0, 0), (.iadd, 0, 0, 0), (.iconst 1, 1, 0, 0), (.isub, 0, 0, 0), (.iaload, 0, 0, 0)] 3 L S M Q := wp_blk rfl
theorem B_35_3 : ∀ (L : Lo) (S : List Value) (M : Mem) (Q : Option Value → Mem → Prop), WP 35 [] 3 L S M Q = WP 35 [(.istore 4, 4, 0, 0), (.iload 4, 4, 0, 0), (.iload_n 2, 2, 0, 0), (.if_icmp .le 8, 4, 0, 0), (.iload_n 3, 3, 0, 0), (.istore_n 1, 1, 0, 0), (.iload 4, 4, 0, 0), (.istore_n 2, 2, 0, 0)] 4 L S M Q := wp_blk rfl
theorem B_35_4 : ∀ (L : Lo) (S : List Value) (M : Mem) (Q : Option Value → Mem → Prop), WP 35 [] 4 L S M Q = WP 35 [(.iinc 3 1, 3, 1, 0), (.goto (-53), 1, 0, 0)] 0 L S M Q := wp_blk rfl
theorem B_35_5 : ∀ (L : Lo) (S : List Value) (M : Mem) (Q : Option Value → Mem → Prop), WP 35 [] 5 L S M Q = WP 35 [(.iload_n 1, 1, 0, 0), (.ireturn, 0, 0, 0)] 0 L S M Q := wp_blk rfl
-- X6_exchange
theorem E_36 (q0 : Nat) (q1 : Int32) (q2 : Int32) (M : Mem) (Q : Option Value → Mem → Prop) : Ct 36 [.ref q0, .int q1, .int q2] M Q = WP 36 [] 0 [some (.ref q0), some (.int q1), some (.int q2), none, none] [] M Q := ct_wp rfl M Q
theorem B_36_0 : ∀ (L : Lo) (S : List Value) (M : Mem) (Q : Option Value → Mem → Prop), WP 36 [] 0 L S M Q = WP 36 [(.iconst 0, 0, 0, 0), (.istore_n 3, 3, 0, 0)] 1 L S M Q := wp_blk rfl
theorem B_36_1 : ∀ (L : Lo) (S : List Value) (M : Mem) (Q : Option Value → Mem → Prop), WP 36 [] 1 L S M Q = WP 36 [(.iload_n 3, 3, 0, 0), (.bipush 6, 6, 0, 0), (.if_icmp .ge 57, 2, 0, 0), (.aload_n 0, 0, 0, 0), (.getfield 9, 6, 0, 0), (.iload_n 1, 1, 0, 0), (.bipush 6, 6, 0, 0), (.imul, 0, 0, 0), (.iload_n 3, 3, 0, 0), (.iadd, 0, 0, 0), (.iaload, 0, 0, 0), (.istore 4, 4, 0, 0), (.aload_n 0, 0, 0, 0), (.getfield 9, 6, 0, 0), (.iload_n 1, 1, 0, 0), (.bipush 6, 6, 0, 0), (.imul, 0, 0, 0), (.iload_n 3, 3, 0, 0), (.iadd, 0, 0, 0), (.aload_n 0, 0, 0, 0), (.getfield 9, 6, 0, 0), (.iload_n 2, 2, 0, 0), (.bipush 6, 6, 0, 0), (.imul, 0, 0, 0), (.iload_n 3, 3, 0, 0), (.iadd, 0, 0, 0), (.iaload, 0, 0, 0), (.iastore, 0, 0, 0), (.aload_n 0, 0, 0, 0), (.getfield 9, 6, 0, 0), (.iload_n 2, 2, 0, 0), (.bipush 6, 6, 0, 0), (.imul, 0, 0, 0), (.iload_n 3, 3, 0, 0), (.iadd, 0, 0, 0), (.iload 4, 4, 0, 0), (.iastore, 0, 0, 0), (.iinc 3 1, 3, 1, 0), (.goto (-57), 1, 0, 0)] 0 L S M Q := wp_blk rfl
theorem B_36_2 : ∀ (L : Lo) (S : List Value) (M : Mem) (Q : Option Value → Mem → Prop), WP 36 [] 2 L S M Q = WP 36 [(.aload_n 0, 0, 0, 0), (.getfield 15, 6, 1, 0), (.iload_n 1, 1, 0, 0), (.iaload, 0, 0, 0), (.istore_n 3, 3, 0, 0), (.aload_n 0, 0, 0, 0), (.getfield 15, 6, 1, 0), (.iload_n 1, 1, 0, 0), (.aload_n 0, 0, 0, 0), (.getfield 15, 6, 1, 0), (.iload_n 2, 2, 0, 0), (.iaload, 0, 0, 0), (.iastore, 0, 0, 0), (.aload_n 0, 0, 0, 0), (.getfield 15, 6, 1, 0), (.iload_n 2, 2, 0, 0), (.iload_n 3, 3, 0, 0), (.iastore, 0, 0, 0), (.return_, 0, 0, 0)] 0 L S M Q := wp_blk rfl
-- X6_numberOfBlocks
theorem E_37 (q0 : Nat) (M : Mem) (Q : Option Value → Mem → Prop) : Ct 37 [.ref q0] M Q = WP 37 [] 0 [some (.ref q0), none, none] [] M Q := ct_wp rfl M Q
theorem B_37_0 : ∀ (L : Lo) (S : List Value) (M : Mem) (Q : Option Value → Mem → Prop), WP 37 [] 0 L S M Q = WP 37 [(.iconst 0, 0, 0, 0), (.istore_n 1, 1, 0, 0), (.iconst 0, 0, 0, 0), (.istore_n 2, 2, 0, 0)] 1 L S M Q := wp_blk rfl
theorem B_37_1 : ∀ (L : Lo) (S : List Value) (M : Mem) (Q : Option Value → Mem → Prop), WP 37 [] 1 L S M Q = WP 37 [(.iload_n 2, 2, 0, 0), (.bipush 6, 6, 0, 0), (.if_icmp .ge 18, 2, 0, 0), (.iload_n 1, 1, 0, 0), (.aload_n 0, 0, 0, 0), (.getfield 15, 6, 1, 0), (.iload_n 2, 2, 0, 0), (.iaload, 0, 0, 0), (.iadd, 0, 0, 0), (.istore_n 1, 1, 0, 0), (.iinc 2 1, 2, 1, 0), (.goto (-18), 1, 0, 0)] 0 L S M Q := wp_blk rfl
theorem B_37_2 : ∀ (L : Lo) (S : List Value) (M : Mem) (Q : Option Value → Mem → Prop), WP 37 [] 2 L S M Q = WP 37 [(.iload_n 1, 1, 0, 0), (.ireturn, 0, 0, 0)] 0 L S M Q := wp_blk rfl
-- X6_total
theorem E_38 (q0 : Nat) (M : Mem) (Q : Option Value → Mem → Prop) : Ct 38 [.ref q0] M Q = WP 38 [] 0 [some (.ref q0), none, none] [] M Q := ct_wp rfl M Q
theorem B_38_0 : ∀ (L : Lo) (S : List Value) (M : Mem) (Q : Option Value → Mem → Prop), WP 38 [] 0 L S M Q = WP 38 [(.iconst 0, 0, 0, 0), (.istore_n 1, 1, 0, 0), (.iconst 0, 0, 0, 0), (.istore_n 2, 2, 0, 0)] 1 L S M Q := wp_blk rfl
theorem B_38_1 : ∀ (L : Lo) (S : List Value) (M : Mem) (Q : Option Value → Mem → Prop), WP 38 [] 1 L S M Q = WP 38 [(.iload_n 2, 2, 0, 0), (.bipush 36, 36, 0, 0), (.if_icmp .ge 18, 2, 0, 0), (.iload_n 1, 1, 0, 0), (.aload_n 0, 0, 0, 0), (.getfield 9, 6, 0, 0), (.iload_n 2, 2, 0, 0), (.iaload, 0, 0, 0), (.iadd, 0, 0, 0), (.istore_n 1, 1, 0, 0), (.iinc 2 1, 2, 1, 0), (.goto (-18), 1, 0, 0)] 0 L S M Q := wp_blk rfl
theorem B_38_2 : ∀ (L : Lo) (S : List Value) (M : Mem) (Q : Option Value → Mem → Prop), WP 38 [] 2 L S M Q = WP 38 [(.iload_n 1, 1, 0, 0), (.ireturn, 0, 0, 0)] 0 L S M Q := wp_blk rfl
-- X6_shapeOfAll
theorem E_39 (q0 : Nat) (M : Mem) (Q : Option Value → Mem → Prop) : Ct 39 [.ref q0] M Q = WP 39 [] 0 [some (.ref q0), none, none] [] M Q := ct_wp rfl M Q
theorem B_39_0 : ∀ (L : Lo) (S : List Value) (M : Mem) (Q : Option Value → Mem → Prop), WP 39 [] 0 L S M Q = WP 39 [(.iconst 0, 0, 0, 0), (.istore_n 1, 1, 0, 0), (.iconst 0, 0, 0, 0), (.istore_n 2, 2, 0, 0)] 1 L S M Q := wp_blk rfl
theorem B_39_1 : ∀ (L : Lo) (S : List Value) (M : Mem) (Q : Option Value → Mem → Prop), WP 39 [] 1 L S M Q = WP 39 [(.iload_n 2, 2, 0, 0), (.bipush 6, 6, 0, 0), (.if_icmp .ge 22, 2, 0, 0), (.iload_n 1, 1, 0, 0), (.aload_n 0, 0, 0, 0), (.getfield 15, 6, 1, 0), (.iload_n 2, 2, 0, 0), (.iaload, 0, 0, 0), (.iconst 3, 3, 0, 0), (.iload_n 2, 2, 0, 0), (.imul, 0, 0, 0), (.ishl, 0, 0, 0), (.ior, 0, 0, 0), (.istore_n 1, 1, 0, 0), (.iinc 2 1, 2, 1, 0), (.goto (-22), 1, 0, 0)] 0 L S M Q := wp_blk rfl
theorem B_39_2 : ∀ (L : Lo) (S : List Value) (M : Mem) (Q : Option Value → Mem → Prop), WP 39 [] 2 L S M Q = WP 39 [(.iload_n 1, 1, 0, 0), (.ireturn, 0, 0, 0)] 0 L S M Q := wp_blk rfl
-- X7_highIn
theorem E_40 (q0 : Int32) (q1 : Int32) (M : Mem) (Q : Option Value → Mem → Prop) : Ct 40 [.int q0, .int q1] M Q = WP 40 [] 0 [some (.int q0), some (.int q1)] [] M Q := ct_wp rfl M Q
theorem B_40_0 : ∀ (L : Lo) (S : List Value) (M : Mem) (Q : Option Value → Mem → Prop), WP 40 [] 0 L S M Q = WP 40 [(.iload_n 0, 0, 0, 0), (.iconst 3, 3, 0, 0), (.iload_n 1, 1, 0, 0), (.imul, 0, 0, 0), (.ishr, 0, 0, 0), (.bipush 7, 7, 0, 0), (.iand, 0, 0, 0), (.ireturn, 0, 0, 0)] 0 L S M Q := wp_blk rfl
-- X7_prepare
theorem E_41 (q0 : Nat) (q1 : Nat) (q2 : Int32) (M : Mem) (Q : Option Value → Mem → Prop) : Ct 41 [.ref q0, .ref q1, .int q2] M Q = WP 41 [] 0 [some (.ref q0), some (.ref q1), some (.int q2), none, none] [] M Q := ct_wp rfl M Q
theorem B_41_0 : ∀ (L : Lo) (S : List Value) (M : Mem) (Q : Option Value → Mem → Prop), WP 41 [] 0 L S M Q = WP 41 [(.aload_n 0, 0, 0, 0), (.getfield 12, 7, 0, 0), (.aload_n 1, 1, 0, 0), (.getfield 55, 0, 2, 0), (.invokevirtual 60, 32, 1, 6), (.aload_n 0, 0, 0, 0), (.getfield 21, 7, 1, 0), (.aload_n 1, 1, 0, 0), (.getfield 64, 0, 3, 0), (.invokevirtual 65, 8, 1, 2), (.aload_n 0, 0, 0, 0), (.getfield 28, 7, 2, 0), (.invokevirtual 68, 50, 0, 9), (.aload_n 1, 1, 0, 0), (.getfield 71, 0, 4, 0), (.astore_n 3, 3, 0, 0), (.iconst 0, 0, 0, 0), (.istore 4, 4, 0, 0)] 1 L S M Q := wp_blk rfl
theorem B_41_1 : ∀ (L : Lo) (S : List Value) (M : Mem) (Q : Option Value → Mem → Prop), WP 41 [] 1 L S M Q = WP 41 [(.iload 4, 4, 0, 0), (.aload_n 3, 3, 0, 0), (.getfield 75, 1, 3, 0), (.if_icmp .ge 47, 3, 0, 0), (.iload_n 2, 2, 0, 0), (.iload 4, 4, 0, 0), (.ishr, 0, 0, 0), (.iconst 1, 1, 0, 0), (.iand, 0, 0, 0), (.iconst 1, 1, 0, 0), (.if_icmp .ne 31, 2, 0, 0), (.aload_n 0, 0, 0, 0), (.getfield 28, 7, 2, 0), (.aload_n 3, 3, 0, 0), (.getfield 81, 1, 0, 0), (.iload 4, 4, 0, 0), (.iaload, 0, 0, 0), (.aload_n 3, 3, 0, 0), (.getfield 84, 1, 1, 0), (.iload 4, 4, 0, 0), (.iaload, 0, 0, 0), (.aload_n 3, 3, 0, 0), (.getfield 87, 1, 2, 0), (.iload 4, 4, 0, 0), (.iaload, 0, 0, 0), (.invokevirtual 90, 51, 3, 9)] 2 L S M Q := wp_blk rfl
theorem B_41_2 : ∀ (L : Lo) (S : List Value) (M : Mem) (Q : Option Value → Mem → Prop), WP 41 [] 2 L S M Q = WP 41 [(.iinc 4 1, 4, 1, 0), (.goto (-50), 1, 0, 0)] 0 L S M Q := wp_blk rfl
theorem B_41_3 : ∀ (L : Lo) (S : List Value) (M : Mem) (Q : Option Value → Mem → Prop), WP 41 [] 3 L S M Q = WP 41 [(.return_, 0, 0, 0)] 0 L S M Q := wp_blk rfl
-- X7_run
theorem E_42 (q0 : Nat) (M : Mem) (Q : Option Value → Mem → Prop) : Ct 42 [.ref q0] M Q = WP 42 [] 0 [some (.ref q0), none, none, none] [] M Q := ct_wp rfl M Q
theorem B_42_0 : ∀ (L : Lo) (S : List Value) (M : Mem) (Q : Option Value → Mem → Prop), WP 42 [] 0 L S M Q = WP 42 [(.aload_n 0, 0, 0, 0), (.iconst 0, 0, 0, 0), (.putfield 94, 7, 10, 0), (.aload_n 0, 0, 0, 0), (.getfield 12, 7, 0, 0), (.invokevirtual 97, 38, 0, 6), (.istore_n 1, 1, 0, 0), (.iconst 0, 0, 0, 0), (.istore_n 2, 2, 0, 0)] 1 L S M Q := wp_blk rfl
theorem B_42_1 : ∀ (L : Lo) (S : List Value) (M : Mem) (Q : Option Value → Mem → Prop), WP 42 [] 1 L S M Q = WP 42 [(.iload_n 2, 2, 0, 0), (.bipush 24, 24, 0, 0), (.if_icmp .ge 123, 6, 0, 0), (.iconst 0, 0, 0, 0), (.istore_n 3, 3, 0, 0)] 2 L S M Q := wp_blk rfl
theorem B_42_2 : ∀ (L : Lo) (S : List Value) (M : Mem) (Q : Option Value → Mem → Prop), WP 42 [] 2 L S M Q = WP 42 [(.iload_n 3, 3, 0, 0), (.aload_n 0, 0, 0, 0), (.getfield 21, 7, 1, 0), (.getfield 101, 2, 2, 0), (.if_icmp .ge 36, 4, 0, 0), (.aload_n 0, 0, 0, 0), (.getfield 21, 7, 1, 0), (.getfield 102, 2, 0, 0), (.iload_n 3, 3, 0, 0), (.iaload, 0, 0, 0), (.iload_n 2, 2, 0, 0), (.if_icmp .ne 17, 3, 0, 0), (.aload_n 0, 0, 0, 0), (.iload_n 3, 3, 0, 0), (.invokevirtual 103, 43, 1, 7), (.iload_n 1, 1, 0, 0), (.aload_n 0, 0, 0, 0), (.getfield 32, 7, 3, 0), (.iload_n 3, 3, 0, 0), (.iaload, 0, 0, 0), (.isub, 0, 0, 0), (.istore_n 1, 1, 0, 0)] 3 L S M Q := wp_blk rfl
theorem B_42_3 : ∀ (L : Lo) (S : List Value) (M : Mem) (Q : Option Value → Mem → Prop), WP 42 [] 3 L S M Q = WP 42 [(.iinc 3 1, 3, 1, 0), (.goto (-41), 2, 0, 0)] 0 L S M Q := wp_blk rfl
theorem B_42_4 : ∀ (L : Lo) (S : List Value) (M : Mem) (Q : Option Value → Mem → Prop), WP 42 [] 4 L S M Q = WP 42 [(.aload_n 0, 0, 0, 0), (.getfield 39, 7, 5, 0), (.iload_n 2, 2, 0, 0), (.aload_n 0, 0, 0, 0), (.iload_n 2, 2, 0, 0), (.invokevirtual 107, 44, 1, 7), (.iastore, 0, 0, 0), (.iload_n 1, 1, 0, 0), (.aload_n 0, 0, 0, 0), (.getfield 39, 7, 5, 0), (.iload_n 2, 2, 0, 0), (.iaload, 0, 0, 0), (.isub, 0, 0, 0), (.istore_n 1, 1, 0, 0), (.aload_n 0, 0, 0, 0), (.getfield 36, 7, 4, 0), (.iload_n 2, 2, 0, 0), (.iload_n 1, 1, 0, 0), (.iastore, 0, 0, 0), (.aload_n 0, 0, 0, 0), (.getfield 42, 7, 6, 0), (.iload_n 2, 2, 0, 0), (.aload_n 0, 0, 0, 0), (.getfield 12, 7, 0, 0), (.invokevirtual 111, 39, 0, 6), (.iastore, 0, 0, 0), (.aload_n 0, 0, 0, 0), (.getfield 48, 7, 8, 0), (.ifCond .eq 24, 5, 0, 0), (.aload_n 0, 0, 0, 0), (.getfield 12, 7, 0, 0), (.getfield 114, 6, 0, 0), (.iconst 0, 0, 0, 0), (.aload_n 0, 0, 0, 0), (.getfield 52, 7, 7, 0), (.iload_n 2, 2, 0, 0), (.bipush 36, 36, 0, 0), (.imul, 0, 0, 0), (.bipush 36, 36, 0, 0), (.invokestatic 117, 999, 5, 0)] 5 L S M Q := wp_blk rfl
theorem B_42_5 : ∀ (L : Lo) (S : List Value) (M : Mem) (Q : Option Value → Mem → Prop), WP 42 [] 5 L S M Q = WP 42 [(.iinc 2 1, 2, 1, 0), (.goto (-123), 1, 0, 0)] 0 L S M Q := wp_blk rfl
theorem B_42_6 : ∀ (L : Lo) (S : List Value) (M : Mem) (Q : Option Value → Mem → Prop), WP 42 [] 6 L S M Q = WP 42 [(.return_, 0, 0, 0)] 0 L S M Q := wp_blk rfl
-- X7_serve
theorem E_43 (q0 : Nat) (q1 : Int32) (M : Mem) (Q : Option Value → Mem → Prop) : Ct 43 [.ref q0, .int q1] M Q = WP 43 [] 0 [some (.ref q0), some (.int q1), none, none, none] [] M Q := ct_wp rfl M Q
theorem B_43_0 : ∀ (L : Lo) (S : List Value) (M : Mem) (Q : Option Value → Mem → Prop), WP 43 [] 0 L S M Q = WP 43 [(.iconst 0, 0, 0, 0), (.istore_n 2, 2, 0, 0), (.iconst 0, 0, 0, 0), (.istore_n 3, 3, 0, 0)] 1 L S M Q := wp_blk rfl
theorem B_43_1 : ∀ (L : Lo) (S : List Value) (M : Mem) (Q : Option Value → Mem → Prop), WP 43 [] 1 L S M Q = WP 43 [(.iload_n 3, 3, 0, 0), (.bipush 36, 36, 0, 0), (.if_icmp .ge 52, 3, 0, 0), (.iload_n 2, 2, 0, 0), (.aload_n 0, 0, 0, 0), (.getfield 21, 7, 1, 0), (.getfield 123, 2, 1, 0), (.iload_n 1, 1, 0, 0), (.iaload, 0, 0, 0), (.if_icmp .ge 39, 3, 0, 0), (.aload_n 0, 0, 0, 0), (.getfield 12, 7, 0, 0), (.invokevirtual 126, 35, 0, 6), (.istore 4, 4, 0, 0), (.iload 4, 4, 0, 0), (.iconst (-1), 1, 1, 0), (.if_icmp .ne 6, 2, 0, 0), (.goto 21, 3, 0, 0)] 0 L S M Q := wp_blk rfl
theorem B_43_2 : ∀ (L : Lo) (S : List Value) (M : Mem) (Q : Option Value → Mem → Prop), WP 43 [] 2 L S M Q = WP 43 [(.iload_n 2, 2, 0, 0), (.aload_n 0, 0, 0, 0), (.getfield 12, 7, 0, 0), (.iload 4, 4, 0, 0), (.invokevirtual 129, 34, 1, 6), (.iadd, 0, 0, 0), (.istore_n 2, 2, 0, 0), (.iinc 3 1, 3, 1, 0), (.goto (-52), 1, 0, 0)] 0 L S M Q := wp_blk rfl
theorem B_43_3 : ∀ (L : Lo) (S : List Value) (M : Mem) (Q : Option Value → Mem → Prop), WP 43 [] 3 L S M Q = WP 43 [(.aload_n 0, 0, 0, 0), (.getfield 32, 7, 3, 0), (.iload_n 1, 1, 0, 0), (.iload_n 2, 2, 0, 0), (.iastore, 0, 0, 0), (.iload_n 2, 2, 0, 0), (.aload_n 0, 0, 0, 0), (.getfield 21, 7, 1, 0), (.getfield 123, 2, 1, 0), (.iload_n 1, 1, 0, 0), (.iaload, 0, 0, 0), (.if_icmp .ge 15, 4, 0, 0), (.aload_n 0, 0, 0, 0), (.dup, 0, 0, 0), (.getfield 94, 7, 10, 0), (.iconst 1, 1, 0, 0), (.iload_n 1, 1, 0, 0), (.ishl, 0, 0, 0), (.ior, 0, 0, 0), (.putfield 94, 7, 10, 0)] 4 L S M Q := wp_blk rfl
theorem B_43_4 : ∀ (L : Lo) (S : List Value) (M : Mem) (Q : Option Value → Mem → Prop), WP 43 [] 4 L S M Q = WP 43 [(.return_, 0, 0, 0)] 0 L S M Q := wp_blk rfl
-- X7_melt
theorem E_44 (q0 : Nat) (q1 : Int32) (M : Mem) (Q : Option Value → Mem → Prop) : Ct 44 [.ref q0, .int q1] M Q = WP 44 [] 0 [some (.ref q0), some (.int q1), none, none] [] M Q := ct_wp rfl M Q
theorem B_44_0 : ∀ (L : Lo) (S : List Value) (M : Mem) (Q : Option Value → Mem → Prop), WP 44 [] 0 L S M Q = WP 44 [(.aload_n 0, 0, 0, 0), (.getfield 12, 7, 0, 0), (.getfield 132, 6, 1, 0), (.iconst 0, 0, 0, 0), (.aload_n 0, 0, 0, 0), (.getfield 45, 7, 9, 0), (.iconst 0, 0, 0, 0), (.bipush 6, 6, 0, 0), (.invokestatic 117, 999, 5, 0), (.iconst 0, 0, 0, 0), (.istore_n 2, 2, 0, 0), (.iconst 0, 0, 0, 0), (.istore_n 3, 3, 0, 0)] 1 L S M Q := wp_blk rfl
theorem B_44_1 : ∀ (L : Lo) (S : List Value) (M : Mem) (Q : Option Value → Mem → Prop), WP 44 [] 1 L S M Q = WP 44 [(.iload_n 3, 3, 0, 0), (.bipush 6, 6, 0, 0), (.if_icmp .ge 27, 3, 0, 0), (.aload_n 0, 0, 0, 0), (.getfield 45, 7, 9, 0), (.iload_n 3, 3, 0, 0), (.iaload, 0, 0, 0), (.ifCond .le 12, 2, 0, 0), (.iload_n 2, 2, 0, 0), (.aload_n 0, 0, 0, 0), (.iload_n 3, 3, 0, 0), (.iload_n 1, 1, 0, 0), (.invokevirtual 135, 45, 2, 7), (.iadd, 0, 0, 0), (.istore_n 2, 2, 0, 0)] 2 L S M Q := wp_blk rfl
theorem B_44_2 : ∀ (L : Lo) (S : List Value) (M : Mem) (Q : Option Value → Mem → Prop), WP 44 [] 2 L S M Q = WP 44 [(.iinc 3 1, 3, 1, 0), (.goto (-27), 1, 0, 0)] 0 L S M Q := wp_blk rfl
theorem B_44_3 : ∀ (L : Lo) (S : List Value) (M : Mem) (Q : Option Value → Mem → Prop), WP 44 [] 3 L S M Q = WP 44 [(.iload_n 2, 2, 0, 0), (.ireturn, 0, 0, 0)] 0 L S M Q := wp_blk rfl
-- X7_meltColumn
theorem E_45 (q0 : Nat) (q1 : Int32) (q2 : Int32) (M : Mem) (Q : Option Value → Mem → Prop) : Ct 45 [.ref q0, .int q1, .int q2] M Q = WP 45 [] 0 [some (.ref q0), some (.int q1), some (.int q2), none, none, none, none, none, none, none, none, none, none, none, none, none, none, none] [] M Q := ct_wp rfl M Q
theorem B_45_0 : ∀ (L : Lo) (S : List Value) (M : Mem) (Q : Option Value → Mem → Prop), WP 45 [] 0 L S M Q = WP 45 [(.iload_n 1, 1, 0, 0), (.ifCond .ne 8, 1, 0, 0), (.bipush 6, 6, 0, 0), (.goto 11, 2, 0, 0)] 0 L S M Q := wp_blk rfl
theorem B_45_1 : ∀ (L : Lo) (S : List Value) (M : Mem) (Q : Option Value → Mem → Prop), WP 45 [] 1 L S M Q = WP 45 [(.aload_n 0, 0, 0, 0), (.getfield 45, 7, 9, 0), (.iload_n 1, 1, 0, 0), (.iconst 1, 1, 0, 0), (.isub, 0, 0, 0), (.iaload, 0, 0, 0)] 2 L S M Q := wp_blk rfl
theorem B_45_2 : ∀ (L : Lo) (S : List Value) (M : Mem) (Q : Option Value → Mem → Prop), WP 45 [] 2 L S M Q = WP 45 [(.istore_n 3, 3, 0, 0), (.iload_n 1, 1, 0, 0), (.iconst 5, 5, 0, 0), (.if_icmp .ne 8, 3, 0, 0), (.bipush 6, 6, 0, 0), (.goto 11, 4, 0, 0)] 0 L S M Q := wp_blk rfl
theorem B_45_3 : ∀ (L : Lo) (S : List Value) (M : Mem) (Q : Option Value → Mem → Prop), WP 45 [] 3 L S M Q = WP 45 [(.aload_n 0, 0, 0, 0), (.getfield 45, 7, 9, 0), (.iload_n 1, 1, 0, 0), (.iconst 1, 1, 0, 0), (.iadd, 0, 0, 0), (.iaload, 0, 0, 0)] 4 L S M Q := wp_blk rfl
theorem B_45_4 : ∀ (L : Lo) (S : List Value) (M : Mem) (Q : Option Value → Mem → Prop), WP 45 [] 4 L S M Q = WP 45 [(.istore 4, 4, 0, 0), (.aload_n 0, 0, 0, 0), (.getfield 45, 7, 9, 0), (.iload_n 1, 1, 0, 0), (.iaload, 0, 0, 0), (.iconst 1, 1, 0, 0), (.isub, 0, 0, 0), (.istore 5, 5, 0, 0), (.aload_n 0, 0, 0, 0), (.getfield 28, 7, 2, 0), (.getfield 139, 9, 0, 0), (.iload_n 1, 1, 0, 0), (.iaload, 0, 0, 0), (.iload_n 2, 2, 0, 0), (.if_icmp .gt 7, 5, 0, 0), (.iconst 1, 1, 0, 0), (.goto 4, 6, 0, 0)] 0 L S M Q := wp_blk rfl
theorem B_45_5 : ∀ (L : Lo) (S : List Value) (M : Mem) (Q : Option Value → Mem → Prop), WP 45 [] 5 L S M Q = WP 45 [(.iconst 0, 0, 0, 0)] 6 L S M Q := wp_blk rfl
theorem B_45_6 : ∀ (L : Lo) (S : List Value) (M : Mem) (Q : Option Value → Mem → Prop), WP 45 [] 6 L S M Q = WP 45 [(.istore 6, 6, 0, 0), (.aload_n 0, 0, 0, 0), (.getfield 28, 7, 2, 0), (.getfield 142, 9, 1, 0), (.iload_n 2, 2, 0, 0), (.ishr, 0, 0, 0), (.iconst 1, 1, 0, 0), (.iand, 0, 0, 0), (.istore 7, 7, 0, 0), (.aload_n 0, 0, 0, 0), (.getfield 28, 7, 2, 0), (.getfield 145, 9, 2, 0), (.iload_n 2, 2, 0, 0), (.ishr, 0, 0, 0), (.iconst 1, 1, 0, 0), (.iand, 0, 0, 0), (.istore 8, 8, 0, 0), (.iload 5, 5, 0, 0), (.iload_n 3, 3, 0, 0), (.iload 4, 4, 0, 0), (.invokestatic 148, 998, 2, 0), (.invokestatic 148, 998, 2, 0), (.istore 9, 9, 0, 0), (.iconst 0, 0, 0, 0), (.istore 10, 10, 0, 0), (.iload 9, 9, 0, 0), (.istore 11, 11, 0, 0), (.iload 9, 9, 0, 0), (.istore 12, 12, 0, 0)] 7 L S M Q := wp_blk rfl
theorem B_45_7 : ∀ (L : Lo) (S : List Value) (M : Mem) (Q : Option Value → Mem → Prop), WP 45 [] 7 L S M Q = WP 45 [(.iload 12, 12, 0, 0), (.iload 5, 5, 0, 0), (.if_icmp .gt 160, 17, 0, 0), (.iload 12, 12, 0, 0), (.iload 5, 5, 0, 0), (.if_icmp .ne 12, 8, 0, 0), (.iload 6, 6, 0, 0), (.ifCond .ne 7, 8, 0, 0), (.iconst 1, 1, 0, 0), (.goto 4, 9, 0, 0)] 0 L S M Q := wp_blk rfl
theorem B_45_8 : ∀ (L : Lo) (S : List Value) (M : Mem) (Q : Option Value → Mem → Prop), WP 45 [] 8 L S M Q = WP 45 [(.iconst 0, 0, 0, 0)] 9 L S M Q := wp_blk rfl
theorem B_45_9 : ∀ (L : Lo) (S : List Value) (M : Mem) (Q : Option Value → Mem → Prop), WP 45 [] 9 L S M Q = WP 45 [(.istore 13, 13, 0, 0), (.iload 13, 13, 0, 0), (.iload_n 3, 3, 0, 0), (.iload 12, 12, 0, 0), (.if_icmp .gt 7, 10, 0, 0), (.iconst 1, 1, 0, 0), (.goto 4, 11, 0, 0)] 0 L S M Q := wp_blk rfl
theorem B_45_10 : ∀ (L : Lo) (S : List Value) (M : Mem) (Q : Option Value → Mem → Prop), WP 45 [] 10 L S M Q = WP 45 [(.iconst 0, 0, 0, 0)] 11 L S M Q := wp_blk rfl
theorem B_45_11 : ∀ (L : Lo) (S : List Value) (M : Mem) (Q : Option Value → Mem → Prop), WP 45 [] 11 L S M Q = WP 45 [(.iadd, 0, 0, 0), (.iload 4, 4, 0, 0), (.iload 12, 12, 0, 0), (.if_icmp .gt 7, 12, 0, 0), (.iconst 1, 1, 0, 0), (.goto 4, 13, 0, 0)] 0 L S M Q := wp_blk rfl
theorem B_45_12 : ∀ (L : Lo) (S : List Value) (M : Mem) (Q : Option Value → Mem → Prop), WP 45 [] 12 L S M Q = WP 45 [(.iconst 0, 0, 0, 0)] 13 L S M Q := wp_blk rfl
theorem B_45_13 : ∀ (L : Lo) (S : List Value) (M : Mem) (Q : Option Value → Mem → Prop), WP 45 [] 13 L S M Q = WP 45 [(.iadd, 0, 0, 0), (.istore 14, 14, 0, 0), (.iload 14, 14, 0, 0), (.iconst 2, 2, 0, 0), (.idiv, 0, 0, 0), (.iload 7, 7, 0, 0), (.iload 13, 13, 0, 0), (.imul, 0, 0, 0), (.iadd, 0, 0, 0), (.iload 14, 14, 0, 0), (.ifCond .le 8, 14, 0, 0), (.iload 8, 8, 0, 0), (.goto 4, 15, 0, 0)] 0 L S M Q := wp_blk rfl
theorem B_45_14 : ∀ (L : Lo) (S : List Value) (M : Mem) (Q : Option Value → Mem → Prop), WP 45 [] 14 L S M Q = WP 45 [(.iconst 0, 0, 0, 0)] 15 L S M Q := wp_blk rfl
theorem B_45_15 : ∀ (L : Lo) (S : List Value) (M : Mem) (Q : Option Value → Mem → Prop), WP 45 [] 15 L S M Q = WP 45 [(.iadd, 0, 0, 0), (.istore 15, 15, 0, 0), (.aload_n 0, 0, 0, 0), (.getfield 12, 7, 0, 0), (.getfield 114, 6, 0, 0), (.iload_n 1, 1, 0, 0), (.bipush 6, 6, 0, 0), (.imul, 0, 0, 0), (.iload 12, 12, 0, 0), (.iadd, 0, 0, 0), (.iaload, 0, 0, 0), (.istore 16, 16, 0, 0), (.iconst 0, 0, 0, 0), (.iload 16, 16, 0, 0), (.iload 15, 15, 0, 0), (.isub, 0, 0, 0), (.invokestatic 153, 997, 2, 0), (.istore 17, 17, 0, 0), (.iload 10, 10, 0, 0), (.iload 16, 16, 0, 0), (.iload 17, 17, 0, 0), (.isub, 0, 0, 0), (.iadd, 0, 0, 0), (.istore 10, 10, 0, 0), (.aload_n 0, 0, 0, 0), (.getfield 12, 7, 0, 0), (.getfield 114, 6, 0, 0), (.iload_n 1, 1, 0, 0), (.bipush 6, 6, 0, 0), (.imul, 0, 0, 0), (.iload 12, 12, 0, 0), (.iadd, 0, 0, 0), (.iconst 0, 0, 0, 0), (.iastore, 0, 0, 0), (.iload 17, 17, 0, 0), (.ifCond .le 23, 16, 0, 0), (.aload_n 0, 0, 0, 0), (.getfield 12, 7, 0, 0), (.getfield 114, 6, 0, 0), (.iload_n 1, 1, 0, 0), (.bipush 6, 6, 0, 0), (.imul, 0, 0, 0), (.iload 11, 11, 0, 0), (.iadd, 0, 0, 0), (.iload 17, 17, 0, 0), (.iastore, 0, 0, 0), (.iinc 11 1, 11, 1, 0)] 16 L S M Q := wp_blk rfl
theorem B_45_16 : ∀ (L : Lo) (S : List Value) (M : Mem) (Q : Option Value → Mem → Prop), WP 45 [] 16 L S M Q = WP 45 [(.iinc 12 1, 12, 1, 0), (.goto (-161), 7, 0, 0)] 0 L S M Q := wp_blk rfl
theorem B_45_17 : ∀ (L : Lo) (S : List Value) (M : Mem) (Q : Option Value → Mem → Prop), WP 45 [] 17 L S M Q = WP 45 [(.aload_n 0, 0, 0, 0), (.getfield 12, 7, 0, 0), (.getfield 132, 6, 1, 0), (.iload_n 1, 1, 0, 0), (.iload 11, 11, 0, 0), (.iastore, 0, 0, 0), (.iload 10, 10, 0, 0), (.ireturn, 0, 0, 0)] 0 L S M Q := wp_blk rfl
-- X7_standingIn
theorem E_46 (q0 : Nat) (q1 : Int32) (q2 : Int32) (M : Mem) (Q : Option Value → Mem → Prop) : Ct 46 [.ref q0, .int q1, .int q2] M Q = WP 46 [] 0 [some (.ref q0), some (.int q1), some (.int q2), none, none] [] M Q := ct_wp rfl M Q
theorem B_46_0 : ∀ (L : Lo) (S : List Value) (M : Mem) (Q : Option Value → Mem → Prop), WP 46 [] 0 L S M Q = WP 46 [(.iconst 0, 0, 0, 0), (.istore_n 3, 3, 0, 0), (.iconst 0, 0, 0, 0), (.istore 4, 4, 0, 0)] 1 L S M Q := wp_blk rfl
theorem B_46_1 : ∀ (L : Lo) (S : List Value) (M : Mem) (Q : Option Value → Mem → Prop), WP 46 [] 1 L S M Q = WP 46 [(.iload 4, 4, 0, 0), (.bipush 6, 6, 0, 0), (.if_icmp .ge 36, 2, 0, 0), (.aload_n 0, 0, 0, 0), (.getfield 48, 7, 8, 0), (.ifCond .eq 29, 2, 0, 0), (.iload_n 3, 3, 0, 0), (.aload_n 0, 0, 0, 0), (.getfield 52, 7, 7, 0), (.iload_n 1, 1, 0, 0), (.bipush 36, 36, 0, 0), (.imul, 0, 0, 0), (.iload_n 2, 2, 0, 0), (.bipush 6, 6, 0, 0), (.imul, 0, 0, 0), (.iadd, 0, 0, 0), (.iload 4, 4, 0, 0), (.iadd, 0, 0, 0), (.iaload, 0, 0, 0), (.iadd, 0, 0, 0), (.istore_n 3, 3, 0, 0), (.iinc 4 1, 4, 1, 0), (.goto (-37), 1, 0, 0)] 0 L S M Q := wp_blk rfl
theorem B_46_2 : ∀ (L : Lo) (S : List Value) (M : Mem) (Q : Option Value → Mem → Prop), WP 46 [] 2 L S M Q = WP 46 [(.iload_n 3, 3, 0, 0), (.ireturn, 0, 0, 0)] 0 L S M Q := wp_blk rfl
-- X7_sumOfAll
theorem E_47 (q0 : Nat) (M : Mem) (Q : Option Value → Mem → Prop) : Ct 47 [.ref q0] M Q = WP 47 [] 0 [some (.ref q0), none, none] [] M Q := ct_wp rfl M Q
theorem B_47_0 : ∀ (L : Lo) (S : List Value) (M : Mem) (Q : Option Value → Mem → Prop), WP 47 [] 0 L S M Q = WP 47 [(.iconst 0, 0, 0, 0), (.istore_n 1, 1, 0, 0), (.iconst 0, 0, 0, 0), (.istore_n 2, 2, 0, 0)] 1 L S M Q := wp_blk rfl
theorem B_47_1 : ∀ (L : Lo) (S : List Value) (M : Mem) (Q : Option Value → Mem → Prop), WP 47 [] 1 L S M Q = WP 47 [(.iload_n 2, 2, 0, 0), (.aload_n 0, 0, 0, 0), (.getfield 21, 7, 1, 0), (.getfield 101, 2, 2, 0), (.if_icmp .ge 18, 2, 0, 0), (.iload_n 1, 1, 0, 0), (.aload_n 0, 0, 0, 0), (.getfield 32, 7, 3, 0), (.iload_n 2, 2, 0, 0), (.iaload, 0, 0, 0), (.iadd, 0, 0, 0), (.istore_n 1, 1, 0, 0), (.iinc 2 1, 2, 1, 0), (.goto (-23), 1, 0, 0)] 0 L S M Q := wp_blk rfl
theorem B_47_2 : ∀ (L : Lo) (S : List Value) (M : Mem) (Q : Option Value → Mem → Prop), WP 47 [] 2 L S M Q = WP 47 [(.iload_n 1, 1, 0, 0), (.ireturn, 0, 0, 0)] 0 L S M Q := wp_blk rfl
-- X7_shortOrders
theorem E_48 (q0 : Nat) (M : Mem) (Q : Option Value → Mem → Prop) : Ct 48 [.ref q0] M Q = WP 48 [] 0 [some (.ref q0)] [] M Q := ct_wp rfl M Q
theorem B_48_0 : ∀ (L : Lo) (S : List Value) (M : Mem) (Q : Option Value → Mem → Prop), WP 48 [] 0 L S M Q = WP 48 [(.aload_n 0, 0, 0, 0), (.getfield 94, 7, 10, 0), (.invokestatic 156, 196, 1, 0), (.ireturn, 0, 0, 0)] 0 L S M Q := wp_blk rfl
-- X8_append
theorem E_49 (q0 : Nat) (q1 : Int32) (M : Mem) (Q : Option Value → Mem → Prop) : Ct 49 [.ref q0, .int q1] M Q = WP 49 [] 0 [some (.ref q0), some (.int q1)] [] M Q := ct_wp rfl M Q
theorem B_49_0 : ∀ (L : Lo) (S : List Value) (M : Mem) (Q : Option Value → Mem → Prop), WP 49 [] 0 L S M Q = WP 49 [(.aload_n 0, 0, 0, 0), (.getfield 25, 8, 2, 0), (.aload_n 0, 0, 0, 0), (.getfield 21, 8, 0, 0), (.if_icmp .ge 23, 1, 0, 0), (.aload_n 0, 0, 0, 0), (.getfield 9, 8, 1, 0), (.aload_n 0, 0, 0, 0), (.getfield 25, 8, 2, 0), (.iload_n 1, 1, 0, 0), (.iastore, 0, 0, 0), (.aload_n 0, 0, 0, 0), (.dup, 0, 0, 0), (.getfield 25, 8, 2, 0), (.iconst 1, 1, 0, 0), (.iadd, 0, 0, 0), (.putfield 25, 8, 2, 0)] 1 L S M Q := wp_blk rfl
theorem B_49_1 : ∀ (L : Lo) (S : List Value) (M : Mem) (Q : Option Value → Mem → Prop), WP 49 [] 1 L S M Q = WP 49 [(.return_, 0, 0, 0)] 0 L S M Q := wp_blk rfl
-- X9_beCalm
theorem E_50 (q0 : Nat) (M : Mem) (Q : Option Value → Mem → Prop) : Ct 50 [.ref q0] M Q = WP 50 [] 0 [some (.ref q0)] [] M Q := ct_wp rfl M Q
theorem B_50_0 : ∀ (L : Lo) (S : List Value) (M : Mem) (Q : Option Value → Mem → Prop), WP 50 [] 0 L S M Q = WP 50 [(.aload_n 0, 0, 0, 0), (.getfield 9, 9, 0, 0), (.bipush 24, 24, 0, 0), (.invokestatic 15, 197, 2, 0), (.aload_n 0, 0, 0, 0), (.iconst 0, 0, 0, 0), (.putfield 21, 9, 1, 0), (.aload_n 0, 0, 0, 0), (.iconst 0, 0, 0, 0), (.putfield 25, 9, 2, 0), (.return_, 0, 0, 0)] 0 L S M Q := wp_blk rfl
-- X9_happen
theorem E_51 (q0 : Nat) (q1 : Int32) (q2 : Int32) (q3 : Int32) (M : Mem) (Q : Option Value → Mem → Prop) : Ct 51 [.ref q0, .int q1, .int q2, .int q3] M Q = WP 51 [] 0 [some (.ref q0), some (.int q1), some (.int q2), some (.int q3)] [] M Q := ct_wp rfl M Q
theorem B_51_0 : ∀ (L : Lo) (S : List Value) (M : Mem) (Q : Option Value → Mem → Prop), WP 51 [] 0 L S M Q = WP 51 [(.iload_n 1, 1, 0, 0), (.ifCond .ne 18, 1, 0, 0), (.aload_n 0, 0, 0, 0), (.dup, 0, 0, 0), (.getfield 21, 9, 1, 0), (.iconst 1, 1, 0, 0), (.iload_n 2, 2, 0, 0), (.ishl, 0, 0, 0), (.ior, 0, 0, 0), (.putfield 21, 9, 1, 0), (.goto 44, 3, 0, 0)] 0 L S M Q := wp_blk rfl
theorem B_51_1 : ∀ (L : Lo) (S : List Value) (M : Mem) (Q : Option Value → Mem → Prop), WP 51 [] 1 L S M Q = WP 51 [(.iload_n 1, 1, 0, 0), (.iconst 1, 1, 0, 0), (.if_icmp .ne 18, 2, 0, 0), (.aload_n 0, 0, 0, 0), (.dup, 0, 0, 0), (.getfield 25, 9, 2, 0), (.iconst 1, 1, 0, 0), (.iload_n 2, 2, 0, 0), (.ishl, 0, 0, 0), (.ior, 0, 0, 0), (.putfield 25, 9, 2, 0), (.goto 24, 3, 0, 0)] 0 L S M Q := wp_blk rfl
theorem B_51_2 : ∀ (L : Lo) (S : List Value) (M : Mem) (Q : Option Value → Mem → Prop), WP 51 [] 2 L S M Q = WP 51 [(.iload_n 1, 1, 0, 0), (.iconst 2, 2, 0, 0), (.if_icmp .ne 19, 3, 0, 0), (.aload_n 0, 0, 0, 0), (.getfield 9, 9, 0, 0), (.iload_n 3, 3, 0, 0), (.aload_n 0, 0, 0, 0), (.getfield 9, 9, 0, 0), (.iload_n 3, 3, 0, 0), (.iaload, 0, 0, 0), (.iload_n 2, 2, 0, 0), (.invokestatic 28, 998, 2, 0), (.iastore, 0, 0, 0)] 3 L S M Q := wp_blk rfl
theorem B_51_3 : ∀ (L : Lo) (S : List Value) (M : Mem) (Q : Option Value → Mem → Prop), WP 51 [] 3 L S M Q = WP 51 [(.return_, 0, 0, 0)] 0 L S M Q := wp_blk rfl
-- X10_type
theorem E_52 (q0 : Nat) (q1 : Int32) (q2 : Int32) (M : Mem) (Q : Option Value → Mem → Prop) : Ct 52 [.ref q0, .int q1, .int q2] M Q = WP 52 [] 0 [some (.ref q0), some (.int q1), some (.int q2), none] [] M Q := ct_wp rfl M Q
theorem B_52_0 : ∀ (L : Lo) (S : List Value) (M : Mem) (Q : Option Value → Mem → Prop), WP 52 [] 0 L S M Q = WP 52 [(.iload_n 1, 1, 0, 0), (.iconst 1, 1, 0, 0), (.invokestatic 49, 93, 2, 0), (.ifCond .ne 13, 1, 0, 0), (.iload_n 2, 2, 0, 0), (.sipush 255, 255, 0, 0), (.invokestatic 49, 93, 2, 0), (.ifCond .eq 6, 2, 0, 0)] 1 L S M Q := wp_blk rfl
theorem B_52_1 : ∀ (L : Lo) (S : List Value) (M : Mem) (Q : Option Value → Mem → Prop), WP 52 [] 1 L S M Q = WP 52 [(.bipush (-2), 2, 1, 0), (.ireturn, 0, 0, 0)] 0 L S M Q := wp_blk rfl
theorem B_52_2 : ∀ (L : Lo) (S : List Value) (M : Mem) (Q : Option Value → Mem → Prop), WP 52 [] 2 L S M Q = WP 52 [(.aload_n 0, 0, 0, 0), (.getfield 10, 10, 0, 0), (.iload_n 1, 1, 0, 0), (.invokevirtual 53, 0, 1, 0), (.astore_n 3, 3, 0, 0), (.aload_n 3, 3, 0, 0), (.getfield 57, 8, 2, 0), (.aload_n 3, 3, 0, 0), (.getfield 62, 8, 0, 0), (.if_icmp .lt 6, 3, 0, 0), (.bipush (-4), 4, 1, 0), (.ireturn, 0, 0, 0)] 0 L S M Q := wp_blk rfl
theorem B_52_3 : ∀ (L : Lo) (S : List Value) (M : Mem) (Q : Option Value → Mem → Prop), WP 52 [] 3 L S M Q = WP 52 [(.aload_n 3, 3, 0, 0), (.iload_n 2, 2, 0, 0), (.invokevirtual 65, 49, 1, 8), (.aload_n 0, 0, 0, 0), (.iload_n 1, 1, 0, 0), (.invokevirtual 69, 96, 1, 10), (.aload_n 3, 3, 0, 0), (.getfield 57, 8, 2, 0), (.ireturn, 0, 0, 0)] 0 L S M Q := wp_blk rfl
-- X10_wipe
theorem E_53 (q0 : Nat) (q1 : Int32) (M : Mem) (Q : Option Value → Mem → Prop) : Ct 53 [.ref q0, .int q1] M Q = WP 53 [] 0 [some (.ref q0), some (.int q1), none, none] [] M Q := ct_wp rfl M Q
theorem B_53_0 : ∀ (L : Lo) (S : List Value) (M : Mem) (Q : Option Value → Mem → Prop), WP 53 [] 0 L S M Q = WP 53 [(.iload_n 1, 1, 0, 0), (.iconst 1, 1, 0, 0), (.invokestatic 49, 93, 2, 0), (.ifCond .eq 6, 1, 0, 0), (.bipush (-2), 2, 1, 0), (.ireturn, 0, 0, 0)] 0 L S M Q := wp_blk rfl
theorem B_53_1 : ∀ (L : Lo) (S : List Value) (M : Mem) (Q : Option Value → Mem → Prop), WP 53 [] 1 L S M Q = WP 53 [(.aload_n 0, 0, 0, 0), (.getfield 10, 10, 0, 0), (.iload_n 1, 1, 0, 0), (.invokevirtual 53, 0, 1, 0), (.astore_n 2, 2, 0, 0), (.aload_n 2, 2, 0, 0), (.getfield 57, 8, 2, 0), (.istore_n 3, 3, 0, 0), (.aload_n 2, 2, 0, 0), (.iconst 0, 0, 0, 0), (.putfield 57, 8, 2, 0), (.aload_n 0, 0, 0, 0), (.iload_n 1, 1, 0, 0), (.invokevirtual 69, 96, 1, 10), (.iload_n 3, 3, 0, 0), (.ireturn, 0, 0, 0)] 0 L S M Q := wp_blk rfl
-- X10_undo
theorem E_54 (q0 : Nat) (q1 : Int32) (M : Mem) (Q : Option Value → Mem → Prop) : Ct 54 [.ref q0, .int q1] M Q = WP 54 [] 0 [some (.ref q0), some (.int q1), none] [] M Q := ct_wp rfl M Q
theorem B_54_0 : ∀ (L : Lo) (S : List Value) (M : Mem) (Q : Option Value → Mem → Prop), WP 54 [] 0 L S M Q = WP 54 [(.iload_n 1, 1, 0, 0), (.iconst 1, 1, 0, 0), (.invokestatic 49, 93, 2, 0), (.ifCond .eq 6, 1, 0, 0), (.bipush (-2), 2, 1, 0), (.ireturn, 0, 0, 0)] 0 L S M Q := wp_blk rfl
theorem B_54_1 : ∀ (L : Lo) (S : List Value) (M : Mem) (Q : Option Value → Mem → Prop), WP 54 [] 1 L S M Q = WP 54 [(.aload_n 0, 0, 0, 0), (.getfield 10, 10, 0, 0), (.iload_n 1, 1, 0, 0), (.invokevirtual 53, 0, 1, 0), (.astore_n 2, 2, 0, 0), (.aload_n 2, 2, 0, 0), (.getfield 57, 8, 2, 0), (.ifCond .ne 6, 2, 0, 0), (.bipush (-3), 3, 1, 0), (.ireturn, 0, 0, 0)] 0 L S M Q := wp_blk rfl
theorem B_54_2 : ∀ (L : Lo) (S : List Value) (M : Mem) (Q : Option Value → Mem → Prop), WP 54 [] 2 L S M Q = WP 54 [(.aload_n 2, 2, 0, 0), (.dup, 0, 0, 0), (.getfield 57, 8, 2, 0), (.iconst 1, 1, 0, 0), (.isub, 0, 0, 0), (.putfield 57, 8, 2, 0), (.aload_n 0, 0, 0, 0), (.iload_n 1, 1, 0, 0), (.invokevirtual 69, 96, 1, 10), (.aload_n 2, 2, 0, 0), (.getfield 57, 8, 2, 0), (.ireturn, 0, 0, 0)] 0 L S M Q := wp_blk rfl
-- X10_fault
theorem E_55 (q0 : Nat) (q1 : Int32) (M : Mem) (Q : Option Value → Mem → Prop) : Ct 55 [.ref q0, .int q1] M Q = WP 55 [] 0 [some (.ref q0), some (.int q1)] [] M Q := ct_wp rfl M Q
theorem B_55_0 : ∀ (L : Lo) (S : List Value) (M : Mem) (Q : Option Value → Mem → Prop), WP 55 [] 0 L S M Q = WP 55 [(.iload_n 1, 1, 0, 0), (.iconst 1, 1, 0, 0), (.invokestatic 49, 93, 2, 0), (.ifCond .eq 6, 1, 0, 0), (.bipush (-2), 2, 1, 0), (.ireturn, 0, 0, 0)] 0 L S M Q := wp_blk rfl
theorem B_55_1 : ∀ (L : Lo) (S : List Value) (M : Mem) (Q : Option Value → Mem → Prop), WP 55 [] 1 L S M Q = WP 55 [(.iload_n 1, 1, 0, 0), (.ifCond .ne 13, 2, 0, 0), (.aload_n 0, 0, 0, 0), (.getfield 10, 10, 0, 0), (.getfield 72, 0, 6, 0), (.goto 10, 3, 0, 0)] 0 L S M Q := wp_blk rfl
theorem B_55_2 : ∀ (L : Lo) (S : List Value) (M : Mem) (Q : Option Value → Mem → Prop), WP 55 [] 2 L S M Q = WP 55 [(.aload_n 0, 0, 0, 0), (.getfield 10, 10, 0, 0), (.getfield 75, 0, 7, 0)] 3 L S M Q := wp_blk rfl
theorem B_55_3 : ∀ (L : Lo) (S : List Value) (M : Mem) (Q : Option Value → Mem → Prop), WP 55 [] 3 L S M Q = WP 55 [(.ireturn, 0, 0, 0)] 0 L S M Q := wp_blk rfl
-- X10_told
theorem E_56 (q0 : Nat) (q1 : Int32) (q2 : Int32) (M : Mem) (Q : Option Value → Mem → Prop) : Ct 56 [.ref q0, .int q1, .int q2] M Q = WP 56 [] 0 [some (.ref q0), some (.int q1), some (.int q2)] [] M Q := ct_wp rfl M Q
theorem B_56_0 : ∀ (L : Lo) (S : List Value) (M : Mem) (Q : Option Value → Mem → Prop), WP 56 [] 0 L S M Q = WP 56 [(.iload_n 1, 1, 0, 0), (.iconst 5, 5, 0, 0), (.invokestatic 49, 93, 2, 0), (.ifCond .ne 11, 1, 0, 0), (.iload_n 2, 2, 0, 0), (.iconst 5, 5, 0, 0), (.invokestatic 49, 93, 2, 0), (.ifCond .eq 6, 2, 0, 0)] 1 L S M Q := wp_blk rfl
theorem B_56_1 : ∀ (L : Lo) (S : List Value) (M : Mem) (Q : Option Value → Mem → Prop), WP 56 [] 1 L S M Q = WP 56 [(.bipush (-2), 2, 1, 0), (.ireturn, 0, 0, 0)] 0 L S M Q := wp_blk rfl
theorem B_56_2 : ∀ (L : Lo) (S : List Value) (M : Mem) (Q : Option Value → Mem → Prop), WP 56 [] 2 L S M Q = WP 56 [(.aload_n 0, 0, 0, 0), (.getfield 10, 10, 0, 0), (.getfield 78, 0, 2, 0), (.getfield 82, 6, 0, 0), (.iload_n 1, 1, 0, 0), (.bipush 6, 6, 0, 0), (.imul, 0, 0, 0), (.iload_n 2, 2, 0, 0), (.iadd, 0, 0, 0), (.iaload, 0, 0, 0), (.ireturn, 0, 0, 0)] 0 L S M Q := wp_blk rfl
-- X10_order
theorem E_57 (q0 : Nat) (q1 : Int32) (q2 : Int32) (M : Mem) (Q : Option Value → Mem → Prop) : Ct 57 [.ref q0, .int q1, .int q2] M Q = WP 57 [] 0 [some (.ref q0), some (.int q1), some (.int q2)] [] M Q := ct_wp rfl M Q
theorem B_57_0 : ∀ (L : Lo) (S : List Value) (M : Mem) (Q : Option Value → Mem → Prop), WP 57 [] 0 L S M Q = WP 57 [(.iload_n 1, 1, 0, 0), (.aload_n 0, 0, 0, 0), (.getfield 10, 10, 0, 0), (.getfield 88, 0, 3, 0), (.getfield 92, 2, 2, 0), (.iconst 1, 1, 0, 0), (.isub, 0, 0, 0), (.invokestatic 49, 93, 2, 0), (.ifCond .ne 11, 1, 0, 0), (.iload_n 2, 2, 0, 0), (.iconst 1, 1, 0, 0), (.invokestatic 49, 93, 2, 0), (.ifCond .eq 6, 2, 0, 0)] 1 L S M Q := wp_blk rfl
theorem B_57_1 : ∀ (L : Lo) (S : List Value) (M : Mem) (Q : Option Value → Mem → Prop), WP 57 [] 1 L S M Q = WP 57 [(.bipush (-2), 2, 1, 0), (.ireturn, 0, 0, 0)] 0 L S M Q := wp_blk rfl
theorem B_57_2 : ∀ (L : Lo) (S : List Value) (M : Mem) (Q : Option Value → Mem → Prop), WP 57 [] 2 L S M Q = WP 57 [(.iload_n 2, 2, 0, 0), (.ifCond .ne 18, 3, 0, 0), (.aload_n 0, 0, 0, 0), (.getfield 10, 10, 0, 0), (.getfield 88, 0, 3, 0), (.getfield 97, 2, 0, 0), (.iload_n 1, 1, 0, 0), (.iaload, 0, 0, 0), (.goto 15, 4, 0, 0)] 0 L S M Q := wp_blk rfl
theorem B_57_3 : ∀ (L : Lo) (S : List Value) (M : Mem) (Q : Option Value → Mem → Prop), WP 57 [] 3 L S M Q = WP 57 [(.aload_n 0, 0, 0, 0), (.getfield 10, 10, 0, 0), (.getfield 88, 0, 3, 0), (.getfield 100, 2, 1, 0), (.iload_n 1, 1, 0, 0), (.iaload, 0, 0, 0)] 4 L S M Q := wp_blk rfl
theorem B_57_4 : ∀ (L : Lo) (S : List Value) (M : Mem) (Q : Option Value → Mem → Prop), WP 57 [] 4 L S M Q = WP 57 [(.ireturn, 0, 0, 0)] 0 L S M Q := wp_blk rfl
-- X10_event
theorem E_58 (q0 : Nat) (q1 : Int32) (q2 : Int32) (q3 : Int32) (M : Mem) (Q : Option Value → Mem → Prop) : Ct 58 [.ref q0, .int q1, .int q2, .int q3] M Q = WP 58 [] 0 [some (.ref q0), some (.int q1), some (.int q2), some (.int q3)] [] M Q := ct_wp rfl M Q
theorem B_58_0 : ∀ (L : Lo) (S : List Value) (M : Mem) (Q : Option Value → Mem → Prop), WP 58 [] 0 L S M Q = WP 58 [(.iload_n 1, 1, 0, 0), (.iload_n 2, 2, 0, 0), (.iload_n 3, 3, 0, 0), (.invokestatic 103, 6, 3, 0), (.ifCond .ne 6, 1, 0, 0), (.bipush (-2), 2, 1, 0), (.ireturn, 0, 0, 0)] 0 L S M Q := wp_blk rfl
theorem B_58_1 : ∀ (L : Lo) (S : List Value) (M : Mem) (Q : Option Value → Mem → Prop), WP 58 [] 1 L S M Q = WP 58 [(.aload_n 0, 0, 0, 0), (.getfield 10, 10, 0, 0), (.getfield 109, 0, 4, 0), (.getfield 113, 1, 3, 0), (.bipush 8, 8, 0, 0), (.if_icmp .lt 6, 2, 0, 0), (.bipush (-4), 4, 1, 0), (.ireturn, 0, 0, 0)] 0 L S M Q := wp_blk rfl
theorem B_58_2 : ∀ (L : Lo) (S : List Value) (M : Mem) (Q : Option Value → Mem → Prop), WP 58 [] 2 L S M Q = WP 58 [(.aload_n 0, 0, 0, 0), (.getfield 10, 10, 0, 0), (.getfield 109, 0, 4, 0), (.iload_n 1, 1, 0, 0), (.iload_n 2, 2, 0, 0), (.iload_n 3, 3, 0, 0), (.invokevirtual 114, 7, 3, 1), (.aload_n 0, 0, 0, 0), (.invokevirtual 117, 97, 0, 10), (.aload_n 0, 0, 0, 0), (.getfield 10, 10, 0, 0), (.getfield 109, 0, 4, 0), (.getfield 113, 1, 3, 0), (.ireturn, 0, 0, 0)] 0 L S M Q := wp_blk rfl
-- X10_back
theorem E_59 (q0 : Nat) (M : Mem) (Q : Option Value → Mem → Prop) : Ct 59 [.ref q0] M Q = WP 59 [] 0 [some (.ref q0)] [] M Q := ct_wp rfl M Q
theorem B_59_0 : ∀ (L : Lo) (S : List Value) (M : Mem) (Q : Option Value → Mem → Prop), WP 59 [] 0 L S M Q = WP 59 [(.aload_n 0, 0, 0, 0), (.getfield 10, 10, 0, 0), (.getfield 109, 0, 4, 0), (.getfield 113, 1, 3, 0), (.ifCond .ne 6, 1, 0, 0), (.bipush (-3), 3, 1, 0), (.ireturn, 0, 0, 0)] 0 L S M Q := wp_blk rfl
theorem B_59_1 : ∀ (L : Lo) (S : List Value) (M : Mem) (Q : Option Value → Mem → Prop), WP 59 [] 1 L S M Q = WP 59 [(.aload_n 0, 0, 0, 0), (.getfield 10, 10, 0, 0), (.getfield 109, 0, 4, 0), (.dup, 0, 0, 0), (.getfield 113, 1, 3, 0), (.iconst 1, 1, 0, 0), (.isub, 0, 0, 0), (.putfield 113, 1, 3, 0), (.aload_n 0, 0, 0, 0), (.invokevirtual 117, 97, 0, 10), (.aload_n 0, 0, 0, 0), (.getfield 10, 10, 0, 0), (.getfield 109, 0, 4, 0), (.getfield 113, 1, 3, 0), (.ireturn, 0, 0, 0)] 0 L S M Q := wp_blk rfl
-- X10_read
theorem E_60 (q0 : Nat) (q1 : Int32) (M : Mem) (Q : Option Value → Mem → Prop) : Ct 60 [.ref q0, .int q1] M Q = WP 60 [] 0 [some (.ref q0), some (.int q1), none, none, none, none, none, none, none] [] M Q := ct_wp rfl M Q
theorem B_60_0 : ∀ (L : Lo) (S : List Value) (M : Mem) (Q : Option Value → Mem → Prop), WP 60 [] 0 L S M Q = WP 60 [(.iload_n 1, 1, 0, 0), (.iconst 3, 3, 0, 0), (.invokestatic 49, 93, 2, 0), (.ifCond .eq 6, 1, 0, 0), (.bipush (-2), 2, 1, 0), (.ireturn, 0, 0, 0)] 0 L S M Q := wp_blk rfl
theorem B_60_1 : ∀ (L : Lo) (S : List Value) (M : Mem) (Q : Option Value → Mem → Prop), WP 60 [] 1 L S M Q = WP 60 [(.aload_n 0, 0, 0, 0), (.getfield 36, 10, 3, 0), (.iload_n 1, 1, 0, 0), (.aaload, 0, 0, 0), (.astore_n 2, 2, 0, 0), (.aload_n 2, 2, 0, 0), (.getfield 120, 5, 1, 0), (.iconst (-1), 1, 1, 0), (.if_icmp .ne 9, 2, 0, 0), (.aload_n 0, 0, 0, 0), (.iconst 1, 1, 0, 0), (.invokevirtual 123, 95, 1, 10), (.ireturn, 0, 0, 0)] 0 L S M Q := wp_blk rfl
theorem B_60_2 : ∀ (L : Lo) (S : List Value) (M : Mem) (Q : Option Value → Mem → Prop), WP 60 [] 2 L S M Q = WP 60 [(.aload_n 0, 0, 0, 0), (.getfield 10, 10, 0, 0), (.getfield 109, 0, 4, 0), (.astore_n 3, 3, 0, 0), (.aload_n 3, 3, 0, 0), (.getfield 113, 1, 3, 0), (.istore 4, 4, 0, 0), (.iconst 0, 0, 0, 0), (.istore 5, 5, 0, 0)] 3 L S M Q := wp_blk rfl
theorem B_60_3 : ∀ (L : Lo) (S : List Value) (M : Mem) (Q : Option Value → Mem → Prop), WP 60 [] 3 L S M Q = WP 60 [(.iload 5, 5, 0, 0), (.iconst 2, 2, 0, 0), (.iadd, 0, 0, 0), (.aload_n 2, 2, 0, 0), (.getfield 127, 5, 2, 0), (.if_icmp .ge 74, 5, 0, 0), (.aload_n 3, 3, 0, 0), (.getfield 113, 1, 3, 0), (.bipush 8, 8, 0, 0), (.if_icmp .ge 65, 5, 0, 0), (.aload_n 2, 2, 0, 0), (.getfield 128, 5, 0, 0), (.iload 5, 5, 0, 0), (.iaload, 0, 0, 0), (.istore 6, 6, 0, 0), (.aload_n 2, 2, 0, 0), (.getfield 128, 5, 0, 0), (.iload 5, 5, 0, 0), (.iconst 1, 1, 0, 0), (.iadd, 0, 0, 0), (.iaload, 0, 0, 0), (.istore 7, 7, 0, 0), (.aload_n 2, 2, 0, 0), (.getfield 128, 5, 0, 0), (.iload 5, 5, 0, 0), (.iconst 2, 2, 0, 0), (.iadd, 0, 0, 0), (.iaload, 0, 0, 0), (.istore 8, 8, 0, 0), (.iload 6, 6, 0, 0), (.iload 7, 7, 0, 0), (.iload 8, 8, 0, 0), (.invokestatic 103, 6, 3, 0), (.ifCond .ne 6, 4, 0, 0), (.goto 19, 5, 0, 0)] 0 L S M Q := wp_blk rfl
theorem B_60_4 : ∀ (L : Lo) (S : List Value) (M : Mem) (Q : Option Value → Mem → Prop), WP 60 [] 4 L S M Q = WP 60 [(.aload_n 3, 3, 0, 0), (.iload 6, 6, 0, 0), (.iload 7, 7, 0, 0), (.iload 8, 8, 0, 0), (.invokevirtual 114, 7, 3, 1), (.iinc 5 3, 5, 3, 0), (.goto (-79), 3, 0, 0)] 0 L S M Q := wp_blk rfl
theorem B_60_5 : ∀ (L : Lo) (S : List Value) (M : Mem) (Q : Option Value → Mem → Prop), WP 60 [] 5 L S M Q = WP 60 [(.aload_n 0, 0, 0, 0), (.invokevirtual 117, 97, 0, 10), (.aload_n 3, 3, 0, 0), (.getfield 113, 1, 3, 0), (.iload 4, 4, 0, 0), (.isub, 0, 0, 0), (.ireturn, 0, 0, 0)] 0 L S M Q := wp_blk rfl
-- X10_column
theorem E_61 (q0 : Nat) (q1 : Int32) (q2 : Int32) (q3 : Int32) (M : Mem) (Q : Option Value → Mem → Prop) : Ct 61 [.ref q0, .int q1, .int q2, .int q3] M Q = WP 61 [] 0 [some (.ref q0), some (.int q1), some (.int q2), some (.int q3), none] [] M Q := ct_wp rfl M Q
theorem B_61_0 : ∀ (L : Lo) (S : List Value) (M : Mem) (Q : Option Value → Mem → Prop), WP 61 [] 0 L S M Q = WP 61 [(.iload_n 1, 1, 0, 0), (.bipush 23, 23, 0, 0), (.invokestatic 49, 93, 2, 0), (.ifCond .ne 19, 1, 0, 0), (.iload_n 2, 2, 0, 0), (.iconst 5, 5, 0, 0), (.invokestatic 49, 93, 2, 0), (.ifCond .ne 11, 1, 0, 0), (.iload_n 3, 3, 0, 0), (.iconst 1, 1, 0, 0), (.invokestatic 49, 93, 2, 0), (.ifCond .eq 6, 2, 0, 0)] 1 L S M Q := wp_blk rfl
theorem B_61_1 : ∀ (L : Lo) (S : List Value) (M : Mem) (Q : Option Value → Mem → Prop), WP 61 [] 1 L S M Q = WP 61 [(.bipush (-2), 2, 1, 0), (.ireturn, 0, 0, 0)] 0 L S M Q := wp_blk rfl
theorem B_61_2 : ∀ (L : Lo) (S : List Value) (M : Mem) (Q : Option Value → Mem → Prop), WP 61 [] 2 L S M Q = WP 61 [(.aload_n 0, 0, 0, 0), (.invokevirtual 131, 98, 0, 10), (.astore 4, 4, 0, 0), (.iload_n 3, 3, 0, 0), (.ifCond .ne 17, 3, 0, 0), (.aload 4, 4, 0, 0), (.getfield 135, 7, 6, 0), (.iload_n 1, 1, 0, 0), (.iaload, 0, 0, 0), (.iload_n 2, 2, 0, 0), (.invokestatic 138, 40, 2, 0), (.goto 10, 4, 0, 0)] 0 L S M Q := wp_blk rfl
theorem B_61_3 : ∀ (L : Lo) (S : List Value) (M : Mem) (Q : Option Value → Mem → Prop), WP 61 [] 3 L S M Q = WP 61 [(.aload 4, 4, 0, 0), (.iload_n 1, 1, 0, 0), (.iload_n 2, 2, 0, 0), (.invokevirtual 142, 46, 2, 7)] 4 L S M Q := wp_blk rfl
theorem B_61_4 : ∀ (L : Lo) (S : List Value) (M : Mem) (Q : Option Value → Mem → Prop), WP 61 [] 4 L S M Q = WP 61 [(.ireturn, 0, 0, 0)] 0 L S M Q := wp_blk rfl
-- X10_block
theorem E_62 (q0 : Nat) (q1 : Int32) (q2 : Int32) (q3 : Int32) (M : Mem) (Q : Option Value → Mem → Prop) : Ct 62 [.ref q0, .int q1, .int q2, .int q3] M Q = WP 62 [] 0 [some (.ref q0), some (.int q1), some (.int q2), some (.int q3)] [] M Q := ct_wp rfl M Q
theorem B_62_0 : ∀ (L : Lo) (S : List Value) (M : Mem) (Q : Option Value → Mem → Prop), WP 62 [] 0 L S M Q = WP 62 [(.iload_n 1, 1, 0, 0), (.bipush 23, 23, 0, 0), (.invokestatic 49, 93, 2, 0), (.ifCond .ne 19, 1, 0, 0), (.iload_n 2, 2, 0, 0), (.iconst 5, 5, 0, 0), (.invokestatic 49, 93, 2, 0), (.ifCond .ne 11, 1, 0, 0), (.iload_n 3, 3, 0, 0), (.iconst 5, 5, 0, 0), (.invokestatic 49, 93, 2, 0), (.ifCond .eq 6, 2, 0, 0)] 1 L S M Q := wp_blk rfl
theorem B_62_1 : ∀ (L : Lo) (S : List Value) (M : Mem) (Q : Option Value → Mem → Prop), WP 62 [] 1 L S M Q = WP 62 [(.bipush (-2), 2, 1, 0), (.ireturn, 0, 0, 0)] 0 L S M Q := wp_blk rfl
theorem B_62_2 : ∀ (L : Lo) (S : List Value) (M : Mem) (Q : Option Value → Mem → Prop), WP 62 [] 2 L S M Q = WP 62 [(.aload_n 0, 0, 0, 0), (.invokevirtual 131, 98, 0, 10), (.getfield 145, 7, 7, 0), (.iload_n 1, 1, 0, 0), (.bipush 36, 36, 0, 0), (.imul, 0, 0, 0), (.iload_n 2, 2, 0, 0), (.bipush 6, 6, 0, 0), (.imul, 0, 0, 0), (.iadd, 0, 0, 0), (.iload_n 3, 3, 0, 0), (.iadd, 0, 0, 0), (.iaload, 0, 0, 0), (.ireturn, 0, 0, 0)] 0 L S M Q := wp_blk rfl
-- X10_ice
theorem E_63 (q0 : Nat) (q1 : Int32) (q2 : Int32) (M : Mem) (Q : Option Value → Mem → Prop) : Ct 63 [.ref q0, .int q1, .int q2] M Q = WP 63 [] 0 [some (.ref q0), some (.int q1), some (.int q2)] [] M Q := ct_wp rfl M Q
theorem B_63_0 : ∀ (L : Lo) (S : List Value) (M : Mem) (Q : Option Value → Mem → Prop), WP 63 [] 0 L S M Q = WP 63 [(.iload_n 1, 1, 0, 0), (.bipush 23, 23, 0, 0), (.invokestatic 49, 93, 2, 0), (.ifCond .ne 11, 1, 0, 0), (.iload_n 2, 2, 0, 0), (.iconst 1, 1, 0, 0), (.invokestatic 49, 93, 2, 0), (.ifCond .eq 6, 2, 0, 0)] 1 L S M Q := wp_blk rfl
theorem B_63_1 : ∀ (L : Lo) (S : List Value) (M : Mem) (Q : Option Value → Mem → Prop), WP 63 [] 1 L S M Q = WP 63 [(.bipush (-2), 2, 1, 0), (.ireturn, 0, 0, 0)] 0 L S M Q := wp_blk rfl
theorem B_63_2 : ∀ (L : Lo) (S : List Value) (M : Mem) (Q : Option Value → Mem → Prop), WP 63 [] 2 L S M Q = WP 63 [(.iload_n 2, 2, 0, 0), (.ifCond .ne 15, 3, 0, 0), (.aload_n 0, 0, 0, 0), (.invokevirtual 131, 98, 0, 10), (.getfield 148, 7, 4, 0), (.iload_n 1, 1, 0, 0), (.iaload, 0, 0, 0), (.goto 12, 4, 0, 0)] 0 L S M Q := wp_blk rfl
theorem B_63_3 : ∀ (L : Lo) (S : List Value) (M : Mem) (Q : Option Value → Mem → Prop), WP 63 [] 3 L S M Q = WP 63 [(.aload_n 0, 0, 0, 0), (.invokevirtual 131, 98, 0, 10), (.getfield 151, 7, 5, 0), (.iload_n 1, 1, 0, 0), (.iaload, 0, 0, 0)] 4 L S M Q := wp_blk rfl
theorem B_63_4 : ∀ (L : Lo) (S : List Value) (M : Mem) (Q : Option Value → Mem → Prop), WP 63 [] 4 L S M Q = WP 63 [(.ireturn, 0, 0, 0)] 0 L S M Q := wp_blk rfl
-- X10_got
theorem E_64 (q0 : Nat) (q1 : Int32) (q2 : Int32) (M : Mem) (Q : Option Value → Mem → Prop) : Ct 64 [.ref q0, .int q1, .int q2] M Q = WP 64 [] 0 [some (.ref q0), some (.int q1), some (.int q2), none] [] M Q := ct_wp rfl M Q
theorem B_64_0 : ∀ (L : Lo) (S : List Value) (M : Mem) (Q : Option Value → Mem → Prop), WP 64 [] 0 L S M Q = WP 64 [(.iload_n 1, 1, 0, 0), (.aload_n 0, 0, 0, 0), (.getfield 10, 10, 0, 0), (.getfield 88, 0, 3, 0), (.getfield 92, 2, 2, 0), (.iconst 1, 1, 0, 0), (.isub, 0, 0, 0), (.invokestatic 49, 93, 2, 0), (.ifCond .ne 11, 1, 0, 0), (.iload_n 2, 2, 0, 0), (.iconst 1, 1, 0, 0), (.invokestatic 49, 93, 2, 0), (.ifCond .eq 6, 2, 0, 0)] 1 L S M Q := wp_blk rfl
theorem B_64_1 : ∀ (L : Lo) (S : List Value) (M : Mem) (Q : Option Value → Mem → Prop), WP 64 [] 1 L S M Q = WP 64 [(.bipush (-2), 2, 1, 0), (.ireturn, 0, 0, 0)] 0 L S M Q := wp_blk rfl
theorem B_64_2 : ∀ (L : Lo) (S : List Value) (M : Mem) (Q : Option Value → Mem → Prop), WP 64 [] 2 L S M Q = WP 64 [(.aload_n 0, 0, 0, 0), (.invokevirtual 131, 98, 0, 10), (.astore_n 3, 3, 0, 0), (.iload_n 2, 2, 0, 0), (.ifCond .ne 12, 3, 0, 0), (.aload_n 3, 3, 0, 0), (.getfield 154, 7, 3, 0), (.iload_n 1, 1, 0, 0), (.iaload, 0, 0, 0), (.goto 11, 4, 0, 0)] 0 L S M Q := wp_blk rfl
theorem B_64_3 : ∀ (L : Lo) (S : List Value) (M : Mem) (Q : Option Value → Mem → Prop), WP 64 [] 3 L S M Q = WP 64 [(.aload_n 3, 3, 0, 0), (.getfield 157, 7, 10, 0), (.iload_n 1, 1, 0, 0), (.ishr, 0, 0, 0), (.iconst 1, 1, 0, 0), (.iand, 0, 0, 0)] 4 L S M Q := wp_blk rfl
theorem B_64_4 : ∀ (L : Lo) (S : List Value) (M : Mem) (Q : Option Value → Mem → Prop), WP 64 [] 4 L S M Q = WP 64 [(.ireturn, 0, 0, 0)] 0 L S M Q := wp_blk rfl
-- X10_sum
theorem E_65 (q0 : Nat) (q1 : Int32) (M : Mem) (Q : Option Value → Mem → Prop) : Ct 65 [.ref q0, .int q1] M Q = WP 65 [] 0 [some (.ref q0), some (.int q1)] [] M Q := ct_wp rfl M Q
theorem B_65_0 : ∀ (L : Lo) (S : List Value) (M : Mem) (Q : Option Value → Mem → Prop), WP 65 [] 0 L S M Q = WP 65 [(.iload_n 1, 1, 0, 0), (.iconst 1, 1, 0, 0), (.invokestatic 49, 93, 2, 0), (.ifCond .eq 6, 1, 0, 0), (.bipush (-2), 2, 1, 0), (.ireturn, 0, 0, 0)] 0 L S M Q := wp_blk rfl
theorem B_65_1 : ∀ (L : Lo) (S : List Value) (M : Mem) (Q : Option Value → Mem → Prop), WP 65 [] 1 L S M Q = WP 65 [(.iload_n 1, 1, 0, 0), (.ifCond .ne 13, 2, 0, 0), (.aload_n 0, 0, 0, 0), (.invokevirtual 131, 98, 0, 10), (.invokevirtual 160, 47, 0, 7), (.goto 10, 3, 0, 0)] 0 L S M Q := wp_blk rfl
theorem B_65_2 : ∀ (L : Lo) (S : List Value) (M : Mem) (Q : Option Value → Mem → Prop), WP 65 [] 2 L S M Q = WP 65 [(.aload_n 0, 0, 0, 0), (.invokevirtual 131, 98, 0, 10), (.invokevirtual 164, 48, 0, 7)] 3 L S M Q := wp_blk rfl
theorem B_65_3 : ∀ (L : Lo) (S : List Value) (M : Mem) (Q : Option Value → Mem → Prop), WP 65 [] 3 L S M Q = WP 65 [(.ireturn, 0, 0, 0)] 0 L S M Q := wp_blk rfl
-- X10_bare
theorem E_66 (q0 : Nat) (q1 : Int32) (M : Mem) (Q : Option Value → Mem → Prop) : Ct 66 [.ref q0, .int q1] M Q = WP 66 [] 0 [some (.ref q0), some (.int q1), none, none] [] M Q := ct_wp rfl M Q
theorem B_66_0 : ∀ (L : Lo) (S : List Value) (M : Mem) (Q : Option Value → Mem → Prop), WP 66 [] 0 L S M Q = WP 66 [(.iload_n 1, 1, 0, 0), (.iconst 5, 5, 0, 0), (.invokestatic 49, 93, 2, 0), (.ifCond .eq 6, 1, 0, 0), (.bipush (-2), 2, 1, 0), (.ireturn, 0, 0, 0)] 0 L S M Q := wp_blk rfl
theorem B_66_1 : ∀ (L : Lo) (S : List Value) (M : Mem) (Q : Option Value → Mem → Prop), WP 66 [] 1 L S M Q = WP 66 [(.aload_n 0, 0, 0, 0), (.invokevirtual 131, 98, 0, 10), (.astore_n 2, 2, 0, 0), (.iconst 0, 0, 0, 0), (.istore_n 3, 3, 0, 0)] 2 L S M Q := wp_blk rfl
theorem B_66_2 : ∀ (L : Lo) (S : List Value) (M : Mem) (Q : Option Value → Mem → Prop), WP 66 [] 2 L S M Q = WP 66 [(.iload_n 3, 3, 0, 0), (.bipush 24, 24, 0, 0), (.if_icmp .ge 24, 4, 0, 0), (.aload_n 2, 2, 0, 0), (.getfield 135, 7, 6, 0), (.iload_n 3, 3, 0, 0), (.iaload, 0, 0, 0), (.iload_n 1, 1, 0, 0), (.invokestatic 138, 40, 2, 0), (.ifCond .ne 5, 3, 0, 0), (.iload_n 3, 3, 0, 0), (.ireturn, 0, 0, 0)] 0 L S M Q := wp_blk rfl
theorem B_66_3 : ∀ (L : Lo) (S : List Value) (M : Mem) (Q : Option Value → Mem → Prop), WP 66 [] 3 L S M Q = WP 66 [(.iinc 3 1, 3, 1, 0), (.goto (-24), 2, 0, 0)] 0 L S M Q := wp_blk rfl
theorem B_66_4 : ∀ (L : Lo) (S : List Value) (M : Mem) (Q : Option Value → Mem → Prop), WP 66 [] 4 L S M Q = WP 66 [(.iconst (-1), 1, 1, 0), (.ireturn, 0, 0, 0)] 0 L S M Q := wp_blk rfl
-- X10_last
theorem E_67 (q0 : Nat) (M : Mem) (Q : Option Value → Mem → Prop) : Ct 67 [.ref q0] M Q = WP 67 [] 0 [some (.ref q0), none, none] [] M Q := ct_wp rfl M Q
theorem B_67_0 : ∀ (L : Lo) (S : List Value) (M : Mem) (Q : Option Value → Mem → Prop), WP 67 [] 0 L S M Q = WP 67 [(.aload_n 0, 0, 0, 0), (.invokevirtual 131, 98, 0, 10), (.astore_n 1, 1, 0, 0), (.iconst 0, 0, 0, 0), (.istore_n 2, 2, 0, 0)] 1 L S M Q := wp_blk rfl
theorem B_67_1 : ∀ (L : Lo) (S : List Value) (M : Mem) (Q : Option Value → Mem → Prop), WP 67 [] 1 L S M Q = WP 67 [(.iload_n 2, 2, 0, 0), (.bipush 24, 24, 0, 0), (.if_icmp .ge 20, 3, 0, 0), (.aload_n 1, 1, 0, 0), (.getfield 148, 7, 4, 0), (.iload_n 2, 2, 0, 0), (.iaload, 0, 0, 0), (.ifCond .ne 5, 2, 0, 0), (.iload_n 2, 2, 0, 0), (.ireturn, 0, 0, 0)] 0 L S M Q := wp_blk rfl
theorem B_67_2 : ∀ (L : Lo) (S : List Value) (M : Mem) (Q : Option Value → Mem → Prop), WP 67 [] 2 L S M Q = WP 67 [(.iinc 2 1, 2, 1, 0), (.goto (-20), 1, 0, 0)] 0 L S M Q := wp_blk rfl
theorem B_67_3 : ∀ (L : Lo) (S : List Value) (M : Mem) (Q : Option Value → Mem → Prop), WP 67 [] 3 L S M Q = WP 67 [(.iconst (-1), 1, 1, 0), (.ireturn, 0, 0, 0)] 0 L S M Q := wp_blk rfl
-- X10_tall
theorem E_68 (q0 : Nat) (M : Mem) (Q : Option Value → Mem → Prop) : Ct 68 [.ref q0] M Q = WP 68 [] 0 [some (.ref q0), none, none, none] [] M Q := ct_wp rfl M Q
theorem B_68_0 : ∀ (L : Lo) (S : List Value) (M : Mem) (Q : Option Value → Mem → Prop), WP 68 [] 0 L S M Q = WP 68 [(.aload_n 0, 0, 0, 0), (.invokevirtual 131, 98, 0, 10), (.getfield 135, 7, 6, 0), (.bipush 23, 23, 0, 0), (.iaload, 0, 0, 0), (.istore_n 1, 1, 0, 0), (.iconst 0, 0, 0, 0), (.istore_n 2, 2, 0, 0), (.iconst 1, 1, 0, 0), (.istore_n 3, 3, 0, 0)] 1 L S M Q := wp_blk rfl
theorem B_68_1 : ∀ (L : Lo) (S : List Value) (M : Mem) (Q : Option Value → Mem → Prop), WP 68 [] 1 L S M Q = WP 68 [(.iload_n 3, 3, 0, 0), (.bipush 6, 6, 0, 0), (.if_icmp .ge 24, 3, 0, 0), (.iload_n 1, 1, 0, 0), (.iload_n 3, 3, 0, 0), (.invokestatic 138, 40, 2, 0), (.iload_n 1, 1, 0, 0), (.iload_n 2, 2, 0, 0), (.invokestatic 138, 40, 2, 0), (.if_icmp .le 5, 2, 0, 0), (.iload_n 3, 3, 0, 0), (.istore_n 2, 2, 0, 0)] 2 L S M Q := wp_blk rfl
theorem B_68_2 : ∀ (L : Lo) (S : List Value) (M : Mem) (Q : Option Value → Mem → Prop), WP 68 [] 2 L S M Q = WP 68 [(.iinc 3 1, 3, 1, 0), (.goto (-24), 1, 0, 0)] 0 L S M Q := wp_blk rfl
theorem B_68_3 : ∀ (L : Lo) (S : List Value) (M : Mem) (Q : Option Value → Mem → Prop), WP 68 [] 3 L S M Q = WP 68 [(.iload_n 2, 2, 0, 0), (.ireturn, 0, 0, 0)] 0 L S M Q := wp_blk rfl
-- X10_drain
theorem E_69 (q0 : Nat) (q1 : Int32) (M : Mem) (Q : Option Value → Mem → Prop) : Ct 69 [.ref q0, .int q1] M Q = WP 69 [] 0 [some (.ref q0), some (.int q1), none, none, none] [] M Q := ct_wp rfl M Q
theorem B_69_0 : ∀ (L : Lo) (S : List Value) (M : Mem) (Q : Option Value → Mem → Prop), WP 69 [] 0 L S M Q = WP 69 [(.iload_n 1, 1, 0, 0), (.iconst 1, 1, 0, 0), (.invokestatic 49, 93, 2, 0), (.ifCond .eq 6, 1, 0, 0), (.bipush (-2), 2, 1, 0), (.ireturn, 0, 0, 0)] 0 L S M Q := wp_blk rfl
theorem B_69_1 : ∀ (L : Lo) (S : List Value) (M : Mem) (Q : Option Value → Mem → Prop), WP 69 [] 1 L S M Q = WP 69 [(.aload_n 0, 0, 0, 0), (.invokevirtual 131, 98, 0, 10), (.getfield 151, 7, 5, 0), (.astore_n 2, 2, 0, 0), (.iconst 0, 0, 0, 0), (.istore_n 3, 3, 0, 0), (.iconst 1, 1, 0, 0), (.istore 4, 4, 0, 0)] 2 L S M Q := wp_blk rfl
theorem B_69_2 : ∀ (L : Lo) (S : List Value) (M : Mem) (Q : Option Value → Mem → Prop), WP 69 [] 2 L S M Q = WP 69 [(.iload 4, 4, 0, 0), (.bipush 24, 24, 0, 0), (.if_icmp .ge 22, 4, 0, 0), (.aload_n 2, 2, 0, 0), (.iload 4, 4, 0, 0), (.iaload, 0, 0, 0), (.aload_n 2, 2, 0, 0), (.iload_n 3, 3, 0, 0), (.iaload, 0, 0, 0), (.if_icmp .le 6, 3, 0, 0), (.iload 4, 4, 0, 0), (.istore_n 3, 3, 0, 0)] 3 L S M Q := wp_blk rfl
theorem B_69_3 : ∀ (L : Lo) (S : List Value) (M : Mem) (Q : Option Value → Mem → Prop), WP 69 [] 3 L S M Q = WP 69 [(.iinc 4 1, 4, 1, 0), (.goto (-23), 2, 0, 0)] 0 L S M Q := wp_blk rfl
theorem B_69_4 : ∀ (L : Lo) (S : List Value) (M : Mem) (Q : Option Value → Mem → Prop), WP 69 [] 4 L S M Q = WP 69 [(.iload_n 1, 1, 0, 0), (.ifCond .ne 7, 5, 0, 0), (.iload_n 3, 3, 0, 0), (.goto 6, 6, 0, 0)] 0 L S M Q := wp_blk rfl
theorem B_69_5 : ∀ (L : Lo) (S : List Value) (M : Mem) (Q : Option Value → Mem → Prop), WP 69 [] 5 L S M Q = WP 69 [(.aload_n 2, 2, 0, 0), (.iload_n 3, 3, 0, 0), (.iaload, 0, 0, 0)] 6 L S M Q := wp_blk rfl
theorem B_69_6 : ∀ (L : Lo) (S : List Value) (M : Mem) (Q : Option Value → Mem → Prop), WP 69 [] 6 L S M Q = WP 69 [(.ireturn, 0, 0, 0)] 0 L S M Q := wp_blk rfl
-- X10_cover
theorem E_70 (q0 : Nat) (q1 : Int32) (M : Mem) (Q : Option Value → Mem → Prop) : Ct 70 [.ref q0, .int q1] M Q = WP 70 [] 0 [some (.ref q0), some (.int q1)] [] M Q := ct_wp rfl M Q
theorem B_70_0 : ∀ (L : Lo) (S : List Value) (M : Mem) (Q : Option Value → Mem → Prop), WP 70 [] 0 L S M Q = WP 70 [(.iload_n 1, 1, 0, 0), (.iconst 1, 1, 0, 0), (.invokestatic 49, 93, 2, 0), (.ifCond .eq 6, 1, 0, 0), (.bipush (-2), 2, 1, 0), (.ireturn, 0, 0, 0)] 0 L S M Q := wp_blk rfl
theorem B_70_1 : ∀ (L : Lo) (S : List Value) (M : Mem) (Q : Option Value → Mem → Prop), WP 70 [] 1 L S M Q = WP 70 [(.aload_n 0, 0, 0, 0), (.getfield 21, 10, 1, 0), (.invokevirtual 167, 9, 0, 3), (.iload_n 1, 1, 0, 0), (.ifCond .ne 13, 2, 0, 0), (.aload_n 0, 0, 0, 0), (.getfield 21, 10, 1, 0), (.getfield 170, 3, 5, 0), (.goto 10, 3, 0, 0)] 0 L S M Q := wp_blk rfl
theorem B_70_2 : ∀ (L : Lo) (S : List Value) (M : Mem) (Q : Option Value → Mem → Prop), WP 70 [] 2 L S M Q = WP 70 [(.aload_n 0, 0, 0, 0), (.getfield 21, 10, 1, 0), (.getfield 173, 3, 7, 0)] 3 L S M Q := wp_blk rfl
theorem B_70_3 : ∀ (L : Lo) (S : List Value) (M : Mem) (Q : Option Value → Mem → Prop), WP 70 [] 3 L S M Q = WP 70 [(.ireturn, 0, 0, 0)] 0 L S M Q := wp_blk rfl
-- X10_swap
theorem E_71 (q0 : Nat) (q1 : Int32) (M : Mem) (Q : Option Value → Mem → Prop) : Ct 71 [.ref q0, .int q1] M Q = WP 71 [] 0 [some (.ref q0), some (.int q1)] [] M Q := ct_wp rfl M Q
theorem B_71_0 : ∀ (L : Lo) (S : List Value) (M : Mem) (Q : Option Value → Mem → Prop), WP 71 [] 0 L S M Q = WP 71 [(.iload_n 1, 1, 0, 0), (.iconst 2, 2, 0, 0), (.invokestatic 49, 93, 2, 0), (.ifCond .eq 6, 1, 0, 0), (.bipush (-2), 2, 1, 0), (.ireturn, 0, 0, 0)] 0 L S M Q := wp_blk rfl
theorem B_71_1 : ∀ (L : Lo) (S : List Value) (M : Mem) (Q : Option Value → Mem → Prop), WP 71 [] 1 L S M Q = WP 71 [(.aload_n 0, 0, 0, 0), (.getfield 21, 10, 1, 0), (.invokevirtual 176, 10, 0, 3), (.iload_n 1, 1, 0, 0), (.ifCond .ne 13, 2, 0, 0), (.aload_n 0, 0, 0, 0), (.getfield 21, 10, 1, 0), (.getfield 170, 3, 5, 0), (.goto 25, 4, 0, 0)] 0 L S M Q := wp_blk rfl
theorem B_71_2 : ∀ (L : Lo) (S : List Value) (M : Mem) (Q : Option Value → Mem → Prop), WP 71 [] 2 L S M Q = WP 71 [(.iload_n 1, 1, 0, 0), (.iconst 1, 1, 0, 0), (.if_icmp .ne 13, 3, 0, 0), (.aload_n 0, 0, 0, 0), (.getfield 21, 10, 1, 0), (.getfield 179, 3, 6, 0), (.goto 10, 4, 0, 0)] 0 L S M Q := wp_blk rfl
theorem B_71_3 : ∀ (L : Lo) (S : List Value) (M : Mem) (Q : Option Value → Mem → Prop), WP 71 [] 3 L S M Q = WP 71 [(.aload_n 0, 0, 0, 0), (.getfield 21, 10, 1, 0), (.getfield 173, 3, 7, 0)] 4 L S M Q := wp_blk rfl
theorem B_71_4 : ∀ (L : Lo) (S : List Value) (M : Mem) (Q : Option Value → Mem → Prop), WP 71 [] 4 L S M Q = WP 71 [(.ireturn, 0, 0, 0)] 0 L S M Q := wp_blk rfl
-- X10_later
theorem E_72 (q0 : Nat) (q1 : Int32) (q2 : Int32) (M : Mem) (Q : Option Value → Mem → Prop) : Ct 72 [.ref q0, .int q1, .int q2] M Q = WP 72 [] 0 [some (.ref q0), some (.int q1), some (.int q2)] [] M Q := ct_wp rfl M Q
theorem B_72_0 : ∀ (L : Lo) (S : List Value) (M : Mem) (Q : Option Value → Mem → Prop), WP 72 [] 0 L S M Q = WP 72 [(.iload_n 1, 1, 0, 0), (.aload_n 0, 0, 0, 0), (.getfield 10, 10, 0, 0), (.getfield 88, 0, 3, 0), (.getfield 92, 2, 2, 0), (.iconst 1, 1, 0, 0), (.isub, 0, 0, 0), (.invokestatic 49, 93, 2, 0), (.ifCond .ne 11, 1, 0, 0), (.iload_n 2, 2, 0, 0), (.iconst 1, 1, 0, 0), (.invokestatic 49, 93, 2, 0), (.ifCond .eq 6, 2, 0, 0)] 1 L S M Q := wp_blk rfl
theorem B_72_1 : ∀ (L : Lo) (S : List Value) (M : Mem) (Q : Option Value → Mem → Prop), WP 72 [] 1 L S M Q = WP 72 [(.bipush (-2), 2, 1, 0), (.ireturn, 0, 0, 0)] 0 L S M Q := wp_blk rfl
theorem B_72_2 : ∀ (L : Lo) (S : List Value) (M : Mem) (Q : Option Value → Mem → Prop), WP 72 [] 2 L S M Q = WP 72 [(.aload_n 0, 0, 0, 0), (.getfield 21, 10, 1, 0), (.iload_n 1, 1, 0, 0), (.invokevirtual 182, 11, 1, 3), (.iload_n 2, 2, 0, 0), (.ifCond .ne 13, 3, 0, 0), (.aload_n 0, 0, 0, 0), (.getfield 21, 10, 1, 0), (.getfield 170, 3, 5, 0), (.goto 10, 4, 0, 0)] 0 L S M Q := wp_blk rfl
theorem B_72_3 : ∀ (L : Lo) (S : List Value) (M : Mem) (Q : Option Value → Mem → Prop), WP 72 [] 3 L S M Q = WP 72 [(.aload_n 0, 0, 0, 0), (.getfield 21, 10, 1, 0), (.getfield 173, 3, 7, 0)] 4 L S M Q := wp_blk rfl
theorem B_72_4 : ∀ (L : Lo) (S : List Value) (M : Mem) (Q : Option Value → Mem → Prop), WP 72 [] 4 L S M Q = WP 72 [(.ireturn, 0, 0, 0)] 0 L S M Q := wp_blk rfl
-- X10_spare
theorem E_73 (q0 : Nat) (q1 : Int32) (M : Mem) (Q : Option Value → Mem → Prop) : Ct 73 [.ref q0, .int q1] M Q = WP 73 [] 0 [some (.ref q0), some (.int q1)] [] M Q := ct_wp rfl M Q
theorem B_73_0 : ∀ (L : Lo) (S : List Value) (M : Mem) (Q : Option Value → Mem → Prop), WP 73 [] 0 L S M Q = WP 73 [(.iload_n 1, 1, 0, 0), (.iconst (-1), 1, 1, 0), (.if_icmp .lt 8, 1, 0, 0), (.iload_n 1, 1, 0, 0), (.iconst 1, 1, 0, 0), (.if_icmp .le 6, 2, 0, 0)] 1 L S M Q := wp_blk rfl
theorem B_73_1 : ∀ (L : Lo) (S : List Value) (M : Mem) (Q : Option Value → Mem → Prop), WP 73 [] 1 L S M Q = WP 73 [(.bipush (-2), 2, 1, 0), (.ireturn, 0, 0, 0)] 0 L S M Q := wp_blk rfl
theorem B_73_2 : ∀ (L : Lo) (S : List Value) (M : Mem) (Q : Option Value → Mem → Prop), WP 73 [] 2 L S M Q = WP 73 [(.aload_n 0, 0, 0, 0), (.getfield 21, 10, 1, 0), (.invokevirtual 185, 14, 0, 3), (.iload_n 1, 1, 0, 0), (.iconst (-1), 1, 1, 0), (.if_icmp .ne 13, 3, 0, 0), (.aload_n 0, 0, 0, 0), (.getfield 21, 10, 1, 0), (.getfield 173, 3, 7, 0), (.goto 24, 5, 0, 0)] 0 L S M Q := wp_blk rfl
theorem B_73_3 : ∀ (L : Lo) (S : List Value) (M : Mem) (Q : Option Value → Mem → Prop), WP 73 [] 3 L S M Q = WP 73 [(.iload_n 1, 1, 0, 0), (.ifCond .ne 13, 4, 0, 0), (.aload_n 0, 0, 0, 0), (.getfield 21, 10, 1, 0), (.getfield 170, 3, 5, 0), (.goto 10, 5, 0, 0)] 0 L S M Q := wp_blk rfl
theorem B_73_4 : ∀ (L : Lo) (S : List Value) (M : Mem) (Q : Option Value → Mem → Prop), WP 73 [] 4 L S M Q = WP 73 [(.aload_n 0, 0, 0, 0), (.getfield 21, 10, 1, 0), (.getfield 179, 3, 6, 0)] 5 L S M Q := wp_blk rfl
theorem B_73_5 : ∀ (L : Lo) (S : List Value) (M : Mem) (Q : Option Value → Mem → Prop), WP 73 [] 5 L S M Q = WP 73 [(.ireturn, 0, 0, 0)] 0 L S M Q := wp_blk rfl
-- X10_seen
theorem E_74 (q0 : Nat) (q1 : Int32) (q2 : Int32) (q3 : Int32) (M : Mem) (Q : Option Value → Mem → Prop) : Ct 74 [.ref q0, .int q1, .int q2, .int q3] M Q = WP 74 [] 0 [some (.ref q0), some (.int q1), some (.int q2), some (.int q3)] [] M Q := ct_wp rfl M Q
theorem B_74_0 : ∀ (L : Lo) (S : List Value) (M : Mem) (Q : Option Value → Mem → Prop), WP 74 [] 0 L S M Q = WP 74 [(.iload_n 1, 1, 0, 0), (.bipush 23, 23, 0, 0), (.invokestatic 49, 93, 2, 0), (.ifCond .ne 20, 1, 0, 0), (.iload_n 2, 2, 0, 0), (.iconst 5, 5, 0, 0), (.invokestatic 49, 93, 2, 0), (.ifCond .ne 12, 1, 0, 0), (.iload_n 3, 3, 0, 0), (.bipush 6, 6, 0, 0), (.invokestatic 49, 93, 2, 0), (.ifCond .eq 6, 2, 0, 0)] 1 L S M Q := wp_blk rfl
theorem B_74_1 : ∀ (L : Lo) (S : List Value) (M : Mem) (Q : Option Value → Mem → Prop), WP 74 [] 1 L S M Q = WP 74 [(.bipush (-2), 2, 1, 0), (.ireturn, 0, 0, 0)] 0 L S M Q := wp_blk rfl
theorem B_74_2 : ∀ (L : Lo) (S : List Value) (M : Mem) (Q : Option Value → Mem → Prop), WP 74 [] 2 L S M Q = WP 74 [(.aload_n 0, 0, 0, 0), (.getfield 10, 10, 0, 0), (.getfield 188, 0, 5, 0), (.getfield 192, 4, 3, 0), (.bipush 8, 8, 0, 0), (.if_icmp .lt 6, 3, 0, 0), (.bipush (-4), 4, 1, 0), (.ireturn, 0, 0, 0)] 0 L S M Q := wp_blk rfl
theorem B_74_3 : ∀ (L : Lo) (S : List Value) (M : Mem) (Q : Option Value → Mem → Prop), WP 74 [] 3 L S M Q = WP 74 [(.aload_n 0, 0, 0, 0), (.getfield 10, 10, 0, 0), (.getfield 188, 0, 5, 0), (.iload_n 1, 1, 0, 0), (.iload_n 2, 2, 0, 0), (.iload_n 3, 3, 0, 0), (.invokevirtual 195, 25, 3, 4), (.aload_n 0, 0, 0, 0), (.getfield 10, 10, 0, 0), (.getfield 188, 0, 5, 0), (.getfield 192, 4, 3, 0), (.ireturn, 0, 0, 0)] 0 L S M Q := wp_blk rfl
-- X10_forget
theorem E_75 (q0 : Nat) (M : Mem) (Q : Option Value → Mem → Prop) : Ct 75 [.ref q0] M Q = WP 75 [] 0 [some (.ref q0), none] [] M Q := ct_wp rfl M Q
theorem B_75_0 : ∀ (L : Lo) (S : List Value) (M : Mem) (Q : Option Value → Mem → Prop), WP 75 [] 0 L S M Q = WP 75 [(.aload_n 0, 0, 0, 0), (.getfield 10, 10, 0, 0), (.getfield 188, 0, 5, 0), (.getfield 192, 4, 3, 0), (.istore_n 1, 1, 0, 0), (.aload_n 0, 0, 0, 0), (.getfield 10, 10, 0, 0), (.getfield 188, 0, 5, 0), (.iconst 0, 0, 0, 0), (.putfield 192, 4, 3, 0), (.iload_n 1, 1, 0, 0), (.ireturn, 0, 0, 0)] 0 L S M Q := wp_blk rfl
-- X10_never
theorem E_76 (q0 : Nat) (M : Mem) (Q : Option Value → Mem → Prop) : Ct 76 [.ref q0] M Q = WP 76 [] 0 [some (.ref q0)] [] M Q := ct_wp rfl M Q
theorem B_76_0 : ∀ (L : Lo) (S : List Value) (M : Mem) (Q : Option Value → Mem → Prop), WP 76 [] 0 L S M Q = WP 76 [(.aload_n 0, 0, 0, 0), (.getfield 21, 10, 1, 0), (.invokevirtual 196, 15, 0, 3), (.ireturn, 0, 0, 0)] 0 L S M Q := wp_blk rfl
-- X10_size
theorem E_77 (q0 : Nat) (q1 : Int32) (q2 : Int32) (M : Mem) (Q : Option Value → Mem → Prop) : Ct 77 [.ref q0, .int q1, .int q2] M Q = WP 77 [] 0 [some (.ref q0), some (.int q1), some (.int q2)] [] M Q := ct_wp rfl M Q
theorem B_77_0 : ∀ (L : Lo) (S : List Value) (M : Mem) (Q : Option Value → Mem → Prop), WP 77 [] 0 L S M Q = WP 77 [(.aload_n 0, 0, 0, 0), (.iload_n 1, 1, 0, 0), (.iload_n 2, 2, 0, 0), (.invokevirtual 199, 94, 2, 10), (.ifCond .eq 8, 1, 0, 0), (.bipush (-2), 2, 1, 0), (.goto 12, 2, 0, 0)] 0 L S M Q := wp_blk rfl
theorem B_77_1 : ∀ (L : Lo) (S : List Value) (M : Mem) (Q : Option Value → Mem → Prop), WP 77 [] 1 L S M Q = WP 77 [(.aload_n 0, 0, 0, 0), (.getfield 21, 10, 1, 0), (.iload_n 1, 1, 0, 0), (.iload_n 2, 2, 0, 0), (.invokevirtual 202, 16, 2, 3)] 2 L S M Q := wp_blk rfl
theorem B_77_2 : ∀ (L : Lo) (S : List Value) (M : Mem) (Q : Option Value → Mem → Prop), WP 77 [] 2 L S M Q = WP 77 [(.ireturn, 0, 0, 0)] 0 L S M Q := wp_blk rfl
-- X10_ask
theorem E_78 (q0 : Nat) (q1 : Int32) (q2 : Int32) (M : Mem) (Q : Option Value → Mem → Prop) : Ct 78 [.ref q0, .int q1, .int q2] M Q = WP 78 [] 0 [some (.ref q0), some (.int q1), some (.int q2)] [] M Q := ct_wp rfl M Q
theorem B_78_0 : ∀ (L : Lo) (S : List Value) (M : Mem) (Q : Option Value → Mem → Prop), WP 78 [] 0 L S M Q = WP 78 [(.aload_n 0, 0, 0, 0), (.iload_n 1, 1, 0, 0), (.iload_n 2, 2, 0, 0), (.invokevirtual 199, 94, 2, 10), (.ifCond .eq 8, 1, 0, 0), (.bipush (-2), 2, 1, 0), (.goto 19, 2, 0, 0)] 0 L S M Q := wp_blk rfl
theorem B_78_1 : ∀ (L : Lo) (S : List Value) (M : Mem) (Q : Option Value → Mem → Prop), WP 78 [] 1 L S M Q = WP 78 [(.aload_n 0, 0, 0, 0), (.getfield 21, 10, 1, 0), (.aload_n 0, 0, 0, 0), (.getfield 21, 10, 1, 0), (.iload_n 1, 1, 0, 0), (.iload_n 2, 2, 0, 0), (.invokevirtual 202, 16, 2, 3), (.invokevirtual 205, 17, 1, 3)] 2 L S M Q := wp_blk rfl
theorem B_78_2 : ∀ (L : Lo) (S : List Value) (M : Mem) (Q : Option Value → Mem → Prop), WP 78 [] 2 L S M Q = WP 78 [(.ireturn, 0, 0, 0)] 0 L S M Q := wp_blk rfl
-- X10_chance
theorem E_79 (q0 : Nat) (q1 : Int32) (q2 : Int32) (q3 : Int32) (M : Mem) (Q : Option Value → Mem → Prop) : Ct 79 [.ref q0, .int q1, .int q2, .int q3] M Q = WP 79 [] 0 [some (.ref q0), some (.int q1), some (.int q2), some (.int q3)] [] M Q := ct_wp rfl M Q
theorem B_79_0 : ∀ (L : Lo) (S : List Value) (M : Mem) (Q : Option Value → Mem → Prop), WP 79 [] 0 L S M Q = WP 79 [(.iload_n 1, 1, 0, 0), (.bipush 16, 16, 0, 0), (.invokestatic 49, 93, 2, 0), (.ifCond .ne 30, 1, 0, 0), (.iload_n 2, 2, 0, 0), (.aload_n 0, 0, 0, 0), (.getfield 10, 10, 0, 0), (.getfield 88, 0, 3, 0), (.getfield 92, 2, 2, 0), (.iconst 1, 1, 0, 0), (.isub, 0, 0, 0), (.invokestatic 49, 93, 2, 0), (.ifCond .ne 11, 1, 0, 0), (.iload_n 3, 3, 0, 0), (.iconst 1, 1, 0, 0), (.invokestatic 49, 93, 2, 0), (.ifCond .eq 7, 2, 0, 0)] 1 L S M Q := wp_blk rfl
theorem B_79_1 : ∀ (L : Lo) (S : List Value) (M : Mem) (Q : Option Value → Mem → Prop), WP 79 [] 1 L S M Q = WP 79 [(.ldc2_w 208, 9223372036854775806, 1, 0), (.lreturn, 0, 0, 0)] 0 L S M Q := wp_blk rfl
theorem B_79_2 : ∀ (L : Lo) (S : List Value) (M : Mem) (Q : Option Value → Mem → Prop), WP 79 [] 2 L S M Q = WP 79 [(.aload_n 0, 0, 0, 0), (.getfield 21, 10, 1, 0), (.iload_n 1, 1, 0, 0), (.iload_n 2, 2, 0, 0), (.invokevirtual 210, 19, 2, 3), (.iload_n 3, 3, 0, 0), (.ifCond .ne 13, 3, 0, 0), (.aload_n 0, 0, 0, 0), (.getfield 21, 10, 1, 0), (.getfield 214, 3, 8, 0), (.goto 10, 4, 0, 0)] 0 L S M Q := wp_blk rfl
theorem B_79_3 : ∀ (L : Lo) (S : List Value) (M : Mem) (Q : Option Value → Mem → Prop), WP 79 [] 3 L S M Q = WP 79 [(.aload_n 0, 0, 0, 0), (.getfield 21, 10, 1, 0), (.getfield 218, 3, 9, 0)] 4 L S M Q := wp_blk rfl
theorem B_79_4 : ∀ (L : Lo) (S : List Value) (M : Mem) (Q : Option Value → Mem → Prop), WP 79 [] 4 L S M Q = WP 79 [(.lreturn, 0, 0, 0)] 0 L S M Q := wp_blk rfl
-- X10_summers
theorem E_80 (q0 : Nat) (q1 : Int32) (q2 : Int32) (q3 : Int32) (M : Mem) (Q : Option Value → Mem → Prop) : Ct 80 [.ref q0, .int q1, .int q2, .int q3] M Q = WP 80 [] 0 [some (.ref q0), some (.int q1), some (.int q2), some (.int q3), none] [] M Q := ct_wp rfl M Q
theorem B_80_0 : ∀ (L : Lo) (S : List Value) (M : Mem) (Q : Option Value → Mem → Prop), WP 80 [] 0 L S M Q = WP 80 [(.iload_n 2, 2, 0, 0), (.bipush 8, 8, 0, 0), (.invokestatic 49, 93, 2, 0), (.ifCond .ne 11, 1, 0, 0), (.iload_n 3, 3, 0, 0), (.iconst 1, 1, 0, 0), (.invokestatic 49, 93, 2, 0), (.ifCond .eq 6, 2, 0, 0)] 1 L S M Q := wp_blk rfl
theorem B_80_1 : ∀ (L : Lo) (S : List Value) (M : Mem) (Q : Option Value → Mem → Prop), WP 80 [] 1 L S M Q = WP 80 [(.bipush (-2), 2, 1, 0), (.ireturn, 0, 0, 0)] 0 L S M Q := wp_blk rfl
theorem B_80_2 : ∀ (L : Lo) (S : List Value) (M : Mem) (Q : Option Value → Mem → Prop), WP 80 [] 2 L S M Q = WP 80 [(.aload_n 0, 0, 0, 0), (.getfield 21, 10, 1, 0), (.iload_n 1, 1, 0, 0), (.iload_n 2, 2, 0, 0), (.invokevirtual 221, 22, 2, 3), (.astore 4, 4, 0, 0), (.iload_n 3, 3, 0, 0), (.ifCond .ne 14, 3, 0, 0), (.aload 4, 4, 0, 0), (.getfield 148, 7, 4, 0), (.bipush 23, 23, 0, 0), (.iaload, 0, 0, 0), (.goto 8, 4, 0, 0)] 0 L S M Q := wp_blk rfl
theorem B_80_3 : ∀ (L : Lo) (S : List Value) (M : Mem) (Q : Option Value → Mem → Prop), WP 80 [] 3 L S M Q = WP 80 [(.aload 4, 4, 0, 0), (.invokevirtual 164, 48, 0, 7)] 4 L S M Q := wp_blk rfl
theorem B_80_4 : ∀ (L : Lo) (S : List Value) (M : Mem) (Q : Option Value → Mem → Prop), WP 80 [] 4 L S M Q = WP 80 [(.ireturn, 0, 0, 0)] 0 L S M Q := wp_blk rfl
-- X10_sheet
theorem E_81 (q0 : Nat) (q1 : Int32) (q2 : Int32) (q3 : Int32) (M : Mem) (Q : Option Value → Mem → Prop) : Ct 81 [.ref q0, .int q1, .int q2, .int q3] M Q = WP 81 [] 0 [some (.ref q0), some (.int q1), some (.int q2), some (.int q3)] [] M Q := ct_wp rfl M Q
theorem B_81_0 : ∀ (L : Lo) (S : List Value) (M : Mem) (Q : Option Value → Mem → Prop), WP 81 [] 0 L S M Q = WP 81 [(.iload_n 1, 1, 0, 0), (.iconst 3, 3, 0, 0), (.invokestatic 49, 93, 2, 0), (.ifCond .ne 17, 1, 0, 0), (.iload_n 2, 2, 0, 0), (.iconst 2, 2, 0, 0), (.invokestatic 49, 93, 2, 0), (.ifCond .ne 9, 1, 0, 0), (.iload_n 3, 3, 0, 0), (.bipush 60, 60, 0, 0), (.if_icmp .le 6, 2, 0, 0)] 1 L S M Q := wp_blk rfl
theorem B_81_1 : ∀ (L : Lo) (S : List Value) (M : Mem) (Q : Option Value → Mem → Prop), WP 81 [] 1 L S M Q = WP 81 [(.bipush (-2), 2, 1, 0), (.ireturn, 0, 0, 0)] 0 L S M Q := wp_blk rfl
theorem B_81_2 : ∀ (L : Lo) (S : List Value) (M : Mem) (Q : Option Value → Mem → Prop), WP 81 [] 2 L S M Q = WP 81 [(.iload_n 3, 3, 0, 0), (.ifCond .ge 9, 3, 0, 0), (.aload_n 0, 0, 0, 0), (.iconst 5, 5, 0, 0), (.invokevirtual 123, 95, 1, 10), (.ireturn, 0, 0, 0)] 0 L S M Q := wp_blk rfl
theorem B_81_3 : ∀ (L : Lo) (S : List Value) (M : Mem) (Q : Option Value → Mem → Prop), WP 81 [] 3 L S M Q = WP 81 [(.aload_n 0, 0, 0, 0), (.getfield 36, 10, 3, 0), (.iload_n 1, 1, 0, 0), (.aaload, 0, 0, 0), (.iload_n 2, 2, 0, 0), (.iload_n 3, 3, 0, 0), (.invokevirtual 225, 27, 2, 5), (.iload_n 3, 3, 0, 0), (.ireturn, 0, 0, 0)] 0 L S M Q := wp_blk rfl
-- X10_lose
theorem E_82 (q0 : Nat) (q1 : Int32) (M : Mem) (Q : Option Value → Mem → Prop) : Ct 82 [.ref q0, .int q1] M Q = WP 82 [] 0 [some (.ref q0), some (.int q1), none] [] M Q := ct_wp rfl M Q
theorem B_82_0 : ∀ (L : Lo) (S : List Value) (M : Mem) (Q : Option Value → Mem → Prop), WP 82 [] 0 L S M Q = WP 82 [(.iload_n 1, 1, 0, 0), (.iconst 3, 3, 0, 0), (.invokestatic 49, 93, 2, 0), (.ifCond .eq 6, 1, 0, 0), (.bipush (-2), 2, 1, 0), (.ireturn, 0, 0, 0)] 0 L S M Q := wp_blk rfl
theorem B_82_1 : ∀ (L : Lo) (S : List Value) (M : Mem) (Q : Option Value → Mem → Prop), WP 82 [] 1 L S M Q = WP 82 [(.aload_n 0, 0, 0, 0), (.getfield 36, 10, 3, 0), (.iload_n 1, 1, 0, 0), (.aaload, 0, 0, 0), (.astore_n 2, 2, 0, 0), (.aload_n 2, 2, 0, 0), (.getfield 120, 5, 1, 0), (.iconst (-1), 1, 1, 0), (.if_icmp .ne 9, 2, 0, 0), (.aload_n 0, 0, 0, 0), (.iconst 1, 1, 0, 0), (.invokevirtual 123, 95, 1, 10), (.ireturn, 0, 0, 0)] 0 L S M Q := wp_blk rfl
theorem B_82_2 : ∀ (L : Lo) (S : List Value) (M : Mem) (Q : Option Value → Mem → Prop), WP 82 [] 2 L S M Q = WP 82 [(.aload_n 2, 2, 0, 0), (.iconst (-1), 1, 1, 0), (.putfield 120, 5, 1, 0), (.aload_n 2, 2, 0, 0), (.getfield 127, 5, 2, 0), (.ireturn, 0, 0, 0)] 0 L S M Q := wp_blk rfl
-- X10_lay
theorem E_83 (q0 : Nat) (q1 : Int32) (q2 : Int32) (q3 : Int32) (q4 : Int32) (M : Mem) (Q : Option Value → Mem → Prop) : Ct 83 [.ref q0, .int q1, .int q2, .int q3, .int q4] M Q = WP 83 [] 0 [some (.ref q0), some (.int q1), some (.int q2), some (.int q3), some (.int q4), none] [] M Q := ct_wp rfl M Q
theorem B_83_0 : ∀ (L : Lo) (S : List Value) (M : Mem) (Q : Option Value → Mem → Prop), WP 83 [] 0 L S M Q = WP 83 [(.iload_n 1, 1, 0, 0), (.iconst 3, 3, 0, 0), (.invokestatic 49, 93, 2, 0), (.ifCond .ne 11, 1, 0, 0), (.iload_n 2, 2, 0, 0), (.iconst 2, 2, 0, 0), (.invokestatic 49, 93, 2, 0), (.ifCond .eq 6, 2, 0, 0)] 1 L S M Q := wp_blk rfl
theorem B_83_1 : ∀ (L : Lo) (S : List Value) (M : Mem) (Q : Option Value → Mem → Prop), WP 83 [] 1 L S M Q = WP 83 [(.bipush (-2), 2, 1, 0), (.ireturn, 0, 0, 0)] 0 L S M Q := wp_blk rfl
theorem B_83_2 : ∀ (L : Lo) (S : List Value) (M : Mem) (Q : Option Value → Mem → Prop), WP 83 [] 2 L S M Q = WP 83 [(.aload_n 0, 0, 0, 0), (.getfield 36, 10, 3, 0), (.iload_n 1, 1, 0, 0), (.aaload, 0, 0, 0), (.iload_n 2, 2, 0, 0), (.iload_n 3, 3, 0, 0), (.invokevirtual 228, 28, 2, 5), (.istore 5, 5, 0, 0), (.iload 5, 5, 0, 0), (.ifCond .eq 10, 3, 0, 0), (.aload_n 0, 0, 0, 0), (.iload 5, 5, 0, 0), (.invokevirtual 123, 95, 1, 10), (.ireturn, 0, 0, 0)] 0 L S M Q := wp_blk rfl
theorem B_83_3 : ∀ (L : Lo) (S : List Value) (M : Mem) (Q : Option Value → Mem → Prop), WP 83 [] 3 L S M Q = WP 83 [(.aload_n 0, 0, 0, 0), (.getfield 36, 10, 3, 0), (.iload_n 1, 1, 0, 0), (.aaload, 0, 0, 0), (.iload_n 3, 3, 0, 0), (.iload 4, 4, 0, 0), (.invokevirtual 231, 30, 2, 5), (.iconst 1, 1, 0, 0), (.ireturn, 0, 0, 0)] 0 L S M Q := wp_blk rfl
-- X10_get
theorem E_84 (q0 : Nat) (q1 : Int32) (q2 : Int32) (q3 : Int32) (M : Mem) (Q : Option Value → Mem → Prop) : Ct 84 [.ref q0, .int q1, .int q2, .int q3] M Q = WP 84 [] 0 [some (.ref q0), some (.int q1), some (.int q2), some (.int q3), none] [] M Q := ct_wp rfl M Q
theorem B_84_0 : ∀ (L : Lo) (S : List Value) (M : Mem) (Q : Option Value → Mem → Prop), WP 84 [] 0 L S M Q = WP 84 [(.iload_n 1, 1, 0, 0), (.iconst 3, 3, 0, 0), (.invokestatic 49, 93, 2, 0), (.ifCond .ne 11, 1, 0, 0), (.iload_n 2, 2, 0, 0), (.iconst 2, 2, 0, 0), (.invokestatic 49, 93, 2, 0), (.ifCond .eq 6, 2, 0, 0)] 1 L S M Q := wp_blk rfl
theorem B_84_1 : ∀ (L : Lo) (S : List Value) (M : Mem) (Q : Option Value → Mem → Prop), WP 84 [] 1 L S M Q = WP 84 [(.ldc 234, 2147483648, 1, 0), (.ireturn, 0, 0, 0)] 0 L S M Q := wp_blk rfl
theorem B_84_2 : ∀ (L : Lo) (S : List Value) (M : Mem) (Q : Option Value → Mem → Prop), WP 84 [] 2 L S M Q = WP 84 [(.aload_n 0, 0, 0, 0), (.getfield 36, 10, 3, 0), (.iload_n 1, 1, 0, 0), (.aaload, 0, 0, 0), (.iload_n 2, 2, 0, 0), (.iload_n 3, 3, 0, 0), (.invokevirtual 228, 28, 2, 5), (.istore 4, 4, 0, 0), (.iload 4, 4, 0, 0), (.ifCond .eq 12, 3, 0, 0), (.aload_n 0, 0, 0, 0), (.iload 4, 4, 0, 0), (.putfield 45, 10, 5, 0), (.ldc 234, 2147483648, 1, 0), (.ireturn, 0, 0, 0)] 0 L S M Q := wp_blk rfl
theorem B_84_3 : ∀ (L : Lo) (S : List Value) (M : Mem) (Q : Option Value → Mem → Prop), WP 84 [] 3 L S M Q = WP 84 [(.aload_n 0, 0, 0, 0), (.getfield 36, 10, 3, 0), (.iload_n 1, 1, 0, 0), (.aaload, 0, 0, 0), (.getfield 128, 5, 0, 0), (.iload_n 3, 3, 0, 0), (.iaload, 0, 0, 0), (.ireturn, 0, 0, 0)] 0 L S M Q := wp_blk rfl
-- X10_copy
theorem E_85 (q0 : Nat) (q1 : Int32) (q2 : Int32) (q3 : Int32) (q4 : Int32) (q5 : Int32) (M : Mem) (Q : Option Value → Mem → Prop) : Ct 85 [.ref q0, .int q1, .int q2, .int q3, .int q4, .int q5] M Q = WP 85 [] 0 [some (.ref q0), some (.int q1), some (.int q2), some (.int q3), some (.int q4), some (.int q5), none, none] [] M Q := ct_wp rfl M Q
theorem B_85_0 : ∀ (L : Lo) (S : List Value) (M : Mem) (Q : Option Value → Mem → Prop), WP 85 [] 0 L S M Q = WP 85 [(.iload_n 1, 1, 0, 0), (.iconst 3, 3, 0, 0), (.invokestatic 49, 93, 2, 0), (.ifCond .ne 11, 1, 0, 0), (.iload_n 3, 3, 0, 0), (.iconst 3, 3, 0, 0), (.invokestatic 49, 93, 2, 0), (.ifCond .eq 6, 2, 0, 0)] 1 L S M Q := wp_blk rfl
theorem B_85_1 : ∀ (L : Lo) (S : List Value) (M : Mem) (Q : Option Value → Mem → Prop), WP 85 [] 1 L S M Q = WP 85 [(.bipush (-2), 2, 1, 0), (.ireturn, 0, 0, 0)] 0 L S M Q := wp_blk rfl
theorem B_85_2 : ∀ (L : Lo) (S : List Value) (M : Mem) (Q : Option Value → Mem → Prop), WP 85 [] 2 L S M Q = WP 85 [(.aload_n 0, 0, 0, 0), (.getfield 36, 10, 3, 0), (.iload_n 1, 1, 0, 0), (.aaload, 0, 0, 0), (.astore 6, 6, 0, 0), (.aload_n 0, 0, 0, 0), (.getfield 36, 10, 3, 0), (.iload_n 3, 3, 0, 0), (.aaload, 0, 0, 0), (.astore 7, 7, 0, 0), (.aload 6, 6, 0, 0), (.getfield 120, 5, 1, 0), (.iconst (-1), 1, 1, 0), (.if_icmp .eq 12, 3, 0, 0), (.aload 7, 7, 0, 0), (.getfield 120, 5, 1, 0), (.iconst (-1), 1, 1, 0), (.if_icmp .ne 9, 4, 0, 0)] 3 L S M Q := wp_blk rfl
theorem B_85_3 : ∀ (L : Lo) (S : List Value) (M : Mem) (Q : Option Value → Mem → Prop), WP 85 [] 3 L S M Q = WP 85 [(.aload_n 0, 0, 0, 0), (.iconst 1, 1, 0, 0), (.invokevirtual 123, 95, 1, 10), (.ireturn, 0, 0, 0)] 0 L S M Q := wp_blk rfl
theorem B_85_4 : ∀ (L : Lo) (S : List Value) (M : Mem) (Q : Option Value → Mem → Prop), WP 85 [] 4 L S M Q = WP 85 [(.aload 6, 6, 0, 0), (.getfield 120, 5, 1, 0), (.aload 7, 7, 0, 0), (.getfield 120, 5, 1, 0), (.if_icmp .eq 9, 5, 0, 0), (.aload_n 0, 0, 0, 0), (.iconst 4, 4, 0, 0), (.invokevirtual 123, 95, 1, 10), (.ireturn, 0, 0, 0)] 0 L S M Q := wp_blk rfl
theorem B_85_5 : ∀ (L : Lo) (S : List Value) (M : Mem) (Q : Option Value → Mem → Prop), WP 85 [] 5 L S M Q = WP 85 [(.aload 6, 6, 0, 0), (.iload_n 2, 2, 0, 0), (.iload 5, 5, 0, 0), (.invokevirtual 235, 29, 2, 5), (.ifCond .eq 15, 6, 0, 0), (.aload 7, 7, 0, 0), (.iload 4, 4, 0, 0), (.iload 5, 5, 0, 0), (.invokevirtual 235, 29, 2, 5), (.ifCond .ne 9, 7, 0, 0)] 6 L S M Q := wp_blk rfl
theorem B_85_6 : ∀ (L : Lo) (S : List Value) (M : Mem) (Q : Option Value → Mem → Prop), WP 85 [] 6 L S M Q = WP 85 [(.aload_n 0, 0, 0, 0), (.iconst 2, 2, 0, 0), (.invokevirtual 123, 95, 1, 10), (.ireturn, 0, 0, 0)] 0 L S M Q := wp_blk rfl
theorem B_85_7 : ∀ (L : Lo) (S : List Value) (M : Mem) (Q : Option Value → Mem → Prop), WP 85 [] 7 L S M Q = WP 85 [(.aload 6, 6, 0, 0), (.getfield 128, 5, 0, 0), (.iload_n 2, 2, 0, 0), (.aload 7, 7, 0, 0), (.getfield 128, 5, 0, 0), (.iload 4, 4, 0, 0), (.iload 5, 5, 0, 0), (.invokestatic 238, 999, 5, 0), (.iconst 1, 1, 0, 0), (.ireturn, 0, 0, 0)] 0 L S M Q := wp_blk rfl
-- X10_write
theorem E_86 (q0 : Nat) (q1 : Int32) (q2 : Int32) (M : Mem) (Q : Option Value → Mem → Prop) : Ct 86 [.ref q0, .int q1, .int q2] M Q = WP 86 [] 0 [some (.ref q0), some (.int q1), some (.int q2), none, none, none, none] [] M Q := ct_wp rfl M Q
theorem B_86_0 : ∀ (L : Lo) (S : List Value) (M : Mem) (Q : Option Value → Mem → Prop), WP 86 [] 0 L S M Q = WP 86 [(.iload_n 1, 1, 0, 0), (.iconst 5, 5, 0, 0), (.invokestatic 49, 93, 2, 0), (.ifCond .ne 11, 1, 0, 0), (.iload_n 2, 2, 0, 0), (.iconst 3, 3, 0, 0), (.invokestatic 49, 93, 2, 0), (.ifCond .eq 6, 2, 0, 0)] 1 L S M Q := wp_blk rfl
theorem B_86_1 : ∀ (L : Lo) (S : List Value) (M : Mem) (Q : Option Value → Mem → Prop), WP 86 [] 1 L S M Q = WP 86 [(.bipush (-2), 2, 1, 0), (.ireturn, 0, 0, 0)] 0 L S M Q := wp_blk rfl
theorem B_86_2 : ∀ (L : Lo) (S : List Value) (M : Mem) (Q : Option Value → Mem → Prop), WP 86 [] 2 L S M Q = WP 86 [(.aload_n 0, 0, 0, 0), (.getfield 36, 10, 3, 0), (.iload_n 2, 2, 0, 0), (.aaload, 0, 0, 0), (.astore_n 3, 3, 0, 0), (.aload_n 3, 3, 0, 0), (.getfield 120, 5, 1, 0), (.iconst (-1), 1, 1, 0), (.if_icmp .ne 9, 3, 0, 0), (.aload_n 0, 0, 0, 0), (.iconst 1, 1, 0, 0), (.invokevirtual 123, 95, 1, 10), (.ireturn, 0, 0, 0)] 0 L S M Q := wp_blk rfl
theorem B_86_3 : ∀ (L : Lo) (S : List Value) (M : Mem) (Q : Option Value → Mem → Prop), WP 86 [] 3 L S M Q = WP 86 [(.aload_n 3, 3, 0, 0), (.getfield 127, 5, 2, 0), (.bipush 24, 24, 0, 0), (.invokestatic 244, 998, 2, 0), (.istore 4, 4, 0, 0), (.aload_n 0, 0, 0, 0), (.invokevirtual 131, 98, 0, 10), (.astore 5, 5, 0, 0), (.iconst 0, 0, 0, 0), (.istore 6, 6, 0, 0)] 4 L S M Q := wp_blk rfl
theorem B_86_4 : ∀ (L : Lo) (S : List Value) (M : Mem) (Q : Option Value → Mem → Prop), WP 86 [] 4 L S M Q = WP 86 [(.iload 6, 6, 0, 0), (.iload 4, 4, 0, 0), (.if_icmp .ge 23, 5, 0, 0), (.aload_n 3, 3, 0, 0), (.iload 6, 6, 0, 0), (.aload 5, 5, 0, 0), (.iload 6, 6, 0, 0), (.iload_n 1, 1, 0, 0), (.invokevirtual 142, 46, 2, 7), (.invokevirtual 231, 30, 2, 5), (.iinc 6 1, 6, 1, 0), (.goto (-24), 4, 0, 0)] 0 L S M Q := wp_blk rfl
theorem B_86_5 : ∀ (L : Lo) (S : List Value) (M : Mem) (Q : Option Value → Mem → Prop), WP 86 [] 5 L S M Q = WP 86 [(.iload 4, 4, 0, 0), (.ireturn, 0, 0, 0)] 0 L S M Q := wp_blk rfl
-- X10_count
theorem E_87 (q0 : Nat) (q1 : Int32) (M : Mem) (Q : Option Value → Mem → Prop) : Ct 87 [.ref q0, .int q1] M Q = WP 87 [] 0 [some (.ref q0), some (.int q1)] [] M Q := ct_wp rfl M Q
theorem B_87_0 : ∀ (L : Lo) (S : List Value) (M : Mem) (Q : Option Value → Mem → Prop), WP 87 [] 0 L S M Q = WP 87 [(.iload_n 1, 1, 0, 0), (.tableswitch 141 0 8 #[51, 62, 73, 84, 95, 106, 117, 125, 136], 0, 0, 0)] 0 L S M Q := wp_blk rfl
theorem B_87_1 : ∀ (L : Lo) (S : List Value) (M : Mem) (Q : Option Value → Mem → Prop), WP 87 [] 1 L S M Q = WP 87 [(.aload_n 0, 0, 0, 0), (.getfield 10, 10, 0, 0), (.getfield 78, 0, 2, 0), (.invokevirtual 249, 37, 0, 6), (.ireturn, 0, 0, 0)] 0 L S M Q := wp_blk rfl
theorem B_87_2 : ∀ (L : Lo) (S : List Value) (M : Mem) (Q : Option Value → Mem → Prop), WP 87 [] 2 L S M Q = WP 87 [(.aload_n 0, 0, 0, 0), (.getfield 10, 10, 0, 0), (.getfield 88, 0, 3, 0), (.getfield 92, 2, 2, 0), (.ireturn, 0, 0, 0)] 0 L S M Q := wp_blk rfl
theorem B_87_3 : ∀ (L : Lo) (S : List Value) (M : Mem) (Q : Option Value → Mem → Prop), WP 87 [] 3 L S M Q = WP 87 [(.aload_n 0, 0, 0, 0), (.getfield 10, 10, 0, 0), (.getfield 252, 0, 0, 0), (.getfield 57, 8, 2, 0), (.ireturn, 0, 0, 0)] 0 L S M Q := wp_blk rfl
theorem B_87_4 : ∀ (L : Lo) (S : List Value) (M : Mem) (Q : Option Value → Mem → Prop), WP 87 [] 4 L S M Q = WP 87 [(.aload_n 0, 0, 0, 0), (.getfield 10, 10, 0, 0), (.getfield 256, 0, 1, 0), (.getfield 57, 8, 2, 0), (.ireturn, 0, 0, 0)] 0 L S M Q := wp_blk rfl
theorem B_87_5 : ∀ (L : Lo) (S : List Value) (M : Mem) (Q : Option Value → Mem → Prop), WP 87 [] 5 L S M Q = WP 87 [(.aload_n 0, 0, 0, 0), (.getfield 10, 10, 0, 0), (.getfield 109, 0, 4, 0), (.getfield 113, 1, 3, 0), (.ireturn, 0, 0, 0)] 0 L S M Q := wp_blk rfl
theorem B_87_6 : ∀ (L : Lo) (S : List Value) (M : Mem) (Q : Option Value → Mem → Prop), WP 87 [] 6 L S M Q = WP 87 [(.aload_n 0, 0, 0, 0), (.invokevirtual 131, 98, 0, 10), (.getfield 148, 7, 4, 0), (.bipush 23, 23, 0, 0), (.iaload, 0, 0, 0), (.ireturn, 0, 0, 0)] 0 L S M Q := wp_blk rfl
theorem B_87_7 : ∀ (L : Lo) (S : List Value) (M : Mem) (Q : Option Value → Mem → Prop), WP 87 [] 7 L S M Q = WP 87 [(.aload_n 0, 0, 0, 0), (.invokevirtual 131, 98, 0, 10), (.invokevirtual 164, 48, 0, 7), (.ireturn, 0, 0, 0)] 0 L S M Q := wp_blk rfl
theorem B_87_8 : ∀ (L : Lo) (S : List Value) (M : Mem) (Q : Option Value → Mem → Prop), WP 87 [] 8 L S M Q = WP 87 [(.aload_n 0, 0, 0, 0), (.getfield 10, 10, 0, 0), (.getfield 188, 0, 5, 0), (.getfield 192, 4, 3, 0), (.ireturn, 0, 0, 0)] 0 L S M Q := wp_blk rfl
theorem B_87_9 : ∀ (L : Lo) (S : List Value) (M : Mem) (Q : Option Value → Mem → Prop), WP 87 [] 9 L S M Q = WP 87 [(.aload_n 0, 0, 0, 0), (.getfield 45, 10, 5, 0), (.ireturn, 0, 0, 0)] 0 L S M Q := wp_blk rfl
theorem B_87_10 : ∀ (L : Lo) (S : List Value) (M : Mem) (Q : Option Value → Mem → Prop), WP 87 [] 10 L S M Q = WP 87 [(.bipush (-2), 2, 1, 0), (.ireturn, 0, 0, 0)] 0 L S M Q := wp_blk rfl
-- X10_digest
theorem E_88 (q0 : Nat) (M : Mem) (Q : Option Value → Mem → Prop) : Ct 88 [.ref q0] M Q = WP 88 [] 0 [some (.ref q0), none, none, none] [] M Q := ct_wp rfl M Q
theorem B_88_0 : ∀ (L : Lo) (S : List Value) (M : Mem) (Q : Option Value → Mem → Prop), WP 88 [] 0 L S M Q = WP 88 [(.ldc2_w 259, 17, 0, 0), (.lstore_n 1, 1, 0, 0), (.iconst 0, 0, 0, 0), (.istore_n 3, 3, 0, 0)] 1 L S M Q := wp_blk rfl
theorem B_88_1 : ∀ (L : Lo) (S : List Value) (M : Mem) (Q : Option Value → Mem → Prop), WP 88 [] 1 L S M Q = WP 88 [(.iload_n 3, 3, 0, 0), (.bipush 7, 7, 0, 0), (.if_icmp .gt 20, 2, 0, 0), (.lload_n 1, 1, 0, 0), (.aload_n 0, 0, 0, 0), (.iload_n 3, 3, 0, 0), (.invokevirtual 261, 87, 1, 10), (.i2l, 0, 0, 0), (.invokestatic 264, 89, 2, 0), (.lstore_n 1, 1, 0, 0), (.iinc 3 1, 3, 1, 0), (.goto (-20), 1, 0, 0)] 0 L S M Q := wp_blk rfl
theorem B_88_2 : ∀ (L : Lo) (S : List Value) (M : Mem) (Q : Option Value → Mem → Prop), WP 88 [] 2 L S M Q = WP 88 [(.lload_n 1, 1, 0, 0), (.aload_n 0, 0, 0, 0), (.iconst 0, 0, 0, 0), (.invokevirtual 268, 55, 1, 10), (.i2l, 0, 0, 0), (.invokestatic 264, 89, 2, 0), (.aload_n 0, 0, 0, 0), (.iconst 1, 1, 0, 0), (.invokevirtual 268, 55, 1, 10), (.i2l, 0, 0, 0), (.invokestatic 264, 89, 2, 0), (.lstore_n 1, 1, 0, 0), (.iconst 0, 0, 0, 0), (.istore_n 3, 3, 0, 0)] 3 L S M Q := wp_blk rfl
theorem B_88_3 : ∀ (L : Lo) (S : List Value) (M : Mem) (Q : Option Value → Mem → Prop), WP 88 [] 3 L S M Q = WP 88 [(.iload_n 3, 3, 0, 0), (.bipush 24, 24, 0, 0), (.if_icmp .ge 31, 4, 0, 0), (.lload_n 1, 1, 0, 0), (.aload_n 0, 0, 0, 0), (.iload_n 3, 3, 0, 0), (.iconst 0, 0, 0, 0), (.invokevirtual 271, 63, 2, 10), (.i2l, 0, 0, 0), (.invokestatic 264, 89, 2, 0), (.aload_n 0, 0, 0, 0), (.iload_n 3, 3, 0, 0), (.iconst 1, 1, 0, 0), (.invokevirtual 271, 63, 2, 10), (.i2l, 0, 0, 0), (.invokestatic 264, 89, 2, 0), (.lstore_n 1, 1, 0, 0), (.iinc 3 1, 3, 1, 0), (.goto (-31), 3, 0, 0)] 0 L S M Q := wp_blk rfl
theorem B_88_4 : ∀ (L : Lo) (S : List Value) (M : Mem) (Q : Option Value → Mem → Prop), WP 88 [] 4 L S M Q = WP 88 [(.iconst 0, 0, 0, 0), (.istore_n 3, 3, 0, 0)] 5 L S M Q := wp_blk rfl
theorem B_88_5 : ∀ (L : Lo) (S : List Value) (M : Mem) (Q : Option Value → Mem → Prop), WP 88 [] 5 L S M Q = WP 88 [(.iload_n 3, 3, 0, 0), (.bipush 6, 6, 0, 0), (.if_icmp .ge 16, 6, 0, 0), (.aload_n 0, 0, 0, 0), (.lload_n 1, 1, 0, 0), (.iload_n 3, 3, 0, 0), (.invokevirtual 273, 90, 2, 10), (.lstore_n 1, 1, 0, 0), (.iinc 3 1, 3, 1, 0), (.goto (-16), 5, 0, 0)] 0 L S M Q := wp_blk rfl
theorem B_88_6 : ∀ (L : Lo) (S : List Value) (M : Mem) (Q : Option Value → Mem → Prop), WP 88 [] 6 L S M Q = WP 88 [(.iconst 0, 0, 0, 0), (.istore_n 3, 3, 0, 0)] 7 L S M Q := wp_blk rfl
theorem B_88_7 : ∀ (L : Lo) (S : List Value) (M : Mem) (Q : Option Value → Mem → Prop), WP 88 [] 7 L S M Q = WP 88 [(.iload_n 3, 3, 0, 0), (.aload_n 0, 0, 0, 0), (.getfield 10, 10, 0, 0), (.getfield 88, 0, 3, 0), (.getfield 92, 2, 2, 0), (.if_icmp .ge 16, 8, 0, 0), (.aload_n 0, 0, 0, 0), (.lload_n 1, 1, 0, 0), (.iload_n 3, 3, 0, 0), (.invokevirtual 277, 91, 2, 10), (.lstore_n 1, 1, 0, 0), (.iinc 3 1, 3, 1, 0), (.goto (-24), 7, 0, 0)] 0 L S M Q := wp_blk rfl
theorem B_88_8 : ∀ (L : Lo) (S : List Value) (M : Mem) (Q : Option Value → Mem → Prop), WP 88 [] 8 L S M Q = WP 88 [(.aload_n 0, 0, 0, 0), (.lload_n 1, 1, 0, 0), (.invokevirtual 280, 92, 1, 10), (.lreturn, 0, 0, 0)] 0 L S M Q := wp_blk rfl
-- X10_mixed
theorem E_89 (q0 : Int64) (q1 : Int64) (M : Mem) (Q : Option Value → Mem → Prop) : Ct 89 [.long q0, .long q1] M Q = WP 89 [] 0 [some (.long q0), none, some (.long q1), none] [] M Q := ct_wp rfl M Q
theorem B_89_0 : ∀ (L : Lo) (S : List Value) (M : Mem) (Q : Option Value → Mem → Prop), WP 89 [] 0 L S M Q = WP 89 [(.ldc2_w 284, 31, 0, 0), (.lload_n 0, 0, 0, 0), (.lmul, 0, 0, 0), (.lload_n 2, 2, 0, 0), (.ladd, 0, 0, 0), (.lreturn, 0, 0, 0)] 0 L S M Q := wp_blk rfl
-- X10_mixedColumn
theorem E_90 (q0 : Nat) (q1 : Int64) (q2 : Int32) (M : Mem) (Q : Option Value → Mem → Prop) : Ct 90 [.ref q0, .long q1, .int q2] M Q = WP 90 [] 0 [some (.ref q0), some (.long q1), none, some (.int q2), none, none, none, none] [] M Q := ct_wp rfl M Q
theorem B_90_0 : ∀ (L : Lo) (S : List Value) (M : Mem) (Q : Option Value → Mem → Prop), WP 90 [] 0 L S M Q = WP 90 [(.lload_n 1, 1, 0, 0), (.aload_n 0, 0, 0, 0), (.iload_n 3, 3, 0, 0), (.invokevirtual 286, 66, 1, 10), (.i2l, 0, 0, 0), (.invokestatic 264, 89, 2, 0), (.lstore 4, 4, 0, 0), (.iconst 0, 0, 0, 0), (.istore 6, 6, 0, 0)] 1 L S M Q := wp_blk rfl
theorem B_90_1 : ∀ (L : Lo) (S : List Value) (M : Mem) (Q : Option Value → Mem → Prop), WP 90 [] 1 L S M Q = WP 90 [(.iload 6, 6, 0, 0), (.bipush 6, 6, 0, 0), (.if_icmp .ge 81, 3, 0, 0), (.lload 4, 4, 0, 0), (.aload_n 0, 0, 0, 0), (.iload_n 3, 3, 0, 0), (.iload 6, 6, 0, 0), (.invokevirtual 289, 56, 2, 10), (.i2l, 0, 0, 0), (.invokestatic 264, 89, 2, 0), (.aload_n 0, 0, 0, 0), (.iconst 4, 4, 0, 0), (.iload_n 3, 3, 0, 0), (.iload 6, 6, 0, 0), (.invokevirtual 292, 62, 3, 10), (.i2l, 0, 0, 0), (.invokestatic 264, 89, 2, 0), (.lstore 4, 4, 0, 0), (.aload_n 0, 0, 0, 0), (.iload_n 3, 3, 0, 0), (.iload 6, 6, 0, 0), (.invokevirtual 199, 94, 2, 10), (.ifCond .ne 38, 2, 0, 0), (.aload_n 0, 0, 0, 0), (.getfield 21, 10, 1, 0), (.iload_n 3, 3, 0, 0), (.iload 6, 6, 0, 0), (.invokevirtual 202, 16, 2, 3), (.istore 7, 7, 0, 0), (.lload 4, 4, 0, 0), (.iload 7, 7, 0, 0), (.i2l, 0, 0, 0), (.invokestatic 264, 89, 2, 0), (.aload_n 0, 0, 0, 0), (.getfield 21, 10, 1, 0), (.iload 7, 7, 0, 0), (.invokevirtual 205, 17, 1, 3), (.i2l, 0, 0, 0), (.invokestatic 264, 89, 2, 0), (.lstore 4, 4, 0, 0)] 2 L S M Q := wp_blk rfl
theorem B_90_2 : ∀ (L : Lo) (S : List Value) (M : Mem) (Q : Option Value → Mem → Prop), WP 90 [] 2 L S M Q = WP 90 [(.iinc 6 1, 6, 1, 0), (.goto (-82), 1, 0, 0)] 0 L S M Q := wp_blk rfl
theorem B_90_3 : ∀ (L : Lo) (S : List Value) (M : Mem) (Q : Option Value → Mem → Prop), WP 90 [] 3 L S M Q = WP 90 [(.lload 4, 4, 0, 0), (.aload_n 0, 0, 0, 0), (.bipush 11, 11, 0, 0), (.iload_n 3, 3, 0, 0), (.iconst 0, 0, 0, 0), (.invokevirtual 296, 61, 3, 10), (.i2l, 0, 0, 0), (.invokestatic 264, 89, 2, 0), (.aload_n 0, 0, 0, 0), (.bipush 11, 11, 0, 0), (.iload_n 3, 3, 0, 0), (.iconst 1, 1, 0, 0), (.invokevirtual 296, 61, 3, 10), (.i2l, 0, 0, 0), (.invokestatic 264, 89, 2, 0), (.lreturn, 0, 0, 0)] 0 L S M Q := wp_blk rfl
-- X10_mixedOrder
theorem E_91 (q0 : Nat) (q1 : Int64) (q2 : Int32) (M : Mem) (Q : Option Value → Mem → Prop) : Ct 91 [.ref q0, .long q1, .int q2] M Q = WP 91 [] 0 [some (.ref q0), some (.long q1), none, some (.int q2), none, none] [] M Q := ct_wp rfl M Q
theorem B_91_0 : ∀ (L : Lo) (S : List Value) (M : Mem) (Q : Option Value → Mem → Prop), WP 91 [] 0 L S M Q = WP 91 [(.lload_n 1, 1, 0, 0), (.aload_n 0, 0, 0, 0), (.iload_n 3, 3, 0, 0), (.iconst 0, 0, 0, 0), (.invokevirtual 299, 57, 2, 10), (.i2l, 0, 0, 0), (.invokestatic 264, 89, 2, 0), (.aload_n 0, 0, 0, 0), (.iload_n 3, 3, 0, 0), (.iconst 1, 1, 0, 0), (.invokevirtual 299, 57, 2, 10), (.i2l, 0, 0, 0), (.invokestatic 264, 89, 2, 0), (.lstore 4, 4, 0, 0), (.lload 4, 4, 0, 0), (.aload_n 0, 0, 0, 0), (.iload_n 3, 3, 0, 0), (.iconst 0, 0, 0, 0), (.invokevirtual 302, 64, 2, 10), (.i2l, 0, 0, 0), (.invokestatic 264, 89, 2, 0), (.aload_n 0, 0, 0, 0), (.iload_n 3, 3, 0, 0), (.iconst 1, 1, 0, 0), (.invokevirtual 302, 64, 2, 10), (.i2l, 0, 0, 0), (.invokestatic 264, 89, 2, 0), (.lstore 4, 4, 0, 0), (.aload_n 0, 0, 0, 0), (.getfield 21, 10, 1, 0), (.iload_n 3, 3, 0, 0), (.invokevirtual 182, 11, 1, 3), (.lload 4, 4, 0, 0), (.aload_n 0, 0, 0, 0), (.getfield 21, 10, 1, 0), (.getfield 170, 3, 5, 0), (.i2l, 0, 0, 0), (.invokestatic 264, 89, 2, 0), (.aload_n 0, 0, 0, 0), (.getfield 21, 10, 1, 0), (.getfield 173, 3, 7, 0), (.i2l, 0, 0, 0), (.invokestatic 264, 89, 2, 0), (.lstore 4, 4, 0, 0), (.aload_n 0, 0, 0, 0), (.getfield 21, 10, 1, 0), (.iconst 5, 5, 0, 0), (.iload_n 3, 3, 0, 0), (.invokevirtual 210, 19, 2, 3), (.lload 4, 4, 0, 0), (.aload_n 0, 0, 0, 0), (.getfield 21, 10, 1, 0), (.getfield 214, 3, 8, 0), (.invokestatic 264, 89, 2, 0), (.aload_n 0, 0, 0, 0), (.getfield 21, 10, 1, 0), (.getfield 218, 3, 9, 0), (.invokestatic 264, 89, 2, 0), (.lreturn, 0, 0, 0)] 0 L S M Q := wp_blk rfl
-- X10_mixedPlans
theorem E_92 (q0 : Nat) (q1 : Int64) (M : Mem) (Q : Option Value → Mem → Prop) : Ct 92 [.ref q0, .long q1] M Q = WP 92 [] 0 [some (.ref q0), some (.long q1), none, none, none, none] [] M Q := ct_wp rfl M Q
theorem B_92_0 : ∀ (L : Lo) (S : List Value) (M : Mem) (Q : Option Value → Mem → Prop), WP 92 [] 0 L S M Q = WP 92 [(.lload_n 1, 1, 0, 0), (.aload_n 0, 0, 0, 0), (.iconst 0, 0, 0, 0), (.invokevirtual 305, 65, 1, 10), (.i2l, 0, 0, 0), (.invokestatic 264, 89, 2, 0), (.aload_n 0, 0, 0, 0), (.iconst 1, 1, 0, 0), (.invokevirtual 305, 65, 1, 10), (.i2l, 0, 0, 0), (.invokestatic 264, 89, 2, 0), (.lstore_n 3, 3, 0, 0), (.lload_n 3, 3, 0, 0), (.aload_n 0, 0, 0, 0), (.invokevirtual 308, 67, 0, 10), (.i2l, 0, 0, 0), (.invokestatic 264, 89, 2, 0), (.aload_n 0, 0, 0, 0), (.invokevirtual 311, 68, 0, 10), (.i2l, 0, 0, 0), (.invokestatic 264, 89, 2, 0), (.lstore_n 3, 3, 0, 0), (.lload_n 3, 3, 0, 0), (.aload_n 0, 0, 0, 0), (.iconst 0, 0, 0, 0), (.invokevirtual 314, 69, 1, 10), (.i2l, 0, 0, 0), (.invokestatic 264, 89, 2, 0), (.aload_n 0, 0, 0, 0), (.iconst 1, 1, 0, 0), (.invokevirtual 314, 69, 1, 10), (.i2l, 0, 0, 0), (.invokestatic 264, 89, 2, 0), (.lstore_n 3, 3, 0, 0), (.aload_n 0, 0, 0, 0), (.getfield 21, 10, 1, 0), (.invokevirtual 167, 9, 0, 3), (.lload_n 3, 3, 0, 0), (.aload_n 0, 0, 0, 0), (.getfield 21, 10, 1, 0), (.getfield 170, 3, 5, 0), (.i2l, 0, 0, 0), (.invokestatic 264, 89, 2, 0), (.aload_n 0, 0, 0, 0), (.getfield 21, 10, 1, 0), (.getfield 173, 3, 7, 0), (.i2l, 0, 0, 0), (.invokestatic 264, 89, 2, 0), (.lstore_n 3, 3, 0, 0), (.aload_n 0, 0, 0, 0), (.getfield 21, 10, 1, 0), (.invokevirtual 176, 10, 0, 3), (.lload_n 3, 3, 0, 0), (.aload_n 0, 0, 0, 0), (.getfield 21, 10, 1, 0), (.getfield 170, 3, 5, 0), (.i2l, 0, 0, 0), (.invokestatic 264, 89, 2, 0), (.aload_n 0, 0, 0, 0), (.getfield 21, 10, 1, 0), (.getfield 179, 3, 6, 0), (.i2l, 0, 0, 0), (.invokestatic 264, 89, 2, 0), (.aload_n 0, 0, 0, 0), (.getfield 21, 10, 1, 0), (.getfield 173, 3, 7, 0), (.i2l, 0, 0, 0), (.invokestatic 264, 89, 2, 0), (.lstore_n 3, 3, 0, 0), (.aload_n 0, 0, 0, 0), (.getfield 21, 10, 1, 0), (.invokevirtual 185, 14, 0, 3), (.lload_n 3, 3, 0, 0), (.aload_n 0, 0, 0, 0), (.getfield 21, 10, 1, 0), (.getfield 173, 3, 7, 0), (.i2l, 0, 0, 0), (.invokestatic 264, 89, 2, 0), (.aload_n 0, 0, 0, 0), (.getfield 21, 10, 1, 0), (.getfield 170, 3, 5, 0), (.i2l, 0, 0, 0), (.invokestatic 264, 89, 2, 0), (.lstore_n 3, 3, 0, 0), (.lload_n 3, 3, 0, 0), (.aload_n 0, 0, 0, 0), (.getfield 21, 10, 1, 0), (.invokevirtual 196, 15, 0, 3), (.i2l, 0, 0, 0), (.invokestatic 264, 89, 2, 0), (.lstore_n 3, 3, 0, 0), (.aload_n 0, 0, 0, 0), (.getfield 21, 10, 1, 0), (.bipush 7, 7, 0, 0), (.bipush 6, 6, 0, 0), (.invokevirtual 221, 22, 2, 3), (.astore 5, 5, 0, 0), (.lload_n 3, 3, 0, 0), (.aload 5, 5, 0, 0), (.getfield 148, 7, 4, 0), (.bipush 23, 23, 0, 0), (.iaload, 0, 0, 0), (.i2l, 0, 0, 0), (.invokestatic 264, 89, 2, 0), (.aload 5, 5, 0, 0), (.invokevirtual 164, 48, 0, 7), (.i2l, 0, 0, 0), (.invokestatic 264, 89, 2, 0), (.lreturn, 0, 0, 0)] 0 L S M Q := wp_blk rfl
-- X10_outside
theorem E_93 (q0 : Int32) (q1 : Int32) (M : Mem) (Q : Option Value → Mem → Prop) : Ct 93 [.int q0, .int q1] M Q = WP 93 [] 0 [some (.int q0), some (.int q1)] [] M Q := ct_wp rfl M Q
theorem B_93_0 : ∀ (L : Lo) (S : List Value) (M : Mem) (Q : Option Value → Mem → Prop), WP 93 [] 0 L S M Q = WP 93 [(.iload_n 0, 0, 0, 0), (.ifCond .lt 8, 1, 0, 0), (.iload_n 0, 0, 0, 0), (.iload_n 1, 1, 0, 0), (.if_icmp .le 7, 2, 0, 0)] 1 L S M Q := wp_blk rfl
theorem B_93_1 : ∀ (L : Lo) (S : List Value) (M : Mem) (Q : Option Value → Mem → Prop), WP 93 [] 1 L S M Q = WP 93 [(.iconst 1, 1, 0, 0), (.goto 4, 3, 0, 0)] 0 L S M Q := wp_blk rfl
theorem B_93_2 : ∀ (L : Lo) (S : List Value) (M : Mem) (Q : Option Value → Mem → Prop), WP 93 [] 2 L S M Q = WP 93 [(.iconst 0, 0, 0, 0)] 3 L S M Q := wp_blk rfl
theorem B_93_3 : ∀ (L : Lo) (S : List Value) (M : Mem) (Q : Option Value → Mem → Prop), WP 93 [] 3 L S M Q = WP 93 [(.ireturn, 1, 0, 0)] 0 L S M Q := wp_blk rfl
-- X10_isNoBlock
theorem E_94 (q0 : Nat) (q1 : Int32) (q2 : Int32) (M : Mem) (Q : Option Value → Mem → Prop) : Ct 94 [.ref q0, .int q1, .int q2] M Q = WP 94 [] 0 [some (.ref q0), some (.int q1), some (.int q2)] [] M Q := ct_wp rfl M Q
theorem B_94_0 : ∀ (L : Lo) (S : List Value) (M : Mem) (Q : Option Value → Mem → Prop), WP 94 [] 0 L S M Q = WP 94 [(.iload_n 1, 1, 0, 0), (.iconst 5, 5, 0, 0), (.invokestatic 49, 93, 2, 0), (.ifCond .ne 31, 1, 0, 0), (.iload_n 2, 2, 0, 0), (.iconst 5, 5, 0, 0), (.invokestatic 49, 93, 2, 0), (.ifCond .ne 23, 1, 0, 0), (.aload_n 0, 0, 0, 0), (.getfield 10, 10, 0, 0), (.getfield 78, 0, 2, 0), (.getfield 82, 6, 0, 0), (.iload_n 1, 1, 0, 0), (.bipush 6, 6, 0, 0), (.imul, 0, 0, 0), (.iload_n 2, 2, 0, 0), (.iadd, 0, 0, 0), (.iaload, 0, 0, 0), (.ifCond .ne 7, 2, 0, 0)] 1 L S M Q := wp_blk rfl
theorem B_94_1 : ∀ (L : Lo) (S : List Value) (M : Mem) (Q : Option Value → Mem → Prop), WP 94 [] 1 L S M Q = WP 94 [(.iconst 1, 1, 0, 0), (.goto 4, 3, 0, 0)] 0 L S M Q := wp_blk rfl
theorem B_94_2 : ∀ (L : Lo) (S : List Value) (M : Mem) (Q : Option Value → Mem → Prop), WP 94 [] 2 L S M Q = WP 94 [(.iconst 0, 0, 0, 0)] 3 L S M Q := wp_blk rfl
theorem B_94_3 : ∀ (L : Lo) (S : List Value) (M : Mem) (Q : Option Value → Mem → Prop), WP 94 [] 3 L S M Q = WP 94 [(.ireturn, 1, 0, 0)] 0 L S M Q := wp_blk rfl
-- X10_found
theorem E_95 (q0 : Nat) (q1 : Int32) (M : Mem) (Q : Option Value → Mem → Prop) : Ct 95 [.ref q0, .int q1] M Q = WP 95 [] 0 [some (.ref q0), some (.int q1)] [] M Q := ct_wp rfl M Q
theorem B_95_0 : ∀ (L : Lo) (S : List Value) (M : Mem) (Q : Option Value → Mem → Prop), WP 95 [] 0 L S M Q = WP 95 [(.aload_n 0, 0, 0, 0), (.iload_n 1, 1, 0, 0), (.putfield 45, 10, 5, 0), (.bipush (-10), 10, 1, 0), (.iload_n 1, 1, 0, 0), (.isub, 0, 0, 0), (.ireturn, 0, 0, 0)] 0 L S M Q := wp_blk rfl
-- X10_noteChangedText
theorem E_96 (q0 : Nat) (q1 : Int32) (M : Mem) (Q : Option Value → Mem → Prop) : Ct 96 [.ref q0, .int q1] M Q = WP 96 [] 0 [some (.ref q0), some (.int q1)] [] M Q := ct_wp rfl M Q
theorem B_96_0 : ∀ (L : Lo) (S : List Value) (M : Mem) (Q : Option Value → Mem → Prop), WP 96 [] 0 L S M Q = WP 96 [(.iload_n 1, 1, 0, 0), (.ifCond .ne 13, 1, 0, 0), (.aload_n 0, 0, 0, 0), (.getfield 10, 10, 0, 0), (.invokevirtual 317, 1, 0, 0), (.goto 10, 2, 0, 0)] 0 L S M Q := wp_blk rfl
theorem B_96_1 : ∀ (L : Lo) (S : List Value) (M : Mem) (Q : Option Value → Mem → Prop), WP 96 [] 1 L S M Q = WP 96 [(.aload_n 0, 0, 0, 0), (.getfield 10, 10, 0, 0), (.invokevirtual 320, 3, 0, 0)] 2 L S M Q := wp_blk rfl
theorem B_96_2 : ∀ (L : Lo) (S : List Value) (M : Mem) (Q : Option Value → Mem → Prop), WP 96 [] 2 L S M Q = WP 96 [(.aload_n 0, 0, 0, 0), (.invokevirtual 117, 97, 0, 10), (.return_, 0, 0, 0)] 0 L S M Q := wp_blk rfl
-- X10_noteChange
theorem E_97 (q0 : Nat) (M : Mem) (Q : Option Value → Mem → Prop) : Ct 97 [.ref q0] M Q = WP 97 [] 0 [some (.ref q0)] [] M Q := ct_wp rfl M Q
theorem B_97_0 : ∀ (L : Lo) (S : List Value) (M : Mem) (Q : Option Value → Mem → Prop), WP 97 [] 0 L S M Q = WP 97 [(.aload_n 0, 0, 0, 0), (.iconst 0, 0, 0, 0), (.putfield 41, 10, 4, 0), (.aload_n 0, 0, 0, 0), (.getfield 21, 10, 1, 0), (.iconst 0, 0, 0, 0), (.putfield 323, 3, 4, 0), (.return_, 0, 0, 0)] 0 L S M Q := wp_blk rfl
-- X10_toldSummer
theorem E_98 (q0 : Nat) (M : Mem) (Q : Option Value → Mem → Prop) : Ct 98 [.ref q0] M Q = WP 98 [] 0 [some (.ref q0)] [] M Q := ct_wp rfl M Q
theorem B_98_0 : ∀ (L : Lo) (S : List Value) (M : Mem) (Q : Option Value → Mem → Prop), WP 98 [] 0 L S M Q = WP 98 [(.aload_n 0, 0, 0, 0), (.getfield 41, 10, 4, 0), (.ifCond .ne 29, 1, 0, 0), (.aload_n 0, 0, 0, 0), (.getfield 30, 10, 2, 0), (.aload_n 0, 0, 0, 0), (.getfield 10, 10, 0, 0), (.sipush 255, 255, 0, 0), (.invokevirtual 326, 41, 2, 7), (.aload_n 0, 0, 0, 0), (.getfield 30, 10, 2, 0), (.invokevirtual 330, 42, 0, 7), (.aload_n 0, 0, 0, 0), (.iconst 1, 1, 0, 0), (.putfield 41, 10, 4, 0)] 1 L S M Q := wp_blk rfl
theorem B_98_1 : ∀ (L : Lo) (S : List Value) (M : Mem) (Q : Option Value → Mem → Prop), WP 98 [] 1 L S M Q = WP 98 [(.aload_n 0, 0, 0, 0), (.getfield 30, 10, 2, 0), (.areturn, 0, 0, 0)] 0 L S M Q := wp_blk rfl
-- X11_in
theorem E_99 (q0 : Int64) (q1 : Int64) (q2 : Int64) (M : Mem) (Q : Option Value → Mem → Prop) : Ct 99 [.long q0, .long q1, .long q2] M Q = WP 99 [] 0 [some (.long q0), none, some (.long q1), none, some (.long q2), none] [] M Q := ct_wp rfl M Q
theorem B_99_0 : ∀ (L : Lo) (S : List Value) (M : Mem) (Q : Option Value → Mem → Prop), WP 99 [] 0 L S M Q = WP 99 [(.lload_n 0, 0, 0, 0), (.lload_n 2, 2, 0, 0), (.lcmp, 0, 0, 0), (.ifCond .lt 14, 1, 0, 0), (.lload_n 0, 0, 0, 0), (.lload 4, 4, 0, 0), (.lcmp, 0, 0, 0), (.ifCond .gt 7, 1, 0, 0), (.iconst 1, 1, 0, 0), (.goto 4, 2, 0, 0)] 0 L S M Q := wp_blk rfl
theorem B_99_1 : ∀ (L : Lo) (S : List Value) (M : Mem) (Q : Option Value → Mem → Prop), WP 99 [] 1 L S M Q = WP 99 [(.iconst 0, 0, 0, 0)] 2 L S M Q := wp_blk rfl
theorem B_99_2 : ∀ (L : Lo) (S : List Value) (M : Mem) (Q : Option Value → Mem → Prop), WP 99 [] 2 L S M Q = WP 99 [(.ireturn, 1, 0, 0)] 0 L S M Q := wp_blk rfl
-- X11_no
theorem E_100 (q0 : Int32) (M : Mem) (Q : Option Value → Mem → Prop) : Ct 100 [.int q0] M Q = WP 100 [] 0 [some (.int q0)] [] M Q := ct_wp rfl M Q
theorem B_100_0 : ∀ (L : Lo) (S : List Value) (M : Mem) (Q : Option Value → Mem → Prop), WP 100 [] 0 L S M Q = WP 100 [(.ldc2_w 74, 9223372036854775808, 1, 0), (.iload_n 0, 0, 0, 0), (.i2l, 0, 0, 0), (.lsub, 0, 0, 0), (.lreturn, 0, 0, 0)] 0 L S M Q := wp_blk rfl
-- X11_isTwo
theorem E_101 (q0 : Int32) (M : Mem) (Q : Option Value → Mem → Prop) : Ct 101 [.int q0] M Q = WP 101 [] 0 [some (.int q0)] [] M Q := ct_wp rfl M Q
theorem B_101_0 : ∀ (L : Lo) (S : List Value) (M : Mem) (Q : Option Value → Mem → Prop), WP 101 [] 0 L S M Q = WP 101 [(.iload_n 0, 0, 0, 0), (.i2l, 0, 0, 0), (.lconst 0, 0, 0, 0), (.lconst 1, 1, 0, 0), (.invokestatic 76, 99, 3, 0), (.ireturn, 1, 0, 0)] 0 L S M Q := wp_blk rfl
-- X11_isIn
theorem E_102 (q0 : Int32) (q1 : Int32) (M : Mem) (Q : Option Value → Mem → Prop) : Ct 102 [.int q0, .int q1] M Q = WP 102 [] 0 [some (.int q0), some (.int q1)] [] M Q := ct_wp rfl M Q
theorem B_102_0 : ∀ (L : Lo) (S : List Value) (M : Mem) (Q : Option Value → Mem → Prop), WP 102 [] 0 L S M Q = WP 102 [(.iload_n 0, 0, 0, 0), (.iload_n 1, 1, 0, 0), (.ishr, 0, 0, 0), (.iconst 1, 1, 0, 0), (.iand, 0, 0, 0), (.iconst 1, 1, 0, 0), (.if_icmp .ne 7, 1, 0, 0), (.iconst 1, 1, 0, 0), (.goto 4, 2, 0, 0)] 0 L S M Q := wp_blk rfl
theorem B_102_1 : ∀ (L : Lo) (S : List Value) (M : Mem) (Q : Option Value → Mem → Prop), WP 102 [] 1 L S M Q = WP 102 [(.iconst 0, 0, 0, 0)] 2 L S M Q := wp_blk rfl
theorem B_102_2 : ∀ (L : Lo) (S : List Value) (M : Mem) (Q : Option Value → Mem → Prop), WP 102 [] 2 L S M Q = WP 102 [(.ireturn, 1, 0, 0)] 0 L S M Q := wp_blk rfl
-- X11_lesser
theorem E_103 (q0 : Int32) (q1 : Int32) (M : Mem) (Q : Option Value → Mem → Prop) : Ct 103 [.int q0, .int q1] M Q = WP 103 [] 0 [some (.int q0), some (.int q1)] [] M Q := ct_wp rfl M Q
theorem B_103_0 : ∀ (L : Lo) (S : List Value) (M : Mem) (Q : Option Value → Mem → Prop), WP 103 [] 0 L S M Q = WP 103 [(.iload_n 0, 0, 0, 0), (.iload_n 1, 1, 0, 0), (.if_icmp .ge 7, 1, 0, 0), (.iload_n 0, 0, 0, 0), (.goto 4, 2, 0, 0)] 0 L S M Q := wp_blk rfl
theorem B_103_1 : ∀ (L : Lo) (S : List Value) (M : Mem) (Q : Option Value → Mem → Prop), WP 103 [] 1 L S M Q = WP 103 [(.iload_n 1, 1, 0, 0)] 2 L S M Q := wp_blk rfl
theorem B_103_2 : ∀ (L : Lo) (S : List Value) (M : Mem) (Q : Option Value → Mem → Prop), WP 103 [] 2 L S M Q = WP 103 [(.ireturn, 0, 0, 0)] 0 L S M Q := wp_blk rfl
-- X11_greater
theorem E_104 (q0 : Int32) (q1 : Int32) (M : Mem) (Q : Option Value → Mem → Prop) : Ct 104 [.int q0, .int q1] M Q = WP 104 [] 0 [some (.int q0), some (.int q1)] [] M Q := ct_wp rfl M Q
theorem B_104_0 : ∀ (L : Lo) (S : List Value) (M : Mem) (Q : Option Value → Mem → Prop), WP 104 [] 0 L S M Q = WP 104 [(.iload_n 0, 0, 0, 0), (.iload_n 1, 1, 0, 0), (.if_icmp .le 7, 1, 0, 0), (.iload_n 0, 0, 0, 0), (.goto 4, 2, 0, 0)] 0 L S M Q := wp_blk rfl
theorem B_104_1 : ∀ (L : Lo) (S : List Value) (M : Mem) (Q : Option Value → Mem → Prop), WP 104 [] 1 L S M Q = WP 104 [(.iload_n 1, 1, 0, 0)] 2 L S M Q := wp_blk rfl
theorem B_104_2 : ∀ (L : Lo) (S : List Value) (M : Mem) (Q : Option Value → Mem → Prop), WP 104 [] 2 L S M Q = WP 104 [(.ireturn, 0, 0, 0)] 0 L S M Q := wp_blk rfl
-- X11_part
theorem E_105 (q0 : Int64) (q1 : Int64) (q2 : Int32) (M : Mem) (Q : Option Value → Mem → Prop) : Ct 105 [.long q0, .long q1, .int q2] M Q = WP 105 [] 0 [some (.long q0), none, some (.long q1), none, some (.int q2), none, none, none, none, none, none] [] M Q := ct_wp rfl M Q
theorem B_105_0 : ∀ (L : Lo) (S : List Value) (M : Mem) (Q : Option Value → Mem → Prop), WP 105 [] 0 L S M Q = WP 105 [(.lload_n 0, 0, 0, 0), (.lstore 5, 5, 0, 0), (.lload_n 2, 2, 0, 0), (.lstore 7, 7, 0, 0)] 1 L S M Q := wp_blk rfl
theorem B_105_1 : ∀ (L : Lo) (S : List Value) (M : Mem) (Q : Option Value → Mem → Prop), WP 105 [] 1 L S M Q = WP 105 [(.lload 7, 7, 0, 0), (.lconst 0, 0, 0, 0), (.lcmp, 0, 0, 0), (.ifCond .eq 21, 2, 0, 0), (.lload 5, 5, 0, 0), (.lload 7, 7, 0, 0), (.lrem, 0, 0, 0), (.lstore 9, 9, 0, 0), (.lload 7, 7, 0, 0), (.lstore 5, 5, 0, 0), (.lload 9, 9, 0, 0), (.lstore 7, 7, 0, 0), (.goto (-22), 1, 0, 0)] 0 L S M Q := wp_blk rfl
theorem B_105_2 : ∀ (L : Lo) (S : List Value) (M : Mem) (Q : Option Value → Mem → Prop), WP 105 [] 2 L S M Q = WP 105 [(.iload 4, 4, 0, 0), (.ifCond .ne 7, 3, 0, 0), (.lload_n 0, 0, 0, 0), (.goto 4, 4, 0, 0)] 0 L S M Q := wp_blk rfl
theorem B_105_3 : ∀ (L : Lo) (S : List Value) (M : Mem) (Q : Option Value → Mem → Prop), WP 105 [] 3 L S M Q = WP 105 [(.lload_n 2, 2, 0, 0)] 4 L S M Q := wp_blk rfl
theorem B_105_4 : ∀ (L : Lo) (S : List Value) (M : Mem) (Q : Option Value → Mem → Prop), WP 105 [] 4 L S M Q = WP 105 [(.lload 5, 5, 0, 0), (.ldiv, 0, 0, 0), (.lreturn, 0, 0, 0)] 0 L S M Q := wp_blk rfl
-- X11_finds
theorem E_106 (q0 : Nat) (q1 : Int32) (M : Mem) (Q : Option Value → Mem → Prop) : Ct 106 [.ref q0, .int q1] M Q = WP 106 [] 0 [some (.ref q0), some (.int q1)] [] M Q := ct_wp rfl M Q
theorem B_106_0 : ∀ (L : Lo) (S : List Value) (M : Mem) (Q : Option Value → Mem → Prop), WP 106 [] 0 L S M Q = WP 106 [(.aload_n 0, 0, 0, 0), (.iload_n 1, 1, 0, 0), (.putfield 80, 11, 4, 0), (.bipush (-10), 10, 1, 0), (.iload_n 1, 1, 0, 0), (.isub, 0, 0, 0), (.ireturn, 0, 0, 0)] 0 L S M Q := wp_blk rfl
-- X11_isSheet
theorem E_107 (q0 : Int32) (M : Mem) (Q : Option Value → Mem → Prop) : Ct 107 [.int q0] M Q = WP 107 [] 0 [some (.int q0)] [] M Q := ct_wp rfl M Q
theorem B_107_0 : ∀ (L : Lo) (S : List Value) (M : Mem) (Q : Option Value → Mem → Prop), WP 107 [] 0 L S M Q = WP 107 [(.iload_n 0, 0, 0, 0), (.i2l, 0, 0, 0), (.lconst 0, 0, 0, 0), (.ldc2_w 83, 3, 0, 0), (.invokestatic 76, 99, 3, 0), (.ireturn, 1, 0, 0)] 0 L S M Q := wp_blk rfl
-- X11_sheet
theorem E_108 (q0 : Nat) (q1 : Int32) (q2 : Int32) (q3 : Int32) (M : Mem) (Q : Option Value → Mem → Prop) : Ct 108 [.ref q0, .int q1, .int q2, .int q3] M Q = WP 108 [] 0 [some (.ref q0), some (.int q1), some (.int q2), some (.int q3), none] [] M Q := ct_wp rfl M Q
theorem B_108_0 : ∀ (L : Lo) (S : List Value) (M : Mem) (Q : Option Value → Mem → Prop), WP 108 [] 0 L S M Q = WP 108 [(.iload_n 1, 1, 0, 0), (.invokestatic 85, 107, 1, 0), (.ifCond .eq 21, 1, 0, 0), (.iload_n 2, 2, 0, 0), (.i2l, 0, 0, 0), (.lconst 0, 0, 0, 0), (.ldc2_w 89, 2, 0, 0), (.invokestatic 76, 99, 3, 0), (.ifCond .eq 9, 1, 0, 0), (.iload_n 3, 3, 0, 0), (.bipush 60, 60, 0, 0), (.if_icmp .le 6, 2, 0, 0)] 1 L S M Q := wp_blk rfl
theorem B_108_1 : ∀ (L : Lo) (S : List Value) (M : Mem) (Q : Option Value → Mem → Prop), WP 108 [] 1 L S M Q = WP 108 [(.bipush (-2), 2, 1, 0), (.ireturn, 0, 0, 0)] 0 L S M Q := wp_blk rfl
theorem B_108_2 : ∀ (L : Lo) (S : List Value) (M : Mem) (Q : Option Value → Mem → Prop), WP 108 [] 2 L S M Q = WP 108 [(.iload_n 3, 3, 0, 0), (.ifCond .ge 9, 3, 0, 0), (.aload_n 0, 0, 0, 0), (.iconst 5, 5, 0, 0), (.invokevirtual 91, 106, 1, 11), (.ireturn, 0, 0, 0)] 0 L S M Q := wp_blk rfl
theorem B_108_3 : ∀ (L : Lo) (S : List Value) (M : Mem) (Q : Option Value → Mem → Prop), WP 108 [] 3 L S M Q = WP 108 [(.aload_n 0, 0, 0, 0), (.getfield 7, 11, 0, 0), (.iload_n 1, 1, 0, 0), (.iload_n 2, 2, 0, 0), (.iastore, 0, 0, 0), (.aload_n 0, 0, 0, 0), (.getfield 13, 11, 1, 0), (.iload_n 1, 1, 0, 0), (.iload_n 3, 3, 0, 0), (.iastore, 0, 0, 0), (.iconst 0, 0, 0, 0), (.istore 4, 4, 0, 0)] 4 L S M Q := wp_blk rfl
theorem B_108_4 : ∀ (L : Lo) (S : List Value) (M : Mem) (Q : Option Value → Mem → Prop), WP 108 [] 4 L S M Q = WP 108 [(.iload 4, 4, 0, 0), (.iload_n 3, 3, 0, 0), (.if_icmp .ge 22, 5, 0, 0), (.aload_n 0, 0, 0, 0), (.getfield 16, 11, 2, 0), (.bipush 60, 60, 0, 0), (.iload_n 1, 1, 0, 0), (.imul, 0, 0, 0), (.iload 4, 4, 0, 0), (.iadd, 0, 0, 0), (.iconst 0, 0, 0, 0), (.iastore, 0, 0, 0), (.iinc 4 1, 4, 1, 0), (.goto (-22), 4, 0, 0)] 0 L S M Q := wp_blk rfl
theorem B_108_5 : ∀ (L : Lo) (S : List Value) (M : Mem) (Q : Option Value → Mem → Prop), WP 108 [] 5 L S M Q = WP 108 [(.iload_n 3, 3, 0, 0), (.ireturn, 0, 0, 0)] 0 L S M Q := wp_blk rfl
-- X11_lose
theorem E_109 (q0 : Nat) (q1 : Int32) (M : Mem) (Q : Option Value → Mem → Prop) : Ct 109 [.ref q0, .int q1] M Q = WP 109 [] 0 [some (.ref q0), some (.int q1)] [] M Q := ct_wp rfl M Q
theorem B_109_0 : ∀ (L : Lo) (S : List Value) (M : Mem) (Q : Option Value → Mem → Prop), WP 109 [] 0 L S M Q = WP 109 [(.iload_n 1, 1, 0, 0), (.invokestatic 85, 107, 1, 0), (.ifCond .ne 6, 1, 0, 0), (.bipush (-2), 2, 1, 0), (.ireturn, 0, 0, 0)] 0 L S M Q := wp_blk rfl
theorem B_109_1 : ∀ (L : Lo) (S : List Value) (M : Mem) (Q : Option Value → Mem → Prop), WP 109 [] 1 L S M Q = WP 109 [(.aload_n 0, 0, 0, 0), (.getfield 7, 11, 0, 0), (.iload_n 1, 1, 0, 0), (.iaload, 0, 0, 0), (.ifCond .ge 9, 2, 0, 0), (.aload_n 0, 0, 0, 0), (.iconst 1, 1, 0, 0), (.invokevirtual 91, 106, 1, 11), (.ireturn, 0, 0, 0)] 0 L S M Q := wp_blk rfl
theorem B_109_2 : ∀ (L : Lo) (S : List Value) (M : Mem) (Q : Option Value → Mem → Prop), WP 109 [] 2 L S M Q = WP 109 [(.aload_n 0, 0, 0, 0), (.getfield 7, 11, 0, 0), (.iload_n 1, 1, 0, 0), (.iconst (-1), 1, 1, 0), (.iastore, 0, 0, 0), (.aload_n 0, 0, 0, 0), (.getfield 13, 11, 1, 0), (.iload_n 1, 1, 0, 0), (.iaload, 0, 0, 0), (.ireturn, 0, 0, 0)] 0 L S M Q := wp_blk rfl
-- X11_lacks
theorem E_110 (q0 : Nat) (q1 : Int32) (q2 : Int32) (q3 : Int32) (M : Mem) (Q : Option Value → Mem → Prop) : Ct 110 [.ref q0, .int q1, .int q2, .int q3] M Q = WP 110 [] 0 [some (.ref q0), some (.int q1), some (.int q2), some (.int q3)] [] M Q := ct_wp rfl M Q
theorem B_110_0 : ∀ (L : Lo) (S : List Value) (M : Mem) (Q : Option Value → Mem → Prop), WP 110 [] 0 L S M Q = WP 110 [(.aload_n 0, 0, 0, 0), (.getfield 7, 11, 0, 0), (.iload_n 1, 1, 0, 0), (.iaload, 0, 0, 0), (.ifCond .ge 9, 1, 0, 0), (.aload_n 0, 0, 0, 0), (.iconst 1, 1, 0, 0), (.invokevirtual 91, 106, 1, 11), (.ireturn, 0, 0, 0)] 0 L S M Q := wp_blk rfl
theorem B_110_1 : ∀ (L : Lo) (S : List Value) (M : Mem) (Q : Option Value → Mem → Prop), WP 110 [] 1 L S M Q = WP 110 [(.aload_n 0, 0, 0, 0), (.getfield 7, 11, 0, 0), (.iload_n 1, 1, 0, 0), (.iaload, 0, 0, 0), (.iload_n 2, 2, 0, 0), (.if_icmp .eq 9, 2, 0, 0), (.aload_n 0, 0, 0, 0), (.iconst 3, 3, 0, 0), (.invokevirtual 91, 106, 1, 11), (.ireturn, 0, 0, 0)] 0 L S M Q := wp_blk rfl
theorem B_110_2 : ∀ (L : Lo) (S : List Value) (M : Mem) (Q : Option Value → Mem → Prop), WP 110 [] 2 L S M Q = WP 110 [(.iload_n 3, 3, 0, 0), (.i2l, 0, 0, 0), (.lconst 0, 0, 0, 0), (.aload_n 0, 0, 0, 0), (.getfield 13, 11, 1, 0), (.iload_n 1, 1, 0, 0), (.iaload, 0, 0, 0), (.iconst 1, 1, 0, 0), (.isub, 0, 0, 0), (.i2l, 0, 0, 0), (.invokestatic 76, 99, 3, 0), (.ifCond .eq 7, 3, 0, 0), (.iconst 0, 0, 0, 0), (.goto 8, 4, 0, 0)] 0 L S M Q := wp_blk rfl
theorem B_110_3 : ∀ (L : Lo) (S : List Value) (M : Mem) (Q : Option Value → Mem → Prop), WP 110 [] 3 L S M Q = WP 110 [(.aload_n 0, 0, 0, 0), (.iconst 2, 2, 0, 0), (.invokevirtual 91, 106, 1, 11)] 4 L S M Q := wp_blk rfl
theorem B_110_4 : ∀ (L : Lo) (S : List Value) (M : Mem) (Q : Option Value → Mem → Prop), WP 110 [] 4 L S M Q = WP 110 [(.ireturn, 0, 0, 0)] 0 L S M Q := wp_blk rfl
-- X11_cut
theorem E_111 (q0 : Int32) (q1 : Int32) (M : Mem) (Q : Option Value → Mem → Prop) : Ct 111 [.int q0, .int q1] M Q = WP 111 [] 0 [some (.int q0), some (.int q1)] [] M Q := ct_wp rfl M Q
theorem B_111_0 : ∀ (L : Lo) (S : List Value) (M : Mem) (Q : Option Value → Mem → Prop), WP 111 [] 0 L S M Q = WP 111 [(.iload_n 0, 0, 0, 0), (.ifCond .ne 8, 1, 0, 0), (.iload_n 1, 1, 0, 0), (.i2b, 0, 0, 0), (.goto 14, 3, 0, 0)] 0 L S M Q := wp_blk rfl
theorem B_111_1 : ∀ (L : Lo) (S : List Value) (M : Mem) (Q : Option Value → Mem → Prop), WP 111 [] 1 L S M Q = WP 111 [(.iload_n 0, 0, 0, 0), (.iconst 1, 1, 0, 0), (.if_icmp .ne 8, 2, 0, 0), (.iload_n 1, 1, 0, 0), (.i2s, 0, 0, 0), (.goto 4, 3, 0, 0)] 0 L S M Q := wp_blk rfl
theorem B_111_2 : ∀ (L : Lo) (S : List Value) (M : Mem) (Q : Option Value → Mem → Prop), WP 111 [] 2 L S M Q = WP 111 [(.iload_n 1, 1, 0, 0)] 3 L S M Q := wp_blk rfl
theorem B_111_3 : ∀ (L : Lo) (S : List Value) (M : Mem) (Q : Option Value → Mem → Prop), WP 111 [] 3 L S M Q = WP 111 [(.ireturn, 0, 0, 0)] 0 L S M Q := wp_blk rfl
-- X11_lay
theorem E_112 (q0 : Nat) (q1 : Int32) (q2 : Int32) (q3 : Int32) (q4 : Int32) (M : Mem) (Q : Option Value → Mem → Prop) : Ct 112 [.ref q0, .int q1, .int q2, .int q3, .int q4] M Q = WP 112 [] 0 [some (.ref q0), some (.int q1), some (.int q2), some (.int q3), some (.int q4), none] [] M Q := ct_wp rfl M Q
theorem B_112_0 : ∀ (L : Lo) (S : List Value) (M : Mem) (Q : Option Value → Mem → Prop), WP 112 [] 0 L S M Q = WP 112 [(.iload_n 1, 1, 0, 0), (.invokestatic 85, 107, 1, 0), (.ifCond .eq 15, 1, 0, 0), (.iload_n 2, 2, 0, 0), (.i2l, 0, 0, 0), (.lconst 0, 0, 0, 0), (.ldc2_w 89, 2, 0, 0), (.invokestatic 76, 99, 3, 0), (.ifCond .ne 6, 2, 0, 0)] 1 L S M Q := wp_blk rfl
theorem B_112_1 : ∀ (L : Lo) (S : List Value) (M : Mem) (Q : Option Value → Mem → Prop), WP 112 [] 1 L S M Q = WP 112 [(.bipush (-2), 2, 1, 0), (.ireturn, 0, 0, 0)] 0 L S M Q := wp_blk rfl
theorem B_112_2 : ∀ (L : Lo) (S : List Value) (M : Mem) (Q : Option Value → Mem → Prop), WP 112 [] 2 L S M Q = WP 112 [(.aload_n 0, 0, 0, 0), (.iload_n 1, 1, 0, 0), (.iload_n 2, 2, 0, 0), (.iload_n 3, 3, 0, 0), (.invokevirtual 95, 110, 3, 11), (.istore 5, 5, 0, 0), (.iload 5, 5, 0, 0), (.ifCond .eq 6, 3, 0, 0), (.iload 5, 5, 0, 0), (.ireturn, 0, 0, 0)] 0 L S M Q := wp_blk rfl
theorem B_112_3 : ∀ (L : Lo) (S : List Value) (M : Mem) (Q : Option Value → Mem → Prop), WP 112 [] 3 L S M Q = WP 112 [(.aload_n 0, 0, 0, 0), (.getfield 16, 11, 2, 0), (.bipush 60, 60, 0, 0), (.iload_n 1, 1, 0, 0), (.imul, 0, 0, 0), (.iload_n 3, 3, 0, 0), (.iadd, 0, 0, 0), (.iload_n 2, 2, 0, 0), (.iload 4, 4, 0, 0), (.invokestatic 99, 111, 2, 0), (.iastore, 0, 0, 0), (.iconst 1, 1, 0, 0), (.ireturn, 0, 0, 0)] 0 L S M Q := wp_blk rfl
-- X11_get
theorem E_113 (q0 : Nat) (q1 : Int32) (q2 : Int32) (q3 : Int32) (M : Mem) (Q : Option Value → Mem → Prop) : Ct 113 [.ref q0, .int q1, .int q2, .int q3] M Q = WP 113 [] 0 [some (.ref q0), some (.int q1), some (.int q2), some (.int q3)] [] M Q := ct_wp rfl M Q
theorem B_113_0 : ∀ (L : Lo) (S : List Value) (M : Mem) (Q : Option Value → Mem → Prop), WP 113 [] 0 L S M Q = WP 113 [(.iload_n 1, 1, 0, 0), (.invokestatic 85, 107, 1, 0), (.ifCond .eq 25, 1, 0, 0), (.iload_n 2, 2, 0, 0), (.i2l, 0, 0, 0), (.lconst 0, 0, 0, 0), (.ldc2_w 89, 2, 0, 0), (.invokestatic 76, 99, 3, 0), (.ifCond .eq 13, 1, 0, 0), (.aload_n 0, 0, 0, 0), (.iload_n 1, 1, 0, 0), (.iload_n 2, 2, 0, 0), (.iload_n 3, 3, 0, 0), (.invokevirtual 95, 110, 3, 11), (.ifCond .eq 6, 2, 0, 0)] 1 L S M Q := wp_blk rfl
theorem B_113_1 : ∀ (L : Lo) (S : List Value) (M : Mem) (Q : Option Value → Mem → Prop), WP 113 [] 1 L S M Q = WP 113 [(.ldc 103, 2147483648, 1, 0), (.ireturn, 0, 0, 0)] 0 L S M Q := wp_blk rfl
theorem B_113_2 : ∀ (L : Lo) (S : List Value) (M : Mem) (Q : Option Value → Mem → Prop), WP 113 [] 2 L S M Q = WP 113 [(.aload_n 0, 0, 0, 0), (.getfield 16, 11, 2, 0), (.bipush 60, 60, 0, 0), (.iload_n 1, 1, 0, 0), (.imul, 0, 0, 0), (.iload_n 3, 3, 0, 0), (.iadd, 0, 0, 0), (.iaload, 0, 0, 0), (.ireturn, 0, 0, 0)] 0 L S M Q := wp_blk rfl
-- X11_copy
theorem E_114 (q0 : Nat) (q1 : Int32) (q2 : Int32) (q3 : Int32) (q4 : Int32) (q5 : Int32) (M : Mem) (Q : Option Value → Mem → Prop) : Ct 114 [.ref q0, .int q1, .int q2, .int q3, .int q4, .int q5] M Q = WP 114 [] 0 [some (.ref q0), some (.int q1), some (.int q2), some (.int q3), some (.int q4), some (.int q5), none] [] M Q := ct_wp rfl M Q
theorem B_114_0 : ∀ (L : Lo) (S : List Value) (M : Mem) (Q : Option Value → Mem → Prop), WP 114 [] 0 L S M Q = WP 114 [(.iload_n 1, 1, 0, 0), (.invokestatic 85, 107, 1, 0), (.ifCond .eq 10, 1, 0, 0), (.iload_n 3, 3, 0, 0), (.invokestatic 85, 107, 1, 0), (.ifCond .ne 6, 2, 0, 0)] 1 L S M Q := wp_blk rfl
theorem B_114_1 : ∀ (L : Lo) (S : List Value) (M : Mem) (Q : Option Value → Mem → Prop), WP 114 [] 1 L S M Q = WP 114 [(.bipush (-2), 2, 1, 0), (.ireturn, 0, 0, 0)] 0 L S M Q := wp_blk rfl
theorem B_114_2 : ∀ (L : Lo) (S : List Value) (M : Mem) (Q : Option Value → Mem → Prop), WP 114 [] 2 L S M Q = WP 114 [(.aload_n 0, 0, 0, 0), (.getfield 7, 11, 0, 0), (.iload_n 1, 1, 0, 0), (.iaload, 0, 0, 0), (.ifCond .lt 12, 3, 0, 0), (.aload_n 0, 0, 0, 0), (.getfield 7, 11, 0, 0), (.iload_n 3, 3, 0, 0), (.iaload, 0, 0, 0), (.ifCond .ge 9, 4, 0, 0)] 3 L S M Q := wp_blk rfl
theorem B_114_3 : ∀ (L : Lo) (S : List Value) (M : Mem) (Q : Option Value → Mem → Prop), WP 114 [] 3 L S M Q = WP 114 [(.aload_n 0, 0, 0, 0), (.iconst 1, 1, 0, 0), (.invokevirtual 91, 106, 1, 11), (.ireturn, 0, 0, 0)] 0 L S M Q := wp_blk rfl
theorem B_114_4 : ∀ (L : Lo) (S : List Value) (M : Mem) (Q : Option Value → Mem → Prop), WP 114 [] 4 L S M Q = WP 114 [(.aload_n 0, 0, 0, 0), (.getfield 7, 11, 0, 0), (.iload_n 1, 1, 0, 0), (.iaload, 0, 0, 0), (.aload_n 0, 0, 0, 0), (.getfield 7, 11, 0, 0), (.iload_n 3, 3, 0, 0), (.iaload, 0, 0, 0), (.if_icmp .eq 9, 5, 0, 0), (.aload_n 0, 0, 0, 0), (.iconst 4, 4, 0, 0), (.invokevirtual 91, 106, 1, 11), (.ireturn, 0, 0, 0)] 0 L S M Q := wp_blk rfl
theorem B_114_5 : ∀ (L : Lo) (S : List Value) (M : Mem) (Q : Option Value → Mem → Prop), WP 114 [] 5 L S M Q = WP 114 [(.iload_n 2, 2, 0, 0), (.ifCond .lt 48, 6, 0, 0), (.iload 4, 4, 0, 0), (.ifCond .lt 43, 6, 0, 0), (.iload 5, 5, 0, 0), (.ifCond .lt 38, 6, 0, 0), (.iload_n 2, 2, 0, 0), (.i2l, 0, 0, 0), (.iload 5, 5, 0, 0), (.i2l, 0, 0, 0), (.ladd, 0, 0, 0), (.aload_n 0, 0, 0, 0), (.getfield 13, 11, 1, 0), (.iload_n 1, 1, 0, 0), (.iaload, 0, 0, 0), (.i2l, 0, 0, 0), (.lcmp, 0, 0, 0), (.ifCond .gt 21, 6, 0, 0), (.iload 4, 4, 0, 0), (.i2l, 0, 0, 0), (.iload 5, 5, 0, 0), (.i2l, 0, 0, 0), (.ladd, 0, 0, 0), (.aload_n 0, 0, 0, 0), (.getfield 13, 11, 1, 0), (.iload_n 3, 3, 0, 0), (.iaload, 0, 0, 0), (.i2l, 0, 0, 0), (.lcmp, 0, 0, 0), (.ifCond .le 9, 7, 0, 0)] 6 L S M Q := wp_blk rfl
theorem B_114_6 : ∀ (L : Lo) (S : List Value) (M : Mem) (Q : Option Value → Mem → Prop), WP 114 [] 6 L S M Q = WP 114 [(.aload_n 0, 0, 0, 0), (.iconst 2, 2, 0, 0), (.invokevirtual 91, 106, 1, 11), (.ireturn, 0, 0, 0)] 0 L S M Q := wp_blk rfl
theorem B_114_7 : ∀ (L : Lo) (S : List Value) (M : Mem) (Q : Option Value → Mem → Prop), WP 114 [] 7 L S M Q = WP 114 [(.iconst 0, 0, 0, 0), (.istore 6, 6, 0, 0)] 8 L S M Q := wp_blk rfl
theorem B_114_8 : ∀ (L : Lo) (S : List Value) (M : Mem) (Q : Option Value → Mem → Prop), WP 114 [] 8 L S M Q = WP 114 [(.iload 6, 6, 0, 0), (.iload 5, 5, 0, 0), (.if_icmp .ge 30, 9, 0, 0), (.aload_n 0, 0, 0, 0), (.getfield 19, 11, 3, 0), (.iload 6, 6, 0, 0), (.aload_n 0, 0, 0, 0), (.getfield 16, 11, 2, 0), (.bipush 60, 60, 0, 0), (.iload_n 1, 1, 0, 0), (.imul, 0, 0, 0), (.iload_n 2, 2, 0, 0), (.iadd, 0, 0, 0), (.iload 6, 6, 0, 0), (.iadd, 0, 0, 0), (.iaload, 0, 0, 0), (.iastore, 0, 0, 0), (.iinc 6 1, 6, 1, 0), (.goto (-31), 8, 0, 0)] 0 L S M Q := wp_blk rfl
theorem B_114_9 : ∀ (L : Lo) (S : List Value) (M : Mem) (Q : Option Value → Mem → Prop), WP 114 [] 9 L S M Q = WP 114 [(.iconst 0, 0, 0, 0), (.istore 6, 6, 0, 0)] 10 L S M Q := wp_blk rfl
theorem B_114_10 : ∀ (L : Lo) (S : List Value) (M : Mem) (Q : Option Value → Mem → Prop), WP 114 [] 10 L S M Q = WP 114 [(.iload 6, 6, 0, 0), (.iload 5, 5, 0, 0), (.if_icmp .ge 31, 11, 0, 0), (.aload_n 0, 0, 0, 0), (.getfield 16, 11, 2, 0), (.bipush 60, 60, 0, 0), (.iload_n 3, 3, 0, 0), (.imul, 0, 0, 0), (.iload 4, 4, 0, 0), (.iadd, 0, 0, 0), (.iload 6, 6, 0, 0), (.iadd, 0, 0, 0), (.aload_n 0, 0, 0, 0), (.getfield 19, 11, 3, 0), (.iload 6, 6, 0, 0), (.iaload, 0, 0, 0), (.iastore, 0, 0, 0), (.iinc 6 1, 6, 1, 0), (.goto (-32), 10, 0, 0)] 0 L S M Q := wp_blk rfl
theorem B_114_11 : ∀ (L : Lo) (S : List Value) (M : Mem) (Q : Option Value → Mem → Prop), WP 114 [] 11 L S M Q = WP 114 [(.iconst 1, 1, 0, 0), (.ireturn, 0, 0, 0)] 0 L S M Q := wp_blk rfl
-- X11_type
theorem E_115 (q0 : Nat) (q1 : Int32) (q2 : Int32) (M : Mem) (Q : Option Value → Mem → Prop) : Ct 115 [.ref q0, .int q1, .int q2] M Q = WP 115 [] 0 [some (.ref q0), some (.int q1), some (.int q2)] [] M Q := ct_wp rfl M Q
theorem B_115_0 : ∀ (L : Lo) (S : List Value) (M : Mem) (Q : Option Value → Mem → Prop), WP 115 [] 0 L S M Q = WP 115 [(.iload_n 1, 1, 0, 0), (.invokestatic 104, 101, 1, 0), (.ifCond .eq 15, 1, 0, 0), (.iload_n 2, 2, 0, 0), (.i2l, 0, 0, 0), (.lconst 0, 0, 0, 0), (.ldc2_w 107, 255, 0, 0), (.invokestatic 76, 99, 3, 0), (.ifCond .ne 6, 2, 0, 0)] 1 L S M Q := wp_blk rfl
theorem B_115_1 : ∀ (L : Lo) (S : List Value) (M : Mem) (Q : Option Value → Mem → Prop), WP 115 [] 1 L S M Q = WP 115 [(.bipush (-2), 2, 1, 0), (.ireturn, 0, 0, 0)] 0 L S M Q := wp_blk rfl
theorem B_115_2 : ∀ (L : Lo) (S : List Value) (M : Mem) (Q : Option Value → Mem → Prop), WP 115 [] 2 L S M Q = WP 115 [(.aload_n 0, 0, 0, 0), (.getfield 25, 11, 6, 0), (.iload_n 1, 1, 0, 0), (.iaload, 0, 0, 0), (.iload_n 1, 1, 0, 0), (.ifCond .ne 8, 3, 0, 0), (.bipush 41, 41, 0, 0), (.goto 5, 4, 0, 0)] 0 L S M Q := wp_blk rfl
theorem B_115_3 : ∀ (L : Lo) (S : List Value) (M : Mem) (Q : Option Value → Mem → Prop), WP 115 [] 3 L S M Q = WP 115 [(.bipush 35, 35, 0, 0)] 4 L S M Q := wp_blk rfl
theorem B_115_4 : ∀ (L : Lo) (S : List Value) (M : Mem) (Q : Option Value → Mem → Prop), WP 115 [] 4 L S M Q = WP 115 [(.if_icmp .ne 6, 5, 0, 0), (.bipush (-4), 4, 1, 0), (.ireturn, 0, 0, 0)] 0 L S M Q := wp_blk rfl
theorem B_115_5 : ∀ (L : Lo) (S : List Value) (M : Mem) (Q : Option Value → Mem → Prop), WP 115 [] 5 L S M Q = WP 115 [(.aload_n 0, 0, 0, 0), (.getfield 22, 11, 5, 0), (.bipush 42, 42, 0, 0), (.iload_n 1, 1, 0, 0), (.imul, 0, 0, 0), (.aload_n 0, 0, 0, 0), (.getfield 25, 11, 6, 0), (.iload_n 1, 1, 0, 0), (.iaload, 0, 0, 0), (.iadd, 0, 0, 0), (.iload_n 2, 2, 0, 0), (.iastore, 0, 0, 0), (.aload_n 0, 0, 0, 0), (.getfield 25, 11, 6, 0), (.iload_n 1, 1, 0, 0), (.dup2, 0, 0, 0), (.iaload, 0, 0, 0), (.iconst 1, 1, 0, 0), (.iadd, 0, 0, 0), (.iastore, 0, 0, 0), (.aload_n 0, 0, 0, 0), (.getfield 25, 11, 6, 0), (.iload_n 1, 1, 0, 0), (.iaload, 0, 0, 0), (.ireturn, 0, 0, 0)] 0 L S M Q := wp_blk rfl
-- X11_wipe
theorem E_116 (q0 : Nat) (q1 : Int32) (M : Mem) (Q : Option Value → Mem → Prop) : Ct 116 [.ref q0, .int q1] M Q = WP 116 [] 0 [some (.ref q0), some (.int q1), none] [] M Q := ct_wp rfl M Q
theorem B_116_0 : ∀ (L : Lo) (S : List Value) (M : Mem) (Q : Option Value → Mem → Prop), WP 116 [] 0 L S M Q = WP 116 [(.iload_n 1, 1, 0, 0), (.invokestatic 104, 101, 1, 0), (.ifCond .ne 6, 1, 0, 0), (.bipush (-2), 2, 1, 0), (.ireturn, 0, 0, 0)] 0 L S M Q := wp_blk rfl
theorem B_116_1 : ∀ (L : Lo) (S : List Value) (M : Mem) (Q : Option Value → Mem → Prop), WP 116 [] 1 L S M Q = WP 116 [(.aload_n 0, 0, 0, 0), (.getfield 25, 11, 6, 0), (.iload_n 1, 1, 0, 0), (.iaload, 0, 0, 0), (.istore_n 2, 2, 0, 0), (.aload_n 0, 0, 0, 0), (.getfield 25, 11, 6, 0), (.iload_n 1, 1, 0, 0), (.iconst 0, 0, 0, 0), (.iastore, 0, 0, 0), (.iload_n 2, 2, 0, 0), (.ireturn, 0, 0, 0)] 0 L S M Q := wp_blk rfl
-- X11_undo
theorem E_117 (q0 : Nat) (q1 : Int32) (M : Mem) (Q : Option Value → Mem → Prop) : Ct 117 [.ref q0, .int q1] M Q = WP 117 [] 0 [some (.ref q0), some (.int q1)] [] M Q := ct_wp rfl M Q
theorem B_117_0 : ∀ (L : Lo) (S : List Value) (M : Mem) (Q : Option Value → Mem → Prop), WP 117 [] 0 L S M Q = WP 117 [(.iload_n 1, 1, 0, 0), (.invokestatic 104, 101, 1, 0), (.ifCond .ne 6, 1, 0, 0), (.bipush (-2), 2, 1, 0), (.ireturn, 0, 0, 0)] 0 L S M Q := wp_blk rfl
theorem B_117_1 : ∀ (L : Lo) (S : List Value) (M : Mem) (Q : Option Value → Mem → Prop), WP 117 [] 1 L S M Q = WP 117 [(.aload_n 0, 0, 0, 0), (.getfield 25, 11, 6, 0), (.iload_n 1, 1, 0, 0), (.iaload, 0, 0, 0), (.ifCond .ne 6, 2, 0, 0), (.bipush (-3), 3, 1, 0), (.ireturn, 0, 0, 0)] 0 L S M Q := wp_blk rfl
theorem B_117_2 : ∀ (L : Lo) (S : List Value) (M : Mem) (Q : Option Value → Mem → Prop), WP 117 [] 2 L S M Q = WP 117 [(.aload_n 0, 0, 0, 0), (.getfield 25, 11, 6, 0), (.iload_n 1, 1, 0, 0), (.dup2, 0, 0, 0), (.iaload, 0, 0, 0), (.iconst 1, 1, 0, 0), (.isub, 0, 0, 0), (.iastore, 0, 0, 0), (.aload_n 0, 0, 0, 0), (.getfield 25, 11, 6, 0), (.iload_n 1, 1, 0, 0), (.iaload, 0, 0, 0), (.ireturn, 0, 0, 0)] 0 L S M Q := wp_blk rfl
-- X11_bares
theorem E_118 (q0 : Nat) (M : Mem) (Q : Option Value → Mem → Prop) : Ct 118 [.ref q0] M Q = WP 118 [] 0 [some (.ref q0), none] [] M Q := ct_wp rfl M Q
theorem B_118_0 : ∀ (L : Lo) (S : List Value) (M : Mem) (Q : Option Value → Mem → Prop), WP 118 [] 0 L S M Q = WP 118 [(.iconst 0, 0, 0, 0), (.istore_n 1, 1, 0, 0)] 1 L S M Q := wp_blk rfl
theorem B_118_1 : ∀ (L : Lo) (S : List Value) (M : Mem) (Q : Option Value → Mem → Prop), WP 118 [] 1 L S M Q = WP 118 [(.iload_n 1, 1, 0, 0), (.bipush 6, 6, 0, 0), (.if_icmp .ge 16, 2, 0, 0), (.aload_n 0, 0, 0, 0), (.getfield 28, 11, 7, 0), (.iload_n 1, 1, 0, 0), (.iconst 0, 0, 0, 0), (.iastore, 0, 0, 0), (.iinc 1 1, 1, 1, 0), (.goto (-16), 1, 0, 0)] 0 L S M Q := wp_blk rfl
theorem B_118_2 : ∀ (L : Lo) (S : List Value) (M : Mem) (Q : Option Value → Mem → Prop), WP 118 [] 2 L S M Q = WP 118 [(.return_, 0, 0, 0)] 0 L S M Q := wp_blk rfl
-- X11_readsBlocks
theorem E_119 (q0 : Nat) (M : Mem) (Q : Option Value → Mem → Prop) : Ct 119 [.ref q0] M Q = WP 119 [] 0 [some (.ref q0), none, none, none, none, none] [] M Q := ct_wp rfl M Q
theorem B_119_0 : ∀ (L : Lo) (S : List Value) (M : Mem) (Q : Option Value → Mem → Prop), WP 119 [] 0 L S M Q = WP 119 [(.aload_n 0, 0, 0, 0), (.invokevirtual 109, 118, 0, 11), (.iconst 0, 0, 0, 0), (.istore_n 1, 1, 0, 0), (.iconst 0, 0, 0, 0), (.istore_n 2, 2, 0, 0)] 1 L S M Q := wp_blk rfl
theorem B_119_1 : ∀ (L : Lo) (S : List Value) (M : Mem) (Q : Option Value → Mem → Prop), WP 119 [] 1 L S M Q = WP 119 [(.iload_n 2, 2, 0, 0), (.aload_n 0, 0, 0, 0), (.getfield 25, 11, 6, 0), (.iconst 0, 0, 0, 0), (.iaload, 0, 0, 0), (.if_icmp .ge 123, 9, 0, 0), (.aload_n 0, 0, 0, 0), (.getfield 22, 11, 5, 0), (.iload_n 2, 2, 0, 0), (.iaload, 0, 0, 0), (.istore_n 3, 3, 0, 0), (.iload_n 3, 3, 0, 0), (.i2l, 0, 0, 0), (.ldc2_w 112, 49, 0, 0), (.ldc2_w 114, 57, 0, 0), (.invokestatic 76, 99, 3, 0), (.istore 4, 4, 0, 0), (.iload 4, 4, 0, 0), (.ifCond .eq 22, 3, 0, 0), (.aload_n 0, 0, 0, 0), (.getfield 28, 11, 7, 0), (.iload_n 1, 1, 0, 0), (.iaload, 0, 0, 0), (.bipush 6, 6, 0, 0), (.if_icmp .ge 7, 2, 0, 0), (.iconst 1, 1, 0, 0), (.goto 23, 5, 0, 0)] 0 L S M Q := wp_blk rfl
theorem B_119_2 : ∀ (L : Lo) (S : List Value) (M : Mem) (Q : Option Value → Mem → Prop), WP 119 [] 2 L S M Q = WP 119 [(.iconst 0, 0, 0, 0), (.goto 19, 5, 0, 0)] 0 L S M Q := wp_blk rfl
theorem B_119_3 : ∀ (L : Lo) (S : List Value) (M : Mem) (Q : Option Value → Mem → Prop), WP 119 [] 3 L S M Q = WP 119 [(.iload_n 3, 3, 0, 0), (.bipush 59, 59, 0, 0), (.if_icmp .ne 12, 4, 0, 0), (.iload_n 1, 1, 0, 0), (.iconst 5, 5, 0, 0), (.if_icmp .ge 7, 4, 0, 0), (.iconst 1, 1, 0, 0), (.goto 4, 5, 0, 0)] 0 L S M Q := wp_blk rfl
theorem B_119_4 : ∀ (L : Lo) (S : List Value) (M : Mem) (Q : Option Value → Mem → Prop), WP 119 [] 4 L S M Q = WP 119 [(.iconst 0, 0, 0, 0)] 5 L S M Q := wp_blk rfl
theorem B_119_5 : ∀ (L : Lo) (S : List Value) (M : Mem) (Q : Option Value → Mem → Prop), WP 119 [] 5 L S M Q = WP 119 [(.istore 5, 5, 0, 0), (.iload 5, 5, 0, 0), (.ifCond .ne 9, 6, 0, 0), (.aload_n 0, 0, 0, 0), (.invokevirtual 109, 118, 0, 11), (.iload_n 2, 2, 0, 0), (.ireturn, 0, 0, 0)] 0 L S M Q := wp_blk rfl
theorem B_119_6 : ∀ (L : Lo) (S : List Value) (M : Mem) (Q : Option Value → Mem → Prop), WP 119 [] 6 L S M Q = WP 119 [(.iload 4, 4, 0, 0), (.ifCond .eq 36, 7, 0, 0), (.aload_n 0, 0, 0, 0), (.getfield 31, 11, 8, 0), (.bipush 6, 6, 0, 0), (.iload_n 1, 1, 0, 0), (.imul, 0, 0, 0), (.aload_n 0, 0, 0, 0), (.getfield 28, 11, 7, 0), (.iload_n 1, 1, 0, 0), (.iaload, 0, 0, 0), (.iadd, 0, 0, 0), (.iload_n 3, 3, 0, 0), (.bipush 48, 48, 0, 0), (.isub, 0, 0, 0), (.iastore, 0, 0, 0), (.aload_n 0, 0, 0, 0), (.getfield 28, 11, 7, 0), (.iload_n 1, 1, 0, 0), (.dup2, 0, 0, 0), (.iaload, 0, 0, 0), (.iconst 1, 1, 0, 0), (.iadd, 0, 0, 0), (.iastore, 0, 0, 0), (.goto 6, 8, 0, 0)] 0 L S M Q := wp_blk rfl
theorem B_119_7 : ∀ (L : Lo) (S : List Value) (M : Mem) (Q : Option Value → Mem → Prop), WP 119 [] 7 L S M Q = WP 119 [(.iinc 1 1, 1, 1, 0)] 8 L S M Q := wp_blk rfl
theorem B_119_8 : ∀ (L : Lo) (S : List Value) (M : Mem) (Q : Option Value → Mem → Prop), WP 119 [] 8 L S M Q = WP 119 [(.iinc 2 1, 2, 1, 0), (.goto (-127), 1, 0, 0)] 0 L S M Q := wp_blk rfl
theorem B_119_9 : ∀ (L : Lo) (S : List Value) (M : Mem) (Q : Option Value → Mem → Prop), WP 119 [] 9 L S M Q = WP 119 [(.iconst (-1), 1, 1, 0), (.ireturn, 0, 0, 0)] 0 L S M Q := wp_blk rfl
-- X11_orderOf
theorem E_120 (q0 : Int32) (q1 : Int32) (M : Mem) (Q : Option Value → Mem → Prop) : Ct 120 [.int q0, .int q1] M Q = WP 120 [] 0 [some (.int q0), some (.int q1)] [] M Q := ct_wp rfl M Q
theorem B_120_0 : ∀ (L : Lo) (S : List Value) (M : Mem) (Q : Option Value → Mem → Prop), WP 120 [] 0 L S M Q = WP 120 [(.iload_n 0, 0, 0, 0), (.ifCond .ne 27, 3, 0, 0), (.iload_n 1, 1, 0, 0), (.i2l, 0, 0, 0), (.ldc2_w 116, 97, 0, 0), (.ldc2_w 118, 120, 0, 0), (.invokestatic 76, 99, 3, 0), (.ifCond .eq 10, 1, 0, 0), (.iload_n 1, 1, 0, 0), (.bipush 97, 97, 0, 0), (.isub, 0, 0, 0), (.goto 5, 2, 0, 0)] 0 L S M Q := wp_blk rfl
theorem B_120_1 : ∀ (L : Lo) (S : List Value) (M : Mem) (Q : Option Value → Mem → Prop), WP 120 [] 1 L S M Q = WP 120 [(.bipush (-9), 9, 1, 0)] 2 L S M Q := wp_blk rfl
theorem B_120_2 : ∀ (L : Lo) (S : List Value) (M : Mem) (Q : Option Value → Mem → Prop), WP 120 [] 2 L S M Q = WP 120 [(.ireturn, 0, 0, 0)] 0 L S M Q := wp_blk rfl
theorem B_120_3 : ∀ (L : Lo) (S : List Value) (M : Mem) (Q : Option Value → Mem → Prop), WP 120 [] 3 L S M Q = WP 120 [(.iload_n 0, 0, 0, 0), (.iconst 1, 1, 0, 0), (.if_icmp .ne 29, 5, 0, 0), (.iload_n 1, 1, 0, 0), (.i2l, 0, 0, 0), (.ldc2_w 112, 49, 0, 0), (.ldc2_w 114, 57, 0, 0), (.invokestatic 76, 99, 3, 0), (.ifCond .eq 10, 4, 0, 0), (.iload_n 1, 1, 0, 0), (.bipush 48, 48, 0, 0), (.isub, 0, 0, 0), (.goto 20, 7, 0, 0)] 0 L S M Q := wp_blk rfl
theorem B_120_4 : ∀ (L : Lo) (S : List Value) (M : Mem) (Q : Option Value → Mem → Prop), WP 120 [] 4 L S M Q = WP 120 [(.bipush (-9), 9, 1, 0), (.goto 15, 7, 0, 0)] 0 L S M Q := wp_blk rfl
theorem B_120_5 : ∀ (L : Lo) (S : List Value) (M : Mem) (Q : Option Value → Mem → Prop), WP 120 [] 5 L S M Q = WP 120 [(.iload_n 1, 1, 0, 0), (.bipush 59, 59, 0, 0), (.if_icmp .ne 7, 6, 0, 0), (.iconst 0, 0, 0, 0), (.goto 5, 7, 0, 0)] 0 L S M Q := wp_blk rfl
theorem B_120_6 : ∀ (L : Lo) (S : List Value) (M : Mem) (Q : Option Value → Mem → Prop), WP 120 [] 6 L S M Q = WP 120 [(.bipush (-9), 9, 1, 0)] 7 L S M Q := wp_blk rfl
theorem B_120_7 : ∀ (L : Lo) (S : List Value) (M : Mem) (Q : Option Value → Mem → Prop), WP 120 [] 7 L S M Q = WP 120 [(.ireturn, 0, 0, 0)] 0 L S M Q := wp_blk rfl
-- X11_readsOrders
theorem E_121 (q0 : Nat) (M : Mem) (Q : Option Value → Mem → Prop) : Ct 121 [.ref q0] M Q = WP 121 [] 0 [some (.ref q0), none, none, none, none] [] M Q := ct_wp rfl M Q
theorem B_121_0 : ∀ (L : Lo) (S : List Value) (M : Mem) (Q : Option Value → Mem → Prop), WP 121 [] 0 L S M Q = WP 121 [(.aload_n 0, 0, 0, 0), (.iconst 0, 0, 0, 0), (.putfield 120, 11, 9, 0), (.aload_n 0, 0, 0, 0), (.getfield 25, 11, 6, 0), (.iconst 1, 1, 0, 0), (.iaload, 0, 0, 0), (.istore_n 1, 1, 0, 0), (.iconst 0, 0, 0, 0), (.istore_n 2, 2, 0, 0)] 1 L S M Q := wp_blk rfl
theorem B_121_1 : ∀ (L : Lo) (S : List Value) (M : Mem) (Q : Option Value → Mem → Prop), WP 121 [] 1 L S M Q = WP 121 [(.iload_n 2, 2, 0, 0), (.iload_n 1, 1, 0, 0), (.if_icmp .ge 80, 6, 0, 0), (.iload_n 2, 2, 0, 0), (.iconst 3, 3, 0, 0), (.irem, 0, 0, 0), (.istore_n 3, 3, 0, 0), (.iload_n 3, 3, 0, 0), (.aload_n 0, 0, 0, 0), (.getfield 22, 11, 5, 0), (.bipush 42, 42, 0, 0), (.iload_n 2, 2, 0, 0), (.iadd, 0, 0, 0), (.iaload, 0, 0, 0), (.invokestatic 123, 120, 2, 0), (.istore 4, 4, 0, 0), (.iload 4, 4, 0, 0), (.bipush (-9), 9, 1, 0), (.if_icmp .ne 10, 2, 0, 0), (.aload_n 0, 0, 0, 0), (.iconst 0, 0, 0, 0), (.putfield 120, 11, 9, 0), (.iload_n 2, 2, 0, 0), (.ireturn, 0, 0, 0)] 0 L S M Q := wp_blk rfl
theorem B_121_2 : ∀ (L : Lo) (S : List Value) (M : Mem) (Q : Option Value → Mem → Prop), WP 121 [] 2 L S M Q = WP 121 [(.iload_n 3, 3, 0, 0), (.iconst 2, 2, 0, 0), (.if_icmp .ge 17, 3, 0, 0), (.aload_n 0, 0, 0, 0), (.getfield 34, 11, 10, 0), (.iconst 2, 2, 0, 0), (.iload_n 2, 2, 0, 0), (.iconst 3, 3, 0, 0), (.idiv, 0, 0, 0), (.imul, 0, 0, 0), (.iload_n 3, 3, 0, 0), (.iadd, 0, 0, 0), (.iload 4, 4, 0, 0), (.iastore, 0, 0, 0)] 3 L S M Q := wp_blk rfl
theorem B_121_3 : ∀ (L : Lo) (S : List Value) (M : Mem) (Q : Option Value → Mem → Prop), WP 121 [] 3 L S M Q = WP 121 [(.aload_n 0, 0, 0, 0), (.dup, 0, 0, 0), (.getfield 120, 11, 9, 0), (.iload_n 3, 3, 0, 0), (.iconst 1, 1, 0, 0), (.if_icmp .ne 7, 4, 0, 0), (.iconst 1, 1, 0, 0), (.goto 4, 5, 0, 0)] 0 L S M Q := wp_blk rfl
theorem B_121_4 : ∀ (L : Lo) (S : List Value) (M : Mem) (Q : Option Value → Mem → Prop), WP 121 [] 4 L S M Q = WP 121 [(.iconst 0, 0, 0, 0)] 5 L S M Q := wp_blk rfl
theorem B_121_5 : ∀ (L : Lo) (S : List Value) (M : Mem) (Q : Option Value → Mem → Prop), WP 121 [] 5 L S M Q = WP 121 [(.iadd, 0, 0, 0), (.putfield 120, 11, 9, 0), (.iinc 2 1, 2, 1, 0), (.goto (-79), 1, 0, 0)] 0 L S M Q := wp_blk rfl
theorem B_121_6 : ∀ (L : Lo) (S : List Value) (M : Mem) (Q : Option Value → Mem → Prop), WP 121 [] 6 L S M Q = WP 121 [(.iload_n 1, 1, 0, 0), (.ifCond .le 17, 7, 0, 0), (.iload_n 1, 1, 0, 0), (.iconst 3, 3, 0, 0), (.irem, 0, 0, 0), (.iconst 2, 2, 0, 0), (.if_icmp .eq 10, 7, 0, 0), (.aload_n 0, 0, 0, 0), (.iconst 0, 0, 0, 0), (.putfield 120, 11, 9, 0), (.iload_n 1, 1, 0, 0), (.ireturn, 0, 0, 0)] 0 L S M Q := wp_blk rfl
theorem B_121_7 : ∀ (L : Lo) (S : List Value) (M : Mem) (Q : Option Value → Mem → Prop), WP 121 [] 7 L S M Q = WP 121 [(.iconst (-1), 1, 1, 0), (.ireturn, 0, 0, 0)] 0 L S M Q := wp_blk rfl
-- X11_readsText
theorem E_122 (q0 : Nat) (q1 : Int32) (M : Mem) (Q : Option Value → Mem → Prop) : Ct 122 [.ref q0, .int q1] M Q = WP 122 [] 0 [some (.ref q0), some (.int q1)] [] M Q := ct_wp rfl M Q
theorem B_122_0 : ∀ (L : Lo) (S : List Value) (M : Mem) (Q : Option Value → Mem → Prop), WP 122 [] 0 L S M Q = WP 122 [(.iload_n 1, 1, 0, 0), (.ifCond .ne 10, 1, 0, 0), (.aload_n 0, 0, 0, 0), (.invokevirtual 126, 119, 0, 11), (.goto 7, 2, 0, 0)] 0 L S M Q := wp_blk rfl
theorem B_122_1 : ∀ (L : Lo) (S : List Value) (M : Mem) (Q : Option Value → Mem → Prop), WP 122 [] 1 L S M Q = WP 122 [(.aload_n 0, 0, 0, 0), (.invokevirtual 130, 121, 0, 11)] 2 L S M Q := wp_blk rfl
theorem B_122_2 : ∀ (L : Lo) (S : List Value) (M : Mem) (Q : Option Value → Mem → Prop), WP 122 [] 2 L S M Q = WP 122 [(.ireturn, 0, 0, 0)] 0 L S M Q := wp_blk rfl
-- X11_fault
theorem E_123 (q0 : Nat) (q1 : Int32) (M : Mem) (Q : Option Value → Mem → Prop) : Ct 123 [.ref q0, .int q1] M Q = WP 123 [] 0 [some (.ref q0), some (.int q1)] [] M Q := ct_wp rfl M Q
theorem B_123_0 : ∀ (L : Lo) (S : List Value) (M : Mem) (Q : Option Value → Mem → Prop), WP 123 [] 0 L S M Q = WP 123 [(.iload_n 1, 1, 0, 0), (.invokestatic 104, 101, 1, 0), (.ifCond .eq 11, 1, 0, 0), (.aload_n 0, 0, 0, 0), (.iload_n 1, 1, 0, 0), (.invokevirtual 133, 122, 1, 11), (.goto 5, 2, 0, 0)] 0 L S M Q := wp_blk rfl
theorem B_123_1 : ∀ (L : Lo) (S : List Value) (M : Mem) (Q : Option Value → Mem → Prop), WP 123 [] 1 L S M Q = WP 123 [(.bipush (-2), 2, 1, 0)] 2 L S M Q := wp_blk rfl
theorem B_123_2 : ∀ (L : Lo) (S : List Value) (M : Mem) (Q : Option Value → Mem → Prop), WP 123 [] 2 L S M Q = WP 123 [(.ireturn, 0, 0, 0)] 0 L S M Q := wp_blk rfl
-- X11_isColumn
theorem E_124 (q0 : Int32) (M : Mem) (Q : Option Value → Mem → Prop) : Ct 124 [.int q0] M Q = WP 124 [] 0 [some (.int q0)] [] M Q := ct_wp rfl M Q
theorem B_124_0 : ∀ (L : Lo) (S : List Value) (M : Mem) (Q : Option Value → Mem → Prop), WP 124 [] 0 L S M Q = WP 124 [(.iload_n 0, 0, 0, 0), (.i2l, 0, 0, 0), (.lconst 0, 0, 0, 0), (.ldc2_w 136, 5, 0, 0), (.invokestatic 76, 99, 3, 0), (.ireturn, 1, 0, 0)] 0 L S M Q := wp_blk rfl
-- X11_isOrder
theorem E_125 (q0 : Nat) (q1 : Int32) (M : Mem) (Q : Option Value → Mem → Prop) : Ct 125 [.ref q0, .int q1] M Q = WP 125 [] 0 [some (.ref q0), some (.int q1)] [] M Q := ct_wp rfl M Q
theorem B_125_0 : ∀ (L : Lo) (S : List Value) (M : Mem) (Q : Option Value → Mem → Prop), WP 125 [] 0 L S M Q = WP 125 [(.iload_n 1, 1, 0, 0), (.i2l, 0, 0, 0), (.lconst 0, 0, 0, 0), (.aload_n 0, 0, 0, 0), (.getfield 120, 11, 9, 0), (.iconst 1, 1, 0, 0), (.isub, 0, 0, 0), (.i2l, 0, 0, 0), (.invokestatic 76, 99, 3, 0), (.ireturn, 1, 0, 0)] 0 L S M Q := wp_blk rfl
-- X11_isWeek
theorem E_126 (q0 : Int32) (M : Mem) (Q : Option Value → Mem → Prop) : Ct 126 [.int q0] M Q = WP 126 [] 0 [some (.int q0)] [] M Q := ct_wp rfl M Q
theorem B_126_0 : ∀ (L : Lo) (S : List Value) (M : Mem) (Q : Option Value → Mem → Prop), WP 126 [] 0 L S M Q = WP 126 [(.iload_n 0, 0, 0, 0), (.i2l, 0, 0, 0), (.lconst 0, 0, 0, 0), (.ldc2_w 138, 23, 0, 0), (.invokestatic 76, 99, 3, 0), (.ireturn, 1, 0, 0)] 0 L S M Q := wp_blk rfl
-- X11_toldAt
theorem E_127 (q0 : Nat) (q1 : Int32) (q2 : Int32) (M : Mem) (Q : Option Value → Mem → Prop) : Ct 127 [.ref q0, .int q1, .int q2] M Q = WP 127 [] 0 [some (.ref q0), some (.int q1), some (.int q2)] [] M Q := ct_wp rfl M Q
theorem B_127_0 : ∀ (L : Lo) (S : List Value) (M : Mem) (Q : Option Value → Mem → Prop), WP 127 [] 0 L S M Q = WP 127 [(.iload_n 2, 2, 0, 0), (.aload_n 0, 0, 0, 0), (.getfield 28, 11, 7, 0), (.iload_n 1, 1, 0, 0), (.iaload, 0, 0, 0), (.if_icmp .ge 17, 1, 0, 0), (.aload_n 0, 0, 0, 0), (.getfield 31, 11, 8, 0), (.bipush 6, 6, 0, 0), (.iload_n 1, 1, 0, 0), (.imul, 0, 0, 0), (.iload_n 2, 2, 0, 0), (.iadd, 0, 0, 0), (.iaload, 0, 0, 0), (.goto 4, 2, 0, 0)] 0 L S M Q := wp_blk rfl
theorem B_127_1 : ∀ (L : Lo) (S : List Value) (M : Mem) (Q : Option Value → Mem → Prop), WP 127 [] 1 L S M Q = WP 127 [(.iconst 0, 0, 0, 0)] 2 L S M Q := wp_blk rfl
theorem B_127_2 : ∀ (L : Lo) (S : List Value) (M : Mem) (Q : Option Value → Mem → Prop), WP 127 [] 2 L S M Q = WP 127 [(.ireturn, 0, 0, 0)] 0 L S M Q := wp_blk rfl
-- X11_told
theorem E_128 (q0 : Nat) (q1 : Int32) (q2 : Int32) (M : Mem) (Q : Option Value → Mem → Prop) : Ct 128 [.ref q0, .int q1, .int q2] M Q = WP 128 [] 0 [some (.ref q0), some (.int q1), some (.int q2)] [] M Q := ct_wp rfl M Q
theorem B_128_0 : ∀ (L : Lo) (S : List Value) (M : Mem) (Q : Option Value → Mem → Prop), WP 128 [] 0 L S M Q = WP 128 [(.aload_n 0, 0, 0, 0), (.invokevirtual 126, 119, 0, 11), (.pop, 0, 0, 0), (.iload_n 1, 1, 0, 0), (.invokestatic 140, 124, 1, 0), (.ifCond .eq 24, 1, 0, 0), (.iload_n 2, 2, 0, 0), (.i2l, 0, 0, 0), (.lconst 0, 0, 0, 0), (.ldc2_w 136, 5, 0, 0), (.invokestatic 76, 99, 3, 0), (.ifCond .eq 12, 1, 0, 0), (.aload_n 0, 0, 0, 0), (.iload_n 1, 1, 0, 0), (.iload_n 2, 2, 0, 0), (.invokevirtual 143, 127, 2, 11), (.goto 5, 2, 0, 0)] 0 L S M Q := wp_blk rfl
theorem B_128_1 : ∀ (L : Lo) (S : List Value) (M : Mem) (Q : Option Value → Mem → Prop), WP 128 [] 1 L S M Q = WP 128 [(.bipush (-2), 2, 1, 0)] 2 L S M Q := wp_blk rfl
theorem B_128_2 : ∀ (L : Lo) (S : List Value) (M : Mem) (Q : Option Value → Mem → Prop), WP 128 [] 2 L S M Q = WP 128 [(.ireturn, 0, 0, 0)] 0 L S M Q := wp_blk rfl
-- X11_order
theorem E_129 (q0 : Nat) (q1 : Int32) (q2 : Int32) (M : Mem) (Q : Option Value → Mem → Prop) : Ct 129 [.ref q0, .int q1, .int q2] M Q = WP 129 [] 0 [some (.ref q0), some (.int q1), some (.int q2)] [] M Q := ct_wp rfl M Q
theorem B_129_0 : ∀ (L : Lo) (S : List Value) (M : Mem) (Q : Option Value → Mem → Prop), WP 129 [] 0 L S M Q = WP 129 [(.aload_n 0, 0, 0, 0), (.invokevirtual 130, 121, 0, 11), (.pop, 0, 0, 0), (.aload_n 0, 0, 0, 0), (.iload_n 1, 1, 0, 0), (.invokevirtual 146, 125, 1, 11), (.ifCond .eq 23, 1, 0, 0), (.iload_n 2, 2, 0, 0), (.invokestatic 104, 101, 1, 0), (.ifCond .eq 16, 1, 0, 0), (.aload_n 0, 0, 0, 0), (.getfield 34, 11, 10, 0), (.iconst 2, 2, 0, 0), (.iload_n 1, 1, 0, 0), (.imul, 0, 0, 0), (.iload_n 2, 2, 0, 0), (.iadd, 0, 0, 0), (.iaload, 0, 0, 0), (.goto 5, 2, 0, 0)] 0 L S M Q := wp_blk rfl
theorem B_129_1 : ∀ (L : Lo) (S : List Value) (M : Mem) (Q : Option Value → Mem → Prop), WP 129 [] 1 L S M Q = WP 129 [(.bipush (-2), 2, 1, 0)] 2 L S M Q := wp_blk rfl
theorem B_129_2 : ∀ (L : Lo) (S : List Value) (M : Mem) (Q : Option Value → Mem → Prop), WP 129 [] 2 L S M Q = WP 129 [(.ireturn, 0, 0, 0)] 0 L S M Q := wp_blk rfl
-- X11_keeps
theorem E_130 (q0 : Nat) (q1 : Int32) (q2 : Int32) (q3 : Int32) (M : Mem) (Q : Option Value → Mem → Prop) : Ct 130 [.ref q0, .int q1, .int q2, .int q3] M Q = WP 130 [] 0 [some (.ref q0), some (.int q1), some (.int q2), some (.int q3)] [] M Q := ct_wp rfl M Q
theorem B_130_0 : ∀ (L : Lo) (S : List Value) (M : Mem) (Q : Option Value → Mem → Prop), WP 130 [] 0 L S M Q = WP 130 [(.aload_n 0, 0, 0, 0), (.getfield 37, 11, 12, 0), (.iconst 3, 3, 0, 0), (.aload_n 0, 0, 0, 0), (.getfield 149, 11, 11, 0), (.imul, 0, 0, 0), (.iload_n 1, 1, 0, 0), (.iastore, 0, 0, 0), (.aload_n 0, 0, 0, 0), (.getfield 37, 11, 12, 0), (.iconst 3, 3, 0, 0), (.aload_n 0, 0, 0, 0), (.getfield 149, 11, 11, 0), (.imul, 0, 0, 0), (.iconst 1, 1, 0, 0), (.iadd, 0, 0, 0), (.iload_n 2, 2, 0, 0), (.iastore, 0, 0, 0), (.aload_n 0, 0, 0, 0), (.getfield 37, 11, 12, 0), (.iconst 3, 3, 0, 0), (.aload_n 0, 0, 0, 0), (.getfield 149, 11, 11, 0), (.imul, 0, 0, 0), (.iconst 2, 2, 0, 0), (.iadd, 0, 0, 0), (.iload_n 3, 3, 0, 0), (.iastore, 0, 0, 0), (.aload_n 0, 0, 0, 0), (.dup, 0, 0, 0), (.getfield 149, 11, 11, 0), (.iconst 1, 1, 0, 0), (.iadd, 0, 0, 0), (.putfield 149, 11, 11, 0), (.return_, 0, 0, 0)] 0 L S M Q := wp_blk rfl
-- X11_event
theorem E_131 (q0 : Nat) (q1 : Int32) (q2 : Int32) (q3 : Int32) (M : Mem) (Q : Option Value → Mem → Prop) : Ct 131 [.ref q0, .int q1, .int q2, .int q3] M Q = WP 131 [] 0 [some (.ref q0), some (.int q1), some (.int q2), some (.int q3)] [] M Q := ct_wp rfl M Q
theorem B_131_0 : ∀ (L : Lo) (S : List Value) (M : Mem) (Q : Option Value → Mem → Prop), WP 131 [] 0 L S M Q = WP 131 [(.iload_n 1, 1, 0, 0), (.i2l, 0, 0, 0), (.lconst 0, 0, 0, 0), (.ldc2_w 89, 2, 0, 0), (.invokestatic 76, 99, 3, 0), (.ifCond .eq 17, 1, 0, 0), (.iload_n 2, 2, 0, 0), (.invokestatic 152, 126, 1, 0), (.ifCond .eq 10, 1, 0, 0), (.iload_n 3, 3, 0, 0), (.invokestatic 140, 124, 1, 0), (.ifCond .ne 6, 2, 0, 0)] 1 L S M Q := wp_blk rfl
theorem B_131_1 : ∀ (L : Lo) (S : List Value) (M : Mem) (Q : Option Value → Mem → Prop), WP 131 [] 1 L S M Q = WP 131 [(.bipush (-2), 2, 1, 0), (.ireturn, 0, 0, 0)] 0 L S M Q := wp_blk rfl
theorem B_131_2 : ∀ (L : Lo) (S : List Value) (M : Mem) (Q : Option Value → Mem → Prop), WP 131 [] 2 L S M Q = WP 131 [(.aload_n 0, 0, 0, 0), (.getfield 149, 11, 11, 0), (.bipush 8, 8, 0, 0), (.if_icmp .ne 6, 3, 0, 0), (.bipush (-4), 4, 1, 0), (.ireturn, 0, 0, 0)] 0 L S M Q := wp_blk rfl
theorem B_131_3 : ∀ (L : Lo) (S : List Value) (M : Mem) (Q : Option Value → Mem → Prop), WP 131 [] 3 L S M Q = WP 131 [(.aload_n 0, 0, 0, 0), (.iload_n 1, 1, 0, 0), (.iload_n 2, 2, 0, 0), (.iload_n 3, 3, 0, 0), (.invokevirtual 155, 130, 3, 11), (.aload_n 0, 0, 0, 0), (.getfield 149, 11, 11, 0), (.ireturn, 0, 0, 0)] 0 L S M Q := wp_blk rfl
-- X11_back
theorem E_132 (q0 : Nat) (M : Mem) (Q : Option Value → Mem → Prop) : Ct 132 [.ref q0] M Q = WP 132 [] 0 [some (.ref q0)] [] M Q := ct_wp rfl M Q
theorem B_132_0 : ∀ (L : Lo) (S : List Value) (M : Mem) (Q : Option Value → Mem → Prop), WP 132 [] 0 L S M Q = WP 132 [(.aload_n 0, 0, 0, 0), (.getfield 149, 11, 11, 0), (.ifCond .ne 6, 1, 0, 0), (.bipush (-3), 3, 1, 0), (.ireturn, 0, 0, 0)] 0 L S M Q := wp_blk rfl
theorem B_132_1 : ∀ (L : Lo) (S : List Value) (M : Mem) (Q : Option Value → Mem → Prop), WP 132 [] 1 L S M Q = WP 132 [(.aload_n 0, 0, 0, 0), (.dup, 0, 0, 0), (.getfield 149, 11, 11, 0), (.iconst 1, 1, 0, 0), (.isub, 0, 0, 0), (.putfield 149, 11, 11, 0), (.aload_n 0, 0, 0, 0), (.getfield 149, 11, 11, 0), (.ireturn, 0, 0, 0)] 0 L S M Q := wp_blk rfl
-- X11_read
theorem E_133 (q0 : Nat) (q1 : Int32) (M : Mem) (Q : Option Value → Mem → Prop) : Ct 133 [.ref q0, .int q1] M Q = WP 133 [] 0 [some (.ref q0), some (.int q1), none, none, none] [] M Q := ct_wp rfl M Q
theorem B_133_0 : ∀ (L : Lo) (S : List Value) (M : Mem) (Q : Option Value → Mem → Prop), WP 133 [] 0 L S M Q = WP 133 [(.iload_n 1, 1, 0, 0), (.invokestatic 85, 107, 1, 0), (.ifCond .ne 6, 1, 0, 0), (.bipush (-2), 2, 1, 0), (.ireturn, 0, 0, 0)] 0 L S M Q := wp_blk rfl
theorem B_133_1 : ∀ (L : Lo) (S : List Value) (M : Mem) (Q : Option Value → Mem → Prop), WP 133 [] 1 L S M Q = WP 133 [(.aload_n 0, 0, 0, 0), (.getfield 7, 11, 0, 0), (.iload_n 1, 1, 0, 0), (.iaload, 0, 0, 0), (.ifCond .ge 9, 2, 0, 0), (.aload_n 0, 0, 0, 0), (.iconst 1, 1, 0, 0), (.invokevirtual 91, 106, 1, 11), (.ireturn, 0, 0, 0)] 0 L S M Q := wp_blk rfl
theorem B_133_2 : ∀ (L : Lo) (S : List Value) (M : Mem) (Q : Option Value → Mem → Prop), WP 133 [] 2 L S M Q = WP 133 [(.iconst 0, 0, 0, 0), (.istore_n 2, 2, 0, 0), (.iconst 1, 1, 0, 0), (.istore_n 3, 3, 0, 0)] 3 L S M Q := wp_blk rfl
theorem B_133_3 : ∀ (L : Lo) (S : List Value) (M : Mem) (Q : Option Value → Mem → Prop), WP 133 [] 3 L S M Q = WP 133 [(.iload_n 3, 3, 0, 0), (.ifCond .eq 80, 8, 0, 0), (.iconst 3, 3, 0, 0), (.iload_n 2, 2, 0, 0), (.imul, 0, 0, 0), (.iconst 3, 3, 0, 0), (.iadd, 0, 0, 0), (.aload_n 0, 0, 0, 0), (.getfield 13, 11, 1, 0), (.iload_n 1, 1, 0, 0), (.iaload, 0, 0, 0), (.if_icmp .gt 66, 8, 0, 0), (.bipush 60, 60, 0, 0), (.iload_n 1, 1, 0, 0), (.imul, 0, 0, 0), (.iconst 3, 3, 0, 0), (.iload_n 2, 2, 0, 0), (.imul, 0, 0, 0), (.iadd, 0, 0, 0), (.istore 4, 4, 0, 0), (.aload_n 0, 0, 0, 0), (.aload_n 0, 0, 0, 0), (.getfield 16, 11, 2, 0), (.iload 4, 4, 0, 0), (.iaload, 0, 0, 0), (.aload_n 0, 0, 0, 0), (.getfield 16, 11, 2, 0), (.iload 4, 4, 0, 0), (.iconst 1, 1, 0, 0), (.iadd, 0, 0, 0), (.iaload, 0, 0, 0), (.aload_n 0, 0, 0, 0), (.getfield 16, 11, 2, 0), (.iload 4, 4, 0, 0), (.iconst 2, 2, 0, 0), (.iadd, 0, 0, 0), (.iaload, 0, 0, 0), (.invokevirtual 159, 131, 3, 11), (.ifCond .lt 7, 4, 0, 0), (.iconst 1, 1, 0, 0), (.goto 4, 5, 0, 0)] 0 L S M Q := wp_blk rfl
theorem B_133_4 : ∀ (L : Lo) (S : List Value) (M : Mem) (Q : Option Value → Mem → Prop), WP 133 [] 4 L S M Q = WP 133 [(.iconst 0, 0, 0, 0)] 5 L S M Q := wp_blk rfl
theorem B_133_5 : ∀ (L : Lo) (S : List Value) (M : Mem) (Q : Option Value → Mem → Prop), WP 133 [] 5 L S M Q = WP 133 [(.istore_n 3, 3, 0, 0), (.iload_n 2, 2, 0, 0), (.iload_n 3, 3, 0, 0), (.ifCond .eq 7, 6, 0, 0), (.iconst 1, 1, 0, 0), (.goto 4, 7, 0, 0)] 0 L S M Q := wp_blk rfl
theorem B_133_6 : ∀ (L : Lo) (S : List Value) (M : Mem) (Q : Option Value → Mem → Prop), WP 133 [] 6 L S M Q = WP 133 [(.iconst 0, 0, 0, 0)] 7 L S M Q := wp_blk rfl
theorem B_133_7 : ∀ (L : Lo) (S : List Value) (M : Mem) (Q : Option Value → Mem → Prop), WP 133 [] 7 L S M Q = WP 133 [(.iadd, 0, 0, 0), (.istore_n 2, 2, 0, 0), (.goto (-78), 3, 0, 0)] 0 L S M Q := wp_blk rfl
theorem B_133_8 : ∀ (L : Lo) (S : List Value) (M : Mem) (Q : Option Value → Mem → Prop), WP 133 [] 8 L S M Q = WP 133 [(.iload_n 2, 2, 0, 0), (.ireturn, 0, 0, 0)] 0 L S M Q := wp_blk rfl
-- X11_isTold
theorem E_134 (q0 : Nat) (q1 : Int32) (q2 : Int32) (M : Mem) (Q : Option Value → Mem → Prop) : Ct 134 [.ref q0, .int q1, .int q2] M Q = WP 134 [] 0 [some (.ref q0), some (.int q1), some (.int q2), none, none] [] M Q := ct_wp rfl M Q
theorem B_134_0 : ∀ (L : Lo) (S : List Value) (M : Mem) (Q : Option Value → Mem → Prop), WP 134 [] 0 L S M Q = WP 134 [(.iconst 0, 0, 0, 0), (.istore_n 3, 3, 0, 0), (.iconst 0, 0, 0, 0), (.istore 4, 4, 0, 0)] 1 L S M Q := wp_blk rfl
theorem B_134_1 : ∀ (L : Lo) (S : List Value) (M : Mem) (Q : Option Value → Mem → Prop), WP 134 [] 1 L S M Q = WP 134 [(.iload 4, 4, 0, 0), (.aload_n 0, 0, 0, 0), (.getfield 149, 11, 11, 0), (.if_icmp .ge 59, 5, 0, 0), (.iload_n 3, 3, 0, 0), (.ifCond .ne 43, 2, 0, 0), (.aload_n 0, 0, 0, 0), (.getfield 37, 11, 12, 0), (.iconst 3, 3, 0, 0), (.iload 4, 4, 0, 0), (.imul, 0, 0, 0), (.iaload, 0, 0, 0), (.iload_n 1, 1, 0, 0), (.if_icmp .ne 34, 3, 0, 0), (.aload_n 0, 0, 0, 0), (.getfield 37, 11, 12, 0), (.iconst 3, 3, 0, 0), (.iload 4, 4, 0, 0), (.imul, 0, 0, 0), (.iconst 1, 1, 0, 0), (.iadd, 0, 0, 0), (.iaload, 0, 0, 0), (.iload_n 2, 2, 0, 0), (.if_icmp .ne 19, 3, 0, 0), (.aload_n 0, 0, 0, 0), (.getfield 161, 11, 13, 0), (.iload 4, 4, 0, 0), (.invokestatic 164, 102, 2, 0), (.ifCond .ne 7, 3, 0, 0)] 2 L S M Q := wp_blk rfl
theorem B_134_2 : ∀ (L : Lo) (S : List Value) (M : Mem) (Q : Option Value → Mem → Prop), WP 134 [] 2 L S M Q = WP 134 [(.iconst 1, 1, 0, 0), (.goto 4, 4, 0, 0)] 0 L S M Q := wp_blk rfl
theorem B_134_3 : ∀ (L : Lo) (S : List Value) (M : Mem) (Q : Option Value → Mem → Prop), WP 134 [] 3 L S M Q = WP 134 [(.iconst 0, 0, 0, 0)] 4 L S M Q := wp_blk rfl
theorem B_134_4 : ∀ (L : Lo) (S : List Value) (M : Mem) (Q : Option Value → Mem → Prop), WP 134 [] 4 L S M Q = WP 134 [(.istore_n 3, 3, 0, 0), (.iinc 4 1, 4, 1, 0), (.goto (-62), 1, 0, 0)] 0 L S M Q := wp_blk rfl
theorem B_134_5 : ∀ (L : Lo) (S : List Value) (M : Mem) (Q : Option Value → Mem → Prop), WP 134 [] 5 L S M Q = WP 134 [(.iload_n 3, 3, 0, 0), (.ireturn, 1, 0, 0)] 0 L S M Q := wp_blk rfl
-- X11_strawBy
theorem E_135 (q0 : Nat) (q1 : Int32) (M : Mem) (Q : Option Value → Mem → Prop) : Ct 135 [.ref q0, .int q1] M Q = WP 135 [] 0 [some (.ref q0), some (.int q1), none, none] [] M Q := ct_wp rfl M Q
theorem B_135_0 : ∀ (L : Lo) (S : List Value) (M : Mem) (Q : Option Value → Mem → Prop), WP 135 [] 0 L S M Q = WP 135 [(.aload_n 0, 0, 0, 0), (.getfield 70, 11, 14, 0), (.iconst (-1), 1, 1, 0), (.if_icmp .ne 7, 1, 0, 0), (.iconst 0, 0, 0, 0), (.goto 9, 2, 0, 0)] 0 L S M Q := wp_blk rfl
theorem B_135_1 : ∀ (L : Lo) (S : List Value) (M : Mem) (Q : Option Value → Mem → Prop), WP 135 [] 1 L S M Q = WP 135 [(.iconst 1, 1, 0, 0), (.aload_n 0, 0, 0, 0), (.getfield 70, 11, 14, 0), (.ishl, 0, 0, 0)] 2 L S M Q := wp_blk rfl
theorem B_135_2 : ∀ (L : Lo) (S : List Value) (M : Mem) (Q : Option Value → Mem → Prop), WP 135 [] 2 L S M Q = WP 135 [(.istore_n 2, 2, 0, 0), (.iconst 0, 0, 0, 0), (.istore_n 3, 3, 0, 0)] 3 L S M Q := wp_blk rfl
theorem B_135_3 : ∀ (L : Lo) (S : List Value) (M : Mem) (Q : Option Value → Mem → Prop), WP 135 [] 3 L S M Q = WP 135 [(.iload_n 3, 3, 0, 0), (.aload_n 0, 0, 0, 0), (.getfield 149, 11, 11, 0), (.if_icmp .ge 65, 6, 0, 0), (.iload_n 2, 2, 0, 0), (.aload_n 0, 0, 0, 0), (.getfield 37, 11, 12, 0), (.iconst 3, 3, 0, 0), (.iload_n 3, 3, 0, 0), (.imul, 0, 0, 0), (.iaload, 0, 0, 0), (.iconst 2, 2, 0, 0), (.if_icmp .ne 43, 4, 0, 0), (.aload_n 0, 0, 0, 0), (.getfield 37, 11, 12, 0), (.iconst 3, 3, 0, 0), (.iload_n 3, 3, 0, 0), (.imul, 0, 0, 0), (.iconst 1, 1, 0, 0), (.iadd, 0, 0, 0), (.iaload, 0, 0, 0), (.iload_n 1, 1, 0, 0), (.if_icmp .gt 29, 4, 0, 0), (.aload_n 0, 0, 0, 0), (.getfield 161, 11, 13, 0), (.iload_n 3, 3, 0, 0), (.invokestatic 164, 102, 2, 0), (.ifCond .ne 18, 4, 0, 0), (.iconst 1, 1, 0, 0), (.aload_n 0, 0, 0, 0), (.getfield 37, 11, 12, 0), (.iconst 3, 3, 0, 0), (.iload_n 3, 3, 0, 0), (.imul, 0, 0, 0), (.iconst 2, 2, 0, 0), (.iadd, 0, 0, 0), (.iaload, 0, 0, 0), (.ishl, 0, 0, 0), (.goto 4, 5, 0, 0)] 0 L S M Q := wp_blk rfl
theorem B_135_4 : ∀ (L : Lo) (S : List Value) (M : Mem) (Q : Option Value → Mem → Prop), WP 135 [] 4 L S M Q = WP 135 [(.iconst 0, 0, 0, 0)] 5 L S M Q := wp_blk rfl
theorem B_135_5 : ∀ (L : Lo) (S : List Value) (M : Mem) (Q : Option Value → Mem → Prop), WP 135 [] 5 L S M Q = WP 135 [(.ior, 0, 0, 0), (.istore_n 2, 2, 0, 0), (.iinc 3 1, 3, 1, 0), (.goto (-67), 3, 0, 0)] 0 L S M Q := wp_blk rfl
theorem B_135_6 : ∀ (L : Lo) (S : List Value) (M : Mem) (Q : Option Value → Mem → Prop), WP 135 [] 6 L S M Q = WP 135 [(.iload_n 2, 2, 0, 0), (.ireturn, 0, 0, 0)] 0 L S M Q := wp_blk rfl
-- X11_topOf
theorem E_136 (q0 : Nat) (q1 : Int32) (M : Mem) (Q : Option Value → Mem → Prop) : Ct 136 [.ref q0, .int q1] M Q = WP 136 [] 0 [some (.ref q0), some (.int q1)] [] M Q := ct_wp rfl M Q
theorem B_136_0 : ∀ (L : Lo) (S : List Value) (M : Mem) (Q : Option Value → Mem → Prop), WP 136 [] 0 L S M Q = WP 136 [(.aload_n 0, 0, 0, 0), (.getfield 40, 11, 17, 0), (.iload_n 1, 1, 0, 0), (.iaload, 0, 0, 0), (.ifCond .ne 7, 1, 0, 0), (.iconst 0, 0, 0, 0), (.goto 21, 2, 0, 0)] 0 L S M Q := wp_blk rfl
theorem B_136_1 : ∀ (L : Lo) (S : List Value) (M : Mem) (Q : Option Value → Mem → Prop), WP 136 [] 1 L S M Q = WP 136 [(.aload_n 0, 0, 0, 0), (.getfield 43, 11, 18, 0), (.bipush 6, 6, 0, 0), (.iload_n 1, 1, 0, 0), (.imul, 0, 0, 0), (.aload_n 0, 0, 0, 0), (.getfield 40, 11, 17, 0), (.iload_n 1, 1, 0, 0), (.iaload, 0, 0, 0), (.iadd, 0, 0, 0), (.iconst 1, 1, 0, 0), (.isub, 0, 0, 0), (.iaload, 0, 0, 0)] 2 L S M Q := wp_blk rfl
theorem B_136_2 : ∀ (L : Lo) (S : List Value) (M : Mem) (Q : Option Value → Mem → Prop), WP 136 [] 2 L S M Q = WP 136 [(.ireturn, 0, 0, 0)] 0 L S M Q := wp_blk rfl
-- X11_greatest
theorem E_137 (q0 : Nat) (M : Mem) (Q : Option Value → Mem → Prop) : Ct 137 [.ref q0] M Q = WP 137 [] 0 [some (.ref q0), none, none] [] M Q := ct_wp rfl M Q
theorem B_137_0 : ∀ (L : Lo) (S : List Value) (M : Mem) (Q : Option Value → Mem → Prop), WP 137 [] 0 L S M Q = WP 137 [(.iconst (-1), 1, 1, 0), (.istore_n 1, 1, 0, 0), (.iconst 0, 0, 0, 0), (.istore_n 2, 2, 0, 0)] 1 L S M Q := wp_blk rfl
theorem B_137_1 : ∀ (L : Lo) (S : List Value) (M : Mem) (Q : Option Value → Mem → Prop), WP 137 [] 1 L S M Q = WP 137 [(.iload_n 2, 2, 0, 0), (.bipush 6, 6, 0, 0), (.if_icmp .ge 37, 6, 0, 0), (.aload_n 0, 0, 0, 0), (.iload_n 2, 2, 0, 0), (.invokevirtual 168, 136, 1, 11), (.iload_n 1, 1, 0, 0), (.iconst (-1), 1, 1, 0), (.if_icmp .ne 7, 2, 0, 0), (.iconst 0, 0, 0, 0), (.goto 8, 3, 0, 0)] 0 L S M Q := wp_blk rfl
theorem B_137_2 : ∀ (L : Lo) (S : List Value) (M : Mem) (Q : Option Value → Mem → Prop), WP 137 [] 2 L S M Q = WP 137 [(.aload_n 0, 0, 0, 0), (.iload_n 1, 1, 0, 0), (.invokevirtual 168, 136, 1, 11)] 3 L S M Q := wp_blk rfl
theorem B_137_3 : ∀ (L : Lo) (S : List Value) (M : Mem) (Q : Option Value → Mem → Prop), WP 137 [] 3 L S M Q = WP 137 [(.if_icmp .le 7, 4, 0, 0), (.iload_n 2, 2, 0, 0), (.goto 4, 5, 0, 0)] 0 L S M Q := wp_blk rfl
theorem B_137_4 : ∀ (L : Lo) (S : List Value) (M : Mem) (Q : Option Value → Mem → Prop), WP 137 [] 4 L S M Q = WP 137 [(.iload_n 1, 1, 0, 0)] 5 L S M Q := wp_blk rfl
theorem B_137_5 : ∀ (L : Lo) (S : List Value) (M : Mem) (Q : Option Value → Mem → Prop), WP 137 [] 5 L S M Q = WP 137 [(.istore_n 1, 1, 0, 0), (.iinc 2 1, 2, 1, 0), (.goto (-37), 1, 0, 0)] 0 L S M Q := wp_blk rfl
theorem B_137_6 : ∀ (L : Lo) (S : List Value) (M : Mem) (Q : Option Value → Mem → Prop), WP 137 [] 6 L S M Q = WP 137 [(.iload_n 1, 1, 0, 0), (.ireturn, 0, 0, 0)] 0 L S M Q := wp_blk rfl
-- X11_serves
theorem E_138 (q0 : Nat) (q1 : Int32) (M : Mem) (Q : Option Value → Mem → Prop) : Ct 138 [.ref q0, .int q1] M Q = WP 138 [] 0 [some (.ref q0), some (.int q1), none] [] M Q := ct_wp rfl M Q
theorem B_138_0 : ∀ (L : Lo) (S : List Value) (M : Mem) (Q : Option Value → Mem → Prop), WP 138 [] 0 L S M Q = WP 138 [(.aload_n 0, 0, 0, 0), (.invokevirtual 171, 137, 0, 11), (.istore_n 2, 2, 0, 0)] 1 L S M Q := wp_blk rfl
theorem B_138_1 : ∀ (L : Lo) (S : List Value) (M : Mem) (Q : Option Value → Mem → Prop), WP 138 [] 1 L S M Q = WP 138 [(.aload_n 0, 0, 0, 0), (.getfield 49, 11, 20, 0), (.iload_n 1, 1, 0, 0), (.iaload, 0, 0, 0), (.aload_n 0, 0, 0, 0), (.getfield 34, 11, 10, 0), (.iconst 2, 2, 0, 0), (.iload_n 1, 1, 0, 0), (.imul, 0, 0, 0), (.iconst 1, 1, 0, 0), (.iadd, 0, 0, 0), (.iaload, 0, 0, 0), (.if_icmp .ge 40, 2, 0, 0), (.iload_n 2, 2, 0, 0), (.iconst (-1), 1, 1, 0), (.if_icmp .eq 35, 2, 0, 0), (.aload_n 0, 0, 0, 0), (.getfield 49, 11, 20, 0), (.iload_n 1, 1, 0, 0), (.dup2, 0, 0, 0), (.iaload, 0, 0, 0), (.aload_n 0, 0, 0, 0), (.iload_n 2, 2, 0, 0), (.invokevirtual 168, 136, 1, 11), (.iadd, 0, 0, 0), (.iastore, 0, 0, 0), (.aload_n 0, 0, 0, 0), (.getfield 40, 11, 17, 0), (.iload_n 2, 2, 0, 0), (.dup2, 0, 0, 0), (.iaload, 0, 0, 0), (.iconst 1, 1, 0, 0), (.isub, 0, 0, 0), (.iastore, 0, 0, 0), (.aload_n 0, 0, 0, 0), (.invokevirtual 171, 137, 0, 11), (.istore_n 2, 2, 0, 0), (.goto (-53), 1, 0, 0)] 0 L S M Q := wp_blk rfl
theorem B_138_2 : ∀ (L : Lo) (S : List Value) (M : Mem) (Q : Option Value → Mem → Prop), WP 138 [] 2 L S M Q = WP 138 [(.return_, 0, 0, 0)] 0 L S M Q := wp_blk rfl
-- X11_freeOf
theorem E_139 (q0 : Nat) (q1 : Int32) (q2 : Int32) (q3 : Int32) (M : Mem) (Q : Option Value → Mem → Prop) : Ct 139 [.ref q0, .int q1, .int q2, .int q3] M Q = WP 139 [] 0 [some (.ref q0), some (.int q1), some (.int q2), some (.int q3), none] [] M Q := ct_wp rfl M Q
theorem B_139_0 : ∀ (L : Lo) (S : List Value) (M : Mem) (Q : Option Value → Mem → Prop), WP 139 [] 0 L S M Q = WP 139 [(.iload_n 2, 2, 0, 0), (.aload_n 0, 0, 0, 0), (.getfield 40, 11, 17, 0), (.iload_n 1, 1, 0, 0), (.iaload, 0, 0, 0), (.iconst 1, 1, 0, 0), (.isub, 0, 0, 0), (.if_icmp .ne 15, 1, 0, 0), (.iload_n 3, 3, 0, 0), (.iload_n 1, 1, 0, 0), (.invokestatic 164, 102, 2, 0), (.ifCond .ne 7, 1, 0, 0), (.iconst 1, 1, 0, 0), (.goto 4, 2, 0, 0)] 0 L S M Q := wp_blk rfl
theorem B_139_1 : ∀ (L : Lo) (S : List Value) (M : Mem) (Q : Option Value → Mem → Prop), WP 139 [] 1 L S M Q = WP 139 [(.iconst 0, 0, 0, 0)] 2 L S M Q := wp_blk rfl
theorem B_139_2 : ∀ (L : Lo) (S : List Value) (M : Mem) (Q : Option Value → Mem → Prop), WP 139 [] 2 L S M Q = WP 139 [(.istore 4, 4, 0, 0), (.iload 4, 4, 0, 0), (.iload_n 1, 1, 0, 0), (.ifCond .le 19, 3, 0, 0), (.aload_n 0, 0, 0, 0), (.getfield 40, 11, 17, 0), (.iload_n 1, 1, 0, 0), (.iconst 1, 1, 0, 0), (.isub, 0, 0, 0), (.iaload, 0, 0, 0), (.iload_n 2, 2, 0, 0), (.if_icmp .gt 7, 3, 0, 0), (.iconst 1, 1, 0, 0), (.goto 4, 4, 0, 0)] 0 L S M Q := wp_blk rfl
theorem B_139_3 : ∀ (L : Lo) (S : List Value) (M : Mem) (Q : Option Value → Mem → Prop), WP 139 [] 3 L S M Q = WP 139 [(.iconst 0, 0, 0, 0)] 4 L S M Q := wp_blk rfl
theorem B_139_4 : ∀ (L : Lo) (S : List Value) (M : Mem) (Q : Option Value → Mem → Prop), WP 139 [] 4 L S M Q = WP 139 [(.iadd, 0, 0, 0), (.istore 4, 4, 0, 0), (.iload 4, 4, 0, 0), (.iload_n 1, 1, 0, 0), (.iconst 5, 5, 0, 0), (.if_icmp .ge 19, 5, 0, 0), (.aload_n 0, 0, 0, 0), (.getfield 40, 11, 17, 0), (.iload_n 1, 1, 0, 0), (.iconst 1, 1, 0, 0), (.iadd, 0, 0, 0), (.iaload, 0, 0, 0), (.iload_n 2, 2, 0, 0), (.if_icmp .gt 7, 5, 0, 0), (.iconst 1, 1, 0, 0), (.goto 4, 6, 0, 0)] 0 L S M Q := wp_blk rfl
theorem B_139_5 : ∀ (L : Lo) (S : List Value) (M : Mem) (Q : Option Value → Mem → Prop), WP 139 [] 5 L S M Q = WP 139 [(.iconst 0, 0, 0, 0)] 6 L S M Q := wp_blk rfl
theorem B_139_6 : ∀ (L : Lo) (S : List Value) (M : Mem) (Q : Option Value → Mem → Prop), WP 139 [] 6 L S M Q = WP 139 [(.iadd, 0, 0, 0), (.ireturn, 0, 0, 0)] 0 L S M Q := wp_blk rfl
-- X11_melting
theorem E_140 (q0 : Nat) (q1 : Int32) (M : Mem) (Q : Option Value → Mem → Prop) : Ct 140 [.ref q0, .int q1] M Q = WP 140 [] 0 [some (.ref q0), some (.int q1), none, none, none, none, none, none, none] [] M Q := ct_wp rfl M Q
theorem B_140_0 : ∀ (L : Lo) (S : List Value) (M : Mem) (Q : Option Value → Mem → Prop), WP 140 [] 0 L S M Q = WP 140 [(.aload_n 0, 0, 0, 0), (.iload_n 1, 1, 0, 0), (.invokevirtual 174, 135, 1, 11), (.istore_n 2, 2, 0, 0), (.aload_n 0, 0, 0, 0), (.iconst 0, 0, 0, 0), (.iload_n 1, 1, 0, 0), (.invokevirtual 177, 134, 2, 11), (.istore_n 3, 3, 0, 0), (.aload_n 0, 0, 0, 0), (.iconst 1, 1, 0, 0), (.iload_n 1, 1, 0, 0), (.invokevirtual 177, 134, 2, 11), (.istore 4, 4, 0, 0), (.iconst 0, 0, 0, 0), (.istore 5, 5, 0, 0)] 1 L S M Q := wp_blk rfl
theorem B_140_1 : ∀ (L : Lo) (S : List Value) (M : Mem) (Q : Option Value → Mem → Prop), WP 140 [] 1 L S M Q = WP 140 [(.iload 5, 5, 0, 0), (.bipush 6, 6, 0, 0), (.if_icmp .ge 131, 8, 0, 0), (.iconst 0, 0, 0, 0), (.istore 6, 6, 0, 0)] 2 L S M Q := wp_blk rfl
theorem B_140_2 : ∀ (L : Lo) (S : List Value) (M : Mem) (Q : Option Value → Mem → Prop), WP 140 [] 2 L S M Q = WP 140 [(.iload 6, 6, 0, 0), (.aload_n 0, 0, 0, 0), (.getfield 40, 11, 17, 0), (.iload 5, 5, 0, 0), (.iaload, 0, 0, 0), (.if_icmp .ge 110, 7, 0, 0), (.aload_n 0, 0, 0, 0), (.iload 5, 5, 0, 0), (.iload 6, 6, 0, 0), (.iload_n 2, 2, 0, 0), (.invokevirtual 180, 139, 3, 11), (.istore 7, 7, 0, 0), (.iload_n 3, 3, 0, 0), (.ifCond .eq 30, 3, 0, 0), (.iload 6, 6, 0, 0), (.aload_n 0, 0, 0, 0), (.getfield 40, 11, 17, 0), (.iload 5, 5, 0, 0), (.iaload, 0, 0, 0), (.iconst 1, 1, 0, 0), (.isub, 0, 0, 0), (.if_icmp .ne 16, 3, 0, 0), (.iload_n 2, 2, 0, 0), (.iload 5, 5, 0, 0), (.invokestatic 164, 102, 2, 0), (.ifCond .ne 7, 3, 0, 0), (.iconst 1, 1, 0, 0), (.goto 4, 4, 0, 0)] 0 L S M Q := wp_blk rfl
theorem B_140_3 : ∀ (L : Lo) (S : List Value) (M : Mem) (Q : Option Value → Mem → Prop), WP 140 [] 3 L S M Q = WP 140 [(.iconst 0, 0, 0, 0)] 4 L S M Q := wp_blk rfl
theorem B_140_4 : ∀ (L : Lo) (S : List Value) (M : Mem) (Q : Option Value → Mem → Prop), WP 140 [] 4 L S M Q = WP 140 [(.istore 8, 8, 0, 0), (.iload 8, 8, 0, 0), (.iload 4, 4, 0, 0), (.ifCond .eq 12, 5, 0, 0), (.iload 7, 7, 0, 0), (.ifCond .le 7, 5, 0, 0), (.iconst 1, 1, 0, 0), (.goto 4, 6, 0, 0)] 0 L S M Q := wp_blk rfl
theorem B_140_5 : ∀ (L : Lo) (S : List Value) (M : Mem) (Q : Option Value → Mem → Prop), WP 140 [] 5 L S M Q = WP 140 [(.iconst 0, 0, 0, 0)] 6 L S M Q := wp_blk rfl
theorem B_140_6 : ∀ (L : Lo) (S : List Value) (M : Mem) (Q : Option Value → Mem → Prop), WP 140 [] 6 L S M Q = WP 140 [(.iadd, 0, 0, 0), (.istore 8, 8, 0, 0), (.aload_n 0, 0, 0, 0), (.getfield 46, 11, 19, 0), (.bipush 6, 6, 0, 0), (.iload 5, 5, 0, 0), (.imul, 0, 0, 0), (.iload 6, 6, 0, 0), (.iadd, 0, 0, 0), (.iload 7, 7, 0, 0), (.iconst 2, 2, 0, 0), (.idiv, 0, 0, 0), (.iload 8, 8, 0, 0), (.iadd, 0, 0, 0), (.aload_n 0, 0, 0, 0), (.getfield 43, 11, 18, 0), (.bipush 6, 6, 0, 0), (.iload 5, 5, 0, 0), (.imul, 0, 0, 0), (.iload 6, 6, 0, 0), (.iadd, 0, 0, 0), (.iaload, 0, 0, 0), (.invokestatic 183, 103, 2, 0), (.iastore, 0, 0, 0), (.iinc 6 1, 6, 1, 0), (.goto (-116), 2, 0, 0)] 0 L S M Q := wp_blk rfl
theorem B_140_7 : ∀ (L : Lo) (S : List Value) (M : Mem) (Q : Option Value → Mem → Prop), WP 140 [] 7 L S M Q = WP 140 [(.iinc 5 1, 5, 1, 0), (.goto (-132), 1, 0, 0)] 0 L S M Q := wp_blk rfl
theorem B_140_8 : ∀ (L : Lo) (S : List Value) (M : Mem) (Q : Option Value → Mem → Prop), WP 140 [] 8 L S M Q = WP 140 [(.aload_n 0, 0, 0, 0), (.getfield 58, 11, 23, 0), (.iload_n 1, 1, 0, 0), (.iconst 0, 0, 0, 0), (.iastore, 0, 0, 0), (.iconst 0, 0, 0, 0), (.istore 5, 5, 0, 0)] 9 L S M Q := wp_blk rfl
theorem B_140_9 : ∀ (L : Lo) (S : List Value) (M : Mem) (Q : Option Value → Mem → Prop), WP 140 [] 9 L S M Q = WP 140 [(.iload 5, 5, 0, 0), (.bipush 6, 6, 0, 0), (.if_icmp .ge 123, 14, 0, 0), (.iconst 0, 0, 0, 0), (.istore 6, 6, 0, 0), (.iconst 0, 0, 0, 0), (.istore 7, 7, 0, 0)] 10 L S M Q := wp_blk rfl
theorem B_140_10 : ∀ (L : Lo) (S : List Value) (M : Mem) (Q : Option Value → Mem → Prop), WP 140 [] 10 L S M Q = WP 140 [(.iload 7, 7, 0, 0), (.aload_n 0, 0, 0, 0), (.getfield 40, 11, 17, 0), (.iload 5, 5, 0, 0), (.iaload, 0, 0, 0), (.if_icmp .ge 90, 13, 0, 0), (.aload_n 0, 0, 0, 0), (.getfield 43, 11, 18, 0), (.bipush 6, 6, 0, 0), (.iload 5, 5, 0, 0), (.imul, 0, 0, 0), (.iload 7, 7, 0, 0), (.iadd, 0, 0, 0), (.iaload, 0, 0, 0), (.aload_n 0, 0, 0, 0), (.getfield 46, 11, 19, 0), (.bipush 6, 6, 0, 0), (.iload 5, 5, 0, 0), (.imul, 0, 0, 0), (.iload 7, 7, 0, 0), (.iadd, 0, 0, 0), (.iaload, 0, 0, 0), (.isub, 0, 0, 0), (.istore 8, 8, 0, 0), (.aload_n 0, 0, 0, 0), (.getfield 58, 11, 23, 0), (.iload_n 1, 1, 0, 0), (.dup2, 0, 0, 0), (.iaload, 0, 0, 0), (.aload_n 0, 0, 0, 0), (.getfield 46, 11, 19, 0), (.bipush 6, 6, 0, 0), (.iload 5, 5, 0, 0), (.imul, 0, 0, 0), (.iload 7, 7, 0, 0), (.iadd, 0, 0, 0), (.iaload, 0, 0, 0), (.iadd, 0, 0, 0), (.iastore, 0, 0, 0), (.aload_n 0, 0, 0, 0), (.getfield 43, 11, 18, 0), (.bipush 6, 6, 0, 0), (.iload 5, 5, 0, 0), (.imul, 0, 0, 0), (.iload 6, 6, 0, 0), (.iadd, 0, 0, 0), (.iload 8, 8, 0, 0), (.iastore, 0, 0, 0), (.iload 6, 6, 0, 0), (.iload 8, 8, 0, 0), (.ifCond .le 7, 11, 0, 0), (.iconst 1, 1, 0, 0), (.goto 4, 12, 0, 0)] 0 L S M Q := wp_blk rfl
theorem B_140_11 : ∀ (L : Lo) (S : List Value) (M : Mem) (Q : Option Value → Mem → Prop), WP 140 [] 11 L S M Q = WP 140 [(.iconst 0, 0, 0, 0)] 12 L S M Q := wp_blk rfl
theorem B_140_12 : ∀ (L : Lo) (S : List Value) (M : Mem) (Q : Option Value → Mem → Prop), WP 140 [] 12 L S M Q = WP 140 [(.iadd, 0, 0, 0), (.istore 6, 6, 0, 0), (.iinc 7 1, 7, 1, 0), (.goto (-96), 10, 0, 0)] 0 L S M Q := wp_blk rfl
theorem B_140_13 : ∀ (L : Lo) (S : List Value) (M : Mem) (Q : Option Value → Mem → Prop), WP 140 [] 13 L S M Q = WP 140 [(.aload_n 0, 0, 0, 0), (.getfield 40, 11, 17, 0), (.iload 5, 5, 0, 0), (.iload 6, 6, 0, 0), (.iastore, 0, 0, 0), (.iinc 5 1, 5, 1, 0), (.goto (-124), 9, 0, 0)] 0 L S M Q := wp_blk rfl
theorem B_140_14 : ∀ (L : Lo) (S : List Value) (M : Mem) (Q : Option Value → Mem → Prop), WP 140 [] 14 L S M Q = WP 140 [(.return_, 0, 0, 0)] 0 L S M Q := wp_blk rfl
-- X11_passes
theorem E_141 (q0 : Nat) (q1 : Int32) (M : Mem) (Q : Option Value → Mem → Prop) : Ct 141 [.ref q0, .int q1] M Q = WP 141 [] 0 [some (.ref q0), some (.int q1), none, none] [] M Q := ct_wp rfl M Q
theorem B_141_0 : ∀ (L : Lo) (S : List Value) (M : Mem) (Q : Option Value → Mem → Prop), WP 141 [] 0 L S M Q = WP 141 [(.iconst 0, 0, 0, 0), (.istore_n 2, 2, 0, 0)] 1 L S M Q := wp_blk rfl
theorem B_141_1 : ∀ (L : Lo) (S : List Value) (M : Mem) (Q : Option Value → Mem → Prop), WP 141 [] 1 L S M Q = WP 141 [(.iload_n 2, 2, 0, 0), (.aload_n 0, 0, 0, 0), (.getfield 120, 11, 9, 0), (.if_icmp .ge 26, 3, 0, 0), (.aload_n 0, 0, 0, 0), (.getfield 34, 11, 10, 0), (.iconst 2, 2, 0, 0), (.iload_n 2, 2, 0, 0), (.imul, 0, 0, 0), (.iaload, 0, 0, 0), (.iload_n 1, 1, 0, 0), (.if_icmp .ne 8, 2, 0, 0), (.aload_n 0, 0, 0, 0), (.iload_n 2, 2, 0, 0), (.invokevirtual 186, 138, 1, 11)] 2 L S M Q := wp_blk rfl
theorem B_141_2 : ∀ (L : Lo) (S : List Value) (M : Mem) (Q : Option Value → Mem → Prop), WP 141 [] 2 L S M Q = WP 141 [(.iinc 2 1, 2, 1, 0), (.goto (-28), 1, 0, 0)] 0 L S M Q := wp_blk rfl
theorem B_141_3 : ∀ (L : Lo) (S : List Value) (M : Mem) (Q : Option Value → Mem → Prop), WP 141 [] 3 L S M Q = WP 141 [(.aload_n 0, 0, 0, 0), (.iload_n 1, 1, 0, 0), (.invokevirtual 190, 140, 1, 11), (.iconst 0, 0, 0, 0), (.istore_n 2, 2, 0, 0)] 4 L S M Q := wp_blk rfl
theorem B_141_4 : ∀ (L : Lo) (S : List Value) (M : Mem) (Q : Option Value → Mem → Prop), WP 141 [] 4 L S M Q = WP 141 [(.iload_n 2, 2, 0, 0), (.bipush 6, 6, 0, 0), (.if_icmp .ge 81, 9, 0, 0), (.aload_n 0, 0, 0, 0), (.getfield 52, 11, 21, 0), (.bipush 6, 6, 0, 0), (.iload_n 1, 1, 0, 0), (.imul, 0, 0, 0), (.iload_n 2, 2, 0, 0), (.iadd, 0, 0, 0), (.aload_n 0, 0, 0, 0), (.getfield 40, 11, 17, 0), (.iload_n 2, 2, 0, 0), (.iaload, 0, 0, 0), (.iastore, 0, 0, 0), (.iconst 0, 0, 0, 0), (.istore_n 3, 3, 0, 0)] 5 L S M Q := wp_blk rfl
theorem B_141_5 : ∀ (L : Lo) (S : List Value) (M : Mem) (Q : Option Value → Mem → Prop), WP 141 [] 5 L S M Q = WP 141 [(.iload_n 3, 3, 0, 0), (.bipush 6, 6, 0, 0), (.if_icmp .ge 50, 8, 0, 0), (.aload_n 0, 0, 0, 0), (.getfield 55, 11, 22, 0), (.bipush 36, 36, 0, 0), (.iload_n 1, 1, 0, 0), (.imul, 0, 0, 0), (.bipush 6, 6, 0, 0), (.iload_n 2, 2, 0, 0), (.imul, 0, 0, 0), (.iadd, 0, 0, 0), (.iload_n 3, 3, 0, 0), (.iadd, 0, 0, 0), (.iload_n 3, 3, 0, 0), (.aload_n 0, 0, 0, 0), (.getfield 40, 11, 17, 0), (.iload_n 2, 2, 0, 0), (.iaload, 0, 0, 0), (.if_icmp .ge 17, 6, 0, 0), (.aload_n 0, 0, 0, 0), (.getfield 43, 11, 18, 0), (.bipush 6, 6, 0, 0), (.iload_n 2, 2, 0, 0), (.imul, 0, 0, 0), (.iload_n 3, 3, 0, 0), (.iadd, 0, 0, 0), (.iaload, 0, 0, 0), (.goto 4, 7, 0, 0)] 0 L S M Q := wp_blk rfl
theorem B_141_6 : ∀ (L : Lo) (S : List Value) (M : Mem) (Q : Option Value → Mem → Prop), WP 141 [] 6 L S M Q = WP 141 [(.iconst 0, 0, 0, 0)] 7 L S M Q := wp_blk rfl
theorem B_141_7 : ∀ (L : Lo) (S : List Value) (M : Mem) (Q : Option Value → Mem → Prop), WP 141 [] 7 L S M Q = WP 141 [(.iastore, 0, 0, 0), (.iinc 3 1, 3, 1, 0), (.goto (-50), 5, 0, 0)] 0 L S M Q := wp_blk rfl
theorem B_141_8 : ∀ (L : Lo) (S : List Value) (M : Mem) (Q : Option Value → Mem → Prop), WP 141 [] 8 L S M Q = WP 141 [(.iinc 2 1, 2, 1, 0), (.goto (-81), 4, 0, 0)] 0 L S M Q := wp_blk rfl
theorem B_141_9 : ∀ (L : Lo) (S : List Value) (M : Mem) (Q : Option Value → Mem → Prop), WP 141 [] 9 L S M Q = WP 141 [(.return_, 0, 0, 0)] 0 L S M Q := wp_blk rfl
-- X11_lives
theorem E_142 (q0 : Nat) (M : Mem) (Q : Option Value → Mem → Prop) : Ct 142 [.ref q0] M Q = WP 142 [] 0 [some (.ref q0), none, none, none] [] M Q := ct_wp rfl M Q
theorem B_142_0 : ∀ (L : Lo) (S : List Value) (M : Mem) (Q : Option Value → Mem → Prop), WP 142 [] 0 L S M Q = WP 142 [(.iconst 0, 0, 0, 0), (.istore_n 1, 1, 0, 0)] 1 L S M Q := wp_blk rfl
theorem B_142_1 : ∀ (L : Lo) (S : List Value) (M : Mem) (Q : Option Value → Mem → Prop), WP 142 [] 1 L S M Q = WP 142 [(.iload_n 1, 1, 0, 0), (.bipush 6, 6, 0, 0), (.if_icmp .ge 108, 8, 0, 0), (.aload_n 0, 0, 0, 0), (.getfield 193, 11, 15, 0), (.aload_n 0, 0, 0, 0), (.getfield 196, 11, 16, 0), (.if_icmp .ne 7, 2, 0, 0), (.iload_n 1, 1, 0, 0), (.goto 34, 5, 0, 0)] 0 L S M Q := wp_blk rfl
theorem B_142_2 : ∀ (L : Lo) (S : List Value) (M : Mem) (Q : Option Value → Mem → Prop), WP 142 [] 2 L S M Q = WP 142 [(.iload_n 1, 1, 0, 0), (.aload_n 0, 0, 0, 0), (.getfield 193, 11, 15, 0), (.if_icmp .ne 10, 3, 0, 0), (.aload_n 0, 0, 0, 0), (.getfield 196, 11, 16, 0), (.goto 19, 5, 0, 0)] 0 L S M Q := wp_blk rfl
theorem B_142_3 : ∀ (L : Lo) (S : List Value) (M : Mem) (Q : Option Value → Mem → Prop), WP 142 [] 3 L S M Q = WP 142 [(.iload_n 1, 1, 0, 0), (.aload_n 0, 0, 0, 0), (.getfield 196, 11, 16, 0), (.if_icmp .ne 10, 4, 0, 0), (.aload_n 0, 0, 0, 0), (.getfield 193, 11, 15, 0), (.goto 4, 5, 0, 0)] 0 L S M Q := wp_blk rfl
theorem B_142_4 : ∀ (L : Lo) (S : List Value) (M : Mem) (Q : Option Value → Mem → Prop), WP 142 [] 4 L S M Q = WP 142 [(.iload_n 1, 1, 0, 0)] 5 L S M Q := wp_blk rfl
theorem B_142_5 : ∀ (L : Lo) (S : List Value) (M : Mem) (Q : Option Value → Mem → Prop), WP 142 [] 5 L S M Q = WP 142 [(.istore_n 2, 2, 0, 0), (.aload_n 0, 0, 0, 0), (.getfield 40, 11, 17, 0), (.iload_n 1, 1, 0, 0), (.aload_n 0, 0, 0, 0), (.getfield 28, 11, 7, 0), (.iload_n 2, 2, 0, 0), (.iaload, 0, 0, 0), (.iastore, 0, 0, 0), (.iconst 0, 0, 0, 0), (.istore_n 3, 3, 0, 0)] 6 L S M Q := wp_blk rfl
theorem B_142_6 : ∀ (L : Lo) (S : List Value) (M : Mem) (Q : Option Value → Mem → Prop), WP 142 [] 6 L S M Q = WP 142 [(.iload_n 3, 3, 0, 0), (.aload_n 0, 0, 0, 0), (.getfield 40, 11, 17, 0), (.iload_n 1, 1, 0, 0), (.iaload, 0, 0, 0), (.if_icmp .ge 31, 7, 0, 0), (.aload_n 0, 0, 0, 0), (.getfield 43, 11, 18, 0), (.bipush 6, 6, 0, 0), (.iload_n 1, 1, 0, 0), (.imul, 0, 0, 0), (.iload_n 3, 3, 0, 0), (.iadd, 0, 0, 0), (.aload_n 0, 0, 0, 0), (.getfield 31, 11, 8, 0), (.bipush 6, 6, 0, 0), (.iload_n 2, 2, 0, 0), (.imul, 0, 0, 0), (.iload_n 3, 3, 0, 0), (.iadd, 0, 0, 0), (.iaload, 0, 0, 0), (.iastore, 0, 0, 0), (.iinc 3 1, 3, 1, 0), (.goto (-35), 6, 0, 0)] 0 L S M Q := wp_blk rfl
theorem B_142_7 : ∀ (L : Lo) (S : List Value) (M : Mem) (Q : Option Value → Mem → Prop), WP 142 [] 7 L S M Q = WP 142 [(.iinc 1 1, 1, 1, 0), (.goto (-108), 1, 0, 0)] 0 L S M Q := wp_blk rfl
theorem B_142_8 : ∀ (L : Lo) (S : List Value) (M : Mem) (Q : Option Value → Mem → Prop), WP 142 [] 8 L S M Q = WP 142 [(.iconst 0, 0, 0, 0), (.istore_n 1, 1, 0, 0)] 9 L S M Q := wp_blk rfl
theorem B_142_9 : ∀ (L : Lo) (S : List Value) (M : Mem) (Q : Option Value → Mem → Prop), WP 142 [] 9 L S M Q = WP 142 [(.iload_n 1, 1, 0, 0), (.bipush 12, 12, 0, 0), (.if_icmp .ge 16, 10, 0, 0), (.aload_n 0, 0, 0, 0), (.getfield 49, 11, 20, 0), (.iload_n 1, 1, 0, 0), (.iconst 0, 0, 0, 0), (.iastore, 0, 0, 0), (.iinc 1 1, 1, 1, 0), (.goto (-16), 9, 0, 0)] 0 L S M Q := wp_blk rfl
theorem B_142_10 : ∀ (L : Lo) (S : List Value) (M : Mem) (Q : Option Value → Mem → Prop), WP 142 [] 10 L S M Q = WP 142 [(.iconst 0, 0, 0, 0), (.istore_n 1, 1, 0, 0)] 11 L S M Q := wp_blk rfl
theorem B_142_11 : ∀ (L : Lo) (S : List Value) (M : Mem) (Q : Option Value → Mem → Prop), WP 142 [] 11 L S M Q = WP 142 [(.iload_n 1, 1, 0, 0), (.bipush 24, 24, 0, 0), (.if_icmp .ge 14, 12, 0, 0), (.aload_n 0, 0, 0, 0), (.iload_n 1, 1, 0, 0), (.invokevirtual 199, 141, 1, 11), (.iinc 1 1, 1, 1, 0), (.goto (-14), 11, 0, 0)] 0 L S M Q := wp_blk rfl
theorem B_142_12 : ∀ (L : Lo) (S : List Value) (M : Mem) (Q : Option Value → Mem → Prop), WP 142 [] 12 L S M Q = WP 142 [(.return_, 0, 0, 0)] 0 L S M Q := wp_blk rfl
-- X11_find
theorem E_143 (q0 : Nat) (M : Mem) (Q : Option Value → Mem → Prop) : Ct 143 [.ref q0] M Q = WP 143 [] 0 [some (.ref q0)] [] M Q := ct_wp rfl M Q
theorem B_143_0 : ∀ (L : Lo) (S : List Value) (M : Mem) (Q : Option Value → Mem → Prop), WP 143 [] 0 L S M Q = WP 143 [(.aload_n 0, 0, 0, 0), (.invokevirtual 126, 119, 0, 11), (.pop, 0, 0, 0), (.aload_n 0, 0, 0, 0), (.invokevirtual 130, 121, 0, 11), (.pop, 0, 0, 0), (.aload_n 0, 0, 0, 0), (.invokevirtual 202, 142, 0, 11), (.return_, 0, 0, 0)] 0 L S M Q := wp_blk rfl
-- X11_standsIn
theorem E_144 (q0 : Nat) (q1 : Int32) (q2 : Int32) (M : Mem) (Q : Option Value → Mem → Prop) : Ct 144 [.ref q0, .int q1, .int q2] M Q = WP 144 [] 0 [some (.ref q0), some (.int q1), some (.int q2), none, none] [] M Q := ct_wp rfl M Q
theorem B_144_0 : ∀ (L : Lo) (S : List Value) (M : Mem) (Q : Option Value → Mem → Prop), WP 144 [] 0 L S M Q = WP 144 [(.iconst 0, 0, 0, 0), (.istore_n 3, 3, 0, 0), (.iconst 0, 0, 0, 0), (.istore 4, 4, 0, 0)] 1 L S M Q := wp_blk rfl
theorem B_144_1 : ∀ (L : Lo) (S : List Value) (M : Mem) (Q : Option Value → Mem → Prop), WP 144 [] 1 L S M Q = WP 144 [(.iload 4, 4, 0, 0), (.bipush 6, 6, 0, 0), (.if_icmp .ge 29, 2, 0, 0), (.iload_n 3, 3, 0, 0), (.aload_n 0, 0, 0, 0), (.getfield 55, 11, 22, 0), (.bipush 36, 36, 0, 0), (.iload_n 1, 1, 0, 0), (.imul, 0, 0, 0), (.bipush 6, 6, 0, 0), (.iload_n 2, 2, 0, 0), (.imul, 0, 0, 0), (.iadd, 0, 0, 0), (.iload 4, 4, 0, 0), (.iadd, 0, 0, 0), (.iaload, 0, 0, 0), (.iadd, 0, 0, 0), (.istore_n 3, 3, 0, 0), (.iinc 4 1, 4, 1, 0), (.goto (-30), 1, 0, 0)] 0 L S M Q := wp_blk rfl
theorem B_144_2 : ∀ (L : Lo) (S : List Value) (M : Mem) (Q : Option Value → Mem → Prop), WP 144 [] 2 L S M Q = WP 144 [(.iload_n 3, 3, 0, 0), (.ireturn, 0, 0, 0)] 0 L S M Q := wp_blk rfl
-- X11_columnBy
theorem E_145 (q0 : Nat) (q1 : Int32) (q2 : Int32) (q3 : Int32) (M : Mem) (Q : Option Value → Mem → Prop) : Ct 145 [.ref q0, .int q1, .int q2, .int q3] M Q = WP 145 [] 0 [some (.ref q0), some (.int q1), some (.int q2), some (.int q3)] [] M Q := ct_wp rfl M Q
theorem B_145_0 : ∀ (L : Lo) (S : List Value) (M : Mem) (Q : Option Value → Mem → Prop), WP 145 [] 0 L S M Q = WP 145 [(.iload_n 3, 3, 0, 0), (.ifCond .ne 17, 1, 0, 0), (.aload_n 0, 0, 0, 0), (.getfield 52, 11, 21, 0), (.bipush 6, 6, 0, 0), (.iload_n 1, 1, 0, 0), (.imul, 0, 0, 0), (.iload_n 2, 2, 0, 0), (.iadd, 0, 0, 0), (.iaload, 0, 0, 0), (.goto 9, 2, 0, 0)] 0 L S M Q := wp_blk rfl
theorem B_145_1 : ∀ (L : Lo) (S : List Value) (M : Mem) (Q : Option Value → Mem → Prop), WP 145 [] 1 L S M Q = WP 145 [(.aload_n 0, 0, 0, 0), (.iload_n 1, 1, 0, 0), (.iload_n 2, 2, 0, 0), (.invokevirtual 205, 144, 2, 11)] 2 L S M Q := wp_blk rfl
theorem B_145_2 : ∀ (L : Lo) (S : List Value) (M : Mem) (Q : Option Value → Mem → Prop), WP 145 [] 2 L S M Q = WP 145 [(.ireturn, 0, 0, 0)] 0 L S M Q := wp_blk rfl
-- X11_column
theorem E_146 (q0 : Nat) (q1 : Int32) (q2 : Int32) (q3 : Int32) (M : Mem) (Q : Option Value → Mem → Prop) : Ct 146 [.ref q0, .int q1, .int q2, .int q3] M Q = WP 146 [] 0 [some (.ref q0), some (.int q1), some (.int q2), some (.int q3)] [] M Q := ct_wp rfl M Q
theorem B_146_0 : ∀ (L : Lo) (S : List Value) (M : Mem) (Q : Option Value → Mem → Prop), WP 146 [] 0 L S M Q = WP 146 [(.aload_n 0, 0, 0, 0), (.invokevirtual 208, 143, 0, 11), (.iload_n 1, 1, 0, 0), (.invokestatic 152, 126, 1, 0), (.ifCond .eq 27, 1, 0, 0), (.iload_n 2, 2, 0, 0), (.invokestatic 140, 124, 1, 0), (.ifCond .eq 20, 1, 0, 0), (.iload_n 3, 3, 0, 0), (.invokestatic 104, 101, 1, 0), (.ifCond .eq 13, 1, 0, 0), (.aload_n 0, 0, 0, 0), (.iload_n 1, 1, 0, 0), (.iload_n 2, 2, 0, 0), (.iload_n 3, 3, 0, 0), (.invokevirtual 211, 145, 3, 11), (.goto 5, 2, 0, 0)] 0 L S M Q := wp_blk rfl
theorem B_146_1 : ∀ (L : Lo) (S : List Value) (M : Mem) (Q : Option Value → Mem → Prop), WP 146 [] 1 L S M Q = WP 146 [(.bipush (-2), 2, 1, 0)] 2 L S M Q := wp_blk rfl
theorem B_146_2 : ∀ (L : Lo) (S : List Value) (M : Mem) (Q : Option Value → Mem → Prop), WP 146 [] 2 L S M Q = WP 146 [(.ireturn, 0, 0, 0)] 0 L S M Q := wp_blk rfl
-- X11_block
theorem E_147 (q0 : Nat) (q1 : Int32) (q2 : Int32) (q3 : Int32) (M : Mem) (Q : Option Value → Mem → Prop) : Ct 147 [.ref q0, .int q1, .int q2, .int q3] M Q = WP 147 [] 0 [some (.ref q0), some (.int q1), some (.int q2), some (.int q3)] [] M Q := ct_wp rfl M Q
theorem B_147_0 : ∀ (L : Lo) (S : List Value) (M : Mem) (Q : Option Value → Mem → Prop), WP 147 [] 0 L S M Q = WP 147 [(.aload_n 0, 0, 0, 0), (.invokevirtual 208, 143, 0, 11), (.iload_n 1, 1, 0, 0), (.invokestatic 152, 126, 1, 0), (.ifCond .eq 41, 1, 0, 0), (.iload_n 2, 2, 0, 0), (.invokestatic 140, 124, 1, 0), (.ifCond .eq 34, 1, 0, 0), (.iload_n 3, 3, 0, 0), (.i2l, 0, 0, 0), (.lconst 0, 0, 0, 0), (.ldc2_w 136, 5, 0, 0), (.invokestatic 76, 99, 3, 0), (.ifCond .eq 22, 1, 0, 0), (.aload_n 0, 0, 0, 0), (.getfield 55, 11, 22, 0), (.bipush 36, 36, 0, 0), (.iload_n 1, 1, 0, 0), (.imul, 0, 0, 0), (.bipush 6, 6, 0, 0), (.iload_n 2, 2, 0, 0), (.imul, 0, 0, 0), (.iadd, 0, 0, 0), (.iload_n 3, 3, 0, 0), (.iadd, 0, 0, 0), (.iaload, 0, 0, 0), (.goto 5, 2, 0, 0)] 0 L S M Q := wp_blk rfl
theorem B_147_1 : ∀ (L : Lo) (S : List Value) (M : Mem) (Q : Option Value → Mem → Prop), WP 147 [] 1 L S M Q = WP 147 [(.bipush (-2), 2, 1, 0)] 2 L S M Q := wp_blk rfl
theorem B_147_2 : ∀ (L : Lo) (S : List Value) (M : Mem) (Q : Option Value → Mem → Prop), WP 147 [] 2 L S M Q = WP 147 [(.ireturn, 0, 0, 0)] 0 L S M Q := wp_blk rfl
-- X11_allIce
theorem E_148 (q0 : Nat) (q1 : Int32) (M : Mem) (Q : Option Value → Mem → Prop) : Ct 148 [.ref q0, .int q1] M Q = WP 148 [] 0 [some (.ref q0), some (.int q1), none, none] [] M Q := ct_wp rfl M Q
theorem B_148_0 : ∀ (L : Lo) (S : List Value) (M : Mem) (Q : Option Value → Mem → Prop), WP 148 [] 0 L S M Q = WP 148 [(.iconst 0, 0, 0, 0), (.istore_n 2, 2, 0, 0), (.iconst 0, 0, 0, 0), (.istore_n 3, 3, 0, 0)] 1 L S M Q := wp_blk rfl
theorem B_148_1 : ∀ (L : Lo) (S : List Value) (M : Mem) (Q : Option Value → Mem → Prop), WP 148 [] 1 L S M Q = WP 148 [(.iload_n 3, 3, 0, 0), (.bipush 36, 36, 0, 0), (.if_icmp .ge 23, 2, 0, 0), (.iload_n 2, 2, 0, 0), (.aload_n 0, 0, 0, 0), (.getfield 55, 11, 22, 0), (.bipush 36, 36, 0, 0), (.iload_n 1, 1, 0, 0), (.imul, 0, 0, 0), (.iload_n 3, 3, 0, 0), (.iadd, 0, 0, 0), (.iaload, 0, 0, 0), (.iadd, 0, 0, 0), (.istore_n 2, 2, 0, 0), (.iinc 3 1, 3, 1, 0), (.goto (-23), 1, 0, 0)] 0 L S M Q := wp_blk rfl
theorem B_148_2 : ∀ (L : Lo) (S : List Value) (M : Mem) (Q : Option Value → Mem → Prop), WP 148 [] 2 L S M Q = WP 148 [(.iload_n 2, 2, 0, 0), (.ireturn, 0, 0, 0)] 0 L S M Q := wp_blk rfl
-- X11_iceBy
theorem E_149 (q0 : Nat) (q1 : Int32) (q2 : Int32) (M : Mem) (Q : Option Value → Mem → Prop) : Ct 149 [.ref q0, .int q1, .int q2] M Q = WP 149 [] 0 [some (.ref q0), some (.int q1), some (.int q2)] [] M Q := ct_wp rfl M Q
theorem B_149_0 : ∀ (L : Lo) (S : List Value) (M : Mem) (Q : Option Value → Mem → Prop), WP 149 [] 0 L S M Q = WP 149 [(.iload_n 2, 2, 0, 0), (.ifCond .ne 11, 1, 0, 0), (.aload_n 0, 0, 0, 0), (.iload_n 1, 1, 0, 0), (.invokevirtual 214, 148, 1, 11), (.goto 9, 2, 0, 0)] 0 L S M Q := wp_blk rfl
theorem B_149_1 : ∀ (L : Lo) (S : List Value) (M : Mem) (Q : Option Value → Mem → Prop), WP 149 [] 1 L S M Q = WP 149 [(.aload_n 0, 0, 0, 0), (.getfield 58, 11, 23, 0), (.iload_n 1, 1, 0, 0), (.iaload, 0, 0, 0)] 2 L S M Q := wp_blk rfl
theorem B_149_2 : ∀ (L : Lo) (S : List Value) (M : Mem) (Q : Option Value → Mem → Prop), WP 149 [] 2 L S M Q = WP 149 [(.ireturn, 0, 0, 0)] 0 L S M Q := wp_blk rfl
-- X11_ice
theorem E_150 (q0 : Nat) (q1 : Int32) (q2 : Int32) (M : Mem) (Q : Option Value → Mem → Prop) : Ct 150 [.ref q0, .int q1, .int q2] M Q = WP 150 [] 0 [some (.ref q0), some (.int q1), some (.int q2)] [] M Q := ct_wp rfl M Q
theorem B_150_0 : ∀ (L : Lo) (S : List Value) (M : Mem) (Q : Option Value → Mem → Prop), WP 150 [] 0 L S M Q = WP 150 [(.aload_n 0, 0, 0, 0), (.invokevirtual 208, 143, 0, 11), (.iload_n 1, 1, 0, 0), (.invokestatic 152, 126, 1, 0), (.ifCond .eq 19, 1, 0, 0), (.iload_n 2, 2, 0, 0), (.invokestatic 104, 101, 1, 0), (.ifCond .eq 12, 1, 0, 0), (.aload_n 0, 0, 0, 0), (.iload_n 1, 1, 0, 0), (.iload_n 2, 2, 0, 0), (.invokevirtual 217, 149, 2, 11), (.goto 5, 2, 0, 0)] 0 L S M Q := wp_blk rfl
theorem B_150_1 : ∀ (L : Lo) (S : List Value) (M : Mem) (Q : Option Value → Mem → Prop), WP 150 [] 1 L S M Q = WP 150 [(.bipush (-2), 2, 1, 0)] 2 L S M Q := wp_blk rfl
theorem B_150_2 : ∀ (L : Lo) (S : List Value) (M : Mem) (Q : Option Value → Mem → Prop), WP 150 [] 2 L S M Q = WP 150 [(.ireturn, 0, 0, 0)] 0 L S M Q := wp_blk rfl
-- X11_isShort
theorem E_151 (q0 : Nat) (q1 : Int32) (M : Mem) (Q : Option Value → Mem → Prop) : Ct 151 [.ref q0, .int q1] M Q = WP 151 [] 0 [some (.ref q0), some (.int q1)] [] M Q := ct_wp rfl M Q
theorem B_151_0 : ∀ (L : Lo) (S : List Value) (M : Mem) (Q : Option Value → Mem → Prop), WP 151 [] 0 L S M Q = WP 151 [(.aload_n 0, 0, 0, 0), (.getfield 49, 11, 20, 0), (.iload_n 1, 1, 0, 0), (.iaload, 0, 0, 0), (.aload_n 0, 0, 0, 0), (.getfield 34, 11, 10, 0), (.iconst 2, 2, 0, 0), (.iload_n 1, 1, 0, 0), (.imul, 0, 0, 0), (.iconst 1, 1, 0, 0), (.iadd, 0, 0, 0), (.iaload, 0, 0, 0), (.if_icmp .ge 7, 1, 0, 0), (.iconst 1, 1, 0, 0), (.goto 4, 2, 0, 0)] 0 L S M Q := wp_blk rfl
theorem B_151_1 : ∀ (L : Lo) (S : List Value) (M : Mem) (Q : Option Value → Mem → Prop), WP 151 [] 1 L S M Q = WP 151 [(.iconst 0, 0, 0, 0)] 2 L S M Q := wp_blk rfl
theorem B_151_2 : ∀ (L : Lo) (S : List Value) (M : Mem) (Q : Option Value → Mem → Prop), WP 151 [] 2 L S M Q = WP 151 [(.ireturn, 1, 0, 0)] 0 L S M Q := wp_blk rfl
-- X11_gotBy
theorem E_152 (q0 : Nat) (q1 : Int32) (q2 : Int32) (M : Mem) (Q : Option Value → Mem → Prop) : Ct 152 [.ref q0, .int q1, .int q2] M Q = WP 152 [] 0 [some (.ref q0), some (.int q1), some (.int q2)] [] M Q := ct_wp rfl M Q
theorem B_152_0 : ∀ (L : Lo) (S : List Value) (M : Mem) (Q : Option Value → Mem → Prop), WP 152 [] 0 L S M Q = WP 152 [(.iload_n 2, 2, 0, 0), (.ifCond .ne 12, 1, 0, 0), (.aload_n 0, 0, 0, 0), (.getfield 49, 11, 20, 0), (.iload_n 1, 1, 0, 0), (.iaload, 0, 0, 0), (.goto 16, 3, 0, 0)] 0 L S M Q := wp_blk rfl
theorem B_152_1 : ∀ (L : Lo) (S : List Value) (M : Mem) (Q : Option Value → Mem → Prop), WP 152 [] 1 L S M Q = WP 152 [(.aload_n 0, 0, 0, 0), (.iload_n 1, 1, 0, 0), (.invokevirtual 220, 151, 1, 11), (.ifCond .eq 7, 2, 0, 0), (.iconst 1, 1, 0, 0), (.goto 4, 3, 0, 0)] 0 L S M Q := wp_blk rfl
theorem B_152_2 : ∀ (L : Lo) (S : List Value) (M : Mem) (Q : Option Value → Mem → Prop), WP 152 [] 2 L S M Q = WP 152 [(.iconst 0, 0, 0, 0)] 3 L S M Q := wp_blk rfl
theorem B_152_3 : ∀ (L : Lo) (S : List Value) (M : Mem) (Q : Option Value → Mem → Prop), WP 152 [] 3 L S M Q = WP 152 [(.ireturn, 0, 0, 0)] 0 L S M Q := wp_blk rfl
-- X11_got
theorem E_153 (q0 : Nat) (q1 : Int32) (q2 : Int32) (M : Mem) (Q : Option Value → Mem → Prop) : Ct 153 [.ref q0, .int q1, .int q2] M Q = WP 153 [] 0 [some (.ref q0), some (.int q1), some (.int q2)] [] M Q := ct_wp rfl M Q
theorem B_153_0 : ∀ (L : Lo) (S : List Value) (M : Mem) (Q : Option Value → Mem → Prop), WP 153 [] 0 L S M Q = WP 153 [(.aload_n 0, 0, 0, 0), (.invokevirtual 208, 143, 0, 11), (.aload_n 0, 0, 0, 0), (.iload_n 1, 1, 0, 0), (.invokevirtual 146, 125, 1, 11), (.ifCond .eq 19, 1, 0, 0), (.iload_n 2, 2, 0, 0), (.invokestatic 104, 101, 1, 0), (.ifCond .eq 12, 1, 0, 0), (.aload_n 0, 0, 0, 0), (.iload_n 1, 1, 0, 0), (.iload_n 2, 2, 0, 0), (.invokevirtual 223, 152, 2, 11), (.goto 5, 2, 0, 0)] 0 L S M Q := wp_blk rfl
theorem B_153_1 : ∀ (L : Lo) (S : List Value) (M : Mem) (Q : Option Value → Mem → Prop), WP 153 [] 1 L S M Q = WP 153 [(.bipush (-2), 2, 1, 0)] 2 L S M Q := wp_blk rfl
theorem B_153_2 : ∀ (L : Lo) (S : List Value) (M : Mem) (Q : Option Value → Mem → Prop), WP 153 [] 2 L S M Q = WP 153 [(.ireturn, 0, 0, 0)] 0 L S M Q := wp_blk rfl
-- X11_sumBy
theorem E_154 (q0 : Nat) (q1 : Int32) (M : Mem) (Q : Option Value → Mem → Prop) : Ct 154 [.ref q0, .int q1] M Q = WP 154 [] 0 [some (.ref q0), some (.int q1), none, none] [] M Q := ct_wp rfl M Q
theorem B_154_0 : ∀ (L : Lo) (S : List Value) (M : Mem) (Q : Option Value → Mem → Prop), WP 154 [] 0 L S M Q = WP 154 [(.iconst 0, 0, 0, 0), (.istore_n 2, 2, 0, 0), (.iconst 0, 0, 0, 0), (.istore_n 3, 3, 0, 0)] 1 L S M Q := wp_blk rfl
theorem B_154_1 : ∀ (L : Lo) (S : List Value) (M : Mem) (Q : Option Value → Mem → Prop), WP 154 [] 1 L S M Q = WP 154 [(.iload_n 3, 3, 0, 0), (.aload_n 0, 0, 0, 0), (.getfield 120, 11, 9, 0), (.if_icmp .ge 18, 2, 0, 0), (.iload_n 2, 2, 0, 0), (.aload_n 0, 0, 0, 0), (.iload_n 3, 3, 0, 0), (.iload_n 1, 1, 0, 0), (.invokevirtual 223, 152, 2, 11), (.iadd, 0, 0, 0), (.istore_n 2, 2, 0, 0), (.iinc 3 1, 3, 1, 0), (.goto (-20), 1, 0, 0)] 0 L S M Q := wp_blk rfl
theorem B_154_2 : ∀ (L : Lo) (S : List Value) (M : Mem) (Q : Option Value → Mem → Prop), WP 154 [] 2 L S M Q = WP 154 [(.iload_n 2, 2, 0, 0), (.ireturn, 0, 0, 0)] 0 L S M Q := wp_blk rfl
-- X11_sum
theorem E_155 (q0 : Nat) (q1 : Int32) (M : Mem) (Q : Option Value → Mem → Prop) : Ct 155 [.ref q0, .int q1] M Q = WP 155 [] 0 [some (.ref q0), some (.int q1)] [] M Q := ct_wp rfl M Q
theorem B_155_0 : ∀ (L : Lo) (S : List Value) (M : Mem) (Q : Option Value → Mem → Prop), WP 155 [] 0 L S M Q = WP 155 [(.aload_n 0, 0, 0, 0), (.invokevirtual 208, 143, 0, 11), (.iload_n 1, 1, 0, 0), (.invokestatic 104, 101, 1, 0), (.ifCond .eq 11, 1, 0, 0), (.aload_n 0, 0, 0, 0), (.iload_n 1, 1, 0, 0), (.invokevirtual 226, 154, 1, 11), (.goto 5, 2, 0, 0)] 0 L S M Q := wp_blk rfl
theorem B_155_1 : ∀ (L : Lo) (S : List Value) (M : Mem) (Q : Option Value → Mem → Prop), WP 155 [] 1 L S M Q = WP 155 [(.bipush (-2), 2, 1, 0)] 2 L S M Q := wp_blk rfl
theorem B_155_2 : ∀ (L : Lo) (S : List Value) (M : Mem) (Q : Option Value → Mem → Prop), WP 155 [] 2 L S M Q = WP 155 [(.ireturn, 0, 0, 0)] 0 L S M Q := wp_blk rfl
-- X11_bareOf
theorem E_156 (q0 : Nat) (q1 : Int32) (M : Mem) (Q : Option Value → Mem → Prop) : Ct 156 [.ref q0, .int q1] M Q = WP 156 [] 0 [some (.ref q0), some (.int q1), none, none] [] M Q := ct_wp rfl M Q
theorem B_156_0 : ∀ (L : Lo) (S : List Value) (M : Mem) (Q : Option Value → Mem → Prop), WP 156 [] 0 L S M Q = WP 156 [(.iconst (-1), 1, 1, 0), (.istore_n 2, 2, 0, 0), (.bipush 23, 23, 0, 0), (.istore_n 3, 3, 0, 0)] 1 L S M Q := wp_blk rfl
theorem B_156_1 : ∀ (L : Lo) (S : List Value) (M : Mem) (Q : Option Value → Mem → Prop), WP 156 [] 1 L S M Q = WP 156 [(.iload_n 3, 3, 0, 0), (.ifCond .lt 29, 4, 0, 0), (.aload_n 0, 0, 0, 0), (.getfield 52, 11, 21, 0), (.bipush 6, 6, 0, 0), (.iload_n 3, 3, 0, 0), (.imul, 0, 0, 0), (.iload_n 1, 1, 0, 0), (.iadd, 0, 0, 0), (.iaload, 0, 0, 0), (.ifCond .ne 7, 2, 0, 0), (.iload_n 3, 3, 0, 0), (.goto 4, 3, 0, 0)] 0 L S M Q := wp_blk rfl
theorem B_156_2 : ∀ (L : Lo) (S : List Value) (M : Mem) (Q : Option Value → Mem → Prop), WP 156 [] 2 L S M Q = WP 156 [(.iload_n 2, 2, 0, 0)] 3 L S M Q := wp_blk rfl
theorem B_156_3 : ∀ (L : Lo) (S : List Value) (M : Mem) (Q : Option Value → Mem → Prop), WP 156 [] 3 L S M Q = WP 156 [(.istore_n 2, 2, 0, 0), (.iinc 3 (-1), 3, 1, 1), (.goto (-27), 1, 0, 0)] 0 L S M Q := wp_blk rfl
theorem B_156_4 : ∀ (L : Lo) (S : List Value) (M : Mem) (Q : Option Value → Mem → Prop), WP 156 [] 4 L S M Q = WP 156 [(.iload_n 2, 2, 0, 0), (.ireturn, 0, 0, 0)] 0 L S M Q := wp_blk rfl
-- X11_bare
theorem E_157 (q0 : Nat) (q1 : Int32) (M : Mem) (Q : Option Value → Mem → Prop) : Ct 157 [.ref q0, .int q1] M Q = WP 157 [] 0 [some (.ref q0), some (.int q1)] [] M Q := ct_wp rfl M Q
theorem B_157_0 : ∀ (L : Lo) (S : List Value) (M : Mem) (Q : Option Value → Mem → Prop), WP 157 [] 0 L S M Q = WP 157 [(.aload_n 0, 0, 0, 0), (.invokevirtual 208, 143, 0, 11), (.iload_n 1, 1, 0, 0), (.invokestatic 140, 124, 1, 0), (.ifCond .eq 11, 1, 0, 0), (.aload_n 0, 0, 0, 0), (.iload_n 1, 1, 0, 0), (.invokevirtual 229, 156, 1, 11), (.goto 5, 2, 0, 0)] 0 L S M Q := wp_blk rfl
theorem B_157_1 : ∀ (L : Lo) (S : List Value) (M : Mem) (Q : Option Value → Mem → Prop), WP 157 [] 1 L S M Q = WP 157 [(.bipush (-2), 2, 1, 0)] 2 L S M Q := wp_blk rfl
theorem B_157_2 : ∀ (L : Lo) (S : List Value) (M : Mem) (Q : Option Value → Mem → Prop), WP 157 [] 2 L S M Q = WP 157 [(.ireturn, 0, 0, 0)] 0 L S M Q := wp_blk rfl
-- X11_lastNow
theorem E_158 (q0 : Nat) (M : Mem) (Q : Option Value → Mem → Prop) : Ct 158 [.ref q0] M Q = WP 158 [] 0 [some (.ref q0), none, none] [] M Q := ct_wp rfl M Q
theorem B_158_0 : ∀ (L : Lo) (S : List Value) (M : Mem) (Q : Option Value → Mem → Prop), WP 158 [] 0 L S M Q = WP 158 [(.iconst (-1), 1, 1, 0), (.istore_n 1, 1, 0, 0), (.bipush 23, 23, 0, 0), (.istore_n 2, 2, 0, 0)] 1 L S M Q := wp_blk rfl
theorem B_158_1 : ∀ (L : Lo) (S : List Value) (M : Mem) (Q : Option Value → Mem → Prop), WP 158 [] 1 L S M Q = WP 158 [(.iload_n 2, 2, 0, 0), (.ifCond .lt 23, 4, 0, 0), (.aload_n 0, 0, 0, 0), (.iload_n 2, 2, 0, 0), (.invokevirtual 214, 148, 1, 11), (.ifCond .ne 7, 2, 0, 0), (.iload_n 2, 2, 0, 0), (.goto 4, 3, 0, 0)] 0 L S M Q := wp_blk rfl
theorem B_158_2 : ∀ (L : Lo) (S : List Value) (M : Mem) (Q : Option Value → Mem → Prop), WP 158 [] 2 L S M Q = WP 158 [(.iload_n 1, 1, 0, 0)] 3 L S M Q := wp_blk rfl
theorem B_158_3 : ∀ (L : Lo) (S : List Value) (M : Mem) (Q : Option Value → Mem → Prop), WP 158 [] 3 L S M Q = WP 158 [(.istore_n 1, 1, 0, 0), (.iinc 2 (-1), 2, 1, 1), (.goto (-21), 1, 0, 0)] 0 L S M Q := wp_blk rfl
theorem B_158_4 : ∀ (L : Lo) (S : List Value) (M : Mem) (Q : Option Value → Mem → Prop), WP 158 [] 4 L S M Q = WP 158 [(.iload_n 1, 1, 0, 0), (.ireturn, 0, 0, 0)] 0 L S M Q := wp_blk rfl
-- X11_last
theorem E_159 (q0 : Nat) (M : Mem) (Q : Option Value → Mem → Prop) : Ct 159 [.ref q0] M Q = WP 159 [] 0 [some (.ref q0)] [] M Q := ct_wp rfl M Q
theorem B_159_0 : ∀ (L : Lo) (S : List Value) (M : Mem) (Q : Option Value → Mem → Prop), WP 159 [] 0 L S M Q = WP 159 [(.aload_n 0, 0, 0, 0), (.invokevirtual 208, 143, 0, 11), (.aload_n 0, 0, 0, 0), (.invokevirtual 232, 158, 0, 11), (.ireturn, 0, 0, 0)] 0 L S M Q := wp_blk rfl
-- X11_tallNow
theorem E_160 (q0 : Nat) (M : Mem) (Q : Option Value → Mem → Prop) : Ct 160 [.ref q0] M Q = WP 160 [] 0 [some (.ref q0), none, none] [] M Q := ct_wp rfl M Q
theorem B_160_0 : ∀ (L : Lo) (S : List Value) (M : Mem) (Q : Option Value → Mem → Prop), WP 160 [] 0 L S M Q = WP 160 [(.iconst 0, 0, 0, 0), (.istore_n 1, 1, 0, 0), (.iconst 1, 1, 0, 0), (.istore_n 2, 2, 0, 0)] 1 L S M Q := wp_blk rfl
theorem B_160_1 : ∀ (L : Lo) (S : List Value) (M : Mem) (Q : Option Value → Mem → Prop), WP 160 [] 1 L S M Q = WP 160 [(.iload_n 2, 2, 0, 0), (.bipush 6, 6, 0, 0), (.if_icmp .ge 30, 4, 0, 0), (.aload_n 0, 0, 0, 0), (.getfield 40, 11, 17, 0), (.iload_n 2, 2, 0, 0), (.iaload, 0, 0, 0), (.aload_n 0, 0, 0, 0), (.getfield 40, 11, 17, 0), (.iload_n 1, 1, 0, 0), (.iaload, 0, 0, 0), (.if_icmp .le 7, 2, 0, 0), (.iload_n 2, 2, 0, 0), (.goto 4, 3, 0, 0)] 0 L S M Q := wp_blk rfl
theorem B_160_2 : ∀ (L : Lo) (S : List Value) (M : Mem) (Q : Option Value → Mem → Prop), WP 160 [] 2 L S M Q = WP 160 [(.iload_n 1, 1, 0, 0)] 3 L S M Q := wp_blk rfl
theorem B_160_3 : ∀ (L : Lo) (S : List Value) (M : Mem) (Q : Option Value → Mem → Prop), WP 160 [] 3 L S M Q = WP 160 [(.istore_n 1, 1, 0, 0), (.iinc 2 1, 2, 1, 0), (.goto (-30), 1, 0, 0)] 0 L S M Q := wp_blk rfl
theorem B_160_4 : ∀ (L : Lo) (S : List Value) (M : Mem) (Q : Option Value → Mem → Prop), WP 160 [] 4 L S M Q = WP 160 [(.iload_n 1, 1, 0, 0), (.ireturn, 0, 0, 0)] 0 L S M Q := wp_blk rfl
-- X11_tall
theorem E_161 (q0 : Nat) (M : Mem) (Q : Option Value → Mem → Prop) : Ct 161 [.ref q0] M Q = WP 161 [] 0 [some (.ref q0)] [] M Q := ct_wp rfl M Q
theorem B_161_0 : ∀ (L : Lo) (S : List Value) (M : Mem) (Q : Option Value → Mem → Prop), WP 161 [] 0 L S M Q = WP 161 [(.aload_n 0, 0, 0, 0), (.invokevirtual 208, 143, 0, 11), (.aload_n 0, 0, 0, 0), (.invokevirtual 235, 160, 0, 11), (.ireturn, 0, 0, 0)] 0 L S M Q := wp_blk rfl
-- X11_drainBy
theorem E_162 (q0 : Nat) (q1 : Int32) (M : Mem) (Q : Option Value → Mem → Prop) : Ct 162 [.ref q0, .int q1] M Q = WP 162 [] 0 [some (.ref q0), some (.int q1), none, none] [] M Q := ct_wp rfl M Q
theorem B_162_0 : ∀ (L : Lo) (S : List Value) (M : Mem) (Q : Option Value → Mem → Prop), WP 162 [] 0 L S M Q = WP 162 [(.iconst 0, 0, 0, 0), (.istore_n 2, 2, 0, 0), (.iconst 1, 1, 0, 0), (.istore_n 3, 3, 0, 0)] 1 L S M Q := wp_blk rfl
theorem B_162_1 : ∀ (L : Lo) (S : List Value) (M : Mem) (Q : Option Value → Mem → Prop), WP 162 [] 1 L S M Q = WP 162 [(.iload_n 3, 3, 0, 0), (.bipush 24, 24, 0, 0), (.if_icmp .ge 30, 4, 0, 0), (.aload_n 0, 0, 0, 0), (.getfield 58, 11, 23, 0), (.iload_n 3, 3, 0, 0), (.iaload, 0, 0, 0), (.aload_n 0, 0, 0, 0), (.getfield 58, 11, 23, 0), (.iload_n 2, 2, 0, 0), (.iaload, 0, 0, 0), (.if_icmp .le 7, 2, 0, 0), (.iload_n 3, 3, 0, 0), (.goto 4, 3, 0, 0)] 0 L S M Q := wp_blk rfl
theorem B_162_2 : ∀ (L : Lo) (S : List Value) (M : Mem) (Q : Option Value → Mem → Prop), WP 162 [] 2 L S M Q = WP 162 [(.iload_n 2, 2, 0, 0)] 3 L S M Q := wp_blk rfl
theorem B_162_3 : ∀ (L : Lo) (S : List Value) (M : Mem) (Q : Option Value → Mem → Prop), WP 162 [] 3 L S M Q = WP 162 [(.istore_n 2, 2, 0, 0), (.iinc 3 1, 3, 1, 0), (.goto (-30), 1, 0, 0)] 0 L S M Q := wp_blk rfl
theorem B_162_4 : ∀ (L : Lo) (S : List Value) (M : Mem) (Q : Option Value → Mem → Prop), WP 162 [] 4 L S M Q = WP 162 [(.iload_n 1, 1, 0, 0), (.ifCond .ne 7, 5, 0, 0), (.iload_n 2, 2, 0, 0), (.goto 9, 6, 0, 0)] 0 L S M Q := wp_blk rfl
theorem B_162_5 : ∀ (L : Lo) (S : List Value) (M : Mem) (Q : Option Value → Mem → Prop), WP 162 [] 5 L S M Q = WP 162 [(.aload_n 0, 0, 0, 0), (.getfield 58, 11, 23, 0), (.iload_n 2, 2, 0, 0), (.iaload, 0, 0, 0)] 6 L S M Q := wp_blk rfl
theorem B_162_6 : ∀ (L : Lo) (S : List Value) (M : Mem) (Q : Option Value → Mem → Prop), WP 162 [] 6 L S M Q = WP 162 [(.ireturn, 0, 0, 0)] 0 L S M Q := wp_blk rfl
-- X11_drain
theorem E_163 (q0 : Nat) (q1 : Int32) (M : Mem) (Q : Option Value → Mem → Prop) : Ct 163 [.ref q0, .int q1] M Q = WP 163 [] 0 [some (.ref q0), some (.int q1)] [] M Q := ct_wp rfl M Q
theorem B_163_0 : ∀ (L : Lo) (S : List Value) (M : Mem) (Q : Option Value → Mem → Prop), WP 163 [] 0 L S M Q = WP 163 [(.aload_n 0, 0, 0, 0), (.invokevirtual 208, 143, 0, 11), (.iload_n 1, 1, 0, 0), (.invokestatic 104, 101, 1, 0), (.ifCond .eq 11, 1, 0, 0), (.aload_n 0, 0, 0, 0), (.iload_n 1, 1, 0, 0), (.invokevirtual 238, 162, 1, 11), (.goto 5, 2, 0, 0)] 0 L S M Q := wp_blk rfl
theorem B_163_1 : ∀ (L : Lo) (S : List Value) (M : Mem) (Q : Option Value → Mem → Prop), WP 163 [] 1 L S M Q = WP 163 [(.bipush (-2), 2, 1, 0)] 2 L S M Q := wp_blk rfl
theorem B_163_2 : ∀ (L : Lo) (S : List Value) (M : Mem) (Q : Option Value → Mem → Prop), WP 163 [] 2 L S M Q = WP 163 [(.ireturn, 0, 0, 0)] 0 L S M Q := wp_blk rfl
-- X11_coverBy
theorem E_164 (q0 : Nat) (q1 : Int32) (M : Mem) (Q : Option Value → Mem → Prop) : Ct 164 [.ref q0, .int q1] M Q = WP 164 [] 0 [some (.ref q0), some (.int q1), none, none, none, none] [] M Q := ct_wp rfl M Q
theorem B_164_0 : ∀ (L : Lo) (S : List Value) (M : Mem) (Q : Option Value → Mem → Prop), WP 164 [] 0 L S M Q = WP 164 [(.iconst (-1), 1, 1, 0), (.istore_n 2, 2, 0, 0), (.iconst (-1), 1, 1, 0), (.istore_n 3, 3, 0, 0), (.iconst 0, 0, 0, 0), (.istore 4, 4, 0, 0)] 1 L S M Q := wp_blk rfl
theorem B_164_1 : ∀ (L : Lo) (S : List Value) (M : Mem) (Q : Option Value → Mem → Prop), WP 164 [] 1 L S M Q = WP 164 [(.iload 4, 4, 0, 0), (.bipush 6, 6, 0, 0), (.if_icmp .ge 47, 4, 0, 0), (.aload_n 0, 0, 0, 0), (.iload 4, 4, 0, 0), (.putfield 70, 11, 14, 0), (.aload_n 0, 0, 0, 0), (.invokevirtual 202, 142, 0, 11), (.aload_n 0, 0, 0, 0), (.bipush 23, 23, 0, 0), (.invokevirtual 214, 148, 1, 11), (.istore 5, 5, 0, 0), (.iload 5, 5, 0, 0), (.iload_n 3, 3, 0, 0), (.if_icmp .le 8, 2, 0, 0), (.iload 4, 4, 0, 0), (.goto 4, 3, 0, 0)] 0 L S M Q := wp_blk rfl
theorem B_164_2 : ∀ (L : Lo) (S : List Value) (M : Mem) (Q : Option Value → Mem → Prop), WP 164 [] 2 L S M Q = WP 164 [(.iload_n 2, 2, 0, 0)] 3 L S M Q := wp_blk rfl
theorem B_164_3 : ∀ (L : Lo) (S : List Value) (M : Mem) (Q : Option Value → Mem → Prop), WP 164 [] 3 L S M Q = WP 164 [(.istore_n 2, 2, 0, 0), (.iload 5, 5, 0, 0), (.iload_n 3, 3, 0, 0), (.invokestatic 241, 104, 2, 0), (.istore_n 3, 3, 0, 0), (.iinc 4 1, 4, 1, 0), (.goto (-48), 1, 0, 0)] 0 L S M Q := wp_blk rfl
theorem B_164_4 : ∀ (L : Lo) (S : List Value) (M : Mem) (Q : Option Value → Mem → Prop), WP 164 [] 4 L S M Q = WP 164 [(.aload_n 0, 0, 0, 0), (.iconst (-1), 1, 1, 0), (.putfield 70, 11, 14, 0), (.iload_n 1, 1, 0, 0), (.ifCond .ne 7, 5, 0, 0), (.iload_n 2, 2, 0, 0), (.goto 4, 6, 0, 0)] 0 L S M Q := wp_blk rfl
theorem B_164_5 : ∀ (L : Lo) (S : List Value) (M : Mem) (Q : Option Value → Mem → Prop), WP 164 [] 5 L S M Q = WP 164 [(.iload_n 3, 3, 0, 0)] 6 L S M Q := wp_blk rfl
theorem B_164_6 : ∀ (L : Lo) (S : List Value) (M : Mem) (Q : Option Value → Mem → Prop), WP 164 [] 6 L S M Q = WP 164 [(.ireturn, 0, 0, 0)] 0 L S M Q := wp_blk rfl
-- X11_cover
theorem E_165 (q0 : Nat) (q1 : Int32) (M : Mem) (Q : Option Value → Mem → Prop) : Ct 165 [.ref q0, .int q1] M Q = WP 165 [] 0 [some (.ref q0), some (.int q1)] [] M Q := ct_wp rfl M Q
theorem B_165_0 : ∀ (L : Lo) (S : List Value) (M : Mem) (Q : Option Value → Mem → Prop), WP 165 [] 0 L S M Q = WP 165 [(.aload_n 0, 0, 0, 0), (.invokevirtual 208, 143, 0, 11), (.iload_n 1, 1, 0, 0), (.invokestatic 104, 101, 1, 0), (.ifCond .eq 11, 1, 0, 0), (.aload_n 0, 0, 0, 0), (.iload_n 1, 1, 0, 0), (.invokevirtual 244, 164, 1, 11), (.goto 5, 2, 0, 0)] 0 L S M Q := wp_blk rfl
theorem B_165_1 : ∀ (L : Lo) (S : List Value) (M : Mem) (Q : Option Value → Mem → Prop), WP 165 [] 1 L S M Q = WP 165 [(.bipush (-2), 2, 1, 0)] 2 L S M Q := wp_blk rfl
theorem B_165_2 : ∀ (L : Lo) (S : List Value) (M : Mem) (Q : Option Value → Mem → Prop), WP 165 [] 2 L S M Q = WP 165 [(.ireturn, 0, 0, 0)] 0 L S M Q := wp_blk rfl
-- X11_swapBy
theorem E_166 (q0 : Nat) (q1 : Int32) (M : Mem) (Q : Option Value → Mem → Prop) : Ct 166 [.ref q0, .int q1] M Q = WP 166 [] 0 [some (.ref q0), some (.int q1), none, none, none, none] [] M Q := ct_wp rfl M Q
theorem B_166_0 : ∀ (L : Lo) (S : List Value) (M : Mem) (Q : Option Value → Mem → Prop), WP 166 [] 0 L S M Q = WP 166 [(.iconst (-1), 1, 1, 0), (.istore_n 2, 2, 0, 0), (.iconst (-1), 1, 1, 0), (.istore_n 3, 3, 0, 0), (.iconst 0, 0, 0, 0), (.istore 4, 4, 0, 0)] 1 L S M Q := wp_blk rfl
theorem B_166_1 : ∀ (L : Lo) (S : List Value) (M : Mem) (Q : Option Value → Mem → Prop), WP 166 [] 1 L S M Q = WP 166 [(.iload 4, 4, 0, 0), (.bipush 36, 36, 0, 0), (.if_icmp .ge 72, 5, 0, 0), (.iload 4, 4, 0, 0), (.bipush 6, 6, 0, 0), (.idiv, 0, 0, 0), (.iload 4, 4, 0, 0), (.bipush 6, 6, 0, 0), (.irem, 0, 0, 0), (.if_icmp .ge 53, 4, 0, 0), (.aload_n 0, 0, 0, 0), (.iload 4, 4, 0, 0), (.bipush 6, 6, 0, 0), (.idiv, 0, 0, 0), (.putfield 193, 11, 15, 0), (.aload_n 0, 0, 0, 0), (.iload 4, 4, 0, 0), (.bipush 6, 6, 0, 0), (.irem, 0, 0, 0), (.putfield 196, 11, 16, 0), (.aload_n 0, 0, 0, 0), (.invokevirtual 202, 142, 0, 11), (.aload_n 0, 0, 0, 0), (.bipush 23, 23, 0, 0), (.invokevirtual 214, 148, 1, 11), (.istore 5, 5, 0, 0), (.iload 5, 5, 0, 0), (.iload_n 3, 3, 0, 0), (.if_icmp .le 8, 2, 0, 0), (.iload 4, 4, 0, 0), (.goto 4, 3, 0, 0)] 0 L S M Q := wp_blk rfl
theorem B_166_2 : ∀ (L : Lo) (S : List Value) (M : Mem) (Q : Option Value → Mem → Prop), WP 166 [] 2 L S M Q = WP 166 [(.iload_n 2, 2, 0, 0)] 3 L S M Q := wp_blk rfl
theorem B_166_3 : ∀ (L : Lo) (S : List Value) (M : Mem) (Q : Option Value → Mem → Prop), WP 166 [] 3 L S M Q = WP 166 [(.istore_n 2, 2, 0, 0), (.iload 5, 5, 0, 0), (.iload_n 3, 3, 0, 0), (.invokestatic 241, 104, 2, 0), (.istore_n 3, 3, 0, 0)] 4 L S M Q := wp_blk rfl
theorem B_166_4 : ∀ (L : Lo) (S : List Value) (M : Mem) (Q : Option Value → Mem → Prop), WP 166 [] 4 L S M Q = WP 166 [(.iinc 4 1, 4, 1, 0), (.goto (-73), 1, 0, 0)] 0 L S M Q := wp_blk rfl
theorem B_166_5 : ∀ (L : Lo) (S : List Value) (M : Mem) (Q : Option Value → Mem → Prop), WP 166 [] 5 L S M Q = WP 166 [(.aload_n 0, 0, 0, 0), (.iconst 0, 0, 0, 0), (.putfield 193, 11, 15, 0), (.aload_n 0, 0, 0, 0), (.iconst 0, 0, 0, 0), (.putfield 196, 11, 16, 0), (.iload_n 1, 1, 0, 0), (.ifCond .ne 10, 6, 0, 0), (.iload_n 2, 2, 0, 0), (.bipush 6, 6, 0, 0), (.idiv, 0, 0, 0), (.goto 16, 8, 0, 0)] 0 L S M Q := wp_blk rfl
theorem B_166_6 : ∀ (L : Lo) (S : List Value) (M : Mem) (Q : Option Value → Mem → Prop), WP 166 [] 6 L S M Q = WP 166 [(.iload_n 1, 1, 0, 0), (.iconst 1, 1, 0, 0), (.if_icmp .ne 10, 7, 0, 0), (.iload_n 2, 2, 0, 0), (.bipush 6, 6, 0, 0), (.irem, 0, 0, 0), (.goto 4, 8, 0, 0)] 0 L S M Q := wp_blk rfl
theorem B_166_7 : ∀ (L : Lo) (S : List Value) (M : Mem) (Q : Option Value → Mem → Prop), WP 166 [] 7 L S M Q = WP 166 [(.iload_n 3, 3, 0, 0)] 8 L S M Q := wp_blk rfl
theorem B_166_8 : ∀ (L : Lo) (S : List Value) (M : Mem) (Q : Option Value → Mem → Prop), WP 166 [] 8 L S M Q = WP 166 [(.ireturn, 0, 0, 0)] 0 L S M Q := wp_blk rfl
-- X11_swap
theorem E_167 (q0 : Nat) (q1 : Int32) (M : Mem) (Q : Option Value → Mem → Prop) : Ct 167 [.ref q0, .int q1] M Q = WP 167 [] 0 [some (.ref q0), some (.int q1)] [] M Q := ct_wp rfl M Q
theorem B_167_0 : ∀ (L : Lo) (S : List Value) (M : Mem) (Q : Option Value → Mem → Prop), WP 167 [] 0 L S M Q = WP 167 [(.aload_n 0, 0, 0, 0), (.invokevirtual 208, 143, 0, 11), (.iload_n 1, 1, 0, 0), (.i2l, 0, 0, 0), (.lconst 0, 0, 0, 0), (.ldc2_w 89, 2, 0, 0), (.invokestatic 76, 99, 3, 0), (.ifCond .eq 11, 1, 0, 0), (.aload_n 0, 0, 0, 0), (.iload_n 1, 1, 0, 0), (.invokevirtual 247, 166, 1, 11), (.goto 5, 2, 0, 0)] 0 L S M Q := wp_blk rfl
theorem B_167_1 : ∀ (L : Lo) (S : List Value) (M : Mem) (Q : Option Value → Mem → Prop), WP 167 [] 1 L S M Q = WP 167 [(.bipush (-2), 2, 1, 0)] 2 L S M Q := wp_blk rfl
theorem B_167_2 : ∀ (L : Lo) (S : List Value) (M : Mem) (Q : Option Value → Mem → Prop), WP 167 [] 2 L S M Q = WP 167 [(.ireturn, 0, 0, 0)] 0 L S M Q := wp_blk rfl
-- X11_laterOf
theorem E_168 (q0 : Nat) (q1 : Int32) (q2 : Int32) (M : Mem) (Q : Option Value → Mem → Prop) : Ct 168 [.ref q0, .int q1, .int q2] M Q = WP 168 [] 0 [some (.ref q0), some (.int q1), some (.int q2), none, none, none, none, none] [] M Q := ct_wp rfl M Q
theorem B_168_0 : ∀ (L : Lo) (S : List Value) (M : Mem) (Q : Option Value → Mem → Prop), WP 168 [] 0 L S M Q = WP 168 [(.aload_n 0, 0, 0, 0), (.getfield 34, 11, 10, 0), (.iconst 2, 2, 0, 0), (.iload_n 1, 1, 0, 0), (.imul, 0, 0, 0), (.iaload, 0, 0, 0), (.istore_n 3, 3, 0, 0), (.iconst (-1), 1, 1, 0), (.istore 4, 4, 0, 0), (.bipush 99, 99, 0, 0), (.istore 5, 5, 0, 0), (.iconst 0, 0, 0, 0), (.istore 6, 6, 0, 0)] 1 L S M Q := wp_blk rfl
theorem B_168_1 : ∀ (L : Lo) (S : List Value) (M : Mem) (Q : Option Value → Mem → Prop), WP 168 [] 1 L S M Q = WP 168 [(.iload 6, 6, 0, 0), (.bipush 24, 24, 0, 0), (.if_icmp .ge 55, 4, 0, 0), (.aload_n 0, 0, 0, 0), (.getfield 34, 11, 10, 0), (.iconst 2, 2, 0, 0), (.iload_n 1, 1, 0, 0), (.imul, 0, 0, 0), (.iload 6, 6, 0, 0), (.iastore, 0, 0, 0), (.aload_n 0, 0, 0, 0), (.invokevirtual 202, 142, 0, 11), (.aload_n 0, 0, 0, 0), (.iconst 1, 1, 0, 0), (.invokevirtual 226, 154, 1, 11), (.istore 7, 7, 0, 0), (.iload 7, 7, 0, 0), (.iload 5, 5, 0, 0), (.if_icmp .ge 8, 2, 0, 0), (.iload 6, 6, 0, 0), (.goto 5, 3, 0, 0)] 0 L S M Q := wp_blk rfl
theorem B_168_2 : ∀ (L : Lo) (S : List Value) (M : Mem) (Q : Option Value → Mem → Prop), WP 168 [] 2 L S M Q = WP 168 [(.iload 4, 4, 0, 0)] 3 L S M Q := wp_blk rfl
theorem B_168_3 : ∀ (L : Lo) (S : List Value) (M : Mem) (Q : Option Value → Mem → Prop), WP 168 [] 3 L S M Q = WP 168 [(.istore 4, 4, 0, 0), (.iload 7, 7, 0, 0), (.iload 5, 5, 0, 0), (.invokestatic 183, 103, 2, 0), (.istore 5, 5, 0, 0), (.iinc 6 1, 6, 1, 0), (.goto (-56), 1, 0, 0)] 0 L S M Q := wp_blk rfl
theorem B_168_4 : ∀ (L : Lo) (S : List Value) (M : Mem) (Q : Option Value → Mem → Prop), WP 168 [] 4 L S M Q = WP 168 [(.aload_n 0, 0, 0, 0), (.getfield 34, 11, 10, 0), (.iconst 2, 2, 0, 0), (.iload_n 1, 1, 0, 0), (.imul, 0, 0, 0), (.iload_n 3, 3, 0, 0), (.iastore, 0, 0, 0), (.iload_n 2, 2, 0, 0), (.ifCond .ne 8, 5, 0, 0), (.iload 4, 4, 0, 0), (.goto 5, 6, 0, 0)] 0 L S M Q := wp_blk rfl
theorem B_168_5 : ∀ (L : Lo) (S : List Value) (M : Mem) (Q : Option Value → Mem → Prop), WP 168 [] 5 L S M Q = WP 168 [(.iload 5, 5, 0, 0)] 6 L S M Q := wp_blk rfl
theorem B_168_6 : ∀ (L : Lo) (S : List Value) (M : Mem) (Q : Option Value → Mem → Prop), WP 168 [] 6 L S M Q = WP 168 [(.ireturn, 0, 0, 0)] 0 L S M Q := wp_blk rfl
-- X11_later
theorem E_169 (q0 : Nat) (q1 : Int32) (q2 : Int32) (M : Mem) (Q : Option Value → Mem → Prop) : Ct 169 [.ref q0, .int q1, .int q2] M Q = WP 169 [] 0 [some (.ref q0), some (.int q1), some (.int q2)] [] M Q := ct_wp rfl M Q
theorem B_169_0 : ∀ (L : Lo) (S : List Value) (M : Mem) (Q : Option Value → Mem → Prop), WP 169 [] 0 L S M Q = WP 169 [(.aload_n 0, 0, 0, 0), (.invokevirtual 208, 143, 0, 11), (.aload_n 0, 0, 0, 0), (.iload_n 1, 1, 0, 0), (.invokevirtual 146, 125, 1, 11), (.ifCond .eq 19, 1, 0, 0), (.iload_n 2, 2, 0, 0), (.invokestatic 104, 101, 1, 0), (.ifCond .eq 12, 1, 0, 0), (.aload_n 0, 0, 0, 0), (.iload_n 1, 1, 0, 0), (.iload_n 2, 2, 0, 0), (.invokevirtual 250, 168, 2, 11), (.goto 5, 2, 0, 0)] 0 L S M Q := wp_blk rfl
theorem B_169_1 : ∀ (L : Lo) (S : List Value) (M : Mem) (Q : Option Value → Mem → Prop), WP 169 [] 1 L S M Q = WP 169 [(.bipush (-2), 2, 1, 0)] 2 L S M Q := wp_blk rfl
theorem B_169_2 : ∀ (L : Lo) (S : List Value) (M : Mem) (Q : Option Value → Mem → Prop), WP 169 [] 2 L S M Q = WP 169 [(.ireturn, 0, 0, 0)] 0 L S M Q := wp_blk rfl
-- X11_isSpared
theorem E_170 (q0 : Nat) (q1 : Int32) (M : Mem) (Q : Option Value → Mem → Prop) : Ct 170 [.ref q0, .int q1] M Q = WP 170 [] 0 [some (.ref q0), some (.int q1)] [] M Q := ct_wp rfl M Q
theorem B_170_0 : ∀ (L : Lo) (S : List Value) (M : Mem) (Q : Option Value → Mem → Prop), WP 170 [] 0 L S M Q = WP 170 [(.aload_n 0, 0, 0, 0), (.iload_n 1, 1, 0, 0), (.putfield 161, 11, 13, 0), (.aload_n 0, 0, 0, 0), (.invokevirtual 202, 142, 0, 11), (.aload_n 0, 0, 0, 0), (.iconst 0, 0, 0, 0), (.putfield 161, 11, 13, 0), (.aload_n 0, 0, 0, 0), (.iconst 1, 1, 0, 0), (.invokevirtual 226, 154, 1, 11), (.ifCond .ne 7, 1, 0, 0), (.iconst 1, 1, 0, 0), (.goto 4, 2, 0, 0)] 0 L S M Q := wp_blk rfl
theorem B_170_1 : ∀ (L : Lo) (S : List Value) (M : Mem) (Q : Option Value → Mem → Prop), WP 170 [] 1 L S M Q = WP 170 [(.iconst 0, 0, 0, 0)] 2 L S M Q := wp_blk rfl
theorem B_170_2 : ∀ (L : Lo) (S : List Value) (M : Mem) (Q : Option Value → Mem → Prop), WP 170 [] 2 L S M Q = WP 170 [(.ireturn, 1, 0, 0)] 0 L S M Q := wp_blk rfl
-- X11_spareBy
theorem E_171 (q0 : Nat) (q1 : Int32) (M : Mem) (Q : Option Value → Mem → Prop) : Ct 171 [.ref q0, .int q1] M Q = WP 171 [] 0 [some (.ref q0), some (.int q1), none, none] [] M Q := ct_wp rfl M Q
theorem B_171_0 : ∀ (L : Lo) (S : List Value) (M : Mem) (Q : Option Value → Mem → Prop), WP 171 [] 0 L S M Q = WP 171 [(.aload_n 0, 0, 0, 0), (.iconst 0, 0, 0, 0), (.invokevirtual 253, 170, 1, 11), (.ifCond .eq 14, 3, 0, 0), (.iload_n 1, 1, 0, 0), (.iconst (-1), 1, 1, 0), (.if_icmp .ne 7, 1, 0, 0), (.iconst 0, 0, 0, 0), (.goto 4, 2, 0, 0)] 0 L S M Q := wp_blk rfl
theorem B_171_1 : ∀ (L : Lo) (S : List Value) (M : Mem) (Q : Option Value → Mem → Prop), WP 171 [] 1 L S M Q = WP 171 [(.iconst (-1), 1, 1, 0)] 2 L S M Q := wp_blk rfl
theorem B_171_2 : ∀ (L : Lo) (S : List Value) (M : Mem) (Q : Option Value → Mem → Prop), WP 171 [] 2 L S M Q = WP 171 [(.ireturn, 0, 0, 0)] 0 L S M Q := wp_blk rfl
theorem B_171_3 : ∀ (L : Lo) (S : List Value) (M : Mem) (Q : Option Value → Mem → Prop), WP 171 [] 3 L S M Q = WP 171 [(.iconst 0, 0, 0, 0), (.istore_n 2, 2, 0, 0)] 4 L S M Q := wp_blk rfl
theorem B_171_4 : ∀ (L : Lo) (S : List Value) (M : Mem) (Q : Option Value → Mem → Prop), WP 171 [] 4 L S M Q = WP 171 [(.iload_n 2, 2, 0, 0), (.aload_n 0, 0, 0, 0), (.getfield 149, 11, 11, 0), (.if_icmp .ge 38, 9, 0, 0), (.aload_n 0, 0, 0, 0), (.iconst 1, 1, 0, 0), (.iload_n 2, 2, 0, 0), (.ishl, 0, 0, 0), (.invokevirtual 253, 170, 1, 11), (.ifCond .eq 22, 8, 0, 0), (.iload_n 1, 1, 0, 0), (.iconst (-1), 1, 1, 0), (.if_icmp .ne 7, 5, 0, 0), (.iconst 1, 1, 0, 0), (.goto 12, 7, 0, 0)] 0 L S M Q := wp_blk rfl
theorem B_171_5 : ∀ (L : Lo) (S : List Value) (M : Mem) (Q : Option Value → Mem → Prop), WP 171 [] 5 L S M Q = WP 171 [(.iload_n 1, 1, 0, 0), (.ifCond .ne 7, 6, 0, 0), (.iload_n 2, 2, 0, 0), (.goto 4, 7, 0, 0)] 0 L S M Q := wp_blk rfl
theorem B_171_6 : ∀ (L : Lo) (S : List Value) (M : Mem) (Q : Option Value → Mem → Prop), WP 171 [] 6 L S M Q = WP 171 [(.iconst (-1), 1, 1, 0)] 7 L S M Q := wp_blk rfl
theorem B_171_7 : ∀ (L : Lo) (S : List Value) (M : Mem) (Q : Option Value → Mem → Prop), WP 171 [] 7 L S M Q = WP 171 [(.ireturn, 0, 0, 0)] 0 L S M Q := wp_blk rfl
theorem B_171_8 : ∀ (L : Lo) (S : List Value) (M : Mem) (Q : Option Value → Mem → Prop), WP 171 [] 8 L S M Q = WP 171 [(.iinc 2 1, 2, 1, 0), (.goto (-40), 4, 0, 0)] 0 L S M Q := wp_blk rfl
theorem B_171_9 : ∀ (L : Lo) (S : List Value) (M : Mem) (Q : Option Value → Mem → Prop), WP 171 [] 9 L S M Q = WP 171 [(.iconst 0, 0, 0, 0), (.istore_n 2, 2, 0, 0)] 10 L S M Q := wp_blk rfl
theorem B_171_10 : ∀ (L : Lo) (S : List Value) (M : Mem) (Q : Option Value → Mem → Prop), WP 171 [] 10 L S M Q = WP 171 [(.iload_n 2, 2, 0, 0), (.aload_n 0, 0, 0, 0), (.getfield 149, 11, 11, 0), (.if_icmp .ge 60, 17, 0, 0), (.iload_n 2, 2, 0, 0), (.iconst 1, 1, 0, 0), (.iadd, 0, 0, 0), (.istore_n 3, 3, 0, 0)] 11 L S M Q := wp_blk rfl
theorem B_171_11 : ∀ (L : Lo) (S : List Value) (M : Mem) (Q : Option Value → Mem → Prop), WP 171 [] 11 L S M Q = WP 171 [(.iload_n 3, 3, 0, 0), (.aload_n 0, 0, 0, 0), (.getfield 149, 11, 11, 0), (.if_icmp .ge 42, 16, 0, 0), (.aload_n 0, 0, 0, 0), (.iconst 1, 1, 0, 0), (.iload_n 2, 2, 0, 0), (.ishl, 0, 0, 0), (.iconst 1, 1, 0, 0), (.iload_n 3, 3, 0, 0), (.ishl, 0, 0, 0), (.ior, 0, 0, 0), (.invokevirtual 253, 170, 1, 11), (.ifCond .eq 22, 15, 0, 0), (.iload_n 1, 1, 0, 0), (.iconst (-1), 1, 1, 0), (.if_icmp .ne 7, 12, 0, 0), (.iconst 2, 2, 0, 0), (.goto 12, 14, 0, 0)] 0 L S M Q := wp_blk rfl
theorem B_171_12 : ∀ (L : Lo) (S : List Value) (M : Mem) (Q : Option Value → Mem → Prop), WP 171 [] 12 L S M Q = WP 171 [(.iload_n 1, 1, 0, 0), (.ifCond .ne 7, 13, 0, 0), (.iload_n 2, 2, 0, 0), (.goto 4, 14, 0, 0)] 0 L S M Q := wp_blk rfl
theorem B_171_13 : ∀ (L : Lo) (S : List Value) (M : Mem) (Q : Option Value → Mem → Prop), WP 171 [] 13 L S M Q = WP 171 [(.iload_n 3, 3, 0, 0)] 14 L S M Q := wp_blk rfl
theorem B_171_14 : ∀ (L : Lo) (S : List Value) (M : Mem) (Q : Option Value → Mem → Prop), WP 171 [] 14 L S M Q = WP 171 [(.ireturn, 0, 0, 0)] 0 L S M Q := wp_blk rfl
theorem B_171_15 : ∀ (L : Lo) (S : List Value) (M : Mem) (Q : Option Value → Mem → Prop), WP 171 [] 15 L S M Q = WP 171 [(.iinc 3 1, 3, 1, 0), (.goto (-44), 11, 0, 0)] 0 L S M Q := wp_blk rfl
theorem B_171_16 : ∀ (L : Lo) (S : List Value) (M : Mem) (Q : Option Value → Mem → Prop), WP 171 [] 16 L S M Q = WP 171 [(.iinc 2 1, 2, 1, 0), (.goto (-62), 10, 0, 0)] 0 L S M Q := wp_blk rfl
theorem B_171_17 : ∀ (L : Lo) (S : List Value) (M : Mem) (Q : Option Value → Mem → Prop), WP 171 [] 17 L S M Q = WP 171 [(.iconst (-1), 1, 1, 0), (.ireturn, 0, 0, 0)] 0 L S M Q := wp_blk rfl
-- X11_spare
theorem E_172 (q0 : Nat) (q1 : Int32) (M : Mem) (Q : Option Value → Mem → Prop) : Ct 172 [.ref q0, .int q1] M Q = WP 172 [] 0 [some (.ref q0), some (.int q1)] [] M Q := ct_wp rfl M Q
theorem B_172_0 : ∀ (L : Lo) (S : List Value) (M : Mem) (Q : Option Value → Mem → Prop), WP 172 [] 0 L S M Q = WP 172 [(.aload_n 0, 0, 0, 0), (.invokevirtual 208, 143, 0, 11), (.iload_n 1, 1, 0, 0), (.i2l, 0, 0, 0), (.ldc2_w 256, 1, 1, 0), (.lconst 1, 1, 0, 0), (.invokestatic 76, 99, 3, 0), (.ifCond .eq 11, 1, 0, 0), (.aload_n 0, 0, 0, 0), (.iload_n 1, 1, 0, 0), (.invokevirtual 258, 171, 1, 11), (.goto 5, 2, 0, 0)] 0 L S M Q := wp_blk rfl
theorem B_172_1 : ∀ (L : Lo) (S : List Value) (M : Mem) (Q : Option Value → Mem → Prop), WP 172 [] 1 L S M Q = WP 172 [(.bipush (-2), 2, 1, 0)] 2 L S M Q := wp_blk rfl
theorem B_172_2 : ∀ (L : Lo) (S : List Value) (M : Mem) (Q : Option Value → Mem → Prop), WP 172 [] 2 L S M Q = WP 172 [(.ireturn, 0, 0, 0)] 0 L S M Q := wp_blk rfl
-- X11_seen
theorem E_173 (q0 : Nat) (q1 : Int32) (q2 : Int32) (q3 : Int32) (M : Mem) (Q : Option Value → Mem → Prop) : Ct 173 [.ref q0, .int q1, .int q2, .int q3] M Q = WP 173 [] 0 [some (.ref q0), some (.int q1), some (.int q2), some (.int q3)] [] M Q := ct_wp rfl M Q
theorem B_173_0 : ∀ (L : Lo) (S : List Value) (M : Mem) (Q : Option Value → Mem → Prop), WP 173 [] 0 L S M Q = WP 173 [(.iload_n 1, 1, 0, 0), (.invokestatic 152, 126, 1, 0), (.ifCond .eq 22, 1, 0, 0), (.iload_n 2, 2, 0, 0), (.invokestatic 140, 124, 1, 0), (.ifCond .eq 15, 1, 0, 0), (.iload_n 3, 3, 0, 0), (.i2l, 0, 0, 0), (.lconst 0, 0, 0, 0), (.ldc2_w 261, 6, 0, 0), (.invokestatic 76, 99, 3, 0), (.ifCond .ne 6, 2, 0, 0)] 1 L S M Q := wp_blk rfl
theorem B_173_1 : ∀ (L : Lo) (S : List Value) (M : Mem) (Q : Option Value → Mem → Prop), WP 173 [] 1 L S M Q = WP 173 [(.bipush (-2), 2, 1, 0), (.ireturn, 0, 0, 0)] 0 L S M Q := wp_blk rfl
theorem B_173_2 : ∀ (L : Lo) (S : List Value) (M : Mem) (Q : Option Value → Mem → Prop), WP 173 [] 2 L S M Q = WP 173 [(.aload_n 0, 0, 0, 0), (.getfield 263, 11, 24, 0), (.bipush 8, 8, 0, 0), (.if_icmp .ne 6, 3, 0, 0), (.bipush (-4), 4, 1, 0), (.ireturn, 0, 0, 0)] 0 L S M Q := wp_blk rfl
theorem B_173_3 : ∀ (L : Lo) (S : List Value) (M : Mem) (Q : Option Value → Mem → Prop), WP 173 [] 3 L S M Q = WP 173 [(.aload_n 0, 0, 0, 0), (.getfield 61, 11, 25, 0), (.iconst 3, 3, 0, 0), (.aload_n 0, 0, 0, 0), (.getfield 263, 11, 24, 0), (.imul, 0, 0, 0), (.iload_n 1, 1, 0, 0), (.iastore, 0, 0, 0), (.aload_n 0, 0, 0, 0), (.getfield 61, 11, 25, 0), (.iconst 3, 3, 0, 0), (.aload_n 0, 0, 0, 0), (.getfield 263, 11, 24, 0), (.imul, 0, 0, 0), (.iconst 1, 1, 0, 0), (.iadd, 0, 0, 0), (.iload_n 2, 2, 0, 0), (.iastore, 0, 0, 0), (.aload_n 0, 0, 0, 0), (.getfield 61, 11, 25, 0), (.iconst 3, 3, 0, 0), (.aload_n 0, 0, 0, 0), (.getfield 263, 11, 24, 0), (.imul, 0, 0, 0), (.iconst 2, 2, 0, 0), (.iadd, 0, 0, 0), (.iload_n 3, 3, 0, 0), (.iastore, 0, 0, 0), (.aload_n 0, 0, 0, 0), (.dup, 0, 0, 0), (.getfield 263, 11, 24, 0), (.iconst 1, 1, 0, 0), (.iadd, 0, 0, 0), (.putfield 263, 11, 24, 0), (.aload_n 0, 0, 0, 0), (.getfield 263, 11, 24, 0), (.ireturn, 0, 0, 0)] 0 L S M Q := wp_blk rfl
-- X11_forget
theorem E_174 (q0 : Nat) (M : Mem) (Q : Option Value → Mem → Prop) : Ct 174 [.ref q0] M Q = WP 174 [] 0 [some (.ref q0), none] [] M Q := ct_wp rfl M Q
theorem B_174_0 : ∀ (L : Lo) (S : List Value) (M : Mem) (Q : Option Value → Mem → Prop), WP 174 [] 0 L S M Q = WP 174 [(.aload_n 0, 0, 0, 0), (.getfield 263, 11, 24, 0), (.istore_n 1, 1, 0, 0), (.aload_n 0, 0, 0, 0), (.iconst 0, 0, 0, 0), (.putfield 263, 11, 24, 0), (.iload_n 1, 1, 0, 0), (.ireturn, 0, 0, 0)] 0 L S M Q := wp_blk rfl
-- X11_isSeen
theorem E_175 (q0 : Nat) (M : Mem) (Q : Option Value → Mem → Prop) : Ct 175 [.ref q0] M Q = WP 175 [] 0 [some (.ref q0), none, none] [] M Q := ct_wp rfl M Q
theorem B_175_0 : ∀ (L : Lo) (S : List Value) (M : Mem) (Q : Option Value → Mem → Prop), WP 175 [] 0 L S M Q = WP 175 [(.aload_n 0, 0, 0, 0), (.invokevirtual 202, 142, 0, 11), (.iconst 1, 1, 0, 0), (.istore_n 1, 1, 0, 0), (.iconst 0, 0, 0, 0), (.istore_n 2, 2, 0, 0)] 1 L S M Q := wp_blk rfl
theorem B_175_1 : ∀ (L : Lo) (S : List Value) (M : Mem) (Q : Option Value → Mem → Prop), WP 175 [] 1 L S M Q = WP 175 [(.iload_n 2, 2, 0, 0), (.aload_n 0, 0, 0, 0), (.getfield 263, 11, 24, 0), (.if_icmp .ge 59, 4, 0, 0), (.iload_n 1, 1, 0, 0), (.ifCond .eq 47, 2, 0, 0), (.aload_n 0, 0, 0, 0), (.getfield 52, 11, 21, 0), (.bipush 6, 6, 0, 0), (.aload_n 0, 0, 0, 0), (.getfield 61, 11, 25, 0), (.iconst 3, 3, 0, 0), (.iload_n 2, 2, 0, 0), (.imul, 0, 0, 0), (.iaload, 0, 0, 0), (.imul, 0, 0, 0), (.aload_n 0, 0, 0, 0), (.getfield 61, 11, 25, 0), (.iconst 3, 3, 0, 0), (.iload_n 2, 2, 0, 0), (.imul, 0, 0, 0), (.iconst 1, 1, 0, 0), (.iadd, 0, 0, 0), (.iaload, 0, 0, 0), (.iadd, 0, 0, 0), (.iaload, 0, 0, 0), (.aload_n 0, 0, 0, 0), (.getfield 61, 11, 25, 0), (.iconst 3, 3, 0, 0), (.iload_n 2, 2, 0, 0), (.imul, 0, 0, 0), (.iconst 2, 2, 0, 0), (.iadd, 0, 0, 0), (.iaload, 0, 0, 0), (.if_icmp .ne 7, 2, 0, 0), (.iconst 1, 1, 0, 0), (.goto 4, 3, 0, 0)] 0 L S M Q := wp_blk rfl
theorem B_175_2 : ∀ (L : Lo) (S : List Value) (M : Mem) (Q : Option Value → Mem → Prop), WP 175 [] 2 L S M Q = WP 175 [(.iconst 0, 0, 0, 0)] 3 L S M Q := wp_blk rfl
theorem B_175_3 : ∀ (L : Lo) (S : List Value) (M : Mem) (Q : Option Value → Mem → Prop), WP 175 [] 3 L S M Q = WP 175 [(.istore_n 1, 1, 0, 0), (.iinc 2 1, 2, 1, 0), (.goto (-61), 1, 0, 0)] 0 L S M Q := wp_blk rfl
theorem B_175_4 : ∀ (L : Lo) (S : List Value) (M : Mem) (Q : Option Value → Mem → Prop), WP 175 [] 4 L S M Q = WP 175 [(.iload_n 1, 1, 0, 0), (.ireturn, 1, 0, 0)] 0 L S M Q := wp_blk rfl
-- X11_neverNow
theorem E_176 (q0 : Nat) (M : Mem) (Q : Option Value → Mem → Prop) : Ct 176 [.ref q0] M Q = WP 176 [] 0 [some (.ref q0), none, none] [] M Q := ct_wp rfl M Q
theorem B_176_0 : ∀ (L : Lo) (S : List Value) (M : Mem) (Q : Option Value → Mem → Prop), WP 176 [] 0 L S M Q = WP 176 [(.iconst 0, 0, 0, 0), (.istore_n 1, 1, 0, 0), (.iconst 0, 0, 0, 0), (.istore_n 2, 2, 0, 0)] 1 L S M Q := wp_blk rfl
theorem B_176_1 : ∀ (L : Lo) (S : List Value) (M : Mem) (Q : Option Value → Mem → Prop), WP 176 [] 1 L S M Q = WP 176 [(.iload_n 2, 2, 0, 0), (.aload_n 0, 0, 0, 0), (.getfield 149, 11, 11, 0), (.if_icmp .ge 33, 4, 0, 0), (.aload_n 0, 0, 0, 0), (.iconst 1, 1, 0, 0), (.iload_n 2, 2, 0, 0), (.ishl, 0, 0, 0), (.putfield 161, 11, 13, 0), (.iload_n 1, 1, 0, 0), (.aload_n 0, 0, 0, 0), (.invokevirtual 266, 175, 0, 11), (.ifCond .eq 9, 2, 0, 0), (.iconst 1, 1, 0, 0), (.iload_n 2, 2, 0, 0), (.ishl, 0, 0, 0), (.goto 4, 3, 0, 0)] 0 L S M Q := wp_blk rfl
theorem B_176_2 : ∀ (L : Lo) (S : List Value) (M : Mem) (Q : Option Value → Mem → Prop), WP 176 [] 2 L S M Q = WP 176 [(.iconst 0, 0, 0, 0)] 3 L S M Q := wp_blk rfl
theorem B_176_3 : ∀ (L : Lo) (S : List Value) (M : Mem) (Q : Option Value → Mem → Prop), WP 176 [] 3 L S M Q = WP 176 [(.ior, 0, 0, 0), (.istore_n 1, 1, 0, 0), (.iinc 2 1, 2, 1, 0), (.goto (-35), 1, 0, 0)] 0 L S M Q := wp_blk rfl
theorem B_176_4 : ∀ (L : Lo) (S : List Value) (M : Mem) (Q : Option Value → Mem → Prop), WP 176 [] 4 L S M Q = WP 176 [(.aload_n 0, 0, 0, 0), (.iconst 0, 0, 0, 0), (.putfield 161, 11, 13, 0), (.iload_n 1, 1, 0, 0), (.ireturn, 0, 0, 0)] 0 L S M Q := wp_blk rfl
-- X11_never
theorem E_177 (q0 : Nat) (M : Mem) (Q : Option Value → Mem → Prop) : Ct 177 [.ref q0] M Q = WP 177 [] 0 [some (.ref q0)] [] M Q := ct_wp rfl M Q
theorem B_177_0 : ∀ (L : Lo) (S : List Value) (M : Mem) (Q : Option Value → Mem → Prop), WP 177 [] 0 L S M Q = WP 177 [(.aload_n 0, 0, 0, 0), (.invokevirtual 208, 143, 0, 11), (.aload_n 0, 0, 0, 0), (.invokevirtual 270, 176, 0, 11), (.ireturn, 0, 0, 0)] 0 L S M Q := wp_blk rfl
-- X11_rowOf
theorem E_178 (q0 : Nat) (q1 : Int32) (M : Mem) (Q : Option Value → Mem → Prop) : Ct 178 [.ref q0, .int q1] M Q = WP 178 [] 0 [some (.ref q0), some (.int q1), none, none] [] M Q := ct_wp rfl M Q
theorem B_178_0 : ∀ (L : Lo) (S : List Value) (M : Mem) (Q : Option Value → Mem → Prop), WP 178 [] 0 L S M Q = WP 178 [(.iconst 0, 0, 0, 0), (.istore_n 2, 2, 0, 0), (.iconst 0, 0, 0, 0), (.istore_n 3, 3, 0, 0)] 1 L S M Q := wp_blk rfl
theorem B_178_1 : ∀ (L : Lo) (S : List Value) (M : Mem) (Q : Option Value → Mem → Prop), WP 178 [] 1 L S M Q = WP 178 [(.iload_n 3, 3, 0, 0), (.bipush 6, 6, 0, 0), (.if_icmp .ge 26, 2, 0, 0), (.bipush 7, 7, 0, 0), (.iload_n 2, 2, 0, 0), (.imul, 0, 0, 0), (.aload_n 0, 0, 0, 0), (.getfield 52, 11, 21, 0), (.bipush 6, 6, 0, 0), (.iload_n 1, 1, 0, 0), (.imul, 0, 0, 0), (.iload_n 3, 3, 0, 0), (.iadd, 0, 0, 0), (.iaload, 0, 0, 0), (.iadd, 0, 0, 0), (.istore_n 2, 2, 0, 0), (.iinc 3 1, 3, 1, 0), (.goto (-26), 1, 0, 0)] 0 L S M Q := wp_blk rfl
theorem B_178_2 : ∀ (L : Lo) (S : List Value) (M : Mem) (Q : Option Value → Mem → Prop), WP 178 [] 2 L S M Q = WP 178 [(.iload_n 2, 2, 0, 0), (.ireturn, 0, 0, 0)] 0 L S M Q := wp_blk rfl
-- X11_isBlock
theorem E_179 (q0 : Nat) (q1 : Int32) (q2 : Int32) (M : Mem) (Q : Option Value → Mem → Prop) : Ct 179 [.ref q0, .int q1, .int q2] M Q = WP 179 [] 0 [some (.ref q0), some (.int q1), some (.int q2)] [] M Q := ct_wp rfl M Q
theorem B_179_0 : ∀ (L : Lo) (S : List Value) (M : Mem) (Q : Option Value → Mem → Prop), WP 179 [] 0 L S M Q = WP 179 [(.iload_n 1, 1, 0, 0), (.invokestatic 140, 124, 1, 0), (.ifCond .eq 28, 1, 0, 0), (.iload_n 2, 2, 0, 0), (.i2l, 0, 0, 0), (.lconst 0, 0, 0, 0), (.ldc2_w 136, 5, 0, 0), (.invokestatic 76, 99, 3, 0), (.ifCond .eq 16, 1, 0, 0), (.aload_n 0, 0, 0, 0), (.iload_n 1, 1, 0, 0), (.iload_n 2, 2, 0, 0), (.invokevirtual 143, 127, 2, 11), (.ifCond .le 7, 1, 0, 0), (.iconst 1, 1, 0, 0), (.goto 4, 2, 0, 0)] 0 L S M Q := wp_blk rfl
theorem B_179_1 : ∀ (L : Lo) (S : List Value) (M : Mem) (Q : Option Value → Mem → Prop), WP 179 [] 1 L S M Q = WP 179 [(.iconst 0, 0, 0, 0)] 2 L S M Q := wp_blk rfl
theorem B_179_2 : ∀ (L : Lo) (S : List Value) (M : Mem) (Q : Option Value → Mem → Prop), WP 179 [] 2 L S M Q = WP 179 [(.ireturn, 1, 0, 0)] 0 L S M Q := wp_blk rfl
-- X11_sizeOf
theorem E_180 (q0 : Nat) (q1 : Int32) (q2 : Int32) (M : Mem) (Q : Option Value → Mem → Prop) : Ct 180 [.ref q0, .int q1, .int q2] M Q = WP 180 [] 0 [some (.ref q0), some (.int q1), some (.int q2), none, none, none, none, none] [] M Q := ct_wp rfl M Q
theorem B_180_0 : ∀ (L : Lo) (S : List Value) (M : Mem) (Q : Option Value → Mem → Prop), WP 180 [] 0 L S M Q = WP 180 [(.bipush 6, 6, 0, 0), (.iload_n 1, 1, 0, 0), (.imul, 0, 0, 0), (.iload_n 2, 2, 0, 0), (.iadd, 0, 0, 0), (.istore_n 3, 3, 0, 0), (.aload_n 0, 0, 0, 0), (.getfield 31, 11, 8, 0), (.iload_n 3, 3, 0, 0), (.iaload, 0, 0, 0), (.istore 4, 4, 0, 0), (.iconst 0, 0, 0, 0), (.istore 5, 5, 0, 0), (.iconst 1, 1, 0, 0), (.istore 6, 6, 0, 0)] 1 L S M Q := wp_blk rfl
theorem B_180_1 : ∀ (L : Lo) (S : List Value) (M : Mem) (Q : Option Value → Mem → Prop), WP 180 [] 1 L S M Q = WP 180 [(.iload 6, 6, 0, 0), (.bipush 10, 10, 0, 0), (.if_icmp .ge 72, 6, 0, 0), (.aload_n 0, 0, 0, 0), (.getfield 31, 11, 8, 0), (.iload_n 3, 3, 0, 0), (.iload 6, 6, 0, 0), (.iastore, 0, 0, 0), (.iload 5, 5, 0, 0), (.aload_n 0, 0, 0, 0), (.invokevirtual 266, 175, 0, 11), (.ifCond .eq 10, 2, 0, 0), (.iconst 1, 1, 0, 0), (.iload 6, 6, 0, 0), (.ishl, 0, 0, 0), (.goto 4, 3, 0, 0)] 0 L S M Q := wp_blk rfl
theorem B_180_2 : ∀ (L : Lo) (S : List Value) (M : Mem) (Q : Option Value → Mem → Prop), WP 180 [] 2 L S M Q = WP 180 [(.iconst 0, 0, 0, 0)] 3 L S M Q := wp_blk rfl
theorem B_180_3 : ∀ (L : Lo) (S : List Value) (M : Mem) (Q : Option Value → Mem → Prop), WP 180 [] 3 L S M Q = WP 180 [(.ior, 0, 0, 0), (.istore 5, 5, 0, 0), (.iconst 0, 0, 0, 0), (.istore 7, 7, 0, 0)] 4 L S M Q := wp_blk rfl
theorem B_180_4 : ∀ (L : Lo) (S : List Value) (M : Mem) (Q : Option Value → Mem → Prop), WP 180 [] 4 L S M Q = WP 180 [(.iload 7, 7, 0, 0), (.bipush 24, 24, 0, 0), (.if_icmp .ge 28, 5, 0, 0), (.aload_n 0, 0, 0, 0), (.getfield 64, 11, 26, 0), (.bipush 24, 24, 0, 0), (.iload 6, 6, 0, 0), (.imul, 0, 0, 0), (.iload 7, 7, 0, 0), (.iadd, 0, 0, 0), (.aload_n 0, 0, 0, 0), (.iload 7, 7, 0, 0), (.invokevirtual 273, 178, 1, 11), (.iastore, 0, 0, 0), (.iinc 7 1, 7, 1, 0), (.goto (-29), 4, 0, 0)] 0 L S M Q := wp_blk rfl
theorem B_180_5 : ∀ (L : Lo) (S : List Value) (M : Mem) (Q : Option Value → Mem → Prop), WP 180 [] 5 L S M Q = WP 180 [(.iinc 6 1, 6, 1, 0), (.goto (-73), 1, 0, 0)] 0 L S M Q := wp_blk rfl
theorem B_180_6 : ∀ (L : Lo) (S : List Value) (M : Mem) (Q : Option Value → Mem → Prop), WP 180 [] 6 L S M Q = WP 180 [(.aload_n 0, 0, 0, 0), (.getfield 31, 11, 8, 0), (.iload_n 3, 3, 0, 0), (.iload 4, 4, 0, 0), (.iastore, 0, 0, 0), (.iload 5, 5, 0, 0), (.ireturn, 0, 0, 0)] 0 L S M Q := wp_blk rfl
-- X11_size
theorem E_181 (q0 : Nat) (q1 : Int32) (q2 : Int32) (M : Mem) (Q : Option Value → Mem → Prop) : Ct 181 [.ref q0, .int q1, .int q2] M Q = WP 181 [] 0 [some (.ref q0), some (.int q1), some (.int q2)] [] M Q := ct_wp rfl M Q
theorem B_181_0 : ∀ (L : Lo) (S : List Value) (M : Mem) (Q : Option Value → Mem → Prop), WP 181 [] 0 L S M Q = WP 181 [(.aload_n 0, 0, 0, 0), (.invokevirtual 208, 143, 0, 11), (.aload_n 0, 0, 0, 0), (.iload_n 1, 1, 0, 0), (.iload_n 2, 2, 0, 0), (.invokevirtual 276, 179, 2, 11), (.ifCond .eq 12, 1, 0, 0), (.aload_n 0, 0, 0, 0), (.iload_n 1, 1, 0, 0), (.iload_n 2, 2, 0, 0), (.invokevirtual 279, 180, 2, 11), (.goto 5, 2, 0, 0)] 0 L S M Q := wp_blk rfl
theorem B_181_1 : ∀ (L : Lo) (S : List Value) (M : Mem) (Q : Option Value → Mem → Prop), WP 181 [] 1 L S M Q = WP 181 [(.bipush (-2), 2, 1, 0)] 2 L S M Q := wp_blk rfl
theorem B_181_2 : ∀ (L : Lo) (S : List Value) (M : Mem) (Q : Option Value → Mem → Prop), WP 181 [] 2 L S M Q = WP 181 [(.ireturn, 0, 0, 0)] 0 L S M Q := wp_blk rfl
-- X11_alike
theorem E_182 (q0 : Nat) (q1 : Int32) (q2 : Int32) (M : Mem) (Q : Option Value → Mem → Prop) : Ct 182 [.ref q0, .int q1, .int q2] M Q = WP 182 [] 0 [some (.ref q0), some (.int q1), some (.int q2), none, none, none, none] [] M Q := ct_wp rfl M Q
theorem B_182_0 : ∀ (L : Lo) (S : List Value) (M : Mem) (Q : Option Value → Mem → Prop), WP 182 [] 0 L S M Q = WP 182 [(.iconst 0, 0, 0, 0), (.istore_n 3, 3, 0, 0), (.iconst 1, 1, 0, 0), (.istore 4, 4, 0, 0)] 1 L S M Q := wp_blk rfl
theorem B_182_1 : ∀ (L : Lo) (S : List Value) (M : Mem) (Q : Option Value → Mem → Prop), WP 182 [] 1 L S M Q = WP 182 [(.iload 4, 4, 0, 0), (.bipush 10, 10, 0, 0), (.if_icmp .ge 90, 6, 0, 0), (.iconst 0, 0, 0, 0), (.istore 5, 5, 0, 0), (.iconst 1, 1, 0, 0), (.istore 6, 6, 0, 0)] 2 L S M Q := wp_blk rfl
theorem B_182_2 : ∀ (L : Lo) (S : List Value) (M : Mem) (Q : Option Value → Mem → Prop), WP 182 [] 2 L S M Q = WP 182 [(.iload 6, 6, 0, 0), (.bipush 10, 10, 0, 0), (.if_icmp .ge 64, 5, 0, 0), (.iload 5, 5, 0, 0), (.iload_n 1, 1, 0, 0), (.iload 4, 4, 0, 0), (.invokestatic 164, 102, 2, 0), (.ifCond .eq 43, 3, 0, 0), (.iload_n 1, 1, 0, 0), (.iload 6, 6, 0, 0), (.invokestatic 164, 102, 2, 0), (.ifCond .eq 34, 3, 0, 0), (.aload_n 0, 0, 0, 0), (.getfield 64, 11, 26, 0), (.bipush 24, 24, 0, 0), (.iload 4, 4, 0, 0), (.imul, 0, 0, 0), (.iload_n 2, 2, 0, 0), (.iadd, 0, 0, 0), (.iaload, 0, 0, 0), (.aload_n 0, 0, 0, 0), (.getfield 64, 11, 26, 0), (.bipush 24, 24, 0, 0), (.iload 6, 6, 0, 0), (.imul, 0, 0, 0), (.iload_n 2, 2, 0, 0), (.iadd, 0, 0, 0), (.iaload, 0, 0, 0), (.if_icmp .ne 7, 3, 0, 0), (.iconst 1, 1, 0, 0), (.goto 4, 4, 0, 0)] 0 L S M Q := wp_blk rfl
theorem B_182_3 : ∀ (L : Lo) (S : List Value) (M : Mem) (Q : Option Value → Mem → Prop), WP 182 [] 3 L S M Q = WP 182 [(.iconst 0, 0, 0, 0)] 4 L S M Q := wp_blk rfl
theorem B_182_4 : ∀ (L : Lo) (S : List Value) (M : Mem) (Q : Option Value → Mem → Prop), WP 182 [] 4 L S M Q = WP 182 [(.iadd, 0, 0, 0), (.istore 5, 5, 0, 0), (.iinc 6 1, 6, 1, 0), (.goto (-65), 2, 0, 0)] 0 L S M Q := wp_blk rfl
theorem B_182_5 : ∀ (L : Lo) (S : List Value) (M : Mem) (Q : Option Value → Mem → Prop), WP 182 [] 5 L S M Q = WP 182 [(.iload 5, 5, 0, 0), (.iload_n 3, 3, 0, 0), (.invokestatic 241, 104, 2, 0), (.istore_n 3, 3, 0, 0), (.iinc 4 1, 4, 1, 0), (.goto (-91), 1, 0, 0)] 0 L S M Q := wp_blk rfl
theorem B_182_6 : ∀ (L : Lo) (S : List Value) (M : Mem) (Q : Option Value → Mem → Prop), WP 182 [] 6 L S M Q = WP 182 [(.iload_n 3, 3, 0, 0), (.ireturn, 0, 0, 0)] 0 L S M Q := wp_blk rfl
-- X11_askOf
theorem E_183 (q0 : Nat) (q1 : Int32) (q2 : Int32) (M : Mem) (Q : Option Value → Mem → Prop) : Ct 183 [.ref q0, .int q1, .int q2] M Q = WP 183 [] 0 [some (.ref q0), some (.int q1), some (.int q2), none, none, none] [] M Q := ct_wp rfl M Q
theorem B_183_0 : ∀ (L : Lo) (S : List Value) (M : Mem) (Q : Option Value → Mem → Prop), WP 183 [] 0 L S M Q = WP 183 [(.aload_n 0, 0, 0, 0), (.iload_n 1, 1, 0, 0), (.iload_n 2, 2, 0, 0), (.invokevirtual 279, 180, 2, 11), (.istore_n 3, 3, 0, 0), (.iconst 0, 0, 0, 0), (.istore 4, 4, 0, 0), (.iconst 1, 1, 0, 0), (.istore 5, 5, 0, 0)] 1 L S M Q := wp_blk rfl
theorem B_183_1 : ∀ (L : Lo) (S : List Value) (M : Mem) (Q : Option Value → Mem → Prop), WP 183 [] 1 L S M Q = WP 183 [(.iload 5, 5, 0, 0), (.bipush 24, 24, 0, 0), (.if_icmp .ge 35, 4, 0, 0), (.aload_n 0, 0, 0, 0), (.iload_n 3, 3, 0, 0), (.iload 5, 5, 0, 0), (.invokevirtual 282, 182, 2, 11), (.aload_n 0, 0, 0, 0), (.iload_n 3, 3, 0, 0), (.iload 4, 4, 0, 0), (.invokevirtual 282, 182, 2, 11), (.if_icmp .ge 8, 2, 0, 0), (.iload 5, 5, 0, 0), (.goto 5, 3, 0, 0)] 0 L S M Q := wp_blk rfl
theorem B_183_2 : ∀ (L : Lo) (S : List Value) (M : Mem) (Q : Option Value → Mem → Prop), WP 183 [] 2 L S M Q = WP 183 [(.iload 4, 4, 0, 0)] 3 L S M Q := wp_blk rfl
theorem B_183_3 : ∀ (L : Lo) (S : List Value) (M : Mem) (Q : Option Value → Mem → Prop), WP 183 [] 3 L S M Q = WP 183 [(.istore 4, 4, 0, 0), (.iinc 5 1, 5, 1, 0), (.goto (-36), 1, 0, 0)] 0 L S M Q := wp_blk rfl
theorem B_183_4 : ∀ (L : Lo) (S : List Value) (M : Mem) (Q : Option Value → Mem → Prop), WP 183 [] 4 L S M Q = WP 183 [(.iload 4, 4, 0, 0), (.ireturn, 0, 0, 0)] 0 L S M Q := wp_blk rfl
-- X11_ask
theorem E_184 (q0 : Nat) (q1 : Int32) (q2 : Int32) (M : Mem) (Q : Option Value → Mem → Prop) : Ct 184 [.ref q0, .int q1, .int q2] M Q = WP 184 [] 0 [some (.ref q0), some (.int q1), some (.int q2)] [] M Q := ct_wp rfl M Q
theorem B_184_0 : ∀ (L : Lo) (S : List Value) (M : Mem) (Q : Option Value → Mem → Prop), WP 184 [] 0 L S M Q = WP 184 [(.aload_n 0, 0, 0, 0), (.invokevirtual 208, 143, 0, 11), (.aload_n 0, 0, 0, 0), (.iload_n 1, 1, 0, 0), (.iload_n 2, 2, 0, 0), (.invokevirtual 276, 179, 2, 11), (.ifCond .eq 12, 1, 0, 0), (.aload_n 0, 0, 0, 0), (.iload_n 1, 1, 0, 0), (.iload_n 2, 2, 0, 0), (.invokevirtual 285, 183, 2, 11), (.goto 5, 2, 0, 0)] 0 L S M Q := wp_blk rfl
theorem B_184_1 : ∀ (L : Lo) (S : List Value) (M : Mem) (Q : Option Value → Mem → Prop), WP 184 [] 1 L S M Q = WP 184 [(.bipush (-2), 2, 1, 0)] 2 L S M Q := wp_blk rfl
theorem B_184_2 : ∀ (L : Lo) (S : List Value) (M : Mem) (Q : Option Value → Mem → Prop), WP 184 [] 2 L S M Q = WP 184 [(.ireturn, 0, 0, 0)] 0 L S M Q := wp_blk rfl
-- X11_chanceOf
theorem E_185 (q0 : Nat) (q1 : Int32) (q2 : Int32) (q3 : Int32) (M : Mem) (Q : Option Value → Mem → Prop) : Ct 185 [.ref q0, .int q1, .int q2, .int q3] M Q = WP 185 [] 0 [some (.ref q0), some (.int q1), some (.int q2), some (.int q3), none, none, none, none, none, none] [] M Q := ct_wp rfl M Q
theorem B_185_0 : ∀ (L : Lo) (S : List Value) (M : Mem) (Q : Option Value → Mem → Prop), WP 185 [] 0 L S M Q = WP 185 [(.lconst 0, 0, 0, 0), (.lstore 4, 4, 0, 0), (.iconst 0, 0, 0, 0), (.istore 6, 6, 0, 0)] 1 L S M Q := wp_blk rfl
theorem B_185_1 : ∀ (L : Lo) (S : List Value) (M : Mem) (Q : Option Value → Mem → Prop), WP 185 [] 1 L S M Q = WP 185 [(.iload 6, 6, 0, 0), (.iconst 1, 1, 0, 0), (.aload_n 0, 0, 0, 0), (.getfield 149, 11, 11, 0), (.ishl, 0, 0, 0), (.if_icmp .ge 84, 8, 0, 0), (.aload_n 0, 0, 0, 0), (.iload 6, 6, 0, 0), (.putfield 161, 11, 13, 0), (.aload_n 0, 0, 0, 0), (.invokevirtual 202, 142, 0, 11), (.aload_n 0, 0, 0, 0), (.iload_n 2, 2, 0, 0), (.invokevirtual 220, 151, 1, 11), (.ifCond .eq 7, 2, 0, 0), (.lconst 1, 1, 0, 0), (.goto 4, 3, 0, 0)] 0 L S M Q := wp_blk rfl
theorem B_185_2 : ∀ (L : Lo) (S : List Value) (M : Mem) (Q : Option Value → Mem → Prop), WP 185 [] 2 L S M Q = WP 185 [(.lconst 0, 0, 0, 0)] 3 L S M Q := wp_blk rfl
theorem B_185_3 : ∀ (L : Lo) (S : List Value) (M : Mem) (Q : Option Value → Mem → Prop), WP 185 [] 3 L S M Q = WP 185 [(.lstore 7, 7, 0, 0), (.iconst 0, 0, 0, 0), (.istore 9, 9, 0, 0)] 4 L S M Q := wp_blk rfl
theorem B_185_4 : ∀ (L : Lo) (S : List Value) (M : Mem) (Q : Option Value → Mem → Prop), WP 185 [] 4 L S M Q = WP 185 [(.iload 9, 9, 0, 0), (.aload_n 0, 0, 0, 0), (.getfield 149, 11, 11, 0), (.if_icmp .ge 34, 7, 0, 0), (.lload 7, 7, 0, 0), (.iload 6, 6, 0, 0), (.iload 9, 9, 0, 0), (.invokestatic 164, 102, 2, 0), (.ifCond .eq 11, 5, 0, 0), (.bipush 16, 16, 0, 0), (.iload_n 1, 1, 0, 0), (.isub, 0, 0, 0), (.i2l, 0, 0, 0), (.goto 5, 6, 0, 0)] 0 L S M Q := wp_blk rfl
theorem B_185_5 : ∀ (L : Lo) (S : List Value) (M : Mem) (Q : Option Value → Mem → Prop), WP 185 [] 5 L S M Q = WP 185 [(.iload_n 1, 1, 0, 0), (.i2l, 0, 0, 0)] 6 L S M Q := wp_blk rfl
theorem B_185_6 : ∀ (L : Lo) (S : List Value) (M : Mem) (Q : Option Value → Mem → Prop), WP 185 [] 6 L S M Q = WP 185 [(.lmul, 0, 0, 0), (.lstore 7, 7, 0, 0), (.iinc 9 1, 9, 1, 0), (.goto (-37), 4, 0, 0)] 0 L S M Q := wp_blk rfl
theorem B_185_7 : ∀ (L : Lo) (S : List Value) (M : Mem) (Q : Option Value → Mem → Prop), WP 185 [] 7 L S M Q = WP 185 [(.lload 4, 4, 0, 0), (.lload 7, 7, 0, 0), (.ladd, 0, 0, 0), (.lstore 4, 4, 0, 0), (.iinc 6 1, 6, 1, 0), (.goto (-89), 1, 0, 0)] 0 L S M Q := wp_blk rfl
theorem B_185_8 : ∀ (L : Lo) (S : List Value) (M : Mem) (Q : Option Value → Mem → Prop), WP 185 [] 8 L S M Q = WP 185 [(.aload_n 0, 0, 0, 0), (.iconst 0, 0, 0, 0), (.putfield 161, 11, 13, 0), (.lload 4, 4, 0, 0), (.lconst 1, 1, 0, 0), (.iconst 4, 4, 0, 0), (.aload_n 0, 0, 0, 0), (.getfield 149, 11, 11, 0), (.imul, 0, 0, 0), (.lshl, 0, 0, 0), (.iload_n 3, 3, 0, 0), (.invokestatic 288, 105, 3, 0), (.lreturn, 0, 0, 0)] 0 L S M Q := wp_blk rfl
-- X11_chance
theorem E_186 (q0 : Nat) (q1 : Int32) (q2 : Int32) (q3 : Int32) (M : Mem) (Q : Option Value → Mem → Prop) : Ct 186 [.ref q0, .int q1, .int q2, .int q3] M Q = WP 186 [] 0 [some (.ref q0), some (.int q1), some (.int q2), some (.int q3)] [] M Q := ct_wp rfl M Q
theorem B_186_0 : ∀ (L : Lo) (S : List Value) (M : Mem) (Q : Option Value → Mem → Prop), WP 186 [] 0 L S M Q = WP 186 [(.aload_n 0, 0, 0, 0), (.invokevirtual 208, 143, 0, 11), (.iload_n 1, 1, 0, 0), (.i2l, 0, 0, 0), (.lconst 0, 0, 0, 0), (.ldc2_w 292, 16, 0, 0), (.invokestatic 76, 99, 3, 0), (.ifCond .eq 28, 1, 0, 0), (.aload_n 0, 0, 0, 0), (.iload_n 2, 2, 0, 0), (.invokevirtual 146, 125, 1, 11), (.ifCond .eq 20, 1, 0, 0), (.iload_n 3, 3, 0, 0), (.invokestatic 104, 101, 1, 0), (.ifCond .eq 13, 1, 0, 0), (.aload_n 0, 0, 0, 0), (.iload_n 1, 1, 0, 0), (.iload_n 2, 2, 0, 0), (.iload_n 3, 3, 0, 0), (.invokevirtual 294, 185, 3, 11), (.goto 8, 2, 0, 0)] 0 L S M Q := wp_blk rfl
theorem B_186_1 : ∀ (L : Lo) (S : List Value) (M : Mem) (Q : Option Value → Mem → Prop), WP 186 [] 1 L S M Q = WP 186 [(.bipush (-2), 2, 1, 0), (.invokestatic 298, 100, 1, 0)] 2 L S M Q := wp_blk rfl
theorem B_186_2 : ∀ (L : Lo) (S : List Value) (M : Mem) (Q : Option Value → Mem → Prop), WP 186 [] 2 L S M Q = WP 186 [(.lreturn, 0, 0, 0)] 0 L S M Q := wp_blk rfl
-- X11_lot
theorem E_187 (q0 : Nat) (q1 : Int32) (M : Mem) (Q : Option Value → Mem → Prop) : Ct 187 [.ref q0, .int q1] M Q = WP 187 [] 0 [some (.ref q0), some (.int q1)] [] M Q := ct_wp rfl M Q
theorem B_187_0 : ∀ (L : Lo) (S : List Value) (M : Mem) (Q : Option Value → Mem → Prop), WP 187 [] 0 L S M Q = WP 187 [(.aload_n 0, 0, 0, 0), (.ldc_w 302, 1103515245, 0, 0), (.aload_n 0, 0, 0, 0), (.getfield 303, 11, 27, 0), (.imul, 0, 0, 0), (.sipush 12345, 12345, 0, 0), (.iadd, 0, 0, 0), (.putfield 303, 11, 27, 0), (.aload_n 0, 0, 0, 0), (.getfield 303, 11, 27, 0), (.bipush 16, 16, 0, 0), (.iushr, 0, 0, 0), (.iload_n 1, 1, 0, 0), (.irem, 0, 0, 0), (.ireturn, 0, 0, 0)] 0 L S M Q := wp_blk rfl
-- X11_summersOf
theorem E_188 (q0 : Nat) (q1 : Int32) (q2 : Int32) (q3 : Int32) (M : Mem) (Q : Option Value → Mem → Prop) : Ct 188 [.ref q0, .int q1, .int q2, .int q3] M Q = WP 188 [] 0 [some (.ref q0), some (.int q1), some (.int q2), some (.int q3), none, none, none, none] [] M Q := ct_wp rfl M Q
theorem B_188_0 : ∀ (L : Lo) (S : List Value) (M : Mem) (Q : Option Value → Mem → Prop), WP 188 [] 0 L S M Q = WP 188 [(.aload_n 0, 0, 0, 0), (.getfield 149, 11, 11, 0), (.istore 4, 4, 0, 0), (.iconst 0, 0, 0, 0), (.istore 5, 5, 0, 0)] 1 L S M Q := wp_blk rfl
theorem B_188_1 : ∀ (L : Lo) (S : List Value) (M : Mem) (Q : Option Value → Mem → Prop), WP 188 [] 1 L S M Q = WP 188 [(.iload 5, 5, 0, 0), (.bipush 24, 24, 0, 0), (.if_icmp .ge 23, 2, 0, 0), (.aload_n 0, 0, 0, 0), (.getfield 67, 11, 28, 0), (.iload 5, 5, 0, 0), (.aload_n 0, 0, 0, 0), (.getfield 37, 11, 12, 0), (.iload 5, 5, 0, 0), (.iaload, 0, 0, 0), (.iastore, 0, 0, 0), (.iinc 5 1, 5, 1, 0), (.goto (-24), 1, 0, 0)] 0 L S M Q := wp_blk rfl
theorem B_188_2 : ∀ (L : Lo) (S : List Value) (M : Mem) (Q : Option Value → Mem → Prop), WP 188 [] 2 L S M Q = WP 188 [(.aload_n 0, 0, 0, 0), (.iload_n 1, 1, 0, 0), (.putfield 303, 11, 27, 0), (.aload_n 0, 0, 0, 0), (.iconst 0, 0, 0, 0), (.putfield 149, 11, 11, 0), (.iconst 0, 0, 0, 0), (.istore 5, 5, 0, 0)] 3 L S M Q := wp_blk rfl
theorem B_188_3 : ∀ (L : Lo) (S : List Value) (M : Mem) (Q : Option Value → Mem → Prop), WP 188 [] 3 L S M Q = WP 188 [(.iload 5, 5, 0, 0), (.iload_n 2, 2, 0, 0), (.if_icmp .ge 38, 4, 0, 0), (.aload_n 0, 0, 0, 0), (.iconst 3, 3, 0, 0), (.invokevirtual 306, 187, 1, 11), (.istore 6, 6, 0, 0), (.aload_n 0, 0, 0, 0), (.bipush 24, 24, 0, 0), (.invokevirtual 306, 187, 1, 11), (.istore 7, 7, 0, 0), (.aload_n 0, 0, 0, 0), (.iload 6, 6, 0, 0), (.iload 7, 7, 0, 0), (.aload_n 0, 0, 0, 0), (.bipush 6, 6, 0, 0), (.invokevirtual 306, 187, 1, 11), (.invokevirtual 155, 130, 3, 11), (.iinc 5 1, 5, 1, 0), (.goto (-38), 3, 0, 0)] 0 L S M Q := wp_blk rfl
theorem B_188_4 : ∀ (L : Lo) (S : List Value) (M : Mem) (Q : Option Value → Mem → Prop), WP 188 [] 4 L S M Q = WP 188 [(.aload_n 0, 0, 0, 0), (.invokevirtual 202, 142, 0, 11), (.iconst 0, 0, 0, 0), (.istore 5, 5, 0, 0)] 5 L S M Q := wp_blk rfl
theorem B_188_5 : ∀ (L : Lo) (S : List Value) (M : Mem) (Q : Option Value → Mem → Prop), WP 188 [] 5 L S M Q = WP 188 [(.iload 5, 5, 0, 0), (.bipush 24, 24, 0, 0), (.if_icmp .ge 23, 6, 0, 0), (.aload_n 0, 0, 0, 0), (.getfield 37, 11, 12, 0), (.iload 5, 5, 0, 0), (.aload_n 0, 0, 0, 0), (.getfield 67, 11, 28, 0), (.iload 5, 5, 0, 0), (.iaload, 0, 0, 0), (.iastore, 0, 0, 0), (.iinc 5 1, 5, 1, 0), (.goto (-24), 5, 0, 0)] 0 L S M Q := wp_blk rfl
theorem B_188_6 : ∀ (L : Lo) (S : List Value) (M : Mem) (Q : Option Value → Mem → Prop), WP 188 [] 6 L S M Q = WP 188 [(.aload_n 0, 0, 0, 0), (.iload 4, 4, 0, 0), (.putfield 149, 11, 11, 0), (.iload_n 3, 3, 0, 0), (.ifCond .ne 12, 7, 0, 0), (.aload_n 0, 0, 0, 0), (.bipush 23, 23, 0, 0), (.invokevirtual 214, 148, 1, 11), (.goto 8, 8, 0, 0)] 0 L S M Q := wp_blk rfl
theorem B_188_7 : ∀ (L : Lo) (S : List Value) (M : Mem) (Q : Option Value → Mem → Prop), WP 188 [] 7 L S M Q = WP 188 [(.aload_n 0, 0, 0, 0), (.iconst 1, 1, 0, 0), (.invokevirtual 226, 154, 1, 11)] 8 L S M Q := wp_blk rfl
theorem B_188_8 : ∀ (L : Lo) (S : List Value) (M : Mem) (Q : Option Value → Mem → Prop), WP 188 [] 8 L S M Q = WP 188 [(.ireturn, 0, 0, 0)] 0 L S M Q := wp_blk rfl
-- X11_summers
theorem E_189 (q0 : Nat) (q1 : Int32) (q2 : Int32) (q3 : Int32) (M : Mem) (Q : Option Value → Mem → Prop) : Ct 189 [.ref q0, .int q1, .int q2, .int q3] M Q = WP 189 [] 0 [some (.ref q0), some (.int q1), some (.int q2), some (.int q3)] [] M Q := ct_wp rfl M Q
theorem B_189_0 : ∀ (L : Lo) (S : List Value) (M : Mem) (Q : Option Value → Mem → Prop), WP 189 [] 0 L S M Q = WP 189 [(.aload_n 0, 0, 0, 0), (.invokevirtual 208, 143, 0, 11), (.iload_n 2, 2, 0, 0), (.i2l, 0, 0, 0), (.lconst 0, 0, 0, 0), (.ldc2_w 309, 8, 0, 0), (.invokestatic 76, 99, 3, 0), (.ifCond .eq 20, 1, 0, 0), (.iload_n 3, 3, 0, 0), (.invokestatic 104, 101, 1, 0), (.ifCond .eq 13, 1, 0, 0), (.aload_n 0, 0, 0, 0), (.iload_n 1, 1, 0, 0), (.iload_n 2, 2, 0, 0), (.iload_n 3, 3, 0, 0), (.invokevirtual 311, 188, 3, 11), (.goto 5, 2, 0, 0)] 0 L S M Q := wp_blk rfl
theorem B_189_1 : ∀ (L : Lo) (S : List Value) (M : Mem) (Q : Option Value → Mem → Prop), WP 189 [] 1 L S M Q = WP 189 [(.bipush (-2), 2, 1, 0)] 2 L S M Q := wp_blk rfl
theorem B_189_2 : ∀ (L : Lo) (S : List Value) (M : Mem) (Q : Option Value → Mem → Prop), WP 189 [] 2 L S M Q = WP 189 [(.ireturn, 0, 0, 0)] 0 L S M Q := wp_blk rfl
-- X11_write
theorem E_190 (q0 : Nat) (q1 : Int32) (q2 : Int32) (M : Mem) (Q : Option Value → Mem → Prop) : Ct 190 [.ref q0, .int q1, .int q2] M Q = WP 190 [] 0 [some (.ref q0), some (.int q1), some (.int q2), none, none] [] M Q := ct_wp rfl M Q
theorem B_190_0 : ∀ (L : Lo) (S : List Value) (M : Mem) (Q : Option Value → Mem → Prop), WP 190 [] 0 L S M Q = WP 190 [(.iload_n 1, 1, 0, 0), (.invokestatic 140, 124, 1, 0), (.ifCond .eq 10, 1, 0, 0), (.iload_n 2, 2, 0, 0), (.invokestatic 85, 107, 1, 0), (.ifCond .ne 6, 2, 0, 0)] 1 L S M Q := wp_blk rfl
theorem B_190_1 : ∀ (L : Lo) (S : List Value) (M : Mem) (Q : Option Value → Mem → Prop), WP 190 [] 1 L S M Q = WP 190 [(.bipush (-2), 2, 1, 0), (.ireturn, 0, 0, 0)] 0 L S M Q := wp_blk rfl
theorem B_190_2 : ∀ (L : Lo) (S : List Value) (M : Mem) (Q : Option Value → Mem → Prop), WP 190 [] 2 L S M Q = WP 190 [(.aload_n 0, 0, 0, 0), (.getfield 7, 11, 0, 0), (.iload_n 2, 2, 0, 0), (.iaload, 0, 0, 0), (.ifCond .ge 9, 3, 0, 0), (.aload_n 0, 0, 0, 0), (.iconst 1, 1, 0, 0), (.invokevirtual 91, 106, 1, 11), (.ireturn, 0, 0, 0)] 0 L S M Q := wp_blk rfl
theorem B_190_3 : ∀ (L : Lo) (S : List Value) (M : Mem) (Q : Option Value → Mem → Prop), WP 190 [] 3 L S M Q = WP 190 [(.aload_n 0, 0, 0, 0), (.invokevirtual 208, 143, 0, 11), (.aload_n 0, 0, 0, 0), (.getfield 13, 11, 1, 0), (.iload_n 2, 2, 0, 0), (.iaload, 0, 0, 0), (.bipush 24, 24, 0, 0), (.invokestatic 183, 103, 2, 0), (.istore_n 3, 3, 0, 0), (.iconst 0, 0, 0, 0), (.istore 4, 4, 0, 0)] 4 L S M Q := wp_blk rfl
theorem B_190_4 : ∀ (L : Lo) (S : List Value) (M : Mem) (Q : Option Value → Mem → Prop), WP 190 [] 4 L S M Q = WP 190 [(.iload 4, 4, 0, 0), (.iload_n 3, 3, 0, 0), (.if_icmp .ge 37, 5, 0, 0), (.aload_n 0, 0, 0, 0), (.getfield 16, 11, 2, 0), (.bipush 60, 60, 0, 0), (.iload_n 2, 2, 0, 0), (.imul, 0, 0, 0), (.iload 4, 4, 0, 0), (.iadd, 0, 0, 0), (.aload_n 0, 0, 0, 0), (.getfield 7, 11, 0, 0), (.iload_n 2, 2, 0, 0), (.iaload, 0, 0, 0), (.aload_n 0, 0, 0, 0), (.iload 4, 4, 0, 0), (.iload_n 1, 1, 0, 0), (.invokevirtual 205, 144, 2, 11), (.invokestatic 99, 111, 2, 0), (.iastore, 0, 0, 0), (.iinc 4 1, 4, 1, 0), (.goto (-37), 4, 0, 0)] 0 L S M Q := wp_blk rfl
theorem B_190_5 : ∀ (L : Lo) (S : List Value) (M : Mem) (Q : Option Value → Mem → Prop), WP 190 [] 5 L S M Q = WP 190 [(.iload_n 3, 3, 0, 0), (.ireturn, 0, 0, 0)] 0 L S M Q := wp_blk rfl
-- X11_manyBlocks
theorem E_191 (q0 : Nat) (M : Mem) (Q : Option Value → Mem → Prop) : Ct 191 [.ref q0] M Q = WP 191 [] 0 [some (.ref q0), none, none] [] M Q := ct_wp rfl M Q
theorem B_191_0 : ∀ (L : Lo) (S : List Value) (M : Mem) (Q : Option Value → Mem → Prop), WP 191 [] 0 L S M Q = WP 191 [(.iconst 0, 0, 0, 0), (.istore_n 1, 1, 0, 0), (.iconst 0, 0, 0, 0), (.istore_n 2, 2, 0, 0)] 1 L S M Q := wp_blk rfl
theorem B_191_1 : ∀ (L : Lo) (S : List Value) (M : Mem) (Q : Option Value → Mem → Prop), WP 191 [] 1 L S M Q = WP 191 [(.iload_n 2, 2, 0, 0), (.bipush 6, 6, 0, 0), (.if_icmp .ge 18, 2, 0, 0), (.iload_n 1, 1, 0, 0), (.aload_n 0, 0, 0, 0), (.getfield 28, 11, 7, 0), (.iload_n 2, 2, 0, 0), (.iaload, 0, 0, 0), (.iadd, 0, 0, 0), (.istore_n 1, 1, 0, 0), (.iinc 2 1, 2, 1, 0), (.goto (-18), 1, 0, 0)] 0 L S M Q := wp_blk rfl
theorem B_191_2 : ∀ (L : Lo) (S : List Value) (M : Mem) (Q : Option Value → Mem → Prop), WP 191 [] 2 L S M Q = WP 191 [(.iload_n 1, 1, 0, 0), (.ireturn, 0, 0, 0)] 0 L S M Q := wp_blk rfl
-- X11_count
theorem E_192 (q0 : Nat) (q1 : Int32) (M : Mem) (Q : Option Value → Mem → Prop) : Ct 192 [.ref q0, .int q1] M Q = WP 192 [] 0 [some (.ref q0), some (.int q1)] [] M Q := ct_wp rfl M Q
theorem B_192_0 : ∀ (L : Lo) (S : List Value) (M : Mem) (Q : Option Value → Mem → Prop), WP 192 [] 0 L S M Q = WP 192 [(.aload_n 0, 0, 0, 0), (.invokevirtual 208, 143, 0, 11), (.iload_n 1, 1, 0, 0), (.tableswitch 98 0 8 #[51, 56, 61, 61, 70, 75, 82, 88, 93], 1, 0, 0)] 0 L S M Q := wp_blk rfl
theorem B_192_1 : ∀ (L : Lo) (S : List Value) (M : Mem) (Q : Option Value → Mem → Prop), WP 192 [] 1 L S M Q = WP 192 [(.aload_n 0, 0, 0, 0), (.invokevirtual 314, 191, 0, 11), (.ireturn, 0, 0, 0)] 0 L S M Q := wp_blk rfl
theorem B_192_2 : ∀ (L : Lo) (S : List Value) (M : Mem) (Q : Option Value → Mem → Prop), WP 192 [] 2 L S M Q = WP 192 [(.aload_n 0, 0, 0, 0), (.getfield 120, 11, 9, 0), (.ireturn, 0, 0, 0)] 0 L S M Q := wp_blk rfl
theorem B_192_3 : ∀ (L : Lo) (S : List Value) (M : Mem) (Q : Option Value → Mem → Prop), WP 192 [] 3 L S M Q = WP 192 [(.aload_n 0, 0, 0, 0), (.getfield 25, 11, 6, 0), (.iload_n 1, 1, 0, 0), (.iconst 2, 2, 0, 0), (.isub, 0, 0, 0), (.iaload, 0, 0, 0), (.ireturn, 0, 0, 0)] 0 L S M Q := wp_blk rfl
theorem B_192_4 : ∀ (L : Lo) (S : List Value) (M : Mem) (Q : Option Value → Mem → Prop), WP 192 [] 4 L S M Q = WP 192 [(.aload_n 0, 0, 0, 0), (.getfield 149, 11, 11, 0), (.ireturn, 0, 0, 0)] 0 L S M Q := wp_blk rfl
theorem B_192_5 : ∀ (L : Lo) (S : List Value) (M : Mem) (Q : Option Value → Mem → Prop), WP 192 [] 5 L S M Q = WP 192 [(.aload_n 0, 0, 0, 0), (.bipush 23, 23, 0, 0), (.invokevirtual 214, 148, 1, 11), (.ireturn, 0, 0, 0)] 0 L S M Q := wp_blk rfl
theorem B_192_6 : ∀ (L : Lo) (S : List Value) (M : Mem) (Q : Option Value → Mem → Prop), WP 192 [] 6 L S M Q = WP 192 [(.aload_n 0, 0, 0, 0), (.iconst 1, 1, 0, 0), (.invokevirtual 226, 154, 1, 11), (.ireturn, 0, 0, 0)] 0 L S M Q := wp_blk rfl
theorem B_192_7 : ∀ (L : Lo) (S : List Value) (M : Mem) (Q : Option Value → Mem → Prop), WP 192 [] 7 L S M Q = WP 192 [(.aload_n 0, 0, 0, 0), (.getfield 263, 11, 24, 0), (.ireturn, 0, 0, 0)] 0 L S M Q := wp_blk rfl
theorem B_192_8 : ∀ (L : Lo) (S : List Value) (M : Mem) (Q : Option Value → Mem → Prop), WP 192 [] 8 L S M Q = WP 192 [(.aload_n 0, 0, 0, 0), (.getfield 80, 11, 4, 0), (.ireturn, 0, 0, 0)] 0 L S M Q := wp_blk rfl
theorem B_192_9 : ∀ (L : Lo) (S : List Value) (M : Mem) (Q : Option Value → Mem → Prop), WP 192 [] 9 L S M Q = WP 192 [(.bipush (-2), 2, 1, 0), (.ireturn, 0, 0, 0)] 0 L S M Q := wp_blk rfl
-- X11_tellsColumn
theorem E_193 (q0 : Nat) (q1 : Int64) (q2 : Int32) (M : Mem) (Q : Option Value → Mem → Prop) : Ct 193 [.ref q0, .long q1, .int q2] M Q = WP 193 [] 0 [some (.ref q0), some (.long q1), none, some (.int q2), none, none, none] [] M Q := ct_wp rfl M Q
theorem B_193_0 : ∀ (L : Lo) (S : List Value) (M : Mem) (Q : Option Value → Mem → Prop), WP 193 [] 0 L S M Q = WP 193 [(.aload_n 0, 0, 0, 0), (.invokevirtual 202, 142, 0, 11), (.ldc2_w 317, 31, 0, 0), (.lload_n 1, 1, 0, 0), (.lmul, 0, 0, 0), (.aload_n 0, 0, 0, 0), (.iload_n 3, 3, 0, 0), (.invokevirtual 229, 156, 1, 11), (.i2l, 0, 0, 0), (.ladd, 0, 0, 0), (.lstore 4, 4, 0, 0), (.iconst 0, 0, 0, 0), (.istore 6, 6, 0, 0)] 1 L S M Q := wp_blk rfl
theorem B_193_1 : ∀ (L : Lo) (S : List Value) (M : Mem) (Q : Option Value → Mem → Prop), WP 193 [] 1 L S M Q = WP 193 [(.iload 6, 6, 0, 0), (.bipush 6, 6, 0, 0), (.if_icmp .ge 100, 3, 0, 0), (.aload_n 0, 0, 0, 0), (.invokevirtual 202, 142, 0, 11), (.ldc2_w 317, 31, 0, 0), (.lload 4, 4, 0, 0), (.lmul, 0, 0, 0), (.aload_n 0, 0, 0, 0), (.iload_n 3, 3, 0, 0), (.iload 6, 6, 0, 0), (.invokevirtual 143, 127, 2, 11), (.i2l, 0, 0, 0), (.ladd, 0, 0, 0), (.lstore 4, 4, 0, 0), (.ldc2_w 317, 31, 0, 0), (.lload 4, 4, 0, 0), (.lmul, 0, 0, 0), (.aload_n 0, 0, 0, 0), (.getfield 55, 11, 22, 0), (.sipush 144, 144, 0, 0), (.bipush 6, 6, 0, 0), (.iload_n 3, 3, 0, 0), (.imul, 0, 0, 0), (.iadd, 0, 0, 0), (.iload 6, 6, 0, 0), (.iadd, 0, 0, 0), (.iaload, 0, 0, 0), (.i2l, 0, 0, 0), (.ladd, 0, 0, 0), (.lstore 4, 4, 0, 0), (.aload_n 0, 0, 0, 0), (.iload_n 3, 3, 0, 0), (.iload 6, 6, 0, 0), (.invokevirtual 143, 127, 2, 11), (.ifCond .le 37, 2, 0, 0), (.ldc2_w 317, 31, 0, 0), (.lload 4, 4, 0, 0), (.lmul, 0, 0, 0), (.aload_n 0, 0, 0, 0), (.iload_n 3, 3, 0, 0), (.iload 6, 6, 0, 0), (.invokevirtual 279, 180, 2, 11), (.i2l, 0, 0, 0), (.ladd, 0, 0, 0), (.lstore 4, 4, 0, 0), (.ldc2_w 317, 31, 0, 0), (.lload 4, 4, 0, 0), (.lmul, 0, 0, 0), (.aload_n 0, 0, 0, 0), (.iload_n 3, 3, 0, 0), (.iload 6, 6, 0, 0), (.invokevirtual 285, 183, 2, 11), (.i2l, 0, 0, 0), (.ladd, 0, 0, 0), (.lstore 4, 4, 0, 0)] 2 L S M Q := wp_blk rfl
theorem B_193_2 : ∀ (L : Lo) (S : List Value) (M : Mem) (Q : Option Value → Mem → Prop), WP 193 [] 2 L S M Q = WP 193 [(.iinc 6 1, 6, 1, 0), (.goto (-101), 1, 0, 0)] 0 L S M Q := wp_blk rfl
theorem B_193_3 : ∀ (L : Lo) (S : List Value) (M : Mem) (Q : Option Value → Mem → Prop), WP 193 [] 3 L S M Q = WP 193 [(.aload_n 0, 0, 0, 0), (.invokevirtual 202, 142, 0, 11), (.ldc2_w 317, 31, 0, 0), (.lload 4, 4, 0, 0), (.lmul, 0, 0, 0), (.aload_n 0, 0, 0, 0), (.bipush 11, 11, 0, 0), (.iload_n 3, 3, 0, 0), (.iconst 0, 0, 0, 0), (.invokevirtual 211, 145, 3, 11), (.i2l, 0, 0, 0), (.ladd, 0, 0, 0), (.lstore 4, 4, 0, 0), (.ldc2_w 317, 31, 0, 0), (.lload 4, 4, 0, 0), (.lmul, 0, 0, 0), (.aload_n 0, 0, 0, 0), (.bipush 11, 11, 0, 0), (.iload_n 3, 3, 0, 0), (.iconst 1, 1, 0, 0), (.invokevirtual 211, 145, 3, 11), (.i2l, 0, 0, 0), (.ladd, 0, 0, 0), (.lreturn, 0, 0, 0)] 0 L S M Q := wp_blk rfl
-- X11_tellsOrder
theorem E_194 (q0 : Nat) (q1 : Int64) (q2 : Int32) (M : Mem) (Q : Option Value → Mem → Prop) : Ct 194 [.ref q0, .long q1, .int q2] M Q = WP 194 [] 0 [some (.ref q0), some (.long q1), none, some (.int q2), none, none] [] M Q := ct_wp rfl M Q
theorem B_194_0 : ∀ (L : Lo) (S : List Value) (M : Mem) (Q : Option Value → Mem → Prop), WP 194 [] 0 L S M Q = WP 194 [(.aload_n 0, 0, 0, 0), (.invokevirtual 202, 142, 0, 11), (.ldc2_w 317, 31, 0, 0), (.lload_n 1, 1, 0, 0), (.lmul, 0, 0, 0), (.aload_n 0, 0, 0, 0), (.getfield 34, 11, 10, 0), (.iconst 2, 2, 0, 0), (.iload_n 3, 3, 0, 0), (.imul, 0, 0, 0), (.iaload, 0, 0, 0), (.i2l, 0, 0, 0), (.ladd, 0, 0, 0), (.lstore 4, 4, 0, 0), (.ldc2_w 317, 31, 0, 0), (.lload 4, 4, 0, 0), (.lmul, 0, 0, 0), (.aload_n 0, 0, 0, 0), (.getfield 34, 11, 10, 0), (.iconst 2, 2, 0, 0), (.iload_n 3, 3, 0, 0), (.imul, 0, 0, 0), (.iconst 1, 1, 0, 0), (.iadd, 0, 0, 0), (.iaload, 0, 0, 0), (.i2l, 0, 0, 0), (.ladd, 0, 0, 0), (.lstore 4, 4, 0, 0), (.ldc2_w 317, 31, 0, 0), (.lload 4, 4, 0, 0), (.lmul, 0, 0, 0), (.aload_n 0, 0, 0, 0), (.iload_n 3, 3, 0, 0), (.iconst 0, 0, 0, 0), (.invokevirtual 223, 152, 2, 11), (.i2l, 0, 0, 0), (.ladd, 0, 0, 0), (.lstore 4, 4, 0, 0), (.ldc2_w 317, 31, 0, 0), (.lload 4, 4, 0, 0), (.lmul, 0, 0, 0), (.aload_n 0, 0, 0, 0), (.iload_n 3, 3, 0, 0), (.iconst 1, 1, 0, 0), (.invokevirtual 223, 152, 2, 11), (.i2l, 0, 0, 0), (.ladd, 0, 0, 0), (.lstore 4, 4, 0, 0), (.ldc2_w 317, 31, 0, 0), (.lload 4, 4, 0, 0), (.lmul, 0, 0, 0), (.aload_n 0, 0, 0, 0), (.iload_n 3, 3, 0, 0), (.iconst 0, 0, 0, 0), (.invokevirtual 250, 168, 2, 11), (.i2l, 0, 0, 0), (.ladd, 0, 0, 0), (.lstore 4, 4, 0, 0), (.ldc2_w 317, 31, 0, 0), (.lload 4, 4, 0, 0), (.lmul, 0, 0, 0), (.aload_n 0, 0, 0, 0), (.iload_n 3, 3, 0, 0), (.iconst 1, 1, 0, 0), (.invokevirtual 250, 168, 2, 11), (.i2l, 0, 0, 0), (.ladd, 0, 0, 0), (.lstore 4, 4, 0, 0), (.ldc2_w 317, 31, 0, 0), (.lload 4, 4, 0, 0), (.lmul, 0, 0, 0), (.aload_n 0, 0, 0, 0), (.iconst 5, 5, 0, 0), (.iload_n 3, 3, 0, 0), (.iconst 0, 0, 0, 0), (.invokevirtual 294, 185, 3, 11), (.ladd, 0, 0, 0), (.lstore 4, 4, 0, 0), (.ldc2_w 317, 31, 0, 0), (.lload 4, 4, 0, 0), (.lmul, 0, 0, 0), (.aload_n 0, 0, 0, 0), (.iconst 5, 5, 0, 0), (.iload_n 3, 3, 0, 0), (.iconst 1, 1, 0, 0), (.invokevirtual 294, 185, 3, 11), (.ladd, 0, 0, 0), (.lreturn, 0, 0, 0)] 0 L S M Q := wp_blk rfl
-- X11_digest
theorem E_195 (q0 : Nat) (M : Mem) (Q : Option Value → Mem → Prop) : Ct 195 [.ref q0] M Q = WP 195 [] 0 [some (.ref q0), none, none, none] [] M Q := ct_wp rfl M Q
theorem B_195_0 : ∀ (L : Lo) (S : List Value) (M : Mem) (Q : Option Value → Mem → Prop), WP 195 [] 0 L S M Q = WP 195 [(.ldc2_w 319, 17, 0, 0), (.lstore_n 1, 1, 0, 0), (.iconst 0, 0, 0, 0), (.istore_n 3, 3, 0, 0)] 1 L S M Q := wp_blk rfl
theorem B_195_1 : ∀ (L : Lo) (S : List Value) (M : Mem) (Q : Option Value → Mem → Prop), WP 195 [] 1 L S M Q = WP 195 [(.iload_n 3, 3, 0, 0), (.bipush 8, 8, 0, 0), (.if_icmp .ge 22, 2, 0, 0), (.ldc2_w 317, 31, 0, 0), (.lload_n 1, 1, 0, 0), (.lmul, 0, 0, 0), (.aload_n 0, 0, 0, 0), (.iload_n 3, 3, 0, 0), (.invokevirtual 321, 192, 1, 11), (.i2l, 0, 0, 0), (.ladd, 0, 0, 0), (.lstore_n 1, 1, 0, 0), (.iinc 3 1, 3, 1, 0), (.goto (-22), 1, 0, 0)] 0 L S M Q := wp_blk rfl
theorem B_195_2 : ∀ (L : Lo) (S : List Value) (M : Mem) (Q : Option Value → Mem → Prop), WP 195 [] 2 L S M Q = WP 195 [(.iconst 0, 0, 0, 0), (.istore_n 3, 3, 0, 0)] 3 L S M Q := wp_blk rfl
theorem B_195_3 : ∀ (L : Lo) (S : List Value) (M : Mem) (Q : Option Value → Mem → Prop), WP 195 [] 3 L S M Q = WP 195 [(.iload_n 3, 3, 0, 0), (.iconst 2, 2, 0, 0), (.if_icmp .ge 22, 4, 0, 0), (.ldc2_w 317, 31, 0, 0), (.lload_n 1, 1, 0, 0), (.lmul, 0, 0, 0), (.aload_n 0, 0, 0, 0), (.iload_n 3, 3, 0, 0), (.invokevirtual 133, 122, 1, 11), (.i2l, 0, 0, 0), (.ladd, 0, 0, 0), (.lstore_n 1, 1, 0, 0), (.iinc 3 1, 3, 1, 0), (.goto (-21), 3, 0, 0)] 0 L S M Q := wp_blk rfl
theorem B_195_4 : ∀ (L : Lo) (S : List Value) (M : Mem) (Q : Option Value → Mem → Prop), WP 195 [] 4 L S M Q = WP 195 [(.aload_n 0, 0, 0, 0), (.invokevirtual 202, 142, 0, 11), (.iconst 0, 0, 0, 0), (.istore_n 3, 3, 0, 0)] 5 L S M Q := wp_blk rfl
theorem B_195_5 : ∀ (L : Lo) (S : List Value) (M : Mem) (Q : Option Value → Mem → Prop), WP 195 [] 5 L S M Q = WP 195 [(.iload_n 3, 3, 0, 0), (.bipush 24, 24, 0, 0), (.if_icmp .ge 37, 6, 0, 0), (.ldc2_w 317, 31, 0, 0), (.lload_n 1, 1, 0, 0), (.lmul, 0, 0, 0), (.aload_n 0, 0, 0, 0), (.iload_n 3, 3, 0, 0), (.iconst 0, 0, 0, 0), (.invokevirtual 217, 149, 2, 11), (.i2l, 0, 0, 0), (.ladd, 0, 0, 0), (.lstore_n 1, 1, 0, 0), (.ldc2_w 317, 31, 0, 0), (.lload_n 1, 1, 0, 0), (.lmul, 0, 0, 0), (.aload_n 0, 0, 0, 0), (.iload_n 3, 3, 0, 0), (.iconst 1, 1, 0, 0), (.invokevirtual 217, 149, 2, 11), (.i2l, 0, 0, 0), (.ladd, 0, 0, 0), (.lstore_n 1, 1, 0, 0), (.iinc 3 1, 3, 1, 0), (.goto (-37), 5, 0, 0)] 0 L S M Q := wp_blk rfl
theorem B_195_6 : ∀ (L : Lo) (S : List Value) (M : Mem) (Q : Option Value → Mem → Prop), WP 195 [] 6 L S M Q = WP 195 [(.iconst 0, 0, 0, 0), (.istore_n 3, 3, 0, 0)] 7 L S M Q := wp_blk rfl
theorem B_195_7 : ∀ (L : Lo) (S : List Value) (M : Mem) (Q : Option Value → Mem → Prop), WP 195 [] 7 L S M Q = WP 195 [(.iload_n 3, 3, 0, 0), (.bipush 6, 6, 0, 0), (.if_icmp .ge 16, 8, 0, 0), (.aload_n 0, 0, 0, 0), (.lload_n 1, 1, 0, 0), (.iload_n 3, 3, 0, 0), (.invokevirtual 324, 193, 2, 11), (.lstore_n 1, 1, 0, 0), (.iinc 3 1, 3, 1, 0), (.goto (-16), 7, 0, 0)] 0 L S M Q := wp_blk rfl
theorem B_195_8 : ∀ (L : Lo) (S : List Value) (M : Mem) (Q : Option Value → Mem → Prop), WP 195 [] 8 L S M Q = WP 195 [(.iconst 0, 0, 0, 0), (.istore_n 3, 3, 0, 0)] 9 L S M Q := wp_blk rfl
theorem B_195_9 : ∀ (L : Lo) (S : List Value) (M : Mem) (Q : Option Value → Mem → Prop), WP 195 [] 9 L S M Q = WP 195 [(.iload_n 3, 3, 0, 0), (.aload_n 0, 0, 0, 0), (.getfield 120, 11, 9, 0), (.if_icmp .ge 16, 10, 0, 0), (.aload_n 0, 0, 0, 0), (.lload_n 1, 1, 0, 0), (.iload_n 3, 3, 0, 0), (.invokevirtual 328, 194, 2, 11), (.lstore_n 1, 1, 0, 0), (.iinc 3 1, 3, 1, 0), (.goto (-18), 9, 0, 0)] 0 L S M Q := wp_blk rfl
theorem B_195_10 : ∀ (L : Lo) (S : List Value) (M : Mem) (Q : Option Value → Mem → Prop), WP 195 [] 10 L S M Q = WP 195 [(.aload_n 0, 0, 0, 0), (.invokevirtual 202, 142, 0, 11), (.ldc2_w 317, 31, 0, 0), (.lload_n 1, 1, 0, 0), (.lmul, 0, 0, 0), (.aload_n 0, 0, 0, 0), (.iconst 0, 0, 0, 0), (.invokevirtual 226, 154, 1, 11), (.i2l, 0, 0, 0), (.ladd, 0, 0, 0), (.lstore_n 1, 1, 0, 0), (.ldc2_w 317, 31, 0, 0), (.lload_n 1, 1, 0, 0), (.lmul, 0, 0, 0), (.aload_n 0, 0, 0, 0), (.iconst 1, 1, 0, 0), (.invokevirtual 226, 154, 1, 11), (.i2l, 0, 0, 0), (.ladd, 0, 0, 0), (.lstore_n 1, 1, 0, 0), (.ldc2_w 317, 31, 0, 0), (.lload_n 1, 1, 0, 0), (.lmul, 0, 0, 0), (.aload_n 0, 0, 0, 0), (.invokevirtual 232, 158, 0, 11), (.i2l, 0, 0, 0), (.ladd, 0, 0, 0), (.lstore_n 1, 1, 0, 0), (.ldc2_w 317, 31, 0, 0), (.lload_n 1, 1, 0, 0), (.lmul, 0, 0, 0), (.aload_n 0, 0, 0, 0), (.invokevirtual 235, 160, 0, 11), (.i2l, 0, 0, 0), (.ladd, 0, 0, 0), (.lstore_n 1, 1, 0, 0), (.ldc2_w 317, 31, 0, 0), (.lload_n 1, 1, 0, 0), (.lmul, 0, 0, 0), (.aload_n 0, 0, 0, 0), (.iconst 0, 0, 0, 0), (.invokevirtual 238, 162, 1, 11), (.i2l, 0, 0, 0), (.ladd, 0, 0, 0), (.lstore_n 1, 1, 0, 0), (.ldc2_w 317, 31, 0, 0), (.lload_n 1, 1, 0, 0), (.lmul, 0, 0, 0), (.aload_n 0, 0, 0, 0), (.iconst 1, 1, 0, 0), (.invokevirtual 238, 162, 1, 11), (.i2l, 0, 0, 0), (.ladd, 0, 0, 0), (.lstore_n 1, 1, 0, 0), (.ldc2_w 317, 31, 0, 0), (.lload_n 1, 1, 0, 0), (.lmul, 0, 0, 0), (.aload_n 0, 0, 0, 0), (.iconst 0, 0, 0, 0), (.invokevirtual 244, 164, 1, 11), (.i2l, 0, 0, 0), (.ladd, 0, 0, 0), (.lstore_n 1, 1, 0, 0), (.ldc2_w 317, 31, 0, 0), (.lload_n 1, 1, 0, 0), (.lmul, 0, 0, 0), (.aload_n 0, 0, 0, 0), (.iconst 1, 1, 0, 0), (.invokevirtual 244, 164, 1, 11), (.i2l, 0, 0, 0), (.ladd, 0, 0, 0), (.lstore_n 1, 1, 0, 0), (.iconst 0, 0, 0, 0), (.istore_n 3, 3, 0, 0)] 11 L S M Q := wp_blk rfl
theorem B_195_11 : ∀ (L : Lo) (S : List Value) (M : Mem) (Q : Option Value → Mem → Prop), WP 195 [] 11 L S M Q = WP 195 [(.iload_n 3, 3, 0, 0), (.iconst 3, 3, 0, 0), (.if_icmp .ge 22, 12, 0, 0), (.ldc2_w 317, 31, 0, 0), (.lload_n 1, 1, 0, 0), (.lmul, 0, 0, 0), (.aload_n 0, 0, 0, 0), (.iload_n 3, 3, 0, 0), (.invokevirtual 247, 166, 1, 11), (.i2l, 0, 0, 0), (.ladd, 0, 0, 0), (.lstore_n 1, 1, 0, 0), (.iinc 3 1, 3, 1, 0), (.goto (-21), 11, 0, 0)] 0 L S M Q := wp_blk rfl
theorem B_195_12 : ∀ (L : Lo) (S : List Value) (M : Mem) (Q : Option Value → Mem → Prop), WP 195 [] 12 L S M Q = WP 195 [(.ldc2_w 317, 31, 0, 0), (.lload_n 1, 1, 0, 0), (.lmul, 0, 0, 0), (.aload_n 0, 0, 0, 0), (.iconst (-1), 1, 1, 0), (.invokevirtual 258, 171, 1, 11), (.i2l, 0, 0, 0), (.ladd, 0, 0, 0), (.lstore_n 1, 1, 0, 0), (.ldc2_w 317, 31, 0, 0), (.lload_n 1, 1, 0, 0), (.lmul, 0, 0, 0), (.aload_n 0, 0, 0, 0), (.iconst 0, 0, 0, 0), (.invokevirtual 258, 171, 1, 11), (.i2l, 0, 0, 0), (.ladd, 0, 0, 0), (.lstore_n 1, 1, 0, 0), (.ldc2_w 317, 31, 0, 0), (.lload_n 1, 1, 0, 0), (.lmul, 0, 0, 0), (.aload_n 0, 0, 0, 0), (.invokevirtual 270, 176, 0, 11), (.i2l, 0, 0, 0), (.ladd, 0, 0, 0), (.lstore_n 1, 1, 0, 0), (.ldc2_w 317, 31, 0, 0), (.lload_n 1, 1, 0, 0), (.lmul, 0, 0, 0), (.aload_n 0, 0, 0, 0), (.bipush 7, 7, 0, 0), (.bipush 6, 6, 0, 0), (.iconst 0, 0, 0, 0), (.invokevirtual 311, 188, 3, 11), (.i2l, 0, 0, 0), (.ladd, 0, 0, 0), (.lstore_n 1, 1, 0, 0), (.ldc2_w 317, 31, 0, 0), (.lload_n 1, 1, 0, 0), (.lmul, 0, 0, 0), (.aload_n 0, 0, 0, 0), (.bipush 7, 7, 0, 0), (.bipush 6, 6, 0, 0), (.iconst 1, 1, 0, 0), (.invokevirtual 311, 188, 3, 11), (.i2l, 0, 0, 0), (.ladd, 0, 0, 0), (.lreturn, 0, 0, 0)] 0 L S M Q := wp_blk rfl
-- J6_bitCount_0f7a4
theorem E_196 (q0 : Int32) (M : Mem) (Q : Option Value → Mem → Prop) : Ct 196 [.int q0] M Q = WP 196 [] 0 [some (.int q0)] [] M Q := ct_wp rfl M Q
theorem B_196_0 : ∀ (L : Lo) (S : List Value) (M : Mem) (Q : Option Value → Mem → Prop), WP 196 [] 0 L S M Q = WP 196 [(.iload_n 0, 0, 0, 0), (.iload_n 0, 0, 0, 0), (.iconst 1, 1, 0, 0), (.iushr, 0, 0, 0), (.ldc_w 265, 1431655765, 0, 0), (.iand, 0, 0, 0), (.isub, 0, 0, 0), (.istore_n 0, 0, 0, 0), (.iload_n 0, 0, 0, 0), (.ldc_w 266, 858993459, 0, 0), (.iand, 0, 0, 0), (.iload_n 0, 0, 0, 0), (.iconst 2, 2, 0, 0), (.iushr, 0, 0, 0), (.ldc_w 266, 858993459, 0, 0), (.iand, 0, 0, 0), (.iadd, 0, 0, 0), (.istore_n 0, 0, 0, 0), (.iload_n 0, 0, 0, 0), (.iload_n 0, 0, 0, 0), (.iconst 4, 4, 0, 0), (.iushr, 0, 0, 0), (.iadd, 0, 0, 0), (.ldc_w 267, 252645135, 0, 0), (.iand, 0, 0, 0), (.istore_n 0, 0, 0, 0), (.iload_n 0, 0, 0, 0), (.iload_n 0, 0, 0, 0), (.bipush 8, 8, 0, 0), (.iushr, 0, 0, 0), (.iadd, 0, 0, 0), (.istore_n 0, 0, 0, 0), (.iload_n 0, 0, 0, 0), (.iload_n 0, 0, 0, 0), (.bipush 16, 16, 0, 0), (.iushr, 0, 0, 0), (.iadd, 0, 0, 0), (.istore_n 0, 0, 0, 0), (.iload_n 0, 0, 0, 0), (.bipush 63, 63, 0, 0), (.iand, 0, 0, 0), (.ireturn, 0, 0, 0)] 0 L S M Q := wp_blk rfl
-- J7_fill_53178
theorem E_197 (q0 : Nat) (q1 : Int32) (M : Mem) (Q : Option Value → Mem → Prop) : Ct 197 [.ref q0, .int q1] M Q = WP 197 [] 0 [some (.ref q0), some (.int q1), none, none] [] M Q := ct_wp rfl M Q
theorem B_197_0 : ∀ (L : Lo) (S : List Value) (M : Mem) (Q : Option Value → Mem → Prop), WP 197 [] 0 L S M Q = WP 197 [(.iconst 0, 0, 0, 0), (.istore_n 2, 2, 0, 0), (.aload_n 0, 0, 0, 0), (.arraylength, 0, 0, 0), (.istore_n 3, 3, 0, 0)] 1 L S M Q := wp_blk rfl
theorem B_197_1 : ∀ (L : Lo) (S : List Value) (M : Mem) (Q : Option Value → Mem → Prop), WP 197 [] 1 L S M Q = WP 197 [(.iload_n 2, 2, 0, 0), (.iload_n 3, 3, 0, 0), (.if_icmp .ge 13, 2, 0, 0), (.aload_n 0, 0, 0, 0), (.iload_n 2, 2, 0, 0), (.iload_n 1, 1, 0, 0), (.iastore, 0, 0, 0), (.iinc 2 1, 2, 1, 0), (.goto (-12), 1, 0, 0)] 0 L S M Q := wp_blk rfl
theorem B_197_2 : ∀ (L : Lo) (S : List Value) (M : Mem) (Q : Option Value → Mem → Prop), WP 197 [] 2 L S M Q = WP 197 [(.return_, 0, 0, 0)] 0 L S M Q := wp_blk rfl
theorem cB : alen 3 = some 41 ∧ alen 5 = some 41 ∧ alen 7 = some 36 ∧ alen 8 = some 6 ∧ alen 10 = some 12 ∧ alen 11 = some 12 ∧ alen 13 = some 8 ∧ alen 14 = some 8 ∧ alen 15 = some 8 ∧ alen 17 = some 8 ∧ alen 18 = some 8 ∧ alen 19 = some 8 ∧ fld 0 10 0 = some (0, 1, 0) ∧ fld 0 10 1 = some (0, 20, 0) ∧ fld 0 10 2 = some (0, 38, 0) ∧ fld 0 10 3 = some (0, 53, 0) ∧ fld 0 10 4 = some (2, 4, 0) ∧ fld 0 10 5 = some (1, 5, 0) ∧ fld 1 0 0 = some (0, 2, 0) ∧ fld 1 0 1 = some (0, 4, 0) ∧ fld 1 0 2 = some (0, 6, 0) ∧ fld 1 0 3 = some (0, 9, 0) ∧ fld 1 0 4 = some (0, 12, 0) ∧ fld 1 0 5 = some (0, 16, 0) ∧ fld 1 0 6 = some (1, 6, 0) ∧ fld 1 0 7 = some (1, 7, 0) ∧ fld 2 8 0 = some (1, 0, 0) ∧ fld 2 8 1 = some (0, 3, 0) ∧ fld 2 8 2 = some (1, 2, 0) ∧ fld 4 8 0 = some (1, 0, 0) ∧ fld 4 8 1 = some (0, 5, 0) ∧ fld 4 8 2 = some (1, 2, 0) ∧ fld 6 6 0 = some (0, 7, 0) ∧ fld 6 6 1 = some (0, 8, 0) ∧ fld 9 2 0 = some (0, 10, 0) ∧ fld 9 2 1 = some (0, 11, 0) ∧ fld 9 2 2 = some (1, 2, 0) ∧ fld 12 1 0 = some (0, 13, 0) ∧ fld 12 1 1 = some (0, 14, 0) ∧ fld 12 1 2 = some (0, 15, 0) ∧ fld 12 1 3 = some (1, 3, 0) ∧ fld 16 4 0 = some (0, 17, 0) ∧ fld 16 4 1 = some (0, 18, 0) ∧ fld 16 4 2 = some (0, 19, 0) ∧ fld 16 4 3 = some (1, 3, 0) ∧ cls 0 = 10 ∧ cls 1 = 0 ∧ cls 2 = 8 ∧ cls 4 = 8 ∧ cls 6 = 6 ∧ cls 9 = 2 ∧ cls 12 = 1 ∧ cls 16 = 4 := ⟨rfl, rfl, rfl, rfl, rfl, rfl, rfl, rfl, rfl, rfl, rfl, rfl, rfl, rfl, rfl, rfl, rfl, rfl, rfl, rfl, rfl, rfl, rfl, rfl, rfl, rfl, rfl, rfl, rfl, rfl, rfl, rfl, rfl, rfl, rfl, rfl, rfl, rfl, rfl, rfl, rfl, rfl, rfl, rfl, rfl, rfl, rfl, rfl, rfl, rfl, rfl, rfl, rfl⟩
theorem cP : alen 23 = some 36 ∧ alen 24 = some 6 ∧ alen 26 = some 12 ∧ alen 27 = some 12 ∧ alen 29 = some 6 ∧ alen 30 = some 12 ∧ alen 31 = some 24 ∧ alen 32 = some 24 ∧ alen 33 = some 24 ∧ alen 34 = some 6 ∧ alen 35 = some 0 ∧ alen 36 = some 256 ∧ alen 37 = some 216 ∧ fld 20 3 0 = some (0, 1, 0) ∧ fld 20 3 1 = some (0, 21, 0) ∧ fld 20 3 2 = some (0, 36, 0) ∧ fld 20 3 3 = some (0, 37, 0) ∧ fld 20 3 4 = some (2, 4, 0) ∧ fld 20 3 5 = some (1, 5, 0) ∧ fld 20 3 6 = some (1, 6, 0) ∧ fld 20 3 7 = some (1, 7, 0) ∧ fld 20 3 8 = some (3, 8, 108) ∧ fld 20 3 9 = some (3, 9, 109) ∧ fld 21 7 0 = some (0, 22, 0) ∧ fld 21 7 1 = some (0, 25, 0) ∧ fld 21 7 2 = some (0, 28, 0) ∧ fld 21 7 3 = some (0, 30, 0) ∧ fld 21 7 4 = some (0, 31, 0) ∧ fld 21 7 5 = some (0, 32, 0) ∧ fld 21 7 6 = some (0, 33, 0) ∧ fld 21 7 7 = some (0, 35, 0) ∧ fld 21 7 8 = some (2, 8, 0) ∧ fld 21 7 9 = some (0, 34, 0) ∧ fld 21 7 10 = some (1, 10, 0) ∧ fld 22 6 0 = some (0, 23, 0) ∧ fld 22 6 1 = some (0, 24, 0) ∧ fld 25 2 0 = some (0, 26, 0) ∧ fld 25 2 1 = some (0, 27, 0) ∧ fld 25 2 2 = some (1, 2, 0) ∧ fld 28 9 0 = some (0, 29, 0) ∧ fld 28 9 1 = some (1, 1, 0) ∧ fld 28 9 2 = some (1, 2, 0) ∧ cls 20 = 3 ∧ cls 21 = 7 ∧ cls 22 = 6 ∧ cls 25 = 2 ∧ cls 28 = 9 := ⟨rfl, rfl, rfl, rfl, rfl, rfl, rfl, rfl, rfl, rfl, rfl, rfl, rfl, rfl, rfl, rfl, rfl, rfl, rfl, rfl, rfl, rfl, rfl, rfl, rfl, rfl, rfl, rfl, rfl, rfl, rfl, rfl, rfl, rfl, rfl, rfl, rfl, rfl, rfl, rfl, rfl, rfl, rfl, rfl, rfl, rfl, rfl⟩
theorem cS : alen 40 = some 36 ∧ alen 41 = some 6 ∧ alen 43 = some 12 ∧ alen 44 = some 12 ∧ alen 46 = some 6 ∧ alen 47 = some 12 ∧ alen 48 = some 24 ∧ alen 49 = some 24 ∧ alen 50 = some 24 ∧ alen 51 = some 6 ∧ alen 52 = some 864 ∧ fld 38 7 0 = some (0, 39, 0) ∧ fld 38 7 1 = some (0, 42, 0) ∧ fld 38 7 2 = some (0, 45, 0) ∧ fld 38 7 3 = some (0, 47, 0) ∧ fld 38 7 4 = some (0, 48, 0) ∧ fld 38 7 5 = some (0, 49, 0) ∧ fld 38 7 6 = some (0, 50, 0) ∧ fld 38 7 7 = some (0, 52, 0) ∧ fld 38 7 8 = some (2, 8, 0) ∧ fld 38 7 9 = some (0, 51, 0) ∧ fld 38 7 10 = some (1, 10, 0) ∧ fld 39 6 0 = some (0, 40, 0) ∧ fld 39 6 1 = some (0, 41, 0) ∧ fld 42 2 0 = some (0, 43, 0) ∧ fld 42 2 1 = some (0, 44, 0) ∧ fld 42 2 2 = some (1, 2, 0) ∧ fld 45 9 0 = some (0, 46, 0) ∧ fld 45 9 1 = some (1, 1, 0) ∧ fld 45 9 2 = some (1, 2, 0) ∧ cls 38 = 7 ∧ cls 39 = 6 ∧ cls 42 = 2 ∧ cls 45 = 9 := ⟨rfl, rfl, rfl, rfl, rfl, rfl, rfl, rfl, rfl, rfl, rfl, rfl, rfl, rfl, rfl, rfl, rfl, rfl, rfl, rfl, rfl, rfl, rfl, rfl, rfl, rfl, rfl, rfl, rfl, rfl, rfl, rfl, rfl, rfl⟩
theorem cH : rarr 53 = [54, 56, 58, 60] ∧ alen 55 = some 60 ∧ alen 57 = some 60 ∧ alen 59 = some 60 ∧ alen 61 = some 60 ∧ fld 54 5 0 = some (0, 55, 0) ∧ fld 54 5 1 = some (1, 1, 0) ∧ fld 54 5 2 = some (1, 2, 0) ∧ fld 56 5 0 = some (0, 57, 0) ∧ fld 56 5 1 = some (1, 1, 0) ∧ fld 56 5 2 = some (1, 2, 0) ∧ fld 58 5 0 = some (0, 59, 0) ∧ fld 58 5 1 = some (1, 1, 0) ∧ fld 58 5 2 = some (1, 2, 0) ∧ fld 60 5 0 = some (0, 61, 0) ∧ fld 60 5 1 = some (1, 1, 0) ∧ fld 60 5 2 = some (1, 2, 0) ∧ cls 54 = 5 ∧ cls 56 = 5 ∧ cls 58 = 5 ∧ cls 60 = 5 := ⟨rfl, rfl, rfl, rfl, rfl, rfl, rfl, rfl, rfl, rfl, rfl, rfl, rfl, rfl, rfl, rfl, rfl, rfl, rfl, rfl, rfl⟩
theorem cm : alen 63 = some 4 ∧ alen 64 = some 4 ∧ alen 65 = some 240 ∧ alen 66 = some 60 ∧ alen 67 = some 84 ∧ alen 68 = some 2 ∧ alen 69 = some 6 ∧ alen 70 = some 36 ∧ alen 71 = some 24 ∧ alen 72 = some 24 ∧ alen 73 = some 6 ∧ alen 74 = some 36 ∧ alen 75 = some 36 ∧ alen 76 = some 12 ∧ alen 77 = some 144 ∧ alen 78 = some 864 ∧ alen 79 = some 24 ∧ alen 80 = some 24 ∧ alen 81 = some 240 ∧ alen 82 = some 24 ∧ fld 62 11 0 = some (0, 63, 0) ∧ fld 62 11 1 = some (0, 64, 0) ∧ fld 62 11 2 = some (0, 65, 0) ∧ fld 62 11 3 = some (0, 66, 0) ∧ fld 62 11 4 = some (1, 4, 0) ∧ fld 62 11 5 = some (0, 67, 0) ∧ fld 62 11 6 = some (0, 68, 0) ∧ fld 62 11 7 = some (0, 69, 0) ∧ fld 62 11 8 = some (0, 70, 0) ∧ fld 62 11 9 = some (1, 9, 0) ∧ fld 62 11 10 = some (0, 71, 0) ∧ fld 62 11 11 = some (1, 11, 0) ∧ fld 62 11 12 = some (0, 72, 0) ∧ fld 62 11 13 = some (1, 13, 0) ∧ fld 62 11 14 = some (1, 14, 0) ∧ fld 62 11 15 = some (1, 15, 0) ∧ fld 62 11 16 = some (1, 16, 0) ∧ fld 62 11 17 = some (0, 73, 0) ∧ fld 62 11 18 = some (0, 74, 0) ∧ fld 62 11 19 = some (0, 75, 0) ∧ fld 62 11 20 = some (0, 76, 0) ∧ fld 62 11 21 = some (0, 77, 0) ∧ fld 62 11 22 = some (0, 78, 0) ∧ fld 62 11 23 = some (0, 79, 0) ∧ fld 62 11 24 = some (1, 24, 0) ∧ fld 62 11 25 = some (0, 80, 0) ∧ fld 62 11 26 = some (0, 81, 0) ∧ fld 62 11 27 = some (1, 27, 0) ∧ fld 62 11 28 = some (0, 82, 0) ∧ cls 62 = 11 := ⟨rfl, rfl, rfl, rfl, rfl, rfl, rfl, rfl, rfl, rfl, rfl, rfl, rfl, rfl, rfl, rfl, rfl, rfl, rfl, rfl, rfl, rfl, rfl, rfl, rfl, rfl, rfl, rfl, rfl, rfl, rfl, rfl, rfl, rfl, rfl, rfl, rfl, rfl, rfl, rfl, rfl, rfl, rfl, rfl, rfl, rfl, rfl, rfl, rfl, rfl⟩
end
section
/-! what the tables say of the program: written by wip/whole/tabgen.py -/
def NM : Nat := 198
def TG : List Jvm.Cond := lw_tbl.filter goodWord
theorem tg_in {w : Jvm.Cond} (h : w ∈ lw_tbl) (hg : goodWord w = true) : w ∈ TG := List.mem_filter.mpr ⟨h, hg⟩
theorem tg_good {w : Jvm.Cond} (h : w ∈ TG) : w ∈ TG ∧ ((w.onTables && w.keeps) = true ∨ ∃ ty, w = .arrayClass ty) := ⟨h, good_of_word (List.mem_filter.mp h).2⟩
theorem tg_at {i : Nat} {w : Jvm.Cond} (h : (decide (lw_tbl[i]? = some w) && goodWord w) = true) : w ∈ TG := by
  rw [Bool.and_eq_true, decide_eq_true_eq] at h
  exact tg_in (List.mem_of_getElem? h.1) h.2
def fuL : List (Nat × Nat × Nat × Nat × Nat) := [(209, 0, 14, 0, 0), (211, 0, 20, 0, 1), (213, 0, 26, 0, 2), (216, 0, 33, 0, 3), (226, 0, 51, 0, 6), (228, 0, 55, 0, 7), (111, 0, 65, 8, 2), (108, 0, 68, 8, 1), (131, 0, 76, 6, 1), (155, 0, 83, 2, 2), (147, 0, 89, 2, 0), (151, 0, 92, 2, 1), (170, 1, 9, 1, 0), (172, 1, 15, 1, 1), (174, 1, 18, 1, 2), (176, 1, 25, 1, 3), (144, 2, 9, 2, 0), (149, 2, 15, 2, 1), (153, 2, 24, 2, 2), (329, 3, 14, 3, 1), (330, 3, 20, 3, 2), (331, 3, 24, 3, 3), (328, 3, 27, 3, 0), (334, 3, 31, 3, 5), (338, 3, 35, 3, 7), (287, 3, 42, 7, 2), (291, 3, 55, 7, 4), (336, 3, 58, 3, 6), (283, 3, 61, 7, 0), (285, 3, 71, 7, 1), (146, 3, 75, 2, 0), (303, 3, 84, 7, 10), (221, 3, 90, 0, 4), (178, 3, 96, 1, 3), (224, 3, 105, 0, 5), (296, 3, 109, 7, 6), (129, 3, 118, 6, 0), (340, 3, 139, 3, 8), (342, 3, 155, 3, 9), (332, 3, 160, 3, 4), (195, 4, 9, 4, 0), (196, 4, 15, 4, 1), (197, 4, 18, 4, 2), (198, 4, 21, 4, 3), (374, 5, 9, 5, 0), (376, 5, 15, 5, 1), (378, 5, 25, 5, 2), (126, 6, 9, 6, 0), (130, 6, 15, 6, 1), (282, 7, 12, 7, 0), (284, 7, 21, 7, 1), (286, 7, 28, 7, 2), (288, 7, 32, 7, 3), (290, 7, 36, 7, 4), (293, 7, 39, 7, 5), (295, 7, 42, 7, 6), (301, 7, 45, 7, 9), (300, 7, 48, 7, 8), (298, 7, 52, 7, 7), (214, 7, 55, 0, 2), (217, 7, 64, 0, 3), (220, 7, 71, 0, 4), (177, 7, 75, 1, 3), (171, 7, 81, 1, 0), (173, 7, 84, 1, 1), (175, 7, 87, 1, 2), (302, 7, 94, 7, 10), (154, 7, 101, 2, 2), (145, 7, 102, 2, 0), (127, 7, 114, 6, 0), (150, 7, 123, 2, 1), (132, 7, 132, 6, 1), (270, 7, 139, 9, 0), (272, 7, 142, 9, 1), (274, 7, 145, 9, 2), (107, 8, 9, 8, 1), (105, 8, 21, 8, 0), (109, 8, 25, 8, 2), (269, 9, 9, 9, 0), (271, 9, 21, 9, 1), (273, 9, 25, 9, 2), (387, 10, 10, 10, 0), (388, 10, 21, 10, 1), (389, 10, 30, 10, 2), (390, 10, 36, 10, 3), (391, 10, 41, 10, 4), (392, 10, 45, 10, 5), (110, 10, 57, 8, 2), (106, 10, 62, 8, 0), (227, 10, 72, 0, 6), (229, 10, 75, 0, 7), (215, 10, 78, 0, 2), (128, 10, 82, 6, 0), (218, 10, 88, 0, 3), (156, 10, 92, 2, 2), (148, 10, 97, 2, 0), (152, 10, 100, 2, 1), (222, 10, 109, 0, 4), (179, 10, 113, 1, 3), (377, 10, 120, 5, 1), (379, 10, 127, 5, 2), (375, 10, 128, 5, 0), (297, 10, 135, 7, 6), (299, 10, 145, 7, 7), (292, 10, 148, 7, 4), (294, 10, 151, 7, 5), (289, 10, 154, 7, 3), (304, 10, 157, 7, 10), (335, 10, 170, 3, 5), (339, 10, 173, 3, 7), (337, 10, 179, 3, 6), (225, 10, 188, 0, 5), (199, 10, 192, 4, 3), (341, 10, 214, 3, 8), (343, 10, 218, 3, 9), (210, 10, 252, 0, 0), (212, 10, 256, 0, 1), (333, 10, 323, 3, 4), (853, 11, 7, 11, 0), (854, 11, 13, 11, 1), (855, 11, 16, 11, 2), (856, 11, 19, 11, 3), (858, 11, 22, 11, 5), (859, 11, 25, 11, 6), (860, 11, 28, 11, 7), (861, 11, 31, 11, 8), (863, 11, 34, 11, 10), (865, 11, 37, 11, 12), (870, 11, 40, 11, 17), (871, 11, 43, 11, 18), (872, 11, 46, 11, 19), (873, 11, 49, 11, 20), (874, 11, 52, 11, 21), (875, 11, 55, 11, 22), (876, 11, 58, 11, 23), (878, 11, 61, 11, 25), (879, 11, 64, 11, 26), (881, 11, 67, 11, 28), (867, 11, 70, 11, 14), (857, 11, 80, 11, 4), (862, 11, 120, 11, 9), (864, 11, 149, 11, 11), (866, 11, 161, 11, 13), (868, 11, 193, 11, 15), (869, 11, 196, 11, 16), (877, 11, 263, 11, 24), (880, 11, 303, 11, 27)]
def fuC (q : Nat × Nat × Nat × Nat × Nat) : Jvm.Cond := .fieldLink (rn q.2.1) q.2.2.1 (rn q.2.2.2.1) (tT q.2.2.2.1 q.2.2.2.2).2.1 (tT q.2.2.2.1 q.2.2.2.2).2.2.1
theorem fu_chk : fuL.all (fun q => decide (lw_tbl[q.1]? = some (fuC q)) && goodWord (fuC q)) = true := by decide +kernel
def muL : List (Nat × Nat × Nat × Nat) := [(429, 0, 58, 31), (436, 0, 61, 2), (440, 0, 72, 5), (443, 0, 79, 33), (451, 0, 86, 4), (635, 3, 38, 41), (636, 3, 46, 51), (637, 3, 52, 42), (646, 3, 65, 36), (658, 3, 80, 48), (667, 3, 87, 13), (671, 3, 101, 12), (695, 3, 112, 26), (721, 3, 127, 18), (735, 3, 136, 20), (739, 3, 143, 196), (740, 3, 149, 21), (753, 3, 164, 23), (757, 3, 167, 24), (699, 4, 25, 40), (768, 5, 19, 197), (433, 6, 18, 197), (515, 7, 60, 32), (522, 7, 65, 8), (527, 7, 68, 50), (532, 7, 90, 51), (541, 7, 97, 38), (545, 7, 103, 43), (557, 7, 107, 44), (570, 7, 111, 39), (549, 7, 126, 35), (553, 7, 129, 34), (562, 7, 135, 45), (605, 7, 156, 196), (531, 9, 15, 197), (410, 10, 49, 93), (413, 10, 53, 0), (417, 10, 65, 49), (421, 10, 69, 96), (483, 10, 103, 6), (487, 10, 114, 7), (455, 10, 117, 97), (499, 10, 123, 95), (507, 10, 131, 98), (574, 10, 138, 40), (577, 10, 142, 46), (597, 10, 160, 47), (601, 10, 164, 48), (631, 10, 167, 9), (642, 10, 176, 10), (654, 10, 182, 11), (663, 10, 185, 14), (679, 10, 195, 25), (691, 10, 196, 15), (704, 10, 199, 94), (708, 10, 202, 16), (717, 10, 205, 17), (731, 10, 210, 19), (749, 10, 221, 22), (764, 10, 225, 27), (777, 10, 228, 28), (782, 10, 231, 30), (795, 10, 235, 29), (809, 10, 249, 37), (818, 10, 261, 87), (819, 10, 264, 89), (823, 10, 268, 55), (824, 10, 271, 63), (825, 10, 273, 90), (833, 10, 277, 91), (839, 10, 280, 92), (829, 10, 286, 66), (830, 10, 289, 56), (831, 10, 292, 62), (832, 10, 296, 61), (837, 10, 299, 57), (838, 10, 302, 64), (843, 10, 305, 65), (844, 10, 308, 67), (845, 10, 311, 68), (846, 10, 314, 69), (425, 10, 317, 1), (447, 10, 320, 3), (511, 10, 326, 41), (537, 10, 330, 42), (949, 11, 76, 99), (945, 11, 85, 107), (953, 11, 91, 106), (965, 11, 95, 110), (969, 11, 99, 111), (985, 11, 104, 101), (1009, 11, 109, 118), (1019, 11, 123, 120), (1005, 11, 126, 119), (1015, 11, 130, 121), (1001, 11, 133, 122), (1028, 11, 140, 124), (1032, 11, 143, 127), (1040, 11, 146, 125), (1048, 11, 152, 126), (1052, 11, 155, 130), (1064, 11, 159, 131), (1101, 11, 164, 102), (1089, 11, 168, 136), (1085, 11, 171, 137), (1097, 11, 174, 135), (1104, 11, 177, 134), (1108, 11, 180, 139), (1112, 11, 183, 103), (1081, 11, 186, 138), (1093, 11, 190, 140), (1077, 11, 199, 141), (1073, 11, 202, 142), (1119, 11, 205, 144), (1069, 11, 208, 143), (1115, 11, 211, 145), (1135, 11, 214, 148), (1131, 11, 217, 149), (1147, 11, 220, 151), (1143, 11, 223, 152), (1155, 11, 226, 154), (1163, 11, 229, 156), (1171, 11, 232, 158), (1179, 11, 235, 160), (1187, 11, 238, 162), (1199, 11, 241, 104), (1195, 11, 244, 164), (1206, 11, 247, 166), (1214, 11, 250, 168), (1227, 11, 253, 170), (1223, 11, 258, 171), (1248, 11, 266, 175), (1244, 11, 270, 176), (1264, 11, 273, 178), (1256, 11, 276, 179), (1260, 11, 279, 180), (1276, 11, 282, 182), (1272, 11, 285, 183), (1289, 11, 288, 105), (1285, 11, 294, 185), (1292, 11, 298, 100), (1305, 11, 306, 187), (1301, 11, 311, 188), (1318, 11, 314, 191), (1328, 11, 321, 192), (1329, 11, 324, 193), (1333, 11, 328, 194)]
def muC (q : Nat × Nat × Nat × Nat) : Jvm.Cond := .methodLink (rn q.2.1) q.2.2.1 (my q.2.2.2)
theorem mu_chk : muL.all (fun q => decide (lw_tbl[q.1]? = some (muC q)) && goodWord (muC q)) = true := by decide +kernel
def acL : List (Nat × Nat × Nat) := [(526, 2, 18), (712, 3, 121), (519, 6, 24), (561, 7, 117), (799, 10, 238)]
def acC (q : Nat × Nat × Nat) : Jvm.Cond := .methodLink (rn q.2.1) q.2.2 arraycopyName
theorem ac_chk : acL.all (fun q => decide (lw_tbl[q.1]? = some (acC q)) && goodWord (acC q)) = true := by decide +kernel
def minL : List (Nat × Nat × Nat) := [(566, 7, 148), (536, 9, 28), (804, 10, 244)]
def minC (q : Nat × Nat × Nat) : Jvm.Cond := .methodLink (rn q.2.1) q.2.2 Lib.Math.min.name
theorem min_chk : minL.all (fun q => decide (lw_tbl[q.1]? = some (minC q)) && goodWord (minC q)) = true := by decide +kernel
theorem min_sta : Jvm.Cond.static Lib.Math.min.name ∈ TG := tg_at (i := 103) (by decide +kernel)
theorem min_cod : Jvm.Cond.code Lib.Math.min.name Lib.Math.min.code 2 (some .int) ∈ TG := tg_at (i := 104) (by decide +kernel)
def maxL : List (Nat × Nat × Nat) := [(725, 3, 131), (567, 7, 153)]
def maxC (q : Nat × Nat × Nat) : Jvm.Cond := .methodLink (rn q.2.1) q.2.2 Lib.Math.max.name
theorem max_chk : maxL.all (fun q => decide (lw_tbl[q.1]? = some (maxC q)) && goodWord (maxC q)) = true := by decide +kernel
theorem max_sta : Jvm.Cond.static Lib.Math.max.name ∈ TG := tg_at (i := 568) (by decide +kernel)
theorem max_cod : Jvm.Cond.code Lib.Math.max.name Lib.Math.max.code 2 (some .int) ∈ TG := tg_at (i := 569) (by decide +kernel)
theorem mat_ini : Jvm.Cond.initialized "java/lang/Math" ∈ TG := tg_at (i := 69) (by decide +kernel)
theorem ac_nat : Jvm.Cond.native arraycopyName ∈ TG := tg_at (i := 521) (by decide +kernel)
theorem ac_sta : Jvm.Cond.static arraycopyName ∈ TG := tg_at (i := 520) (by decide +kernel)
theorem ac_ini : Jvm.Cond.initialized "java/lang/System" ∈ TG := tg_at (i := 80) (by decide +kernel)
def nuL : List (Nat × Nat × Nat) := [(1, 21, 93), (5, 28, 93)]
def nuC (q : Nat × Nat × Nat) : Jvm.Cond := .methodLinkNest (rn q.1) q.2.1 (my q.2.2) "IceHouse"
def nuH : List Nat := [486, 781]
theorem nu_in : ∀ q ∈ nuL, nuC q ∈ lw_tbl := by
  intro q hq
  simp only [nuL, List.mem_cons, List.not_mem_nil, or_false] at hq
  rcases hq with rfl | rfl
  · exact List.mem_of_getElem? (i := 486) (by decide +kernel)
  · exact List.mem_of_getElem? (i := 781) (by decide +kernel)
def cuL : List (Nat × Nat × Nat × Nat × Nat) := [(756, 3, 170, 1103515245, 0), (790, 10, 234, 2147483648, 1), (976, 11, 103, 2147483648, 1), (1309, 11, 302, 1103515245, 0), (608, 12, 265, 1431655765, 0), (609, 12, 266, 858993459, 0), (610, 12, 267, 252645135, 0)]
def cuC (q : Nat × Nat × Nat × Nat × Nat) : Jvm.Cond := .constant (rn q.2.1) q.2.2.1 (cI q.2.2.2.1 q.2.2.2.2)
theorem cu_chk : cuL.all (fun q => decide (lw_tbl[q.1]? = some (cuC q)) && goodWord (cuC q)) = true := by decide +kernel
def clL : List (Nat × Nat × Nat × Nat × Nat) := [(743, 3, 153, 16, 0), (744, 3, 158, 2, 0), (730, 10, 208, 9223372036854775806, 1), (817, 10, 259, 17, 0), (822, 10, 284, 31, 0), (1295, 11, 74, 9223372036854775808, 1), (948, 11, 83, 3, 0), (952, 11, 89, 2, 0), (988, 11, 107, 255, 0), (1013, 11, 112, 49, 0), (1014, 11, 114, 57, 0), (1022, 11, 116, 97, 0), (1023, 11, 118, 120, 0), (1031, 11, 136, 5, 0), (1051, 11, 138, 23, 0), (1222, 11, 256, 1, 1), (1235, 11, 261, 6, 0), (1284, 11, 292, 16, 0), (1300, 11, 309, 8, 0), (1327, 11, 317, 31, 0), (1326, 11, 319, 17, 0)]
def clC (q : Nat × Nat × Nat × Nat × Nat) : Jvm.Cond := .constantLong (rn q.2.1) q.2.2.1 (cL q.2.2.2.1 q.2.2.2.2)
theorem cl_chk : clL.all (fun q => decide (lw_tbl[q.1]? = some (clC q)) && goodWord (clC q)) = true := by decide +kernel
def npL : List Nat := [1, 0, 0, 0, 0, 1, 3, 3, 1, 0, 0, 1, 1, 3, 0, 0, 2, 1, 2, 2, 0, 2, 2, 1, 2, 3, 1, 2, 2, 2, 2, 0, 1, 2, 1, 0, 2, 0, 0, 0, 2, 2, 0, 1, 1, 2, 2, 0, 0, 1, 0, 3, 2, 1, 1, 1, 2, 2, 3, 0, 1, 3, 3, 2, 2, 1, 1, 0, 0, 1, 1, 1, 2, 1, 3, 0, 0, 2, 2, 3, 3, 3, 1, 4, 3, 5, 2, 1, 0, 2, 2, 2, 1, 2, 2, 1, 1, 0, 0, 3, 1, 1, 2, 2, 2, 3, 1, 1, 3, 1, 3, 2, 4, 3, 5, 2, 1, 1, 0, 0, 2, 0, 1, 1, 1, 1, 1, 2, 2, 2, 3, 3, 0, 1, 2, 1, 1, 0, 1, 3, 1, 1, 0, 0, 2, 3, 3, 3, 1, 2, 2, 1, 2, 2, 1, 1, 1, 1, 0, 0, 0, 0, 1, 1, 1, 1, 1, 1, 2, 2, 1, 1, 1, 3, 0, 0, 0, 0, 1, 2, 2, 2, 2, 2, 2, 3, 3, 1, 3, 3, 2, 0, 1, 2, 2, 0, 1, 2]
def np (z : Nat) : Nat := npL.getD z 0
def stL : List Nat := [0, 0, 0, 0, 0, 1, 1, 0, 0, 0, 0, 0, 0, 0, 0, 0, 0, 0, 0, 0, 0, 1, 0, 1, 1, 0, 0, 0, 0, 0, 0, 0, 0, 0, 0, 0, 0, 0, 0, 0, 1, 0, 0, 0, 0, 0, 0, 0, 0, 0, 0, 0, 0, 0, 0, 0, 0, 0, 0, 0, 0, 0, 0, 0, 0, 0, 0, 0, 0, 0, 0, 0, 0, 0, 0, 0, 0, 0, 0, 0, 0, 0, 0, 0, 0, 0, 0, 0, 0, 1, 0, 0, 0, 1, 0, 0, 0, 0, 0, 1, 1, 1, 1, 1, 1, 1, 0, 1, 0, 0, 0, 1, 0, 0, 0, 0, 0, 0, 0, 0, 1, 0, 0, 0, 1, 0, 1, 0, 0, 0, 0, 0, 0, 0, 0, 0, 0, 0, 0, 0, 0, 0, 0, 0, 0, 0, 0, 0, 0, 0, 0, 0, 0, 0, 0, 0, 0, 0, 0, 0, 0, 0, 0, 0, 0, 0, 0, 0, 0, 0, 0, 0, 0, 0, 0, 0, 0, 0, 0, 0, 0, 0, 0, 0, 0, 0, 0, 0, 0, 0, 0, 0, 0, 0, 0, 0, 1, 1]
def stc (z : Nat) : Nat := stL.getD z 0
def mhL : List (Nat × Nat × Nat × Nat) := [(416, 414, 415, 67), (428, 426, 427, 67), (439, 438, 1, 67), (450, 448, 449, 67), (454, 453, 2, 67), (442, 441, 0, 67), (485, 484, 0, 72), (490, 488, 489, 72), (525, 523, 524, 71), (634, 632, 633, 74), (645, 643, 644, 74), (657, 655, 656, 74), (674, 673, 10, 74), (670, 669, 9, 74), (666, 664, 665, 74), (694, 692, 693, 74), (711, 709, 710, 74), (720, 718, 719, 74), (724, 723, 12, 74), (734, 732, 733, 74), (738, 737, 13, 74), (742, 741, 0, 74), (752, 750, 751, 74), (755, 754, 0, 74), (759, 758, 0, 74), (682, 680, 681, 73), (698, 696, 697, 73), (767, 765, 766, 77), (780, 778, 779, 77), (798, 796, 797, 77), (785, 783, 784, 77), (432, 430, 431, 70), (518, 516, 517, 70), (446, 444, 445, 70), (556, 554, 555, 70), (552, 550, 551, 70), (649, 647, 648, 70), (812, 810, 811, 70), (544, 542, 543, 70), (573, 571, 572, 70), (576, 575, 0, 75), (514, 512, 513, 75), (540, 538, 539, 75), (548, 547, 6, 75), (560, 559, 7, 75), (565, 564, 8, 75), (580, 578, 579, 75), (600, 598, 599, 75), (604, 602, 603, 75), (420, 418, 419, 68), (530, 528, 529, 76), (535, 533, 534, 76), (409, 407, 408, 66), (462, 460, 461, 66), (466, 464, 465, 66), (470, 468, 469, 66), (474, 472, 473, 66), (478, 476, 477, 66), (482, 480, 481, 66), (494, 492, 493, 66), (498, 496, 497, 66), (506, 504, 505, 66), (584, 582, 583, 66), (588, 586, 587, 66), (592, 590, 591, 66), (596, 594, 595, 66), (614, 612, 613, 66), (618, 616, 617, 66), (622, 620, 621, 66), (626, 624, 625, 66), (630, 628, 629, 66), (641, 639, 640, 66), (653, 651, 652, 66), (662, 660, 661, 66), (678, 676, 677, 66), (686, 684, 685, 66), (690, 688, 689, 66), (703, 701, 702, 66), (716, 714, 715, 66), (729, 727, 728, 66), (748, 746, 747, 66), (763, 761, 762, 66), (772, 770, 771, 66), (776, 774, 775, 66), (789, 787, 788, 66), (794, 792, 793, 66), (803, 801, 802, 66), (808, 806, 807, 66), (816, 814, 815, 66), (821, 820, 0, 66), (828, 827, 14, 66), (836, 835, 15, 66), (842, 841, 16, 66), (412, 411, 0, 66), (707, 706, 11, 66), (502, 501, 4, 66), (424, 423, 0, 66), (458, 457, 3, 66), (510, 509, 5, 66), (951, 950, 0, 78), (1294, 1293, 0, 78), (987, 986, 0, 78), (1103, 1102, 0, 78), (1114, 1113, 0, 78), (1201, 1200, 0, 78), (1291, 1290, 0, 78), (956, 955, 17, 78), (947, 946, 0, 78), (944, 942, 943, 78), (960, 958, 959, 78), (968, 967, 18, 78), (971, 970, 0, 78), (964, 962, 963, 78), (975, 973, 974, 78), (980, 978, 979, 78), (984, 982, 983, 78), (992, 990, 991, 78), (996, 994, 995, 78), (1012, 1011, 21, 78), (1008, 1007, 20, 78), (1021, 1020, 0, 78), (1018, 1017, 22, 78), (1004, 1003, 19, 78), (1000, 998, 999, 78), (1030, 1029, 0, 78), (1043, 1042, 24, 78), (1050, 1049, 0, 78), (1035, 1034, 23, 78), (1027, 1025, 1026, 78), (1039, 1037, 1038, 78), (1055, 1054, 25, 78), (1047, 1045, 1046, 78), (1059, 1057, 1058, 78), (1063, 1061, 1062, 78), (1107, 1106, 34, 78), (1100, 1099, 33, 78), (1092, 1091, 31, 78), (1088, 1087, 30, 78), (1084, 1083, 29, 78), (1111, 1110, 35, 78), (1096, 1095, 32, 78), (1080, 1079, 28, 78), (1076, 1075, 27, 78), (1072, 1071, 26, 78), (1122, 1121, 37, 78), (1118, 1117, 36, 78), (1068, 1066, 1067, 78), (1126, 1124, 1125, 78), (1138, 1137, 39, 78), (1134, 1133, 38, 78), (1130, 1128, 1129, 78), (1150, 1149, 41, 78), (1146, 1145, 40, 78), (1142, 1140, 1141, 78), (1158, 1157, 42, 78), (1154, 1152, 1153, 78), (1166, 1165, 43, 78), (1162, 1160, 1161, 78), (1174, 1173, 44, 78), (1170, 1168, 1169, 78), (1182, 1181, 45, 78), (1178, 1176, 1177, 78), (1190, 1189, 46, 78), (1186, 1184, 1185, 78), (1198, 1197, 47, 78), (1194, 1192, 1193, 78), (1209, 1208, 48, 78), (1205, 1203, 1204, 78), (1217, 1216, 49, 78), (1213, 1211, 1212, 78), (1230, 1229, 51, 78), (1226, 1225, 50, 78), (1221, 1219, 1220, 78), (1234, 1232, 1233, 78), (1239, 1237, 1238, 78), (1251, 1250, 53, 78), (1247, 1246, 52, 78), (1243, 1241, 1242, 78), (1267, 1266, 56, 78), (1259, 1258, 54, 78), (1263, 1262, 55, 78), (1255, 1253, 1254, 78), (1279, 1278, 58, 78), (1275, 1274, 57, 78), (1271, 1269, 1270, 78), (1288, 1287, 59, 78), (1283, 1281, 1282, 78), (1308, 1307, 61, 78), (1304, 1303, 60, 78), (1299, 1297, 1298, 78), (1313, 1311, 1312, 78), (1321, 1320, 62, 78), (1317, 1315, 1316, 78), (1332, 1331, 63, 78), (1336, 1335, 64, 78), (1325, 1323, 1324, 78), (607, 606, 0, 81), (435, 434, 0, 79)]
def mh (z : Nat) : Nat × Nat × Nat × Nat := mhL.getD z (0, 0, 0, 0)
def mb (z : Nat) : ByteArray := match lw_tbl[(mh z).1]? with
  | some (.code _ b _ _) => b
  | _ => ⟨#[]⟩
def cwC (z : Nat) : Bool := match lw_tbl[(mh z).1]? with
  | some (.code y _ l r) => decide (y = my z) && decide (l = mL z) && decide (r = mr z)
  | _ => false
theorem cwC_spec {z : Nat} (h : cwC z = true) : Jvm.Cond.code (my z) (mb z) (mL z) (mr z) ∈ lw_tbl := by
  refine List.mem_of_getElem? (i := (mh z).1) ?_
  unfold cwC at h
  unfold mb
  split at h
  · rename_i y b l r e
    rw [e]
    simp only [Bool.and_eq_true, decide_eq_true_eq] at h
    obtain ⟨⟨rfl, rfl⟩, rfl⟩ := h
    rfl
  · cases h
def mnC (z : Nat) : Bool := decide ((my z).cls = rn (mc z)) && decide (mc z < 14) && plainName (my z).cls && decide ((my z).cls ≠ "java/lang/invoke/MethodHandle") && decide ((my z).cls ≠ "java/lang/invoke/VarHandle") && decide ((parseMethodDescriptor (my z).desc).map (fun d => d.parameters.length) = some (np z)) && decide (lw_tbl[(mh z).2.2.2]? = some (.initialized (my z).cls)) && (if stc z = 0 then decide (lw_tbl[(mh z).2.1]? = some (.instanceMethod (my z))) && decide (lw_tbl[(mh z).2.2.1]? = some (.selects (my z).cls (my z) (my z))) else decide (lw_tbl[(mh z).2.1]? = some (.static (my z))))
theorem mn_0 : ((List.range 25).map (· + 0)).all mnC = true := by decide +kernel
theorem mn_1 : ((List.range 25).map (· + 25)).all mnC = true := by decide +kernel
theorem mn_2 : ((List.range 25).map (· + 50)).all mnC = true := by decide +kernel
theorem mn_3 : ((List.range 25).map (· + 75)).all mnC = true := by decide +kernel
theorem mn_4 : ((List.range 25).map (· + 100)).all mnC = true := by decide +kernel
theorem mn_5 : ((List.range 25).map (· + 125)).all mnC = true := by decide +kernel
theorem mn_6 : ((List.range 25).map (· + 150)).all mnC = true := by decide +kernel
theorem mn_7 : ((List.range 23).map (· + 175)).all mnC = true := by decide +kernel
theorem cw_0 : ((List.range 25).map (· + 0)).all cwC = true := by decide +kernel
theorem cw_1 : ((List.range 25).map (· + 25)).all cwC = true := by decide +kernel
theorem cw_2 : ((List.range 25).map (· + 50)).all cwC = true := by decide +kernel
theorem cw_3 : ((List.range 25).map (· + 75)).all cwC = true := by decide +kernel
theorem cw_4 : ((List.range 25).map (· + 100)).all cwC = true := by decide +kernel
theorem cw_5 : ((List.range 25).map (· + 125)).all cwC = true := by decide +kernel
theorem cw_6 : ((List.range 25).map (· + 150)).all cwC = true := by decide +kernel
theorem cw_7 : ((List.range 23).map (· + 175)).all cwC = true := by decide +kernel
theorem in_rng {P : Nat → Prop} {n k g z : Nat} (h : ∀ z ∈ (List.range n).map (· + g), P z) (h1 : g ≤ z) (h2 : z < g + n) : P z := h z (List.mem_map.mpr ⟨z - g, List.mem_range.mpr (by omega), by omega⟩)
theorem cw_in {z : Nat} (h : z < NM) : Jvm.Cond.code (my z) (mb z) (mL z) (mr z) ∈ lw_tbl := by
  have h : z < 198 := h
  by_cases q0 : z < 25
  · exact cwC_spec (in_rng (k := 0) (P := fun z => cwC z = true) (List.all_eq_true.mp cw_0) (by omega) (by omega))
  by_cases q1 : z < 50
  · exact cwC_spec (in_rng (k := 0) (P := fun z => cwC z = true) (List.all_eq_true.mp cw_1) (by omega) (by omega))
  by_cases q2 : z < 75
  · exact cwC_spec (in_rng (k := 0) (P := fun z => cwC z = true) (List.all_eq_true.mp cw_2) (by omega) (by omega))
  by_cases q3 : z < 100
  · exact cwC_spec (in_rng (k := 0) (P := fun z => cwC z = true) (List.all_eq_true.mp cw_3) (by omega) (by omega))
  by_cases q4 : z < 125
  · exact cwC_spec (in_rng (k := 0) (P := fun z => cwC z = true) (List.all_eq_true.mp cw_4) (by omega) (by omega))
  by_cases q5 : z < 150
  · exact cwC_spec (in_rng (k := 0) (P := fun z => cwC z = true) (List.all_eq_true.mp cw_5) (by omega) (by omega))
  by_cases q6 : z < 175
  · exact cwC_spec (in_rng (k := 0) (P := fun z => cwC z = true) (List.all_eq_true.mp cw_6) (by omega) (by omega))
  exact cwC_spec (in_rng (k := 0) (P := fun z => cwC z = true) (List.all_eq_true.mp cw_7) (by omega) (by omega))

theorem mn_in {z : Nat} (h : z < NM) : mnC z = true := by
  have h : z < 198 := h
  by_cases q0 : z < 25
  · exact in_rng (k := 0) (P := fun z => mnC z = true) (List.all_eq_true.mp mn_0) (by omega) (by omega)
  by_cases q1 : z < 50
  · exact in_rng (k := 0) (P := fun z => mnC z = true) (List.all_eq_true.mp mn_1) (by omega) (by omega)
  by_cases q2 : z < 75
  · exact in_rng (k := 0) (P := fun z => mnC z = true) (List.all_eq_true.mp mn_2) (by omega) (by omega)
  by_cases q3 : z < 100
  · exact in_rng (k := 0) (P := fun z => mnC z = true) (List.all_eq_true.mp mn_3) (by omega) (by omega)
  by_cases q4 : z < 125
  · exact in_rng (k := 0) (P := fun z => mnC z = true) (List.all_eq_true.mp mn_4) (by omega) (by omega)
  by_cases q5 : z < 150
  · exact in_rng (k := 0) (P := fun z => mnC z = true) (List.all_eq_true.mp mn_5) (by omega) (by omega)
  by_cases q6 : z < 175
  · exact in_rng (k := 0) (P := fun z => mnC z = true) (List.all_eq_true.mp mn_6) (by omega) (by omega)
  exact in_rng (k := 0) (P := fun z => mnC z = true) (List.all_eq_true.mp mn_7) (by omega) (by omega)

def tyT (c : Nat) : Nat → FieldType := ([tyX0, tyX1, tyX2, tyX3, tyX4, tyX5, tyX6, tyX7, tyX8, tyX9, tyX10, tyX11] : List (Nat → FieldType)).getD c tyX0
theorem tyT_ok : ∀ c, c < 12 → ∀ k, k < nF c → parseFieldDescriptor (tT c k).2.2.1 = some (tyT c k) := by
  intro c hc
  match c, hc with
  | 0, _ => exact tyX0_ok
  | 1, _ => exact tyX1_ok
  | 2, _ => exact tyX2_ok
  | 3, _ => exact tyX3_ok
  | 4, _ => exact tyX4_ok
  | 5, _ => exact tyX5_ok
  | 6, _ => exact tyX6_ok
  | 7, _ => exact tyX7_ok
  | 8, _ => exact tyX8_ok
  | 9, _ => exact tyX9_ok
  | 10, _ => exact tyX10_ok
  | 11, _ => exact tyX11_ok
theorem nmT_ok : ∀ c, c < 12 → ∀ a, a < nF c → ∀ b, b < nF c → a ≠ b → (tT c a).2.1 ≠ (tT c b).2.1 := by
  intro c hc
  match c, hc with
  | 0, _ => exact nmX0
  | 1, _ => exact nmX1
  | 2, _ => exact nmX2
  | 3, _ => exact nmX3
  | 4, _ => exact nmX4
  | 5, _ => exact nmX5
  | 6, _ => exact nmX6
  | 7, _ => exact nmX7
  | 8, _ => exact nmX8
  | 9, _ => exact nmX9
  | 10, _ => exact nmX10
  | 11, _ => exact nmX11
theorem dcT_ok : (List.range 12).all (fun c => (List.range (nF c)).all (fun k => decide ((tT c k).1 = rn c))) = true := by decide +kernel
theorem lay_0 : ∀ w ∈ u_ws (rn 0) (tT 0) (nF 0), w ∈ TG := by
  have e : u_ws (rn 0) (tT 0) (nF 0) = ([230, 232, 234, 236, 238, 240, 242, 244] : List Nat).filterMap (fun i => lw_tbl[i]?) := by decide +kernel
  have g : (u_ws (rn 0) (tT 0) (nF 0)).all goodWord = true := by decide +kernel
  intro w hw
  have hg := List.all_eq_true.mp g w hw
  rw [e] at hw
  obtain ⟨i, -, hi⟩ := List.mem_filterMap.mp hw
  exact tg_in (List.mem_of_getElem? hi) hg
theorem lay_1 : ∀ w ∈ u_ws (rn 1) (tT 1) (nF 1), w ∈ TG := by
  have e : u_ws (rn 1) (tT 1) (nF 1) = ([180, 182, 184, 186] : List Nat).filterMap (fun i => lw_tbl[i]?) := by decide +kernel
  have g : (u_ws (rn 1) (tT 1) (nF 1)).all goodWord = true := by decide +kernel
  intro w hw
  have hg := List.all_eq_true.mp g w hw
  rw [e] at hw
  obtain ⟨i, -, hi⟩ := List.mem_filterMap.mp hw
  exact tg_in (List.mem_of_getElem? hi) hg
theorem lay_2 : ∀ w ∈ u_ws (rn 2) (tT 2) (nF 2), w ∈ TG := by
  have e : u_ws (rn 2) (tT 2) (nF 2) = ([157, 159, 161] : List Nat).filterMap (fun i => lw_tbl[i]?) := by decide +kernel
  have g : (u_ws (rn 2) (tT 2) (nF 2)).all goodWord = true := by decide +kernel
  intro w hw
  have hg := List.all_eq_true.mp g w hw
  rw [e] at hw
  obtain ⟨i, -, hi⟩ := List.mem_filterMap.mp hw
  exact tg_in (List.mem_of_getElem? hi) hg
theorem lay_3 : ∀ w ∈ u_ws (rn 3) (tT 3) (nF 3), w ∈ TG := by
  have e : u_ws (rn 3) (tT 3) (nF 3) = ([344, 346, 348, 350, 352, 354, 356, 358, 360, 362] : List Nat).filterMap (fun i => lw_tbl[i]?) := by decide +kernel
  have g : (u_ws (rn 3) (tT 3) (nF 3)).all goodWord = true := by decide +kernel
  intro w hw
  have hg := List.all_eq_true.mp g w hw
  rw [e] at hw
  obtain ⟨i, -, hi⟩ := List.mem_filterMap.mp hw
  exact tg_in (List.mem_of_getElem? hi) hg
theorem lay_4 : ∀ w ∈ u_ws (rn 4) (tT 4) (nF 4), w ∈ TG := by
  have e : u_ws (rn 4) (tT 4) (nF 4) = ([200, 202, 204, 206] : List Nat).filterMap (fun i => lw_tbl[i]?) := by decide +kernel
  have g : (u_ws (rn 4) (tT 4) (nF 4)).all goodWord = true := by decide +kernel
  intro w hw
  have hg := List.all_eq_true.mp g w hw
  rw [e] at hw
  obtain ⟨i, -, hi⟩ := List.mem_filterMap.mp hw
  exact tg_in (List.mem_of_getElem? hi) hg
theorem lay_5 : ∀ w ∈ u_ws (rn 5) (tT 5) (nF 5), w ∈ TG := by
  have e : u_ws (rn 5) (tT 5) (nF 5) = ([380, 382, 384] : List Nat).filterMap (fun i => lw_tbl[i]?) := by decide +kernel
  have g : (u_ws (rn 5) (tT 5) (nF 5)).all goodWord = true := by decide +kernel
  intro w hw
  have hg := List.all_eq_true.mp g w hw
  rw [e] at hw
  obtain ⟨i, -, hi⟩ := List.mem_filterMap.mp hw
  exact tg_in (List.mem_of_getElem? hi) hg
theorem lay_6 : ∀ w ∈ u_ws (rn 6) (tT 6) (nF 6), w ∈ TG := by
  have e : u_ws (rn 6) (tT 6) (nF 6) = ([133, 135] : List Nat).filterMap (fun i => lw_tbl[i]?) := by decide +kernel
  have g : (u_ws (rn 6) (tT 6) (nF 6)).all goodWord = true := by decide +kernel
  intro w hw
  have hg := List.all_eq_true.mp g w hw
  rw [e] at hw
  obtain ⟨i, -, hi⟩ := List.mem_filterMap.mp hw
  exact tg_in (List.mem_of_getElem? hi) hg
theorem lay_7 : ∀ w ∈ u_ws (rn 7) (tT 7) (nF 7), w ∈ TG := by
  have e : u_ws (rn 7) (tT 7) (nF 7) = ([305, 307, 309, 311, 313, 315, 317, 319, 321, 323, 325] : List Nat).filterMap (fun i => lw_tbl[i]?) := by decide +kernel
  have g : (u_ws (rn 7) (tT 7) (nF 7)).all goodWord = true := by decide +kernel
  intro w hw
  have hg := List.all_eq_true.mp g w hw
  rw [e] at hw
  obtain ⟨i, -, hi⟩ := List.mem_filterMap.mp hw
  exact tg_in (List.mem_of_getElem? hi) hg
theorem lay_8 : ∀ w ∈ u_ws (rn 8) (tT 8) (nF 8), w ∈ TG := by
  have e : u_ws (rn 8) (tT 8) (nF 8) = ([112, 114, 116] : List Nat).filterMap (fun i => lw_tbl[i]?) := by decide +kernel
  have g : (u_ws (rn 8) (tT 8) (nF 8)).all goodWord = true := by decide +kernel
  intro w hw
  have hg := List.all_eq_true.mp g w hw
  rw [e] at hw
  obtain ⟨i, -, hi⟩ := List.mem_filterMap.mp hw
  exact tg_in (List.mem_of_getElem? hi) hg
theorem lay_9 : ∀ w ∈ u_ws (rn 9) (tT 9) (nF 9), w ∈ TG := by
  have e : u_ws (rn 9) (tT 9) (nF 9) = ([275, 277, 279] : List Nat).filterMap (fun i => lw_tbl[i]?) := by decide +kernel
  have g : (u_ws (rn 9) (tT 9) (nF 9)).all goodWord = true := by decide +kernel
  intro w hw
  have hg := List.all_eq_true.mp g w hw
  rw [e] at hw
  obtain ⟨i, -, hi⟩ := List.mem_filterMap.mp hw
  exact tg_in (List.mem_of_getElem? hi) hg
theorem lay_10 : ∀ w ∈ u_ws (rn 10) (tT 10) (nF 10), w ∈ TG := by
  have e : u_ws (rn 10) (tT 10) (nF 10) = ([393, 395, 397, 399, 401, 403] : List Nat).filterMap (fun i => lw_tbl[i]?) := by decide +kernel
  have g : (u_ws (rn 10) (tT 10) (nF 10)).all goodWord = true := by decide +kernel
  intro w hw
  have hg := List.all_eq_true.mp g w hw
  rw [e] at hw
  obtain ⟨i, -, hi⟩ := List.mem_filterMap.mp hw
  exact tg_in (List.mem_of_getElem? hi) hg
theorem lay_11 : ∀ w ∈ u_ws (rn 11) (tT 11) (nF 11), w ∈ TG := by
  have e : u_ws (rn 11) (tT 11) (nF 11) = ([882, 884, 886, 888, 890, 892, 894, 896, 898, 900, 902, 904, 906, 908, 910, 912, 914, 916, 918, 920, 922, 924, 926, 928, 930, 932, 934, 936, 938] : List Nat).filterMap (fun i => lw_tbl[i]?) := by decide +kernel
  have g : (u_ws (rn 11) (tT 11) (nF 11)).all goodWord = true := by decide +kernel
  intro w hw
  have hg := List.all_eq_true.mp g w hw
  rw [e] at hw
  obtain ⟨i, -, hi⟩ := List.mem_filterMap.mp hw
  exact tg_in (List.mem_of_getElem? hi) hg
theorem layT : ∀ c, c < 12 → ∀ w ∈ u_ws (rn c) (tT c) (nF c), w ∈ TG := by
  intro c hc
  match c, hc with
  | 0, _ => exact lay_0
  | 1, _ => exact lay_1
  | 2, _ => exact lay_2
  | 3, _ => exact lay_3
  | 4, _ => exact lay_4
  | 5, _ => exact lay_5
  | 6, _ => exact lay_6
  | 7, _ => exact lay_7
  | 8, _ => exact lay_8
  | 9, _ => exact lay_9
  | 10, _ => exact lay_10
  | 11, _ => exact lay_11
theorem clsT : ∀ c, c < 12 → cls_[c]? = some (rn c, tT c, nF c) := by
  intro c hc
  match c, hc with
  | 0, _ => rfl
  | 1, _ => rfl
  | 2, _ => rfl
  | 3, _ => rfl
  | 4, _ => rfl
  | 5, _ => rfl
  | 6, _ => rfl
  | 7, _ => rfl
  | 8, _ => rfl
  | 9, _ => rfl
  | 10, _ => rfl
  | 11, _ => rfl
end
section
/-! every instruction of the program, looked at by the kernel: it decodes so, links so, goes on there -/
def ilen : Instr → Nat
  | .bipush _ => 2
  | .sipush _ => 3
  | .ldc _ => 2
  | .ldc_w _ => 3
  | .ldc2_w _ => 3
  | .iload _ => 2
  | .lload _ => 2
  | .aload _ => 2
  | .istore _ => 2
  | .lstore _ => 2
  | .astore _ => 2
  | .iinc _ _ => 3
  | .getfield _ => 3
  | .putfield _ => 3
  | .invokevirtual _ => 3
  | .invokestatic _ => 3
  | .ifCond _ _ => 3
  | .if_icmp _ _ => 3
  | .goto _ => 3
  | _ => 1
def isTS : Instr → Bool
  | .tableswitch _ _ _ _ => true
  | _ => false
def termI : Instr → Bool
  | .tableswitch _ _ _ _ => true
  | .goto _ => true
  | .ireturn => true
  | .lreturn => true
  | .areturn => true
  | .return_ => true
  | _ => false
def okD (y pc : Nat) (o : Op) : Bool := match decode (mb y) pc with
  | .ok q => decide (q.1 = o.1) && (isTS o.1 || decide (q.2 = ilen o.1))
  | .error _ => false
def okC (y z : Nat) : Bool := decide (z < NM) && decide (mf z + 1 ≤ mf y) && decide (8 + (mL z + 11) + mo z ≤ mo y)
def okN (y : Nat) : Bool := decide (1 ≤ mf y) && decide (60 ≤ mo y)
def okS (y pc : Nat) (a : Nat) (dflt low high : Int) (offs : Array Int) : Bool := match jtT[a]? with
  | some (lo, ts, df) => decide (lo = low) && decide (lo + (ts.length : Int) = high + 1) && decide (offs.size = ts.length) && decide ((pc : Int) + dflt = (bs y df : Int)) && (List.range ts.length).all (fun i => decide ((pc : Int) + offs.getD i 0 = (bs y (ts.getD i 0) : Int)))
  | none => false
def okX (y pc : Nat) (o : Op) : Bool := match o.1 with
  | .iconst k => decide (Int32.ofInt k = cI o.2.1 o.2.2.1)
  | .bipush k => decide ((Int8.ofInt k).toInt32 = cI o.2.1 o.2.2.1)
  | .sipush k => decide ((Int16.ofInt k).toInt32 = cI o.2.1 o.2.2.1)
  | .ldc i => cuL.any (fun q => decide (q.2 = (mc y, i, o.2.1, o.2.2.1)))
  | .ldc_w i => cuL.any (fun q => decide (q.2 = (mc y, i, o.2.1, o.2.2.1)))
  | .ldc2_w i => clL.any (fun q => decide (q.2 = (mc y, i, o.2.1, o.2.2.1)))
  | .lconst k => decide (Int64.ofNat k.val = cL o.2.1 o.2.2.1)
  | .iload k => decide (k = o.2.1)
  | .lload k => decide (k = o.2.1)
  | .aload k => decide (k = o.2.1)
  | .iload_n k => decide (k.val = o.2.1)
  | .lload_n k => decide (k.val = o.2.1)
  | .aload_n k => decide (k.val = o.2.1)
  | .istore k => decide (k = o.2.1) && decide (o.2.1 < mL y)
  | .astore k => decide (k = o.2.1) && decide (o.2.1 < mL y)
  | .lstore k => decide (k = o.2.1) && decide (o.2.1 + 1 < mL y)
  | .istore_n k => decide (k.val = o.2.1) && decide (o.2.1 < mL y)
  | .astore_n k => decide (k.val = o.2.1) && decide (o.2.1 < mL y)
  | .lstore_n k => decide (k.val = o.2.1) && decide (o.2.1 + 1 < mL y)
  | .iinc k n => decide (k = o.2.1) && decide (o.2.1 < mL y) && decide (Int32.ofInt n = cI o.2.2.1 o.2.2.2)
  | .getfield i => fuL.any (fun q => decide (q.2 = (mc y, i, o.2.1, o.2.2.1)))
  | .putfield i => fuL.any (fun q => decide (q.2 = (mc y, i, o.2.1, o.2.2.1))) && decide ((tT o.2.1 o.2.2.1).2.2.2 = false)
  | .invokevirtual i => okC y o.2.1 && muL.any (fun q => decide (q.2 = (mc y, i, o.2.1))) && decide (stc o.2.1 = 0) && decide (np o.2.1 = o.2.2.1) && decide (mc o.2.1 = o.2.2.2) && decide (mc o.2.1 < 12)
  | .invokestatic i => if o.2.1 = 999 then okN y && acL.any (fun q => decide (q.2 = (mc y, i)))
    else if o.2.1 = 998 then okN y && minL.any (fun q => decide (q.2 = (mc y, i)))
    else if o.2.1 = 997 then okN y && maxL.any (fun q => decide (q.2 = (mc y, i)))
    else okC y o.2.1 && decide (stc o.2.1 = 1) && decide (np o.2.1 = o.2.2.1) && (if o.2.2.2 = 1 then nuL.any (fun q => decide (q = (mc y, i, o.2.1))) else muL.any (fun q => decide (q.2 = (mc y, i, o.2.1))))
  | .ireturn => if o.2.1 = 0 then decide (mr y = some .int) else decide (mr y = some .boolean)
  | .lreturn => decide (mr y = some .long)
  | .areturn => match mr y with
    | some (.object _) => true
    | _ => false
  | .return_ => decide (mr y = none)
  | .ifCond _ k => decide ((pc : Int) + k = (bs y o.2.1 : Int))
  | .if_icmp _ k => decide ((pc : Int) + k = (bs y o.2.1 : Int))
  | .goto k => decide ((pc : Int) + k = (bs y o.2.1 : Int))
  | .tableswitch df lo hi offs => okS y pc o.2.1 df lo hi offs
  | _ => true
def okL (y : Nat) : Nat → List Op → Nat → Bool
  | pc, [], ft => decide (pc = bs y ft)
  | pc, o :: is, ft => okD y pc o && okX y pc o && (termI o.1 || okL y (pc + ilen o.1) is ft)
def okM (z : Nat) : Bool := (List.range (blkT.getD z []).length).all (fun k => okL z (bs z k) (blk z k).1 (blk z k).2) && decide (bs z 0 = 0) && decide ((bsT.getD z []).length = (blkT.getD z []).length)
theorem okM_0 : ((List.range 10).map (· + 0)).all okM = true := by decide +kernel
theorem okM_1 : ((List.range 10).map (· + 10)).all okM = true := by decide +kernel
theorem okM_2 : ((List.range 10).map (· + 20)).all okM = true := by decide +kernel
theorem okM_3 : ((List.range 10).map (· + 30)).all okM = true := by decide +kernel
theorem okM_4 : ((List.range 10).map (· + 40)).all okM = true := by decide +kernel
theorem okM_5 : ((List.range 10).map (· + 50)).all okM = true := by decide +kernel
theorem okM_6 : ((List.range 10).map (· + 60)).all okM = true := by decide +kernel
theorem okM_7 : ((List.range 10).map (· + 70)).all okM = true := by decide +kernel
theorem okM_8 : ((List.range 10).map (· + 80)).all okM = true := by decide +kernel
theorem okM_9 : ((List.range 10).map (· + 90)).all okM = true := by decide +kernel
theorem okM_10 : ((List.range 10).map (· + 100)).all okM = true := by decide +kernel
theorem okM_11 : ((List.range 10).map (· + 110)).all okM = true := by decide +kernel
theorem okM_12 : ((List.range 10).map (· + 120)).all okM = true := by decide +kernel
theorem okM_13 : ((List.range 10).map (· + 130)).all okM = true := by decide +kernel
theorem okM_14 : ((List.range 10).map (· + 140)).all okM = true := by decide +kernel
theorem okM_15 : ((List.range 10).map (· + 150)).all okM = true := by decide +kernel
theorem okM_16 : ((List.range 10).map (· + 160)).all okM = true := by decide +kernel
theorem okM_17 : ((List.range 10).map (· + 170)).all okM = true := by decide +kernel
theorem okM_18 : ((List.range 10).map (· + 180)).all okM = true := by decide +kernel
theorem okM_19 : ((List.range 8).map (· + 190)).all okM = true := by decide +kernel
theorem okM_in {z : Nat} (h : z < NM) : okM z = true := by
  have h : z < 198 := h
  by_cases q0 : z < 10
  · exact in_rng (k := 0) (P := fun z => okM z = true) (List.all_eq_true.mp okM_0) (by omega) (by omega)
  by_cases q1 : z < 20
  · exact in_rng (k := 0) (P := fun z => okM z = true) (List.all_eq_true.mp okM_1) (by omega) (by omega)
  by_cases q2 : z < 30
  · exact in_rng (k := 0) (P := fun z => okM z = true) (List.all_eq_true.mp okM_2) (by omega) (by omega)
  by_cases q3 : z < 40
  · exact in_rng (k := 0) (P := fun z => okM z = true) (List.all_eq_true.mp okM_3) (by omega) (by omega)
  by_cases q4 : z < 50
  · exact in_rng (k := 0) (P := fun z => okM z = true) (List.all_eq_true.mp okM_4) (by omega) (by omega)
  by_cases q5 : z < 60
  · exact in_rng (k := 0) (P := fun z => okM z = true) (List.all_eq_true.mp okM_5) (by omega) (by omega)
  by_cases q6 : z < 70
  · exact in_rng (k := 0) (P := fun z => okM z = true) (List.all_eq_true.mp okM_6) (by omega) (by omega)
  by_cases q7 : z < 80
  · exact in_rng (k := 0) (P := fun z => okM z = true) (List.all_eq_true.mp okM_7) (by omega) (by omega)
  by_cases q8 : z < 90
  · exact in_rng (k := 0) (P := fun z => okM z = true) (List.all_eq_true.mp okM_8) (by omega) (by omega)
  by_cases q9 : z < 100
  · exact in_rng (k := 0) (P := fun z => okM z = true) (List.all_eq_true.mp okM_9) (by omega) (by omega)
  by_cases q10 : z < 110
  · exact in_rng (k := 0) (P := fun z => okM z = true) (List.all_eq_true.mp okM_10) (by omega) (by omega)
  by_cases q11 : z < 120
  · exact in_rng (k := 0) (P := fun z => okM z = true) (List.all_eq_true.mp okM_11) (by omega) (by omega)
  by_cases q12 : z < 130
  · exact in_rng (k := 0) (P := fun z => okM z = true) (List.all_eq_true.mp okM_12) (by omega) (by omega)
  by_cases q13 : z < 140
  · exact in_rng (k := 0) (P := fun z => okM z = true) (List.all_eq_true.mp okM_13) (by omega) (by omega)
  by_cases q14 : z < 150
  · exact in_rng (k := 0) (P := fun z => okM z = true) (List.all_eq_true.mp okM_14) (by omega) (by omega)
  by_cases q15 : z < 160
  · exact in_rng (k := 0) (P := fun z => okM z = true) (List.all_eq_true.mp okM_15) (by omega) (by omega)
  by_cases q16 : z < 170
  · exact in_rng (k := 0) (P := fun z => okM z = true) (List.all_eq_true.mp okM_16) (by omega) (by omega)
  by_cases q17 : z < 180
  · exact in_rng (k := 0) (P := fun z => okM z = true) (List.all_eq_true.mp okM_17) (by omega) (by omega)
  by_cases q18 : z < 190
  · exact in_rng (k := 0) (P := fun z => okM z = true) (List.all_eq_true.mp okM_18) (by omega) (by omega)
  exact in_rng (k := 0) (P := fun z => okM z = true) (List.all_eq_true.mp okM_19) (by omega) (by omega)
end
section
theorem okL_blk {z : Nat} (h : z < NM) (k : Nat) : okL z (bs z k) (blk z k).1 (blk z k).2 = true := by
  have h1 := okM_in h
  unfold okM at h1
  rw [Bool.and_eq_true, Bool.and_eq_true, decide_eq_true_eq, decide_eq_true_eq] at h1
  obtain ⟨⟨h1, h2⟩, h3⟩ := h1
  by_cases hk : k < (blkT.getD z []).length
  · exact List.all_eq_true.mp h1 k (List.mem_range.mpr hk)
  · have e1 : blk z k = ([], 0) := by
      unfold blk
      rw [List.getD_eq_getElem?_getD, List.getElem?_eq_none (by omega)]
      rfl
    have e2 : bs z k = 0 := by
      unfold bs
      rw [List.getD_eq_getElem?_getD (i := k), List.getElem?_eq_none (by omega)]
      rfl
    rw [e1, e2]
    show decide (0 = bs z 0) = true
    rw [h2]
    rfl
/-! ===== locals ===== -/
theorem lput_len : ∀ (L : Lo) (k : Nat) (v : Option Value), (lput L k v).length = L.length
  | [], _, _ => rfl
  | _ :: _, 0, _ => rfl
  | u :: L, k + 1, v => by show (lput L k v).length + 1 = L.length + 1; rw [lput_len L k v]
theorem lkill_len : ∀ (L : Lo) (k : Nat), (lkill L k).length = L.length
  | [], 0 => rfl
  | [], _ + 1 => rfl
  | _ :: _, 0 => rfl
  | _ :: _, 1 => rfl
  | u :: L, k + 2 => by show (lkill L (k + 1)).length + 1 = L.length + 1; rw [lkill_len L (k + 1)]
theorem lget_lput : ∀ {L : Lo} {k j : Nat} {v : Option Value}, k < L.length → lget (lput L k v) j = if j = k then v else lget L j
  | [], k, j, v, h => by simp at h
  | u :: L, 0, 0, v, h => rfl
  | u :: L, 0, j + 1, v, h => by simp [lput, lget]
  | u :: L, k + 1, 0, v, h => by simp [lput, lget]
  | u :: L, k + 1, j + 1, v, h => by
    have h1 : k < L.length := by simp at h; omega
    simp only [lput, lget, lget_lput h1]
    by_cases hj : j = k
    · simp [hj]
    · simp [hj]
theorem kl_some {u : Option Value} {v : Value} (h : kl u = some v) : u = some v ∧ v.category = 1 := by
  cases u with
  | none => cases h
  | some w => cases w <;> first | (cases h; done) | (cases h; exact ⟨rfl, rfl⟩)
theorem lget_lkill : ∀ {L : Lo} {k j : Nat} {v : Value}, lget (lkill L k) j = some v → lget L j = some v ∧ ¬ (j + 1 = k ∧ v.category = 2)
  | [], 0, j, v, h => by simp [lkill, lget] at h
  | [], k + 1, j, v, h => by simp [lkill, lget] at h
  | u :: L, 0, j, v, h => ⟨h, fun q => by omega⟩
  | u :: L, 1, 0, v, h => by
    obtain ⟨h1, h2⟩ := kl_some (u := u) h
    exact ⟨h1, fun q => by rw [h2] at q; omega⟩
  | u :: L, 1, j + 1, v, h => ⟨h, fun q => by omega⟩
  | u :: L, k + 2, 0, v, h => ⟨h, fun q => by omega⟩
  | u :: L, k + 2, j + 1, v, h => by
    obtain ⟨h1, h2⟩ := lget_lkill (L := L) (k := k + 1) (j := j) h
    exact ⟨h1, fun q => h2 ⟨by omega, q.2⟩⟩
theorem lget_lt : ∀ {L : Lo} {j : Nat} {v : Value}, lget L j = some v → j < L.length
  | [], j, v, h => by cases h
  | u :: L, 0, v, h => Nat.succ_pos _
  | u :: L, j + 1, v, h => Nat.succ_lt_succ (lget_lt (L := L) h)
def conc (ad : Nat → Nat) (v : Value) : Value := match v with
  | .ref c => .ref (ad c)
  | v => v
theorem conc_cat (ad : Nat → Nat) (v : Value) : (conc ad v).category = v.category := by cases v <;> rfl
def lvh (ad : Nat → Nat) (ls : Array Slot) (n : Nat) (L : Lo) : Prop := ls.size = n ∧ lv_wf ls ∧ L.length = n ∧ ∀ k v, lget L k = some v → ls[k]? = some (.val (conc ad v))
def prs (ad : Nat → Nat) (L : Lo) : List (Nat × Value) := (List.range L.length).filterMap (fun k => (lget L k).map (fun v => (k, conc ad v)))
theorem prs_in {ad : Nat → Nat} {L : Lo} {k : Nat} {v : Value} (h : lget L k = some v) : (k, conc ad v) ∈ prs ad L := List.mem_filterMap.mpr ⟨k, List.mem_range.mpr (lget_lt h), by rw [h]; rfl⟩
theorem prs_of {ad : Nat → Nat} {L : Lo} {q : Nat × Value} (h : q ∈ prs ad L) : ∃ v, lget L q.1 = some v ∧ q.2 = conc ad v := by
  obtain ⟨k, -, h2⟩ := List.mem_filterMap.mp h
  cases hv : lget L k with
  | none => rw [hv] at h2; cases h2
  | some v => rw [hv] at h2; cases h2; exact ⟨v, hv, rfl⟩
theorem lvh.has {ad : Nat → Nat} {ls : Array Slot} {n : Nat} {L : Lo} (h : lvh ad ls n L) : lv_has ls n (prs ad L) := ⟨h.1, h.2.1, fun q hq => by
  obtain ⟨v, h1, h2⟩ := prs_of hq
  rw [h2]
  exact h.2.2.2 _ _ h1⟩
theorem lvh.st1 {ad : Nat → Nat} {ls ls' : Array Slot} {n i : Nat} {L : Lo} {v : Value} (h : lvh ad ls n L) (hi : i < n) (h' : lv_has ls' n ((i, conc ad v) :: (prs ad L).filter (fun q => !(q.1 == i) && !(q.1 + 1 == i && q.2.category == 2)))) : lvh ad ls' n (lput (lkill L i) i (some v)) := by
  refine ⟨h'.1, h'.2.1, by rw [lput_len, lkill_len]; exact h.2.2.1, fun k w hk => ?_⟩
  rw [lget_lput (by rw [lkill_len, h.2.2.1]; exact hi)] at hk
  by_cases e : k = i
  · rw [if_pos e] at hk
    cases hk
    subst e
    exact h'.2.2 (k, conc ad v) List.mem_cons_self
  · rw [if_neg e] at hk
    obtain ⟨h1, h2⟩ := lget_lkill hk
    refine h'.2.2 (k, conc ad w) (List.mem_cons_of_mem _ (List.mem_filter.mpr ⟨prs_in h1, ?_⟩))
    simp only [Bool.and_eq_true, Bool.not_eq_true', beq_eq_false_iff_ne, Bool.and_eq_false_iff, conc_cat]
    refine ⟨e, ?_⟩
    by_cases e2 : k + 1 = i
    · exact Or.inr (fun q => h2 ⟨e2, q⟩)
    · exact Or.inl e2
theorem lvh.st2 {ad : Nat → Nat} {ls ls' : Array Slot} {n i : Nat} {L : Lo} {v : Value} (h : lvh ad ls n L) (hi : i + 1 < n) (h' : lv_has ls' n ((i, conc ad v) :: (prs ad L).filter (fun q => !(q.1 == i) && (!(q.1 == i + 1) && !(q.1 + 1 == i && q.2.category == 2))))) : lvh ad ls' n (lput (lput (lkill L i) i (some v)) (i + 1) none) := by
  refine ⟨h'.1, h'.2.1, by rw [lput_len, lput_len, lkill_len]; exact h.2.2.1, fun k w hk => ?_⟩
  rw [lget_lput (by rw [lput_len, lkill_len, h.2.2.1]; exact hi)] at hk
  by_cases e : k = i + 1
  · rw [if_pos e] at hk; cases hk
  · rw [if_neg e, lget_lput (by rw [lkill_len, h.2.2.1]; omega)] at hk
    by_cases e0 : k = i
    · rw [if_pos e0] at hk
      cases hk
      subst e0
      exact h'.2.2 (k, conc ad v) List.mem_cons_self
    · rw [if_neg e0] at hk
      obtain ⟨h1, h2⟩ := lget_lkill hk
      refine h'.2.2 (k, conc ad w) (List.mem_cons_of_mem _ (List.mem_filter.mpr ⟨prs_in h1, ?_⟩))
      simp only [Bool.and_eq_true, Bool.not_eq_true', beq_eq_false_iff_ne, Bool.and_eq_false_iff, conc_cat]
      refine ⟨e0, e, ?_⟩
      by_cases e2 : k + 1 = i
      · exact Or.inr (fun q => h2 ⟨e2, q⟩)
      · exact Or.inl e2
/-! ===== the world ===== -/
def cE (ty : ClassId × ClassId) (ad : Nat → Nat) (M : Mem) (c : Nat) : va_E := match sh c with
  | some (.inl n) => .inl (ty.1, n, .inl (M c))
  | some (.inr (.inl cs)) => .inl (ty.2, cs.length, .inr (.inr (.inr (.inr (fun i => (cs[i]?).map ad)))))
  | some (.inr (.inr o)) => .inr (o.1, o.2.map (fun f => conc ad (fval M c f)))
  | none => .inr (0, [])
def wsM (ty : ClassId × ClassId) (ad : Nat → Nat) (M : Mem) : va_W := (List.range NC).map (fun c => (ad c, cE ty ad M c))
def tyL (ty : ClassId × ClassId) : List (ClassId × FieldType) := [(ty.1, .int), (ty.2, .object "IceHouse$Sheet")]
theorem fval_congr {M M' : Mem} {c : Nat} (h : M' c = M c) (f : Nat × Nat × Nat) : fval M' c f = fval M c f := by unfold fval; rw [h]
theorem cE_congr {ty : ClassId × ClassId} {ad : Nat → Nat} {M M' : Mem} {c : Nat} (h : M' c = M c) : cE ty ad M' c = cE ty ad M c := by
  have e : (fun f => conc ad (fval M' c f)) = (fun f => conc ad (fval M c f)) := funext (fun f => by rw [fval_congr h])
  unfold cE
  rw [h, e]
theorem wsM_at {ty : ClassId × ClassId} {ad : Nat → Nat} {M : Mem} {c : Nat} (h : c < NC) : (wsM ty ad M)[c]? = some (ad c, cE ty ad M c) := by
  unfold wsM
  rw [List.getElem?_map, List.getElem?_range h]
  rfl
theorem wsM_of {ty : ClassId × ClassId} {ad : Nat → Nat} {M : Mem} {c : Nat} {q : Nat × va_E} (h : (wsM ty ad M)[c]? = some q) : c < NC ∧ q = (ad c, cE ty ad M c) := by
  have hc : c < NC := by
    rcases Nat.lt_or_ge c NC with hc | hc
    · exact hc
    · rw [List.getElem?_eq_none (by unfold wsM; simp; exact hc)] at h; cases h
  rw [wsM_at hc] at h
  exact ⟨hc, (Option.some.inj h).symm⟩
theorem wsM_set {ty : ClassId × ClassId} {ad : Nat → Nat} {M M' : Mem} {c : Nat} {e : va_E} (h : c < NC) (he : cE ty ad M' c = e) (ho : ∀ c', c' ≠ c → M' c' = M c') : (wsM ty ad M).set c (ad c, e) = wsM ty ad M' := by
  apply List.ext_getElem?
  intro i
  rw [List.getElem?_set]
  by_cases hi : i < NC
  · by_cases e1 : c = i
    · subst e1
      rw [if_pos rfl, if_pos (by unfold wsM; simp; exact h), wsM_at h, he]
    · rw [if_neg e1, wsM_at hi, wsM_at hi, cE_congr (ho i (Ne.symm e1))]
  · rw [if_neg (show ¬ c = i from fun q => hi (q ▸ h)), List.getElem?_eq_none (by unfold wsM; simp; omega), List.getElem?_eq_none (by unfold wsM; simp; omega)]
def Apt (A : Nat → Prop) (ad : Nat → Nat) : Prop := (∀ i j, i < NC → j < NC → ad i = ad j → i = j) ∧ ∀ i, i < NC → A (ad i)
theorem Apt.D {A : Nat → Prop} {ad : Nat → Nat} (h : Apt A ad) (ty : ClassId × ClassId) (M : Mem) : va_D A (wsM ty ad M) := by
  refine ⟨fun i j p q hi hj he => ?_, fun k q hk => ?_⟩
  · obtain ⟨h1, rfl⟩ := wsM_of hi
    obtain ⟨h2, rfl⟩ := wsM_of hj
    exact h.1 i j h1 h2 he
  · obtain ⟨h1, rfl⟩ := wsM_of hk
    exact h.2 k h1
theorem sh_lt {c : Nat} {k : Kd} (h : sh c = some k) : c < NC := by
  have h1 := (List.getElem?_eq_some_iff.mp h).1
  exact h1
theorem alen_sh {c n : Nat} (h : alen c = some n) : sh c = some (.inl n) := by
  unfold alen at h
  split at h
  · rename_i k hk; rw [hk]; cases h; rfl
  · cases h
theorem alen_cE {c n : Nat} {ty : ClassId × ClassId} {ad : Nat → Nat} {M : Mem} (h : alen c = some n) : cE ty ad M c = .inl (ty.1, n, .inl (M c)) := by unfold cE; rw [alen_sh h]
theorem fld_sh {c a b : Nat} {f : Nat × Nat × Nat} (h : fld c a b = some f) : ∃ fs, sh c = some (.inr (.inr (a, fs))) ∧ fs[b]? = some f := by
  unfold fld at h
  split at h
  · rename_i o ho
    split at h
    · rename_i ha
      obtain ⟨o1, o2⟩ := o
      cases ha
      exact ⟨o2, ho, h⟩
    · cases h
  · cases h
/-- an object's cell as the tables have it -/
def okK (c : Nat) : Bool := match sh c with
  | some (.inr (.inr o)) => decide (o.1 < 12) && decide (o.2.length = nF o.1) && decide (o.2.length ≤ 100) && (List.range o.2.length).all (fun j => match o.2[j]? with
      | some (0, _, _) => true
      | some (1, i, _) => decide (i = j) && decide (tyT o.1 j = .int)
      | some (2, i, _) => decide (i = j) && decide (tyT o.1 j = .boolean)
      | some (3, i, k) => decide (i = j) && decide (k = j + 100) && decide (tyT o.1 j = .long)
      | _ => false)
  | _ => true
theorem okK_all : (List.range NC).all okK = true := by decide +kernel
theorem okK_at {c a : Nat} {fs : List (Nat × Nat × Nat)} (h : sh c = some (.inr (.inr (a, fs)))) : a < 12 ∧ fs.length = nF a ∧ fs.length ≤ 100 ∧ ∀ j f, fs[j]? = some f → f.1 = 0 ∨ (f.1 = 1 ∧ f.2.1 = j ∧ tyT a j = .int) ∨ (f.1 = 2 ∧ f.2.1 = j ∧ tyT a j = .boolean) ∨ (f.1 = 3 ∧ f.2.1 = j ∧ f.2.2 = j + 100 ∧ tyT a j = .long) := by
  have h1 := List.all_eq_true.mp okK_all c (List.mem_range.mpr (sh_lt h))
  unfold okK at h1
  rw [h] at h1
  simp only [Bool.and_eq_true, decide_eq_true_eq] at h1
  obtain ⟨⟨⟨h1, h2⟩, h3⟩, h4⟩ := h1
  refine ⟨h1, h2, h3, fun j f hf => ?_⟩
  have hj := (List.getElem?_eq_some_iff.mp hf).1
  have h5 := List.all_eq_true.mp h4 j (List.mem_range.mpr hj)
  rw [hf] at h5
  obtain ⟨f0, f1, f2⟩ := f
  match f0, h5 with
  | 0, _ => exact Or.inl rfl
  | 1, h5 => simp only [Bool.and_eq_true, decide_eq_true_eq] at h5; exact Or.inr (Or.inl ⟨rfl, h5.1, h5.2⟩)
  | 2, h5 => simp only [Bool.and_eq_true, decide_eq_true_eq] at h5; exact Or.inr (Or.inr (Or.inl ⟨rfl, h5.1, h5.2⟩))
  | 3, h5 => simp only [Bool.and_eq_true, decide_eq_true_eq] at h5; exact Or.inr (Or.inr (Or.inr ⟨rfl, h5.1.1, h5.1.2, h5.2⟩))
  | f0 + 4, h5 => cases h5
theorem obj_cE {c a : Nat} {fs : List (Nat × Nat × Nat)} {ty : ClassId × ClassId} {ad : Nat → Nat} {M : Mem} (h : sh c = some (.inr (.inr (a, fs)))) : cE ty ad M c = .inr (a, fs.map (fun f => conc ad (fval M c f))) := by unfold cE; rw [h]
theorem jn_jn (x : Int64) : jn (jnl x) (jnh x) = x := by
  have h := x.toBitVec.isLt
  have e1 : (jnl x).toBitVec.toNat = x.toBitVec.toNat % 2 ^ 32 := by
    unfold jnl
    show (BitVec.ofNat 32 _).toNat = _
    rw [BitVec.toNat_ofNat]
    omega
  have e2 : (jnh x).toBitVec.toNat = x.toBitVec.toNat / 2 ^ 32 := by
    unfold jnh
    show (BitVec.ofNat 32 _).toNat = _
    rw [BitVec.toNat_ofNat]
    omega
  unfold jn
  rw [e1, e2]
  have e3 : x.toBitVec.toNat % 2 ^ 32 + 2 ^ 32 * (x.toBitVec.toNat / 2 ^ 32) = x.toBitVec.toNat := by omega
  rw [e3]
  apply Int64.toBitVec_inj.mp
  show BitVec.ofNat 64 _ = _
  apply BitVec.eq_of_toNat_eq
  rw [BitVec.toNat_ofNat]
  omega
/-- what comes into a field: the cell behind it -/
theorem fput_cE {c a b : Nat} {fs : List (Nat × Nat × Nat)} {f : Nat × Nat × Nat} {v : Value} {ty : ClassId × ClassId} {ad : Nat → Nat} {M M' : Mem} (h : sh c = some (.inr (.inr (a, fs)))) (hf : fs[b]? = some f) (hp : fput M c f v = some M') :
    cE ty ad M' c = .inr (a, (fs.map (fun f => conc ad (fval M c f))).set b (conc ad v)) ∧ (∀ c', c' ≠ c → M' c' = M c') ∧ narrow (tyT a b) (conc ad v) = conc ad v ∧ fits (tyT a b) (conc ad v) = true := by
  obtain ⟨ha, hlen, h100, hall⟩ := okK_at h
  have hbl : b < fs.length := (List.getElem?_eq_some_iff.mp hf).1
  have key : ∀ (M' : Mem), fval M' c f = v → (∀ j g, j ≠ b → fs[j]? = some g → fval M' c g = fval M c g) → cE ty ad M' c = .inr (a, (fs.map (fun f => conc ad (fval M c f))).set b (conc ad v)) := by
    intro M' h1 h2
    rw [obj_cE h]
    congr 2
    apply List.ext_getElem?
    intro i
    rw [List.getElem?_set, List.getElem?_map, List.getElem?_map]
    by_cases e : b = i
    · subst e
      rw [if_pos rfl, if_pos (by rw [List.length_map]; exact hbl), hf]
      show some (conc ad (fval M' c f)) = _
      rw [h1]
    · rw [if_neg e]
      cases hg : fs[i]? with
      | none => rfl
      | some g =>
        show some (conc ad (fval M' c g)) = some (conc ad (fval M c g))
        rw [h2 i g (Ne.symm e) hg]
  have apart : ∀ (M' : Mem), (∀ j, j ≠ b → j < 100 → M' c j = M c j) → (∀ j, j ≠ b → M' c (j + 100) = M c (j + 100)) → ∀ j g, j ≠ b → fs[j]? = some g → fval M' c g = fval M c g := by
    intro M' h1 h2 j g hj hg
    have hjl : j < 100 := Nat.lt_of_lt_of_le (List.getElem?_eq_some_iff.mp hg).1 h100
    obtain ⟨g0, g1, g2⟩ := g
    rcases hall j _ hg with q | ⟨q, q2, -⟩ | ⟨q, q2, -⟩ | ⟨q, q2, q3, -⟩
    · simp only at q; subst q; rfl
    · simp only at q q2; subst q; subst q2; show Value.int (M' c g1) = Value.int (M c g1); rw [h1 g1 hj hjl]
    · simp only at q q2; subst q; subst q2; show Value.int (M' c g1) = Value.int (M c g1); rw [h1 g1 hj hjl]
    · simp only at q q2 q3; subst q; subst q2; subst q3; show Value.long (jn (M' c g1) (M' c (g1 + 100))) = Value.long (jn (M c g1) (M c (g1 + 100))); rw [h1 g1 hj hjl, h2 g1 hj]
  have hb2 : b < 100 := Nat.lt_of_lt_of_le hbl h100
  have far : ∀ (x : Int32) (j : Nat), j ≠ b → stM M c b x c (j + 100) = M c (j + 100) := fun x j _ => by
    have : j + 100 ≠ b := by omega
    simp [stM, setC, upd, this]
  obtain ⟨f0, f1, f2⟩ := f
  rcases hall b _ hf with q | ⟨q, q2, q4⟩ | ⟨q, q2, q4⟩ | ⟨q, q2, q3, q4⟩
  · simp only at q; subst q; cases v <;> cases hp
  · simp only at q q2; subst q; subst q2
    cases v with
    | int x =>
      cases hp
      refine ⟨key _ (by show Value.int (stM M c f1 x c f1) = _; simp [stM, setC, upd]) (apart _ (fun j hj _ => by simp [stM, setC, upd, hj]) (far x)), fun c' hc => by simp [stM, setC, hc], by rw [q4]; rfl, by rw [q4]; rfl⟩
    | _ => cases hp
  · simp only at q q2; subst q; subst q2
    cases v with
    | int x =>
      have hp : (if x = 0 ∨ x = 1 then some (stM M c f1 x) else none) = some M' := hp
      by_cases hx : x = 0 ∨ x = 1
      · rw [if_pos hx] at hp
        cases hp
        refine ⟨key _ (by show Value.int (stM M c f1 x c f1) = _; simp [stM, setC, upd]) (apart _ (fun j hj _ => by simp [stM, setC, upd, hj]) (far x)), fun c' hc => by simp [stM, setC, hc], ?_, ?_⟩
        · rw [q4]; rcases hx with rfl | rfl <;> rfl
        · rw [q4]; rcases hx with rfl | rfl <;> rfl
      · rw [if_neg hx] at hp; cases hp
    | _ => cases hp
  · simp only at q q2 q3; subst q; subst q2; subst q3
    cases v with
    | long x =>
      cases hp
      have n1 : f1 ≠ f1 + 100 := by omega
      refine ⟨key _ ?_ (apart _ (fun j hj h1 => ?_) (fun j hj => ?_)), fun c' hc => by simp [stM, setC, hc], by rw [q4]; rfl, by rw [q4]; rfl⟩
      · show Value.long (jn (stM (stM M c f1 (jnl x)) c (f1 + 100) (jnh x) c f1) (stM (stM M c f1 (jnl x)) c (f1 + 100) (jnh x) c (f1 + 100))) = _
        simp [stM, setC, upd, n1, jn_jn]
      · have : j ≠ f1 + 100 := by omega
        simp [stM, setC, upd, hj, this]
      · have : j + 100 ≠ f1 := by omega
        have h2 : j + 100 ≠ f1 + 100 := by omega
        simp [stM, setC, upd, hj, this]
    | _ => cases hp
end
section
section EFF
variable {p : Program} {l : Launch} {e : Env} {R : Room} {s : State} {m : MethodId} {args : Array Value} {below : List Frame} {meth : Method} {c0 : Code} {H : Heap} {locs : List Loc} {Q : State → Prop} {D : va_G} {ty : ClassId × ClassId} {ad : Nat → Nat} {A : Nat → Prop} {y : Nat}
/-- where a method's run stands: machine, code, tables, room -/
def Cx (p : Program) (R : Room) (s : State) (m : MethodId) (args : Array Value) (c0 : Code) (D : va_G) (ty : ClassId × ClassId) (ad : Nat → Nat) (A : Nat → Prop) (y : Nat) : Prop :=
  p.tables.exec = Jvm.exec ∧ c0.code = mb y ∧ c0.maxLocals = mL y ∧ s.vm.findClass (rn (mc y)) = some m.cls ∧ (∀ w ∈ TG, w.before args s = true) ∧ va_K D cls_ (tyL ty) s ∧ (∀ q ∈ nuL, va_Nw (nuC q) s) ∧ (mf y ≤ R.frames ∧ mo y ≤ R.locals) ∧ Apt A ad
theorem gI_inv {v : Option Value} {K : Int32 → Option St3} {q : St3} (h : gI v K = some q) : ∃ x, v = some (.int x) ∧ K x = some q := by
  unfold gI at h; split at h
  · exact ⟨_, rfl, h⟩
  · cases h
theorem gL_inv {v : Option Value} {K : Int64 → Option St3} {q : St3} (h : gL v K = some q) : ∃ x, v = some (.long x) ∧ K x = some q := by
  unfold gL at h; split at h
  · exact ⟨_, rfl, h⟩
  · cases h
theorem gR_inv {v : Option Value} {K : Nat → Option St3} {q : St3} (h : gR v K = some q) : ∃ x, v = some (.ref x) ∧ K x = some q := by
  unfold gR at h; split at h
  · exact ⟨_, rfl, h⟩
  · cases h
theorem s1_inv {S : List Value} {K : Int32 → List Value → Option St3} {q : St3} (h : s1 S K = some q) : ∃ x S0, S = .int x :: S0 ∧ K x S0 = some q := by
  unfold s1 at h; split at h
  · exact ⟨_, _, rfl, h⟩
  · cases h
theorem s2_inv {S : List Value} {K : Int32 → Int32 → List Value → Option St3} {q : St3} (h : s2 S K = some q) : ∃ x v S0, S = .int v :: .int x :: S0 ∧ K x v S0 = some q := by
  unfold s2 at h; split at h
  · exact ⟨_, _, _, rfl, h⟩
  · cases h
theorem s1L_inv {S : List Value} {K : Int64 → List Value → Option St3} {q : St3} (h : s1L S K = some q) : ∃ x S0, S = .long x :: S0 ∧ K x S0 = some q := by
  unfold s1L at h; split at h
  · exact ⟨_, _, rfl, h⟩
  · cases h
theorem s2L_inv {S : List Value} {K : Int64 → Int64 → List Value → Option St3} {q : St3} (h : s2L S K = some q) : ∃ x v S0, S = .long v :: .long x :: S0 ∧ K x v S0 = some q := by
  unfold s2L at h; split at h
  · exact ⟨_, _, _, rfl, h⟩
  · cases h
theorem mm2_inv {S : List Value} {K : Int32 → Int32 → List Value → Option St3} {q : St3} (h : mm2 S K = some q) : ∃ x v S0, S = .int v :: .int x :: S0 ∧ S0.length ≤ 4 ∧ K x v S0 = some q := by
  unfold mm2 at h; split at h
  · split at h
    · exact ⟨_, _, _, rfl, by assumption, h⟩
    · cases h
  · cases h
theorem cat_le (ad : Nat → Nat) {S : List Value} (h : S.length ≤ 4) : ((S.map (conc ad)).map fun v => v.category).sum ≤ 8 := by
  have g : ∀ S : List Value, ((S.map (conc ad)).map fun v => v.category).sum ≤ 2 * S.length := by
    intro S
    induction S with
    | nil => simp
    | cons v S ih =>
      simp only [List.map_cons, List.sum_cons, List.length_cons]
      rcases lv_cat (conc ad v) with q | q <;> omega
  have := g S
  omega
theorem any_mem {α : Type} [DecidableEq α] {L : List (Nat × α)} {x : α} (h : L.any (fun q => decide (q.2 = x)) = true) : ∃ h0, (h0, x) ∈ L := by
  obtain ⟨q, hq, h2⟩ := List.any_eq_true.mp h
  rw [decide_eq_true_eq] at h2
  obtain ⟨q1, q2⟩ := q
  cases h2
  exact ⟨q1, hq⟩
theorem fu_in {own i a b : Nat} (h : fuL.any (fun q => decide (q.2 = (own, i, a, b))) = true) : Jvm.Cond.fieldLink (rn own) i (rn a) (tT a b).2.1 (tT a b).2.2.1 ∈ TG := by
  obtain ⟨h0, hq⟩ := any_mem h
  exact tg_at (List.all_eq_true.mp fu_chk _ hq)
theorem mu_in {own i z : Nat} (h : muL.any (fun q => decide (q.2 = (own, i, z))) = true) : Jvm.Cond.methodLink (rn own) i (my z) ∈ TG := by
  obtain ⟨h0, hq⟩ := any_mem h
  exact tg_at (List.all_eq_true.mp mu_chk _ hq)
theorem ac_in {own i : Nat} (h : acL.any (fun q => decide (q.2 = (own, i))) = true) : Jvm.Cond.methodLink (rn own) i arraycopyName ∈ TG := by
  obtain ⟨h0, hq⟩ := any_mem h
  exact tg_at (List.all_eq_true.mp ac_chk _ hq)
theorem min_in {own i : Nat} (h : minL.any (fun q => decide (q.2 = (own, i))) = true) : Jvm.Cond.methodLink (rn own) i Lib.Math.min.name ∈ TG := by
  obtain ⟨h0, hq⟩ := any_mem h
  exact tg_at (List.all_eq_true.mp min_chk _ hq)
theorem max_in {own i : Nat} (h : maxL.any (fun q => decide (q.2 = (own, i))) = true) : Jvm.Cond.methodLink (rn own) i Lib.Math.max.name ∈ TG := by
  obtain ⟨h0, hq⟩ := any_mem h
  exact tg_at (List.all_eq_true.mp max_chk _ hq)
theorem cu_in {own i a b : Nat} (h : cuL.any (fun q => decide (q.2 = (own, i, a, b))) = true) : Jvm.Cond.constant (rn own) i (cI a b) ∈ TG := by
  obtain ⟨h0, hq⟩ := any_mem h
  exact tg_at (List.all_eq_true.mp cu_chk _ hq)
theorem cl_in {own i a b : Nat} (h : clL.any (fun q => decide (q.2 = (own, i, a, b))) = true) : Jvm.Cond.constantLong (rn own) i (cL a b) ∈ TG := by
  obtain ⟨h0, hq⟩ := any_mem h
  exact tg_at (List.all_eq_true.mp cl_chk _ hq)
theorem dcT {a b : Nat} (ha : a < 12) (hb : b < nF a) : (tT a b).1 = rn a := by
  have h := List.all_eq_true.mp (List.all_eq_true.mp dcT_ok a (List.mem_range.mpr ha)) b (List.mem_range.mpr hb)
  exact of_decide_eq_true h
theorem okD_at {y pc : Nat} {o : Op} (h : okD y pc o = true) : ∃ n, decode (mb y) pc = .ok (o.1, n) ∧ (isTS o.1 = true ∨ n = ilen o.1) := by
  unfold okD at h
  split at h
  · rename_i q hq
    simp only [Bool.and_eq_true, Bool.or_eq_true, decide_eq_true_eq] at h
    obtain ⟨q1, q2⟩ := q
    obtain ⟨rfl, h2⟩ := h
    exact ⟨q2, hq, h2⟩
  · cases h
theorem ilen_at {y pc : Nat} {o : Op} (h : okD y pc o = true) (ht : isTS o.1 = false) : decode (mb y) pc = .ok (o.1, ilen o.1) := by
  obtain ⟨n, h1, h2⟩ := okD_at h
  rw [ht] at h2
  rcases h2 with h2 | h2
  · cases h2
  · rw [h1, h2]
set_option maxHeartbeats 4000000 in
theorem eff_sound {pc : Nat} {o : Op} {L L' : Lo} {S S' : List Value} {M M' : Mem} {ls : Array Slot} (C : Cx p R s m args c0 D ty ad A y) (hd : okD y pc o = true) (hX : okX y pc o = true) (he : eff o L S M = some (L', S', M')) (hl : lvh ad ls (mL y) L) (hP : va_P D cls_ (wsM ty ad M) H) (hS : va_S A s.heap H locs)
    (kk : ∀ (ls' : Array Slot) (H' : Heap) (locs' : List Loc), lvh ad ls' (mL y) L' → va_P D cls_ (wsM ty ad M') H' → va_S A s.heap H' locs' → W p l e R s m args below meth c0 H' locs' 0 0 Q (F0 m (pc + ilen o.1) ls' (S'.map (conc ad)))) :
    W p l e R s m args below meth c0 H locs 0 0 Q (F0 m pc ls (S.map (conc ad))) := by
  obtain ⟨hx, hb, hml, hown, hts, hK, hN, hR, hA⟩ := C
  have hD := hA.D ty M
  obtain ⟨i, a, b, c⟩ := o
  cases i with
  | iconst k =>
    have hdg := ilen_at hd rfl
    cases he
    exact lv_iconst hx hb hdg (of_decide_eq_true hX) (kk _ _ _ hl hP hS)
  | bipush k =>
    have hdg := ilen_at hd rfl
    cases he
    exact lv_bipush hx hb hdg (of_decide_eq_true hX) (kk _ _ _ hl hP hS)
  | sipush k =>
    have hdg := ilen_at hd rfl
    cases he
    exact lv_sipush hx hb hdg (of_decide_eq_true hX) (kk _ _ _ hl hP hS)
  | lconst k =>
    have hdg := ilen_at hd rfl
    cases he
    exact lv_lconst hx hb hdg (of_decide_eq_true hX) (kk _ _ _ hl hP hS)
  | ldc k =>
    have hdg := ilen_at hd rfl
    cases he
    exact lv_ldc hx hb hown (hts _ (cu_in hX)) hdg (kk _ _ _ hl hP hS)
  | ldc_w k =>
    have hdg := ilen_at hd rfl
    cases he
    exact lv_ldcw hx hb hown (hts _ (cu_in hX)) hdg (kk _ _ _ hl hP hS)
  | ldc2_w k =>
    have hdg := ilen_at hd rfl
    cases he
    exact lv_ldc2 hx hb hown (hts _ (cl_in hX)) hdg (kk _ _ _ hl hP hS)
  | iload k =>
    have hdg := ilen_at hd rfl
    obtain ⟨x, h1, h2⟩ := gI_inv he
    cases h2
    have e1 : k = a := of_decide_eq_true hX
    subst e1
    exact lv_iload hx hb hdg (hl.2.2.2 _ _ h1) (kk _ _ _ hl hP hS)
  | iload_n k =>
    have hdg := ilen_at hd rfl
    obtain ⟨x, h1, h2⟩ := gI_inv he
    cases h2
    have e1 : k.val = a := of_decide_eq_true hX
    exact lv_iload_n hx hb hdg e1 (hl.2.2.2 _ _ h1) (kk _ _ _ hl hP hS)
  | lload k =>
    have hdg := ilen_at hd rfl
    obtain ⟨x, h1, h2⟩ := gL_inv he
    cases h2
    have e1 : k = a := of_decide_eq_true hX
    subst e1
    exact lv_lload hx hb hdg (hl.2.2.2 _ _ h1) (kk _ _ _ hl hP hS)
  | lload_n k =>
    have hdg := ilen_at hd rfl
    obtain ⟨x, h1, h2⟩ := gL_inv he
    cases h2
    have e1 : k.val = a := of_decide_eq_true hX
    exact lv_lload_n hx hb hdg e1 (hl.2.2.2 _ _ h1) (kk _ _ _ hl hP hS)
  | aload k =>
    have hdg := ilen_at hd rfl
    obtain ⟨x, h1, h2⟩ := gR_inv he
    cases h2
    have e1 : k = a := of_decide_eq_true hX
    subst e1
    exact lv_aload hx hb hdg (hl.2.2.2 _ _ h1) (kk _ _ _ hl hP hS)
  | aload_n k =>
    have hdg := ilen_at hd rfl
    obtain ⟨x, h1, h2⟩ := gR_inv he
    cases h2
    have e1 : k.val = a := of_decide_eq_true hX
    exact lv_aload_n hx hb hdg e1 (hl.2.2.2 _ _ h1) (kk _ _ _ hl hP hS)
  | istore k =>
    have hdg := ilen_at hd rfl
    obtain ⟨x, S0, rfl, h2⟩ := s1_inv he
    cases h2
    simp only [okX, Bool.and_eq_true, decide_eq_true_eq] at hX
    obtain ⟨e1, hi⟩ := hX
    subst e1
    exact lv_istore hx hb hdg hl.has hi rfl (fun ls' h' => kk _ _ _ (hl.st1 (v := .int x) hi h') hP hS)
  | istore_n k =>
    have hdg := ilen_at hd rfl
    obtain ⟨x, S0, rfl, h2⟩ := s1_inv he
    cases h2
    simp only [okX, Bool.and_eq_true, decide_eq_true_eq] at hX
    obtain ⟨e1, hi⟩ := hX
    exact lv_istore_n hx hb hdg e1 hl.has hi rfl (fun ls' h' => kk _ _ _ (hl.st1 (v := .int x) hi h') hP hS)
  | lstore k =>
    have hdg := ilen_at hd rfl
    obtain ⟨x, S0, rfl, h2⟩ := s1L_inv he
    cases h2
    simp only [okX, Bool.and_eq_true, decide_eq_true_eq] at hX
    obtain ⟨e1, hi⟩ := hX
    subst e1
    exact lv_lstore hx hb hdg hl.has hi rfl (fun ls' h' => kk _ _ _ (hl.st2 (v := .long x) hi h') hP hS)
  | lstore_n k =>
    have hdg := ilen_at hd rfl
    obtain ⟨x, S0, rfl, h2⟩ := s1L_inv he
    cases h2
    simp only [okX, Bool.and_eq_true, decide_eq_true_eq] at hX
    obtain ⟨e1, hi⟩ := hX
    exact lv_lstore_n hx hb hdg e1 hl.has hi rfl (fun ls' h' => kk _ _ _ (hl.st2 (v := .long x) hi h') hP hS)
  | astore k =>
    have hdg := ilen_at hd rfl
    dsimp only [eff] at he
    split at he
    · cases he
      simp only [okX, Bool.and_eq_true, decide_eq_true_eq] at hX
      obtain ⟨e1, hi⟩ := hX
      subst e1
      exact lv_astore hx hb hdg hl.has hi rfl (fun ls' h' => kk _ _ _ (hl.st1 (v := .ref _) hi h') hP hS)
    · cases he
  | astore_n k =>
    have hdg := ilen_at hd rfl
    dsimp only [eff] at he
    split at he
    · cases he
      simp only [okX, Bool.and_eq_true, decide_eq_true_eq] at hX
      obtain ⟨e1, hi⟩ := hX
      exact lv_astore_n hx hb hdg e1 hl.has hi rfl (fun ls' h' => kk _ _ _ (hl.st1 (v := .ref _) hi h') hP hS)
    · cases he
  | iinc k n =>
    have hdg := ilen_at hd rfl
    obtain ⟨x, h1, h2⟩ := gI_inv he
    cases h2
    simp only [okX, Bool.and_eq_true, decide_eq_true_eq] at hX
    obtain ⟨⟨e1, hi⟩, e2⟩ := hX
    subst e1
    obtain ⟨kx, hkx⟩ := List.getElem?_of_mem (prs_in (ad := ad) h1)
    exact lv_iinc hx hb hdg hl.has hkx (by rw [e2]) hi rfl (fun ls' h' => kk _ _ _ (hl.st1 (v := .int _) hi h') hP hS)
  | iadd =>
    have hdg := ilen_at hd rfl
    obtain ⟨x, v, S0, rfl, h2⟩ := s2_inv he
    cases h2
    exact lv_iadd hx hb hdg (kk _ _ _ hl hP hS)
  | isub =>
    have hdg := ilen_at hd rfl
    obtain ⟨x, v, S0, rfl, h2⟩ := s2_inv he
    cases h2
    exact lv_isub hx hb hdg (kk _ _ _ hl hP hS)
  | imul =>
    have hdg := ilen_at hd rfl
    obtain ⟨x, v, S0, rfl, h2⟩ := s2_inv he
    cases h2
    exact lv_imul hx hb hdg (kk _ _ _ hl hP hS)
  | iand =>
    have hdg := ilen_at hd rfl
    obtain ⟨x, v, S0, rfl, h2⟩ := s2_inv he
    cases h2
    exact lv_iand hx hb hdg (kk _ _ _ hl hP hS)
  | ior =>
    have hdg := ilen_at hd rfl
    obtain ⟨x, v, S0, rfl, h2⟩ := s2_inv he
    cases h2
    exact lv_ior hx hb hdg (kk _ _ _ hl hP hS)
  | ixor =>
    have hdg := ilen_at hd rfl
    obtain ⟨x, v, S0, rfl, h2⟩ := s2_inv he
    cases h2
    exact lv_ixor hx hb hdg (kk _ _ _ hl hP hS)
  | ishl =>
    have hdg := ilen_at hd rfl
    obtain ⟨x, v, S0, rfl, h2⟩ := s2_inv he
    cases h2
    exact lv_ishl hx hb hdg (kk _ _ _ hl hP hS)
  | ishr =>
    have hdg := ilen_at hd rfl
    obtain ⟨x, v, S0, rfl, h2⟩ := s2_inv he
    cases h2
    exact lv_ishr hx hb hdg (kk _ _ _ hl hP hS)
  | iushr =>
    have hdg := ilen_at hd rfl
    obtain ⟨x, v, S0, rfl, h2⟩ := s2_inv he
    cases h2
    exact lv_iushr hx hb hdg rfl (kk _ _ _ hl hP hS)
  | idiv =>
    have hdg := ilen_at hd rfl
    obtain ⟨x, v, S0, rfl, h2⟩ := s2_inv he
    split at h2
    · cases h2
    · rename_i hne
      cases h2
      exact lv_idiv hx hb hdg hne (kk _ _ _ hl hP hS)
  | irem =>
    have hdg := ilen_at hd rfl
    obtain ⟨x, v, S0, rfl, h2⟩ := s2_inv he
    split at h2
    · cases h2
    · rename_i hne
      cases h2
      exact lv_irem hx hb hdg hne (kk _ _ _ hl hP hS)
  | ladd =>
    have hdg := ilen_at hd rfl
    obtain ⟨x, v, S0, rfl, h2⟩ := s2L_inv he
    cases h2
    exact lv_ladd hx hb hdg (kk _ _ _ hl hP hS)
  | lsub =>
    have hdg := ilen_at hd rfl
    obtain ⟨x, v, S0, rfl, h2⟩ := s2L_inv he
    cases h2
    exact lv_lsub hx hb hdg (kk _ _ _ hl hP hS)
  | lmul =>
    have hdg := ilen_at hd rfl
    obtain ⟨x, v, S0, rfl, h2⟩ := s2L_inv he
    cases h2
    exact lv_lmul hx hb hdg (kk _ _ _ hl hP hS)
  | ldiv =>
    have hdg := ilen_at hd rfl
    obtain ⟨x, v, S0, rfl, h2⟩ := s2L_inv he
    split at h2
    · cases h2
    · rename_i hne
      cases h2
      exact lv_ldiv hx hb hdg hne (kk _ _ _ hl hP hS)
  | lrem =>
    have hdg := ilen_at hd rfl
    obtain ⟨x, v, S0, rfl, h2⟩ := s2L_inv he
    split at h2
    · cases h2
    · rename_i hne
      cases h2
      exact lv_lrem hx hb hdg hne (kk _ _ _ hl hP hS)
  | lshl =>
    have hdg := ilen_at hd rfl
    dsimp only [eff] at he
    split at he
    · cases he
      exact lv_lshl hx hb hdg rfl (kk _ _ _ hl hP hS)
    · cases he
  | i2l =>
    have hdg := ilen_at hd rfl
    obtain ⟨x, S0, rfl, h2⟩ := s1_inv he
    cases h2
    exact lv_i2l hx hb hdg rfl (kk _ _ _ hl hP hS)
  | i2b =>
    have hdg := ilen_at hd rfl
    obtain ⟨x, S0, rfl, h2⟩ := s1_inv he
    cases h2
    exact lv_i2b hx hb hdg rfl (kk _ _ _ hl hP hS)
  | i2s =>
    have hdg := ilen_at hd rfl
    obtain ⟨x, S0, rfl, h2⟩ := s1_inv he
    cases h2
    exact lv_i2s hx hb hdg rfl (kk _ _ _ hl hP hS)
  | lcmp =>
    have hdg := ilen_at hd rfl
    obtain ⟨x, v, S0, rfl, h2⟩ := s2L_inv he
    cases h2
    exact W.lcmp hx hb hdg (kk _ _ _ hl hP hS)
  | dup =>
    have hdg := ilen_at hd rfl
    dsimp only [eff] at he
    split at he
    · cases he
      exact lv_dup hx hb hdg rfl (kk _ _ _ hl hP hS)
    · cases he
      exact lv_dup hx hb hdg rfl (kk _ _ _ hl hP hS)
    · cases he
  | dup2 =>
    have hdg := ilen_at hd rfl
    dsimp only [eff] at he
    split at he
    · cases he
      exact lv_dup2_11 hx hb hdg rfl rfl (kk _ _ _ hl hP hS)
    · cases he
      exact lv_dup2_11 hx hb hdg rfl rfl (kk _ _ _ hl hP hS)
    · cases he
      exact lv_dup2_2 hx hb hdg rfl (kk _ _ _ hl hP hS)
    · cases he
  | pop =>
    have hdg := ilen_at hd rfl
    obtain ⟨x, S0, rfl, h2⟩ := s1_inv he
    cases h2
    exact lv_pop hx hb hdg rfl (kk _ _ _ hl hP hS)
  | getfield k =>
    have hdg := ilen_at hd rfl
    dsimp only [eff] at he
    split at he
    · split at he
      · rename_i u S0 _ f hf
        cases he
        obtain ⟨fs, h1, h2⟩ := fld_sh hf
        obtain ⟨ha, hlen, -, -⟩ := okK_at h1
        have hbn : b < nF a := by rw [← hlen]; exact (List.getElem?_eq_some_iff.mp h2).1
        refine va_get (D := D) (C := rn a) (T := tT a) (N := nF a) (ref := rn a) hx hb hts (layT a ha) hown hK hP u ((wsM_at (sh_lt h1)).trans (by rw [obj_cE h1])) (clsT a ha) b hbn (hts _ (fu_in hX)) (fun _ h9 => by rw [dcT ha hbn] at h9; exact h9) (v := conc ad (fval M u f)) (by rw [List.getElem?_map, h2]; rfl) hdg (kk _ _ _ hl hP hS)
      · cases he
    · cases he
  | putfield k =>
    have hdg := ilen_at hd rfl
    dsimp only [eff] at he
    split at he
    · split at he
      · split at he
        · rename_i v u S0 _ f hf _ M1 hM1
          cases he
          obtain ⟨fs, h1, h2⟩ := fld_sh hf
          obtain ⟨ha, hlen, -, -⟩ := okK_at h1
          have hbl : b < fs.length := (List.getElem?_eq_some_iff.mp h2).1
          have hbn : b < nF a := by rw [← hlen]; exact hbl
          simp only [okX, Bool.and_eq_true, decide_eq_true_eq] at hX
          obtain ⟨g1, g2, g3, g4⟩ := fput_cE (ty := ty) (ad := ad) h1 h2 hM1
          refine va_put (D := D) (C := rn a) (T := tT a) (N := nF a) (ref := rn a) hx hb hts (layT a ha) (tyT a) (tyT_ok a ha) (nmT_ok a ha) hown hK hP hD hS u ((wsM_at (sh_lt h1)).trans (by rw [obj_cE h1])) (clsT a ha) b hbn (hts _ (fu_in hX.1)) (fun _ h9 => by rw [dcT ha hbn] at h9; exact h9) hX.2 (tyT_ok a ha b hbn) g3 g4 (by rw [List.length_map]; exact hbl) hdg (fun H1 locs1 hP1 hD1 hS1 => ?_)
          rw [wsM_set (sh_lt h1) g1 g2] at hP1
          exact kk _ _ _ hl hP1 hS1
        · cases he
      · cases he
    · cases he
  | iaload =>
    have hdg := ilen_at hd rfl
    dsimp only [eff] at he
    split at he
    · split at he
      · split at he
        · cases he
        · rename_i i u S0 _ n hn hin
          cases he
          exact va_iald hx hb hK hP u 0 ((wsM_at (sh_lt (alen_sh hn))).trans (by rw [alen_cE hn])) rfl hin hdg (kk _ _ _ hl hP hS)
      · cases he
    · cases he
  | iastore =>
    have hdg := ilen_at hd rfl
    dsimp only [eff] at he
    split at he
    · split at he
      · split at he
        · cases he
        · rename_i x i u S0 _ n hn hin
          cases he
          refine va_iast hx hb hK hP hD hS u 0 ((wsM_at (sh_lt (alen_sh hn))).trans (by rw [alen_cE hn])) rfl hin hdg (fun H1 locs1 hP1 hD1 hS1 => ?_)
          rw [wsM_set (M' := stM M u i.toNatClampNeg x) (sh_lt (alen_sh hn)) (by rw [alen_cE hn]; simp [stM, setC]) (fun c' hc => by simp [stM, setC, hc])] at hP1
          exact kk _ _ _ hl hP1 hS1
      · cases he
    · cases he
  | aaload =>
    have hdg := ilen_at hd rfl
    dsimp only [eff] at he
    split at he
    · split at he
      · cases he
      · rename_i i u S0 hin
        cases he
        have hin : vp_in i (rarr u).length := hin
        have hlt : i.toNatClampNeg < (rarr u).length := Nat.not_le.mp fun q => hin (Or.inr q)
        have h1 : ∃ cs, sh u = some (.inr (.inl cs)) ∧ rarr u = cs := by
          unfold rarr at hlt ⊢
          split at hlt
          · rename_i cs hcs; exact ⟨cs, hcs, rfl⟩
          · simp at hlt
        obtain ⟨cs, h1, h2⟩ := h1
        rw [h2] at hin hlt kk
        refine va_aldq hx hb hK hP u 1 ((wsM_at (sh_lt h1)).trans (by unfold cE; rw [h1])) rfl hin hdg ?_
        have e9 : va_rf ((cs[i.toNatClampNeg]?).map ad) = conc ad (.ref (cs.getD i.toNatClampNeg 0)) := by
          rw [List.getElem?_eq_getElem hlt, List.getD_eq_getElem?_getD, List.getElem?_eq_getElem hlt]
          rfl
        rw [e9]
        exact kk _ _ _ hl hP hS
    · cases he
  | arraylength =>
    have hdg := ilen_at hd rfl
    dsimp only [eff] at he
    split at he
    · split at he
      · rename_i u S0 _ n hn
        cases he
        exact va_alen hx hb hK hP u 0 (x := (n, .inl (M u))) (v := nI n) ((wsM_at (sh_lt (alen_sh hn))).trans (by rw [alen_cE hn])) rfl rfl hdg (kk _ _ _ hl hP hS)
      · cases he
    · cases he
  | invokestatic k =>
    have hdg := ilen_at hd rfl
    dsimp only [eff] at he
    by_cases h9 : a = 999
    · rw [if_pos h9] at he
      subst h9
      simp only [okX, if_true, okN, Bool.and_eq_true, decide_eq_true_eq] at hX
      unfold acp at he
      split at he
      · split at he
        · split at he
          · rename_i n dp cd sp cs S0 _ _ n0 n1 h0 h1 hc
            cases he
            obtain ⟨q1, q2, q3, q4, q5, q6⟩ := hc
            have hcat := cat_le ad q6
            have hw : nativeFrameWords "java/lang/System" "arraycopy" 5 + 11 ≤ 52 := by decide +kernel
            refine va_copyi hx hb (hml.trans hl.1.symm) hown (hts _ (ac_in hX.2)) (hts _ ac_nat) (hts _ ac_sta) (hts _ ac_ini) hK hP hD hS cs cd 0 0 (ty := .int) ((wsM_at (sh_lt (alen_sh h0))).trans (by rw [alen_cE h0])) ((wsM_at (sh_lt (alen_sh h1))).trans (by rw [alen_cE h1])) rfl rfl rfl q1 q2 q3 q4 q5 (fun _ _ => rfl) (by omega) (by omega) hdg (fun H1 locs1 hP1 hD1 hS1 => ?_)
            rw [wsM_set (M' := cpyM M cs cd sp.toNatClampNeg dp.toNatClampNeg n.toNatClampNeg) (sh_lt (alen_sh h1)) (by rw [alen_cE h1]; simp [cpyM, setC]) (fun c' hc => by simp [cpyM, setC, hc])] at hP1
            exact kk _ _ _ hl hP1 hS1
          · cases he
        · cases he
      · cases he
    · rw [if_neg h9] at he
      by_cases h8 : a = 998
      · rw [if_pos h8] at he
        subst h8
        simp only [okX, if_neg h9, if_true, okN, Bool.and_eq_true, decide_eq_true_eq] at hX
        obtain ⟨x, v, S0, rfl, h3, h2⟩ := mm2_inv he
        cases h2
        have hcat := cat_le ad h3
        exact va_mmin hx hb (hml.trans hl.1.symm) hown (hts _ (min_in hX.2)) (hts _ min_sta) (hts _ mat_ini) (hts _ min_cod) (by omega) (by omega) (Nat.zero_le _) (Nat.zero_le _) hdg (kk _ _ _ hl hP hS)
      · rw [if_neg h8] at he
        by_cases h7 : a = 997
        · rw [if_pos h7] at he
          subst h7
          simp only [okX, if_neg h9, if_neg h8, if_true, okN, Bool.and_eq_true, decide_eq_true_eq] at hX
          obtain ⟨x, v, S0, rfl, h3, h2⟩ := mm2_inv he
          cases h2
          have hcat := cat_le ad h3
          exact va_mmax hx hb (hml.trans hl.1.symm) hown (hts _ (max_in hX.2)) (hts _ max_sta) (hts _ mat_ini) (hts _ max_cod) (by omega) (by omega) (Nat.zero_le _) (Nat.zero_le _) hdg (kk _ _ _ hl hP hS)
        · rw [if_neg h7] at he
          cases he
  | _ => cases he
end EFF
end
section
/-! SOUNDNESS: what the abstract machine does, the machine does -/
def wsOf (z : Nat) : List Jvm.Cond := Jvm.Cond.code (my z) (mb z) (mL z) (mr z) :: TG
def rmOf (z : Nat) : Room := { frames := mf z, cells := 0, slots := 0, locals := mo z }
def AW (ad : Nat → Nat) : Nat → Prop := fun q => ∃ c, c < NC ∧ q = ad c
def PcZ (D : va_G) (ty : ClassId × ClassId) (ad : Nat → Nat) (as : List Value) (M : Mem) : Array Value → State → Prop := va_Pc (as.map (conc ad)) (fun U => va_P D cls_ (wsM ty ad M) U.heap ∧ va_K D cls_ (tyL ty) U ∧ ∀ q ∈ nuL, va_Nw (nuC q) U)
def QcZ (D : va_G) (ty : ClassId × ClassId) (ad : Nat → Nat) (r : Option Value) (M' : Mem) : Array Value → State → Outcome → State → Prop := fun _ st oc t => oc = .returned (r.map (conc ad)) ∧ va_P D cls_ (wsM ty ad M') t.heap ∧ va_F (AW ad) st t
def inj (ad : Nat → Nat) : Prop := ∀ i j, i < NC → j < NC → ad i = ad j → i = j
theorem inj.apt {ad : Nat → Nat} (h : inj ad) : Apt (AW ad) ad := ⟨h, fun i hi => ⟨i, hi, rfl⟩⟩
def RetOK (y pc : Nat) (r : Option Value) : Prop := match r with
  | none => decode (mb y) pc = .ok (.return_, 1) ∧ mr y = none
  | some (.int x) => decode (mb y) pc = .ok (.ireturn, 1) ∧ (mr y = some .int ∨ (mr y = some .boolean ∧ (x = 0 ∨ x = 1)))
  | some (.long _) => decode (mb y) pc = .ok (.lreturn, 1) ∧ mr y = some .long
  | some (.ref _) => decode (mb y) pc = .ok (.areturn, 1) ∧ ∃ n, mr y = some (.object n)
  | _ => False
theorem mn_at {z : Nat} (h : z < NM) : (my z).cls = rn (mc z) ∧ plainName (my z).cls = true ∧ (my z).cls ≠ "java/lang/invoke/MethodHandle" ∧ (my z).cls ≠ "java/lang/invoke/VarHandle" ∧ (parseMethodDescriptor (my z).desc).map (fun d => d.parameters.length) = some (np z) ∧ Jvm.Cond.initialized (my z).cls ∈ TG ∧ (stc z = 0 → Jvm.Cond.instanceMethod (my z) ∈ TG ∧ Jvm.Cond.selects (my z).cls (my z) (my z) ∈ TG) ∧ (stc z = 1 → Jvm.Cond.static (my z) ∈ TG) := by
  have h1 := mn_in h
  unfold mnC at h1
  simp only [Bool.and_eq_true, decide_eq_true_eq] at h1
  obtain ⟨⟨⟨⟨⟨⟨⟨h1, -⟩, h2⟩, h3⟩, h4⟩, h5⟩, h6⟩, h7⟩ := h1
  refine ⟨h1, h2, h3, h4, h5, tg_in (List.mem_of_getElem? h6) rfl, fun h0 => ?_, fun h0 => ?_⟩
  · rw [if_pos h0] at h7
    simp only [Bool.and_eq_true, decide_eq_true_eq] at h7
    exact ⟨tg_in (List.mem_of_getElem? h7.1) rfl, tg_in (List.mem_of_getElem? h7.2) rfl⟩
  · rw [if_neg (by omega)] at h7
    simp only [decide_eq_true_eq] at h7
    exact tg_in (List.mem_of_getElem? h7) rfl
theorem cw_TG {z : Nat} (h : z < NM) : Jvm.Cond.code (my z) (mb z) (mL z) (mr z) ∈ TG := tg_in (cw_in h) rfl
theorem goodZ {z : Nat} (h : z < NM) : GoodIn TG (wsOf z) := by
  intro w hw
  rcases List.mem_cons.mp hw with rfl | hw
  · exact tg_good (cw_TG h)
  · exact tg_good hw
theorem lw_tbl_good {args : Array Value} {s : State} (h : ∀ w ∈ lw_tbl, w.before args s = true) : ∀ w ∈ TG, w.before args s = true := fun w hw => h w (List.mem_filter.mp hw).1
theorem ent_lv (ad : Nat → Nat) : ∀ (as : List Value) (i : Nat) (k : Nat) (v : Value), lget (entL as) k = some v → (i + k, conc ad v) ∈ lv_args i (as.map (conc ad))
  | [], i, k, v, h => by cases h
  | u :: as, i, k, v, h => by
    have key : ∀ (j : Nat), (if (conc ad u).category = 2 then i + 2 else i + 1) = j → (i + k, conc ad v) ∈ (i, conc ad u) :: lv_args j (as.map (conc ad)) → (i + k, conc ad v) ∈ lv_args i ((u :: as).map (conc ad)) := by
      intro j hj hm
      show _ ∈ (i, conc ad u) :: lv_args (if (conc ad u).category = 2 then i + 2 else i + 1) (as.map (conc ad))
      rw [hj]
      exact hm
    have one : u.category = 1 → (∀ k, lget (entL (u :: as)) k = lget (some u :: entL as) k) → (i + k, conc ad v) ∈ lv_args i ((u :: as).map (conc ad)) := by
      intro hc hg
      rw [hg] at h
      refine key (i + 1) (by rw [conc_cat, hc]; rfl) ?_
      match k, h with
      | 0, h => cases h; exact List.mem_cons_self
      | k + 1, h =>
        have := ent_lv ad as (i + 1) k v h
        rw [show i + (k + 1) = i + 1 + k by omega]
        exact List.mem_cons_of_mem _ this
    have two : u.category = 2 → (∀ k, lget (entL (u :: as)) k = lget (some u :: none :: entL as) k) → (i + k, conc ad v) ∈ lv_args i ((u :: as).map (conc ad)) := by
      intro hc hg
      rw [hg] at h
      refine key (i + 2) (by rw [conc_cat, hc]; rfl) ?_
      match k, h with
      | 0, h => cases h; exact List.mem_cons_self
      | 1, h => cases h
      | k + 2, h =>
        have := ent_lv ad as (i + 2) k v h
        rw [show i + (k + 2) = i + 2 + k by omega]
        exact List.mem_cons_of_mem _ this
    cases u with
    | long x => exact two rfl (fun _ => rfl)
    | double x => exact two rfl (fun _ => rfl)
    | _ => exact one rfl (fun _ => rfl)
theorem ent_len (ad : Nat → Nat) : ∀ (as : List Value), (lg_sl (as.map (conc ad))).length = (entL as).length
  | [] => rfl
  | u :: as => by
    have ih := ent_len ad as
    unfold lg_sl at ih ⊢
    rw [List.map_cons, List.flatMap_cons, List.length_append, ih, conc_cat]
    cases u <;> simp [Value.category, entL] <;> omega
theorem lget_rep : ∀ (n k : Nat), lget (List.replicate n none) k = none
  | 0, _ => rfl
  | _ + 1, 0 => rfl
  | n + 1, k + 1 => lget_rep n k
theorem lget_app : ∀ {L : Lo} {n k : Nat} {v : Value}, lget (L ++ List.replicate n none) k = some v → lget L k = some v
  | [], n, k, v, h => by rw [List.nil_append, lget_rep] at h; cases h
  | u :: L, n, 0, v, h => h
  | u :: L, n, k + 1, v, h => lget_app (L := L) (n := n) h
theorem lvh_ent (ad : Nat → Nat) {z : Nat} {as : List Value} (h : (ent z as).length = mL z) : lvh ad ((lg_sl (as.map (conc ad)) ++ List.replicate (mL z - (lg_sl (as.map (conc ad))).length) Slot.unset).toArray) (mL z) (ent z as) := by
  have hle : (lg_sl (as.map (conc ad))).length ≤ mL z := by
    rw [ent_len, ← h]
    unfold ent
    rw [List.length_append]
    omega
  obtain ⟨h1, h2, h3⟩ := lv_entry (as.map (conc ad)) hle
  refine ⟨h1, h2, h, fun k v hk => ?_⟩
  have h4 := ent_lv ad as 0 k v (lget_app hk)
  rw [Nat.zero_add] at h4
  exact h3 _ h4
/-- behind a call: any answer -/
theorem my_call {p : Program} {l : Launch} {e : Env} {R : Room} {s : State} {m : MethodId} {args : Array Value} {below : List Frame} {meth : Method} {c0 : Code} {H : Heap} {locs : List Loc} {cells slots : Nat} {Q : State → Prop} {D : va_G} {ty : ClassId × ClassId} {ad : Nat → Nat} {A : Nat → Prop} {pc : Nat} {ls : Array Slot} {rest st0 : List Value} {a : Array Value} {H0 : Heap} {r : Option Value} {M' : Mem}
    (hr : va_Run p l e R s m args below meth c0 H locs cells slots 0 0 (F0 m pc ls st0) rest (QcZ D ty ad r M' a) (AW ad)) (hS : va_S A H0 H locs) (hA : ∀ q, AW ad q → A q)
    (kk : ∀ (H1 : Heap) (locs1 : List Loc), va_P D cls_ (wsM ty ad M') H1 → va_S A H0 H1 locs1 → W p l e R s m args below meth c0 H1 locs1 cells slots Q (F0 m (pc + 3) ls ((r.map (conc ad)).toList ++ rest))) : W p l e R s m args below meth c0 H locs cells slots Q (F0 m pc ls st0) := by
  intro T hT X
  obtain ⟨v, st₀, t, T', L, h0, X', hL, e1, e2, ⟨hv, hp, hz, hk⟩, st⟩ := hr T hT X
  cases hv
  rw [h0] at hz hk
  obtain ⟨t2, a1, b1⟩ := kk T'.heap (locs ++ L) (by rw [e1]; exact hp)
    ⟨Nat.le_trans hS.1 (by rw [e1]; exact hz), fun q h1 h2 => by rw [e1, hk q (Nat.lt_of_lt_of_le h1 hS.1) (fun z => h2 (hA q z))]; exact hS.2.1 q h1 h2, fun q hq => by
      rcases List.mem_append.mp hq with h | h
      · exact hS.2.2 q h
      · exact hA _ (hL q h)⟩ T' rfl X'
  exact ⟨t2, st t2 a1, b1⟩
/-- what is to be shown, by the fuel -/
def Snd (l : Launch) (D : va_G) (ty : ClassId × ClassId) (ad : Nat → Nat) (n : Nat) : Prop := ∀ (y : Nat) (is : List Op) (ft : Nat) (L : Lo) (S : List Value) (M : Mem) (r : Option Value) (M' : Mem), arun n y is ft L S M = some (r, M') → y < NM → ∀ pc, okL y pc is ft = true →
  ∀ (p : Program) (e : Env) (R : Room) (s : State) (m : MethodId) (args : Array Value) (below : List Frame) (meth : Method) (c0 : Code) (H : Heap) (locs : List Loc) (ls : Array Slot) (A : Nat → Prop) (Q : State → Prop), Cx p R s m args c0 D ty ad A y → lvh ad ls (mL y) L → va_P D cls_ (wsM ty ad M) H → va_S A s.heap H locs →
  (∀ (H' : Heap) (locs' : List Loc) (pc' : Nat) (ls' : Array Slot), va_P D cls_ (wsM ty ad M') H' → va_S A s.heap H' locs' → RetOK y pc' r → W p l e R s m args below meth c0 H' locs' 0 0 Q (F0 m pc' ls' (r.map (conc ad)).toList)) → W p l e R s m args below meth c0 H locs 0 0 Q (F0 m pc ls (S.map (conc ad)))
/-- a method's contract out of its run -/
theorem met_of {l : Launch} {D : va_G} {ty : ClassId × ClassId} {ad : Nat → Nat} (hj : inj ad) {n : Nat} (hn : Snd l D ty ad n) {z : Nat} (hz : z < NM) {as : List Value} {M M' : Mem} {r : Option Value} (h : cal (arun n) z as M = some (r, M')) : Met l (my z) (wsOf z) (rmOf z) (PcZ D ty ad as M) (QcZ D ty ad r M') 0 0 (AW ad) := by
  obtain ⟨hcl, hpl, -⟩ := mn_at hz
  refine Met.ofW (cc := mb z) (maxL := mL z) (ret := mr z) hpl rfl ?_
  intro p e s m args below meth c s₁ B hml hv
  obtain ⟨rfl, hP, hK, hN⟩ := hv
  have hx := B.exec
  have hb := B.bytes
  have hr := B.returns
  have hts0 := atoms_spec (ws := wsOf z) B.pre
  have hown : s.vm.findClass (rn (mc z)) = some m.cls := by rw [← hcl]; exact findClass_of_methodNamed B.named
  have hlocks := B.notSynchronized
  unfold cal at h
  split at h
  · rename_i hlen
    have hl := lvh_ent ad hlen
    rw [lg_entry_eq]
    refine hn z [] 0 (ent z as) [] M r M' h hz 0 ?_ p e _ s m _ below meth c s.heap [] _ (AW ad) _ ⟨hx, hb, hml, hown, fun w hw => hts0 w (List.mem_cons_of_mem _ hw), hK, hN, ⟨Nat.le_refl _, Nat.le_refl _⟩, hj.apt⟩ hl hP va_S.rf ?_
    · have h1 := okM_in hz
      unfold okM at h1
      rw [Bool.and_eq_true, Bool.and_eq_true, decide_eq_true_eq] at h1
      show decide (0 = bs z 0) = true
      rw [h1.1.2]
      rfl
    · intro H' locs' pc' ls' hP' hS' hret
      match r, hret with
      | none, hret => exact W.vret hx hb (hr.trans hret.2) (fun t ht hW => ⟨rfl, by rw [ht]; exact hP', hS'.F ht⟩) hS'.2.2 hret.1
      | some (.int x), hret =>
        rcases hret.2 with q | ⟨q, q2⟩
        · exact W.iret (v := x) hx hb (hr.trans q) (fun t ht hW => ⟨rfl, by rw [ht]; exact hP', hS'.F ht⟩) hS'.2.2 hret.1
        · exact W.zret (v := x) hx hb (hr.trans q) (by rcases q2 with rfl | rfl <;> rfl) (fun t ht hW => ⟨rfl, by rw [ht]; exact hP', hS'.F ht⟩) hS'.2.2 hret.1
      | some (.long x), hret => exact W.lret (v := x) hx hb (hr.trans hret.2) (fun t ht hW => ⟨rfl, by rw [ht]; exact hP', hS'.F ht⟩) hS'.2.2 hret.1
      | some (.ref x), hret =>
        obtain ⟨nm, hnm⟩ := hret.2
        exact W.aret (v := .ref (ad x)) hx hb (hr.trans hnm) (Or.inl ⟨nm, rfl⟩) (Or.inr ⟨_, rfl⟩) (fun t ht hW => ⟨rfl, by rw [ht]; exact hP', hS'.F ht⟩) hS'.2.2 hret.1
  · cases h
theorem PcZ_blind {D : va_G} {ty : ClassId × ClassId} {ad : Nat → Nat} {as : List Value} {M : Mem} : FrameBlind (PcZ D ty ad as M) := by
  intro a U g mk q
  obtain ⟨q0, qP, qK, qN⟩ := q
  exact ⟨q0, qP, va_K.moved (u := U) (U := U.calling g mk a) (Vm.Alike.refl U.vm) qK, fun w hw => va_Nw.same (u := U) (U := U.calling g mk a) rfl rfl (qN w hw)⟩
theorem PcZ_at {D : va_G} {ty : ClassId × ClassId} {ad : Nat → Nat} {as : List Value} {M : Mem} {s : State} {H : Heap} (hK : va_K D cls_ (tyL ty) s) (hN : ∀ q ∈ nuL, va_Nw (nuC q) s) (hP : va_P D cls_ (wsM ty ad M) H) (U : State) (hU : U.heap = H) (hW : s.WarmedH U.vm) : PcZ D ty ad as M (as.map (conc ad)).toArray U :=
  ⟨rfl, by rw [hU]; exact hP, va_K.moved hW.alike hK, fun w hw => va_Nw.warmM hW (hN w hw)⟩
theorem onE_inv {x : Option St3} {K : Lo → List Value → Mem → Option Rs} {r : Rs} (h : onE x K = some r) : ∃ L S M, x = some (L, S, M) ∧ K L S M = some r := by
  cases x with
  | none => cases h
  | some q => exact ⟨q.1, q.2.1, q.2.2, rfl, h⟩
theorem onC_inv {x : Option Rs} {K : Option Value → Mem → Option Rs} {r : Rs} (h : onC x K = some r) : ∃ v M, x = some (v, M) ∧ K v M = some r := by
  cases x with
  | none => cases h
  | some q => exact ⟨q.1, q.2, rfl, h⟩
theorem conc_res (ad : Nat → Nat) (r : Option Value) (S : List Value) : (r.toList ++ S).map (conc ad) = (r.map (conc ad)).toList ++ S.map (conc ad) := by
  cases r with
  | none => rfl
  | some v => rfl
set_option maxHeartbeats 4000000 in
theorem sound (l : Launch) (D : va_G) (ty : ClassId × ClassId) (ad : Nat → Nat) (hj : inj ad) : ∀ n, Snd l D ty ad n := by
  intro n
  induction n with
  | zero => intro y is ft L S M r M' h; cases h
  | succ n ih =>
    intro y is ft L S M r M' h hy pc hok p e R s m args below meth c0 H locs ls A Q C hl hP hS hret
    cases is with
    | nil =>
      have e1 : pc = bs y ft := of_decide_eq_true hok
      subst e1
      exact ih y (blk y ft).1 (blk y ft).2 L S M r M' h hy _ (okL_blk hy ft) p e R s m args below meth c0 H locs ls A Q C hl hP hS hret
    | cons o is =>
      obtain ⟨hx, hb, hml, hown, hts, hK, hN, hR, hA⟩ := id C
      have hok : (okD y pc o && okX y pc o && (termI o.1 || okL y (pc + ilen o.1) is ft)) = true := hok
      rw [Bool.and_eq_true, Bool.and_eq_true, Bool.or_eq_true] at hok
      obtain ⟨⟨hd, hX⟩, hnx⟩ := hok
      have h : stp (arun n) y (o :: is) ft L S M = some (r, M') := h
      -- to a block
      have jmp : ∀ (t : Nat) (S' : List Value), arun n y [] t L S' M = some (r, M') → W p l e R s m args below meth c0 H locs 0 0 Q (F0 m (bs y t) ls (S'.map (conc ad))) := fun t S' h' =>
        ih y [] t L S' M r M' h' hy (bs y t) (by show decide (bs y t = bs y t) = true; exact decide_eq_true rfl) p e R s m args below meth c0 H locs ls A Q C hl hP hS hret
      -- to the next instruction
      have nxt : termI o.1 = false → ∀ (L' : Lo) (S' : List Value) (M1 : Mem), arun n y is ft L' S' M1 = some (r, M') → ∀ (ls' : Array Slot) (H' : Heap) (locs' : List Loc), lvh ad ls' (mL y) L' → va_P D cls_ (wsM ty ad M1) H' → va_S A s.heap H' locs' → W p l e R s m args below meth c0 H' locs' 0 0 Q (F0 m (pc + ilen o.1) ls' (S'.map (conc ad))) := by
        intro ht L' S' M1 h' ls' H' locs' hl' hP' hS'
        rw [ht] at hnx
        rcases hnx with q | q
        · cases q
        · exact ih y is ft L' S' M1 r M' h' hy _ q p e R s m args below meth c0 H' locs' ls' A Q C hl' hP' hS' hret
      obtain ⟨i, a, b, c⟩ := o
      cases i with
      | ireturn =>
        have hdg := ilen_at hd rfl
        have h : rtI a S M = some (r, M') := h
        unfold rtI at h
        split at h
        · split at h
          · rename_i x hc
            cases h
            refine hret H locs pc ls hP hS ⟨hdg, ?_⟩
            have hX : (if a = 0 then decide (mr y = some .int) else decide (mr y = some .boolean)) = true := hX
            by_cases h0 : a = 0
            · rw [if_pos h0] at hX; exact Or.inl (of_decide_eq_true hX)
            · rw [if_neg h0] at hX
              exact Or.inr ⟨of_decide_eq_true hX, hc.resolve_left h0⟩
          · cases h
        · cases h
      | lreturn =>
        have hdg := ilen_at hd rfl
        have h : rtL S M = some (r, M') := h
        unfold rtL at h
        split at h
        · cases h; exact hret H locs pc ls hP hS ⟨hdg, of_decide_eq_true hX⟩
        · cases h
      | areturn =>
        have hdg := ilen_at hd rfl
        have h : rtR S M = some (r, M') := h
        unfold rtR at h
        split at h
        · cases h
          refine hret H locs pc ls hP hS ⟨hdg, ?_⟩
          have hX : (match mr y with | some (.object _) => true | _ => false) = true := hX
          split at hX
          · rename_i nm hq; exact ⟨nm, hq⟩
          · cases hX
        · cases h
      | return_ =>
        have hdg := ilen_at hd rfl
        have h : rtV S M = some (r, M') := h
        unfold rtV at h
        split at h
        · cases h; exact hret H locs pc ls hP hS ⟨hdg, of_decide_eq_true hX⟩
        · cases h
      | goto k =>
        have hdg := ilen_at hd rfl
        exact lv_goto hx hb hdg (of_decide_eq_true hX) (jmp a S h)
      | tableswitch df lo hi offs =>
        obtain ⟨len, hdg, -⟩ := okD_at hd
        have h : swI S (fun x S => arun n y [] (swt a x) L S M) = some (r, M') := h
        match S, h with
        | .int x :: S0, h =>
          have h : arun n y [] (swt a x) L S0 M = some (r, M') := h
          have hj2 := jmp _ S0 h
          have hX : okS y pc a df lo hi offs = true := hX
          unfold okS at hX
          split at hX
          · rename_i lo' ts df' hjt
            simp only [Bool.and_eq_true, decide_eq_true_eq] at hX
            obtain ⟨⟨⟨⟨e1, e2⟩, e3⟩, e4⟩, e5⟩ := hX
            subst e1
            unfold swt at hj2
            rw [hjt] at hj2
            dsimp only at hj2
            by_cases hc : x.toInt < lo' ∨ lo' + (ts.length : Int) ≤ x.toInt
            · rw [if_pos hc] at hj2
              exact lv_tableOut hx hb hdg (by rcases hc with q | q <;> omega) e4 hj2
            · rw [if_neg hc] at hj2
              have h1 : ¬ x.toInt < lo' := fun q => hc (Or.inl q)
              have h2 : ¬ hi < x.toInt := fun q => hc (Or.inr (by omega))
              have h3 : (x.toInt - lo').toNat < ts.length := by omega
              have h4 := of_decide_eq_true (List.all_eq_true.mp e5 _ (List.mem_range.mpr h3))
              have h5 : offs[(x.toInt - lo').toNat]? = some (offs.getD (x.toInt - lo').toNat 0) := by
                rw [Array.getElem?_eq_getElem (by omega), Array.getD_eq_getD_getElem?, Array.getElem?_eq_getElem (by omega)]
                rfl
              exact lv_tableIn hx hb hdg h1 h2 h5 h4 hj2
          · cases hX
      | ifCond cd k =>
        have hdg := ilen_at hd rfl
        have ht : (pc : Int) + k = (bs y a : Int) := of_decide_eq_true hX
        match S, h with
        | .int x :: S0, h =>
          have h : (if cmpI cd x 0 then arun n y [] a L S0 M else arun n y is ft L S0 M) = some (r, M') := h
          have kt : cmpI cd x 0 = true → W p l e R s m args below meth c0 H locs 0 0 Q (F0 m (bs y a) ls (S0.map (conc ad))) := fun q => by rw [if_pos q] at h; exact jmp a S0 h
          have kf : cmpI cd x 0 = false → W p l e R s m args below meth c0 H locs 0 0 Q (F0 m (pc + 3) ls (S0.map (conc ad))) := fun q => by rw [if_neg (by rw [q]; decide)] at h; exact nxt rfl L S0 M h ls H locs hl hP hS
          cases cd with
          | eq => exact lv_if_eq hx hb hdg ht (fun q => kt (decide_eq_true q)) (fun q => kf (decide_eq_false q))
          | ne => exact lv_if_ne hx hb hdg ht (fun q => kt (decide_eq_true q)) (fun q => kf (decide_eq_false (fun w => w q)))
          | lt => exact lv_if_lt hx hb hdg ht (fun q => kt (decide_eq_true q)) (fun q => kf (decide_eq_false q))
          | ge => exact lv_if_ge hx hb hdg ht (fun q => kt (decide_eq_true q)) (fun q => kf (decide_eq_false q))
          | gt => exact lv_if_gt hx hb hdg ht (fun q => kt (decide_eq_true q)) (fun q => kf (decide_eq_false q))
          | le => exact lv_if_le hx hb hdg ht (fun q => kt (decide_eq_true q)) (fun q => kf (decide_eq_false q))
      | if_icmp cd k =>
        have hdg := ilen_at hd rfl
        have ht : (pc : Int) + k = (bs y a : Int) := of_decide_eq_true hX
        match S, h with
        | .int v :: .int x :: S0, h =>
          have h : (if cmpI cd x v then arun n y [] a L S0 M else arun n y is ft L S0 M) = some (r, M') := h
          have kt : cmpI cd x v = true → W p l e R s m args below meth c0 H locs 0 0 Q (F0 m (bs y a) ls (S0.map (conc ad))) := fun q => by rw [if_pos q] at h; exact jmp a S0 h
          have kf : cmpI cd x v = false → W p l e R s m args below meth c0 H locs 0 0 Q (F0 m (pc + 3) ls (S0.map (conc ad))) := fun q => by rw [if_neg (by rw [q]; decide)] at h; exact nxt rfl L S0 M h ls H locs hl hP hS
          cases cd with
          | eq => exact lv_icmp_eq hx hb hdg ht (fun q => kt (decide_eq_true q)) (fun q => kf (decide_eq_false q))
          | ne => exact lv_icmp_ne hx hb hdg ht (fun q => kt (decide_eq_true q)) (fun q => kf (decide_eq_false (fun w => w q)))
          | lt => exact lv_icmp_lt hx hb hdg ht (fun q => kt (decide_eq_true q)) (fun q => kf (decide_eq_false q))
          | ge => exact lv_icmp_ge hx hb hdg ht (fun q => kt (decide_eq_true q)) (fun q => kf (decide_eq_false q))
          | gt => exact lv_icmp_gt hx hb hdg ht (fun q => kt (decide_eq_true q)) (fun q => kf (decide_eq_false q))
          | le => exact lv_icmp_le hx hb hdg ht (fun q => kt (decide_eq_true q)) (fun q => kf (decide_eq_false q))
      | invokevirtual k =>
        have hdg := ilen_at hd rfl
        have h : ivI (S.drop b) (fun c1 S' => if cls c1 = c ∧ S'.length ≤ 4 then onC (cal (arun n) a (.ref c1 :: (S.take b).reverse) M) fun r M' => arun n y is ft L (r.toList ++ S') M' else none) = some (r, M') := h
        unfold ivI at h
        split at h
        · rename_i c1 S' hdrop
          dsimp only at h
          split at h
          · rename_i hc
            obtain ⟨v, M1, h1, h2⟩ := onC_inv h
            simp only [okX, okC, Bool.and_eq_true, decide_eq_true_eq] at hX
            obtain ⟨⟨⟨⟨⟨⟨⟨hzN, hfr⟩, hlo⟩, hmu⟩, hst⟩, hnp⟩, hmc⟩, h12⟩ := hX
            obtain ⟨hcl, -, hmh, hvh, hpd, hini, hins, -⟩ := mn_at hzN
            obtain ⟨hi1, hi2⟩ := hins hst
            have hM := met_of (l := l) (D := D) (ty := ty) hj ih hzN h1
            have hoc : ∃ fs, sh c1 = some (.inr (.inr (c, fs))) := by
              have hc1 := hc.1
              unfold cls at hc1
              split at hc1
              · rename_i o ho; obtain ⟨o1, o2⟩ := o; cases hc1; exact ⟨o2, ho⟩
              · omega
            obtain ⟨fs, hsh⟩ := hoc
            have hlen : (S.take b).length = b := by
              have := congrArg List.length hdrop
              rw [List.length_drop, List.length_cons] at this
              rw [List.length_take]
              omega
            have hsplit : S = S.take b ++ .ref c1 :: S' := by rw [← hdrop, List.take_append_drop]
            refine my_call (rest := S'.map (conc ad)) (r := v) (M' := M1) (va_runV (C := rn c) (As := ((S.take b).reverse).map (conc ad)) (b := ad c1) (Ts := TG) (own := rn (mc y)) (n := b) ⟨hx, hb, hml, hown, hts⟩ hM (cwV b hts ?_ rfl rfl rfl ⟨by rw [hcl, hmc], hmh, hvh, by rw [hpd, hnp]⟩ ⟨Nat.le_trans hfr hR.1, Nat.le_trans hlo hR.2⟩) ⟨PcZ_blind, va_recv hK hP (clsT c (hmc ▸ h12)) ((wsM_at (sh_lt hsh)).trans (by rw [obj_cE hsh])), fun U hU hW => PcZ_at hK hN hP U hU hW⟩ rfl (by rw [List.length_map, List.length_reverse, hlen]) hl.1 ?_ ?_ hdg ⟨Nat.zero_le _, Nat.zero_le _⟩) hS (fun q hq => by obtain ⟨k, hk, rfl⟩ := hq; exact hA.2 k hk) ?_
            · intro w hw
              unfold wsV at hw
              rcases List.mem_append.mp hw with hw | hw
              · simp only [List.mem_cons, List.not_mem_nil, or_false] at hw
                rcases hw with rfl | rfl | rfl | rfl
                · exact tg_good (mu_in hmu)
                · exact tg_good hi1
                · rw [hcl, hmc] at hi2; exact tg_good hi2
                · rw [hcl, hmc] at hini; exact tg_good hini
              · exact goodZ hzN w hw
            · show S.map (conc ad) = ((S.take b).reverse.map (conc ad)).reverse ++ .ref (ad c1) :: S'.map (conc ad)
              rw [← List.map_reverse, List.reverse_reverse]
              conv => lhs; rw [hsplit]
              rw [List.map_append]
              rfl
            · exact lv_room (cat_le ad hc.2)
            · intro H1 locs1 hP1 hS1
              rw [← conc_res]
              exact nxt rfl L _ M1 h2 ls H1 locs1 hl hP1 hS1
          · cases h
        · cases h
      | invokestatic k =>
        have hdg := ilen_at hd rfl
        have h : (if 997 ≤ a then onE (eff (.invokestatic k, a, b, c) L S M) fun L' S' M' => arun n y is ft L' S' M' else if b ≤ S.length ∧ (S.drop b).length ≤ 4 then onC (cal (arun n) a (S.take b).reverse M) fun r M' => arun n y is ft L (r.toList ++ S.drop b) M' else none) = some (r, M') := h
        by_cases h9 : 997 ≤ a
        · rw [if_pos h9] at h
          obtain ⟨L1, S1, M1, he, h2⟩ := onE_inv h
          exact eff_sound C hd hX he hl hP hS (nxt rfl L1 S1 M1 h2)
        · rw [if_neg h9] at h
          split at h
          · rename_i hc
            obtain ⟨v, M1, h1, h2⟩ := onC_inv h
            have hX : (if a = 999 then _ else if a = 998 then _ else if a = 997 then _ else okC y a && decide (stc a = 1) && decide (np a = b) && (if c = 1 then nuL.any (fun q => decide (q = (mc y, k, a))) else muL.any (fun q => decide (q.2 = (mc y, k, a))))) = true := hX
            rw [if_neg (by omega), if_neg (by omega), if_neg (by omega)] at hX
            simp only [okC, Bool.and_eq_true, decide_eq_true_eq] at hX
            obtain ⟨⟨⟨⟨⟨hzN, hfr⟩, hlo⟩, hst⟩, hnp⟩, hmu⟩ := hX
            obtain ⟨hcl, -, hmh, hvh, hpd, hini, -, hsta⟩ := mn_at hzN
            have hM := met_of (l := l) (D := D) (ty := ty) hj ih hzN h1
            have hlen : (S.take b).length = b := by rw [List.length_take]; omega
            have hstk : S.map (conc ad) = ((S.take b).reverse.map (conc ad)).reverse ++ (S.drop b).map (conc ad) := by
              rw [← List.map_reverse, List.reverse_reverse, ← List.map_append, List.take_append_drop]
            have fin : va_Run p l e R s m args below meth c0 H locs 0 0 0 0 (F0 m pc ls (S.map (conc ad))) ((S.drop b).map (conc ad)) (QcZ D ty ad v M1 (((S.take b).reverse).map (conc ad)).toArray) (AW ad) := by
              by_cases h1c : c = 1
              · rw [if_pos h1c] at hmu
                obtain ⟨q, hq, h2q⟩ := List.any_eq_true.mp hmu
                rw [decide_eq_true_eq] at h2q
                subst h2q
                exact va_runSN (Ts := TG) (own := rn (mc y)) (n := b) ⟨hx, hb, hml, hown, hts⟩ hM ⟨va_cnB b hts (goodZ hzN) rfl rfl rfl (hN _ hq) (hts _ hini) ⟨hmh, hvh, by rw [hpd, hnp]⟩ ⟨Nat.le_trans hfr hR.1, Nat.le_trans hlo hR.2⟩, hts _ (hsta hst), trivial⟩ ⟨PcZ_blind, fun U hU hW => PcZ_at hK hN hP U hU hW⟩ rfl (by rw [List.length_map, List.length_reverse, hlen]) hl.1 hstk (lv_room (cat_le ad hc.2)) hdg ⟨Nat.zero_le _, Nat.zero_le _⟩
              · rw [if_neg h1c] at hmu
                refine va_runS (Ts := TG) (own := rn (mc y)) (n := b) ⟨hx, hb, hml, hown, hts⟩ hM (va_cwS b hts ?_ rfl rfl rfl ⟨hmh, hvh, by rw [hpd, hnp]⟩ ⟨Nat.le_trans hfr hR.1, Nat.le_trans hlo hR.2⟩) ⟨PcZ_blind, fun U hU hW => PcZ_at hK hN hP U hU hW⟩ rfl (by rw [List.length_map, List.length_reverse, hlen]) hl.1 hstk (lv_room (cat_le ad hc.2)) hdg ⟨Nat.zero_le _, Nat.zero_le _⟩
                intro w hw
                unfold va_wsS at hw
                rcases List.mem_append.mp hw with hw | hw
                · simp only [List.mem_cons, List.not_mem_nil, or_false] at hw
                  rcases hw with rfl | rfl | rfl
                  · exact tg_good (mu_in hmu)
                  · exact tg_good (hsta hst)
                  · exact tg_good hini
                · exact goodZ hzN w hw
            refine my_call fin hS (fun q hq => by obtain ⟨k, hk, rfl⟩ := hq; exact hA.2 k hk) ?_
            intro H1 locs1 hP1 hS1
            rw [← conc_res]
            exact nxt rfl L _ M1 h2 ls H1 locs1 hl hP1 hS1
          · cases h
      | _ =>
        dsimp only [stp, brI, onB] at h
        obtain ⟨L1, S1, M1, he, h2⟩ := onE_inv h
        exact eff_sound C hd hX he hl hP hS (nxt rfl L1 S1 M1 h2)
end
section
/-! NUMBERS AND MEMORY for the pure part -/
theorem q_lt {a b : Nat} (ha : a < 2 ^ 31) (hb : b < 2 ^ 31) : (nI a < nI b) = (a < b) := propext (nI_ltI ha hb)
theorem q_le {a b : Nat} (ha : a < 2 ^ 31) (hb : b < 2 ^ 31) : (nI a ≤ nI b) = (a ≤ b) := propext (nI_leI ha hb)
theorem q_eq {a b : Nat} (ha : a < 2 ^ 31) (hb : b < 2 ^ 31) : (nI a = nI b) = (a = b) := propext (nI_eq ha hb)
theorem q_in {a n : Nat} (ha : a < 2 ^ 31) (hn : n < 2 ^ 31) : vp_in (nI a) n = (a < n) := propext (by rw [vp_in_iff, nI_toInt ha]; omega)
theorem q_cl {a : Nat} (ha : a < 2 ^ 31) : (nI a).toNatClampNeg = a := nI_clamp ha
theorem q_add (a b : Nat) : nI a + nI b = nI (a + b) := nI_add a b
theorem q_mul (a b : Nat) : nI a * nI b = nI (a * b) := pk_mul a b
theorem q_sub {a b : Nat} (h : b ≤ a) : nI a - nI b = nI (a - b) := pk_sub h
theorem mI_toInt {a : Nat} (ha : a ≤ 2 ^ 31) : (mI a).toInt = -(a : Int) := by
  unfold mI
  rw [Int32.toInt_ofInt, show (Int32.size : Nat) = 4294967296 from rfl]
  rw [Int.bmod_eq_of_le (by omega) (by omega)]
theorem q_dec {a : Nat} : nI (a + 1) + mI 1 = nI a := pk_m1 a
theorem q_dec' {a : Nat} (h : 0 < a) : nI a + mI 1 = nI (a - 1) := by
  obtain ⟨k, rfl⟩ : ∃ k, a = k + 1 := ⟨a - 1, by omega⟩
  exact pk_m1 k
theorem q_mm {a b : Nat} (ha : a ≤ 2 ^ 31) (hb : b ≤ 2 ^ 31) : (mI a = mI b) = (a = b) := propext (by
  rw [← Int32.toInt_inj, mI_toInt ha, mI_toInt hb]; omega)
theorem q_nm {a b : Nat} (ha : a < 2 ^ 31) (h0 : 0 < b) (hb : b ≤ 2 ^ 31) : (nI a = mI b) = False := propext ⟨fun h => by
  have := congrArg Int32.toInt h
  rw [nI_toInt ha, mI_toInt hb] at this; omega, False.elim⟩
theorem q_mn {a b : Nat} (ha : a < 2 ^ 31) (h0 : 0 < b) (hb : b ≤ 2 ^ 31) : (mI b = nI a) = False := propext ⟨fun h => by
  have := congrArg Int32.toInt h
  rw [nI_toInt ha, mI_toInt hb] at this; omega, False.elim⟩
theorem q_mlt {a b : Nat} (ha : a < 2 ^ 31) (h0 : 0 < b) (hb : b ≤ 2 ^ 31) : (mI b < nI a) = True := propext ⟨fun _ => trivial, fun _ => by
  rw [Int32.lt_iff_toInt_lt, nI_toInt ha, mI_toInt hb]; omega⟩
theorem q_mle {a b : Nat} (ha : a < 2 ^ 31) (h0 : 0 < b) (hb : b ≤ 2 ^ 31) : (mI b ≤ nI a) = True := propext ⟨fun _ => trivial, fun _ => by
  rw [Int32.le_iff_toInt_le, nI_toInt ha, mI_toInt hb]; omega⟩
theorem q_nlt {a b : Nat} (ha : a < 2 ^ 31) (h0 : 0 < b) (hb : b ≤ 2 ^ 31) : (nI a < mI b) = False := propext ⟨fun h => by
  rw [Int32.lt_iff_toInt_lt, nI_toInt ha, mI_toInt hb] at h; omega, False.elim⟩
theorem q_nle {a b : Nat} (ha : a < 2 ^ 31) (h0 : 0 < b) (hb : b ≤ 2 ^ 31) : (nI a ≤ mI b) = False := propext ⟨fun h => by
  rw [Int32.le_iff_toInt_le, nI_toInt ha, mI_toInt hb] at h; omega, False.elim⟩
theorem q_mmlt {a b : Nat} (ha : a ≤ 2 ^ 31) (hb : b ≤ 2 ^ 31) : (mI a < mI b) = (b < a) := propext (by rw [Int32.lt_iff_toInt_lt, mI_toInt ha, mI_toInt hb]; omega)
theorem q_mmle {a b : Nat} (ha : a ≤ 2 ^ 31) (hb : b ≤ 2 ^ 31) : (mI a ≤ mI b) = (b ≤ a) := propext (by rw [Int32.le_iff_toInt_le, mI_toInt ha, mI_toInt hb]; omega)
/-- any int: a small natural number, or outside -/
theorem i_cases (x : Int32) (n : Nat) (hn : n < 2 ^ 31) : (x < nI 0 ∨ nI n < x) ∨ ∃ j, j ≤ n ∧ x = nI j := by
  by_cases h : x < nI 0
  · exact Or.inl (Or.inl h)
  · obtain ⟨j, hj, rfl⟩ := nI_of (x := x) (by rw [nI_0] at h; exact h)
    by_cases h2 : j ≤ n
    · exact Or.inr ⟨j, h2, rfl⟩
    · exact Or.inl (Or.inr (by rw [q_lt hn hj]; omega))
theorem nlt_le {x y : Int32} : (¬ x < y) = (y ≤ x) := propext Int32.not_lt
theorem nle_lt {x y : Int32} : (¬ x ≤ y) = (y < x) := propext Int32.not_le
theorem u_eq {f : Nat → Int32} {k : Nat} {x : Int32} : upd f k x k = x := by simp [upd]
theorem u_ne {f : Nat → Int32} {k j : Nat} {x : Int32} (h : ¬ j = k) : upd f k x j = f j := by simp [upd, h]
theorem u_if {f : Nat → Int32} {k j : Nat} {x : Int32} : upd f k x j = if j = k then x else f j := rfl
theorem msc_eq {M : Mem} {c : Nat} {f : Nat → Int32} : setC M c f c = f := by simp [setC]
theorem msc_ne {M : Mem} {c d : Nat} {f : Nat → Int32} (h : ¬ d = c) : setC M c f d = M d := by simp [setC, h]
theorem msc_if {M : Mem} {c d : Nat} {f : Nat → Int32} : setC M c f d = if d = c then f else M d := rfl
theorem msc_sc {M : Mem} {c : Nat} {f g : Nat → Int32} : setC (setC M c f) c g = setC M c g := by
  funext d
  by_cases h : d = c
  · simp [setC, h]
  · simp [setC, h]
theorem msc_id {M : Mem} {c : Nat} : setC M c (M c) = M := by
  funext d
  by_cases h : d = c
  · simp [setC, h]
  · simp [setC, h]
theorem sm_eq {M : Mem} {c i : Nat} {x : Int32} : stM M c i x c = upd (M c) i x := by simp [stM, setC]
theorem sm_ne {M : Mem} {c d i : Nat} {x : Int32} (h : ¬ d = c) : stM M c i x d = M d := by simp [stM, setC, h]
theorem sm_if {M : Mem} {c d i : Nat} {x : Int32} : stM M c i x d = if d = c then upd (M c) i x else M d := rfl
theorem cpy_in {α : Type} {f g : Nat → α} {sp dp n k : Nat} (h : dp ≤ k) (h2 : k < dp + n) : va_cpy f g sp dp n k = f (sp + (k - dp)) := by simp [va_cpy, h, h2]
theorem cp_if {M : Mem} {cs cd sp dp n d : Nat} : cpyM M cs cd sp dp n d = if d = cd then va_cpy (M cs) (M cd) sp dp n else M d := rfl
theorem inb_in {c n : Nat} {i : Int32} (h : alen c = some n) : inb c i = vp_in i n := inb_s h
theorem inb_n {c n a : Nat} (h : alen c = some n) (ha : a < 2 ^ 31) (hn : n < 2 ^ 31) : inb c (nI a) = (a < n) := by rw [inb_s h, q_in ha hn]
theorem len0 : ([] : List Value).length = 0 := rfl
theorem len1 {a : Value} : [a].length = 1 := rfl
theorem len2 {a b : Value} : [a, b].length = 2 := rfl
theorem len3 {a b c : Value} : [a, b, c].length = 3 := rfl
theorem len4 {a b c d : Value} : [a, b, c, d].length = 4 := rfl
/-- calls whose outcome is known -/
theorem ct_use {z : Nat} {as : List Value} {M M' : Mem} {r : Option Value} {Q : Option Value → Mem → Prop} (h : Ev z as M r M') (k : Q r M') : Ct z as M Q := by rw [h.ct]; exact k
theorem ev_mono {z : Nat} {as : List Value} {M : Mem} {P : Option Value → Mem → Prop} {Q : Option Value → Mem → Prop} (h : Ct z as M P) (k : ∀ r M', P r M' → Q r M') : Ct z as M Q := h.mono k
end
section
/-! leaves of the class -/
theorem s_outside (v m : Int32) (M : Mem) : Ev 93 [.int v, .int m] M (some (.int (if v < nI 0 ∨ m < v then nI 1 else nI 0))) M := by
  apply Ev.of
  simp only [E_93, B_93_0, B_93_1, B_93_2, B_93_3, r_iconst_p, r_iconst_m, r_bipush_p, r_bipush_m, r_sipush_p, r_sipush_m, r_ldc_p, r_ldc_m, r_ldc_w_p, r_ldc_w_m, r_lconst_p, r_lconst_m, r_ldc2_w_p, r_ldc2_w_m, r_iload, r_iload_n, r_lload, r_lload_n, r_aload, r_aload_n, r_istore, r_istore_n, r_astore, r_astore_n, r_lstore, r_lstore_n, r_iinc_p, r_iinc_m, r_iadd, r_isub, r_imul, r_iand, r_ior, r_ixor, r_ishl, r_ishr, r_iushr, r_idiv, r_irem, r_ladd, r_lsub, r_lmul, r_ldiv, r_lrem, r_lshl, r_lcmp, r_i2l, r_i2b, r_i2s, r_dup_i, r_dup_r, r_dup2_ii, r_dup2_ir, r_dup2_l, r_pop, r_getfield, r_putfield, r_iaload, r_iastore, r_aaload, r_arraylength, r_if_eq, r_icmp_eq, r_if_ne, r_icmp_ne, r_if_lt, r_icmp_lt, r_if_ge, r_icmp_ge, r_if_gt, r_icmp_gt, r_if_le, r_icmp_le, r_goto, r_switch, r_ireturn0, r_ireturn1, r_lreturn, r_areturn, r_return, r_inv0, r_inv1, r_inv2, r_inv3, r_inv4, r_inv5, r_min, r_max, r_acopy, onI_s, onL_s, onR_s, onO_s, fv0, fv1, fv2, fv3, fp1, fp20, fp21, fp3, tl_s, tl_n, lg0, lg1, lg2, lg3, lg4, lg5, lg6, lg7, lg8, lg9, lg10, lg11, lg12, lg13, lg14, lg15, lg16, lg17, ls0, ls1, ls2, ls3, ls4, ls5, ls6, ls7, ls8, ls9, ls10, ls11, ls12, ls13, ls14, ls15, ls16, ls17, lk0, lk1, lk2, lk3, lk4, lk5, lk6, lk7, lk8, lk9, lk10, lk11, lk12, lk13, lk14, lk15, lk16, lk17, kl_n, kl_i, kl_r, kl_l, Nat.reduceAdd, r_ins0, r_ins1, r_ins2, r_ins3, r_ins4, r_ins5]
  by_cases h1 : v < nI 0
  · simp [h1, brc]
  · by_cases h2 : m < v
    · have h3 : ¬ v ≤ m := Int32.not_le.mpr h2
      simp [h1, h2, h3, brc]
    · have h3 : v ≤ m := Int32.not_lt.mp h2
      simp [h1, h2, h3, brc]
end
section
/-! THE MATHEMATICAL MODEL: columns as lists, bottom first -/
def top (l : List Nat) : Nat := l.getD (l.length - 1) 0
abbrev Col : Type := Nat → List Nat
def setc (C : Col) (c : Nat) (l : List Nat) : Col := fun d => if d = c then l else C d
/-- the greatest top of the first n columns, and its column and 1 (0: none) -/
def grt (C : Col) : Nat → Nat × Nat
  | 0 => (0, 0)
  | n + 1 => if (grt C n).1 < top (C n) then (top (C n), n + 1) else grt C n
def ix (k : Nat) : Int32 := if k = 0 then mI 1 else nI (k - 1)
def srv : Nat → Col → Nat → Nat → Col × Nat
  | 0, C, h, _ => (C, h)
  | k + 1, C, h, w => if h < w ∧ ¬ (grt C 6).2 = 0 then srv k (setc C ((grt C 6).2 - 1) (C ((grt C 6).2 - 1)).dropLast) (h + (grt C 6).1) w else (C, h)
abbrev Sta : Type := Col × (Nat → Nat)
/-- the first n orders, as far as they are of week w -/
def ord (ow oq : Nat → Nat) (w : Nat) : Nat → Sta → Sta
  | 0, s => s
  | n + 1, s => if ow n = w then ((srv 36 (ord ow oq w n s).1 0 (oq n)).1, fun i => if i = n then (srv 36 (ord ow oq w n s).1 0 (oq n)).2 else (ord ow oq w n s).2 i) else ord ow oq w n s
def fre (C : Col) (sw : Nat → Bool) (c j : Nat) : Nat := (if j + 1 = (C c).length ∧ sw c = false then 1 else 0) + (if 0 < c ∧ (C (c - 1)).length ≤ j then 1 else 0) + (if c < 5 ∧ (C (c + 1)).length ≤ j then 1 else 0)
def los (C : Col) (sw : Nat → Bool) (dr th : Bool) (c j : Nat) : Nat := fre C sw c j / 2 + (if dr = true ∧ j + 1 = (C c).length ∧ sw c = false then 1 else 0) + (if th = true ∧ 0 < fre C sw c j then 1 else 0)
def mel (f : Nat → Nat) (l : List Nat) : Nat → List Nat × Nat
  | 0 => ([], 0)
  | n + 1 => (if f n < l.getD n 0 then (mel f l n).1 ++ [l.getD n 0 - f n] else (mel f l n).1, (mel f l n).2 + min (f n) (l.getD n 0))
def mlc (C : Col) (sw : Nat → Bool) (dr th : Bool) (c : Nat) : List Nat × Nat := mel (los C sw dr th c) (C c) (C c).length
def smN (f : Nat → Nat) : Nat → Nat
  | 0 => 0
  | n + 1 => smN f n + f n
def mlC (C : Col) (sw : Nat → Bool) (dr th : Bool) : Col := fun c => (mlc C sw dr th c).1
def mlW (C : Col) (sw : Nat → Bool) (dr th : Bool) : Nat := smN (fun c => (mlc C sw dr th c).2) 6
/-- what a summer depends on: blocks, number of orders, their weeks, what they want, doors, thaws, straw -/
abbrev Inp : Type := Col × Nat × (Nat → Nat) × (Nat → Nat) × (Nat → Bool) × (Nat → Bool) × (Nat → Nat → Bool)
def yr (I : Inp) : Nat → Sta
  | 0 => (I.1, fun _ => 0)
  | w + 1 => (mlC (ord I.2.2.1 I.2.2.2.1 w I.2.1 (yr I w)).1 (I.2.2.2.2.2.2 w) (I.2.2.2.2.1 w) (I.2.2.2.2.2.1 w), (ord I.2.2.1 I.2.2.2.1 w I.2.1 (yr I w)).2)
def wat (I : Inp) (w : Nat) : Nat := mlW (ord I.2.2.1 I.2.2.2.1 w I.2.1 (yr I w)).1 (I.2.2.2.2.2.2 w) (I.2.2.2.2.1 w) (I.2.2.2.2.2.1 w)
def lsm (l : List Nat) : Nat := l.sum
def icC (C : Col) : Nat := smN (fun c => (C c).sum) 6
/-- columns that may stand -/
def okC6 (C : Col) : Prop := ∀ c, (C c).length ≤ 6 ∧ ∀ v ∈ C c, 1 ≤ v ∧ v ≤ 9
theorem top_nil : top [] = 0 := rfl
theorem getD_le {l : List Nat} (h : ∀ v ∈ l, 1 ≤ v ∧ v ≤ 9) (j : Nat) : l.getD j 0 ≤ 9 := by
  rw [List.getD_eq_getElem?_getD]
  cases hj : l[j]? with
  | none => simp
  | some v => exact (h v (List.mem_of_getElem? hj)).2
theorem getD_pos {l : List Nat} (h : ∀ v ∈ l, 1 ≤ v ∧ v ≤ 9) {j : Nat} (hj : j < l.length) : 1 ≤ l.getD j 0 := by
  rw [List.getD_eq_getElem?_getD, List.getElem?_eq_getElem hj]
  exact (h _ (List.getElem_mem hj)).1
theorem top_le {l : List Nat} (h : ∀ v ∈ l, 1 ≤ v ∧ v ≤ 9) : top l ≤ 9 := getD_le h _
theorem top_pos {l : List Nat} (h : ∀ v ∈ l, 1 ≤ v ∧ v ≤ 9) (hl : l ≠ []) : 1 ≤ top l := getD_pos h (by have := List.length_pos_iff.mpr hl; omega)
theorem grt_le {C : Col} (h : okC6 C) : ∀ n, (grt C n).1 ≤ 9 ∧ (grt C n).2 ≤ n
  | 0 => ⟨Nat.zero_le _, Nat.le_refl 0⟩
  | n + 1 => by
    have ih := grt_le h n
    unfold grt
    split
    · exact ⟨top_le (h n).2, Nat.le_refl _⟩
    · exact ⟨ih.1, by omega⟩
/-- the column that is found has that top; none is found if all are bare -/
theorem grt_at {C : Col} : ∀ n, ((grt C n).2 = 0 → (grt C n).1 = 0) ∧ (¬ (grt C n).2 = 0 → (grt C n).1 = top (C ((grt C n).2 - 1)) ∧ 0 < (grt C n).1)
  | 0 => ⟨fun _ => rfl, fun h => absurd rfl h⟩
  | n + 1 => by
    have ih := grt_at (C := C) n
    unfold grt
    split
    · rename_i h; exact ⟨fun q => by simp at q, fun _ => ⟨by simp, by simp; omega⟩⟩
    · exact ih
theorem grt_none {C : Col} (hC : okC6 C) : ∀ n, (grt C n).2 = 0 → ∀ c, c < n → C c = []
  | 0, _, c, hc => absurd hc (Nat.not_lt_zero c)
  | n + 1, h, c, hc => by
    unfold grt at h
    split at h
    · simp at h
    · rename_i hn
      have ih := grt_none hC n h
      have h0 := (grt_at (C := C) n).1 h
      rcases Nat.lt_or_ge c n with q | q
      · exact ih c q
      · have e : c = n := by omega
        subst e
        by_cases hl : C c = []
        · exact hl
        · have := top_pos (hC c).2 hl
          omega
theorem grt_ne {C : Col} (h : ¬ (grt C 6).2 = 0) : C ((grt C 6).2 - 1) ≠ [] := by
  intro e
  have h1 := (grt_at (C := C) 6).2 h
  rw [e] at h1
  simp [top] at h1
  omega
theorem okC6_set {C : Col} (h : okC6 C) {c : Nat} {l : List Nat} (hl : l.length ≤ 6 ∧ ∀ v ∈ l, 1 ≤ v ∧ v ≤ 9) : okC6 (setc C c l) := by
  intro d
  unfold setc
  split
  · exact hl
  · exact h d
theorem okC6_drop {C : Col} (h : okC6 C) (c : Nat) : okC6 (setc C c (C c).dropLast) := okC6_set h ⟨by rw [List.length_dropLast]; have := (h c).1; omega, fun v hv => (h c).2 v (List.dropLast_subset _ hv)⟩
theorem srv_ok : ∀ (k : Nat) {C : Col} {h w : Nat}, okC6 C → h ≤ 18 → w ≤ 9 → okC6 (srv k C h w).1 ∧ (srv k C h w).2 ≤ 18
  | 0, C, h, w, hC, hh, _ => ⟨hC, hh⟩
  | k + 1, C, h, w, hC, hh, hw => by
    unfold srv
    split
    · have := (grt_le hC 6).1
      exact srv_ok k (okC6_drop hC _) (by omega) hw
    · exact ⟨hC, hh⟩
theorem ord_ok {ow oq : Nat → Nat} {w : Nat} (hq : ∀ i, oq i ≤ 9) : ∀ (n : Nat) {s : Sta}, okC6 s.1 → (∀ i, s.2 i ≤ 18) → okC6 (ord ow oq w n s).1 ∧ ∀ i, (ord ow oq w n s).2 i ≤ 18
  | 0, s, h, h2 => ⟨h, h2⟩
  | n + 1, s, h, h2 => by
    have ih := ord_ok (ow := ow) (w := w) hq n h h2
    unfold ord
    split
    · have := srv_ok 36 (h := 0) ih.1 (by omega) (hq n)
      refine ⟨this.1, fun i => ?_⟩
      dsimp only
      split
      · exact this.2
      · exact ih.2 i
    · exact ih
theorem mel_len (f : Nat → Nat) (l : List Nat) : ∀ n, (mel f l n).1.length ≤ n
  | 0 => Nat.le_refl 0
  | n + 1 => by
    have ih := mel_len f l n
    unfold mel
    dsimp only
    split
    · rw [List.length_append]; simp; omega
    · omega
theorem mel_mem {f : Nat → Nat} {l : List Nat} (h : ∀ v ∈ l, 1 ≤ v ∧ v ≤ 9) : ∀ n, ∀ v ∈ (mel f l n).1, 1 ≤ v ∧ v ≤ 9
  | 0, v, hv => by simp [mel] at hv
  | n + 1, v, hv => by
    have ih := mel_mem (f := f) h n
    unfold mel at hv
    dsimp only at hv
    split at hv
    · rcases List.mem_append.mp hv with q | q
      · exact ih v q
      · rw [List.mem_singleton] at q
        have := getD_le h n
        omega
    · exact ih v hv
theorem mlC_ok {C : Col} (h : okC6 C) (sw : Nat → Bool) (dr th : Bool) : okC6 (mlC C sw dr th) := fun c => ⟨Nat.le_trans (mel_len _ _ _) (h c).1, mel_mem (h c).2 _⟩
def okI (I : Inp) : Prop := okC6 I.1 ∧ I.2.1 ≤ 12 ∧ (∀ i, I.2.2.1 i ≤ 23) ∧ ∀ i, I.2.2.2.1 i ≤ 9
theorem yr_ok {I : Inp} (h : okI I) : ∀ w, okC6 (yr I w).1 ∧ ∀ i, (yr I w).2 i ≤ 18
  | 0 => ⟨h.1, fun _ => Nat.zero_le _⟩
  | w + 1 => by
    have ih := yr_ok h w
    have h2 := ord_ok (ow := I.2.2.1) (w := w) h.2.2.2 I.2.1 ih.1 ih.2
    exact ⟨mlC_ok h2.1 _ _ _, h2.2⟩
end
section
/-! Stand, of the two summers -/
/-- a stand's two rows (sizes at cell g, heights at cell h) hold the columns C; places above hold 0 -/
def RS (M : Mem) (g h : Nat) (C : Col) : Prop := ∀ c, c < 6 → M h c = nI (C c).length ∧ ∀ j, j < 6 → M g (c * 6 + j) = nI ((C c).getD j 0)
def smI (f : Nat → Int32) : Nat → Int32
  | 0 => nI 0
  | n + 1 => smI f n + f n
theorem s_total_22 (M : Mem) : Ev 38 [.ref 22] M (some (.int (smI (M 23) 36))) M := by
  apply Ev.of
  simp only [E_38, B_38_0, B_38_2, r_iconst_p, r_iconst_m, r_bipush_p, r_bipush_m, r_sipush_p, r_sipush_m, r_ldc_p, r_ldc_m, r_ldc_w_p, r_ldc_w_m, r_lconst_p, r_lconst_m, r_ldc2_w_p, r_ldc2_w_m, r_iload, r_iload_n, r_lload, r_lload_n, r_aload, r_aload_n, r_istore, r_istore_n, r_astore, r_astore_n, r_lstore, r_lstore_n, r_iinc_p, r_iinc_m, r_iadd, r_isub, r_imul, r_iand, r_ior, r_ixor, r_ishl, r_ishr, r_iushr, r_idiv, r_irem, r_ladd, r_lsub, r_lmul, r_ldiv, r_lrem, r_lshl, r_lcmp, r_i2l, r_i2b, r_i2s, r_dup_i, r_dup_r, r_dup2_ii, r_dup2_ir, r_dup2_l, r_pop, r_getfield, r_putfield, r_iaload, r_iastore, r_aaload, r_arraylength, r_if_eq, r_icmp_eq, r_if_ne, r_icmp_ne, r_if_lt, r_icmp_lt, r_if_ge, r_icmp_ge, r_if_gt, r_icmp_gt, r_if_le, r_icmp_le, r_goto, r_switch, r_ireturn0, r_ireturn1, r_lreturn, r_areturn, r_return, r_inv0, r_inv1, r_inv2, r_inv3, r_inv4, r_inv5, r_min, r_max, r_acopy, onI_s, onL_s, onR_s, onO_s, fv0, fv1, fv2, fv3, fp1, fp20, fp21, fp3, tl_s, tl_n, lg0, lg1, lg2, lg3, lg4, lg5, lg6, lg7, lg8, lg9, lg10, lg11, lg12, lg13, lg14, lg15, lg16, lg17, ls0, ls1, ls2, ls3, ls4, ls5, ls6, ls7, ls8, ls9, ls10, ls11, ls12, ls13, ls14, ls15, ls16, ls17, lk0, lk1, lk2, lk3, lk4, lk5, lk6, lk7, lk8, lk9, lk10, lk11, lk12, lk13, lk14, lk15, lk16, lk17, kl_n, kl_i, kl_r, kl_l, Nat.reduceAdd, r_ins0, r_ins1, r_ins2, r_ins3, r_ins4, r_ins5]
  have key : ∀ n i, i + n = 36 → WP 38 [] 1 [some (.ref 22), some (.int (smI (M 23) i)), some (.int (nI i))] [] M (fun v N => v = some (.int (smI (M 23) 36)) ∧ N = M) := by
    intro n
    induction n with
    | zero =>
      intro i hi
      obtain rfl : i = 36 := by omega
      rw [B_38_1]
      simp only [B_38_0, B_38_2, cP, cS, r_iconst_p, r_iconst_m, r_bipush_p, r_bipush_m, r_sipush_p, r_sipush_m, r_ldc_p, r_ldc_m, r_ldc_w_p, r_ldc_w_m, r_lconst_p, r_lconst_m, r_ldc2_w_p, r_ldc2_w_m, r_iload, r_iload_n, r_lload, r_lload_n, r_aload, r_aload_n, r_istore, r_istore_n, r_astore, r_astore_n, r_lstore, r_lstore_n, r_iinc_p, r_iinc_m, r_iadd, r_isub, r_imul, r_iand, r_ior, r_ixor, r_ishl, r_ishr, r_iushr, r_idiv, r_irem, r_ladd, r_lsub, r_lmul, r_ldiv, r_lrem, r_lshl, r_lcmp, r_i2l, r_i2b, r_i2s, r_dup_i, r_dup_r, r_dup2_ii, r_dup2_ir, r_dup2_l, r_pop, r_getfield, r_putfield, r_iaload, r_iastore, r_aaload, r_arraylength, r_if_eq, r_icmp_eq, r_if_ne, r_icmp_ne, r_if_lt, r_icmp_lt, r_if_ge, r_icmp_ge, r_if_gt, r_icmp_gt, r_if_le, r_icmp_le, r_goto, r_switch, r_ireturn0, r_ireturn1, r_lreturn, r_areturn, r_return, r_inv0, r_inv1, r_inv2, r_inv3, r_inv4, r_inv5, r_min, r_max, r_acopy, onI_s, onL_s, onR_s, onO_s, fv0, fv1, fv2, fv3, fp1, fp20, fp21, fp3, tl_s, tl_n, lg0, lg1, lg2, lg3, lg4, lg5, lg6, lg7, lg8, lg9, lg10, lg11, lg12, lg13, lg14, lg15, lg16, lg17, ls0, ls1, ls2, ls3, ls4, ls5, ls6, ls7, ls8, ls9, ls10, ls11, ls12, ls13, ls14, ls15, ls16, ls17, lk0, lk1, lk2, lk3, lk4, lk5, lk6, lk7, lk8, lk9, lk10, lk11, lk12, lk13, lk14, lk15, lk16, lk17, kl_n, kl_i, kl_r, kl_l, Nat.reduceAdd, r_ins0, r_ins1, r_ins2, r_ins3, r_ins4, r_ins5]
      rw [brc_pos (Int32.le_refl _)]
      simp
    | succ n ih =>
      intro i hi
      rw [B_38_1]
      simp only [B_38_0, B_38_2, cP, cS, r_iconst_p, r_iconst_m, r_bipush_p, r_bipush_m, r_sipush_p, r_sipush_m, r_ldc_p, r_ldc_m, r_ldc_w_p, r_ldc_w_m, r_lconst_p, r_lconst_m, r_ldc2_w_p, r_ldc2_w_m, r_iload, r_iload_n, r_lload, r_lload_n, r_aload, r_aload_n, r_istore, r_istore_n, r_astore, r_astore_n, r_lstore, r_lstore_n, r_iinc_p, r_iinc_m, r_iadd, r_isub, r_imul, r_iand, r_ior, r_ixor, r_ishl, r_ishr, r_iushr, r_idiv, r_irem, r_ladd, r_lsub, r_lmul, r_ldiv, r_lrem, r_lshl, r_lcmp, r_i2l, r_i2b, r_i2s, r_dup_i, r_dup_r, r_dup2_ii, r_dup2_ir, r_dup2_l, r_pop, r_getfield, r_putfield, r_iaload, r_iastore, r_aaload, r_arraylength, r_if_eq, r_icmp_eq, r_if_ne, r_icmp_ne, r_if_lt, r_icmp_lt, r_if_ge, r_icmp_ge, r_if_gt, r_icmp_gt, r_if_le, r_icmp_le, r_goto, r_switch, r_ireturn0, r_ireturn1, r_lreturn, r_areturn, r_return, r_inv0, r_inv1, r_inv2, r_inv3, r_inv4, r_inv5, r_min, r_max, r_acopy, onI_s, onL_s, onR_s, onO_s, fv0, fv1, fv2, fv3, fp1, fp20, fp21, fp3, tl_s, tl_n, lg0, lg1, lg2, lg3, lg4, lg5, lg6, lg7, lg8, lg9, lg10, lg11, lg12, lg13, lg14, lg15, lg16, lg17, ls0, ls1, ls2, ls3, ls4, ls5, ls6, ls7, ls8, ls9, ls10, ls11, ls12, ls13, ls14, ls15, ls16, ls17, lk0, lk1, lk2, lk3, lk4, lk5, lk6, lk7, lk8, lk9, lk10, lk11, lk12, lk13, lk14, lk15, lk16, lk17, kl_n, kl_i, kl_r, kl_l, Nat.reduceAdd, r_ins0, r_ins1, r_ins2, r_ins3, r_ins4, r_ins5]
      rw [brc_neg (nI_ge (by omega) (by omega)), inb_n (n := 36) rfl (by omega) (by omega), nI_clamp (by omega)]
      refine ⟨by omega, ?_⟩
      have h := ih (i + 1) (by omega)
      rw [nI_succ] at h
      exact h
  exact key 36 0 rfl
theorem s_grt_22 {M : Mem} {C : Col} (h : RS M 23 24 C) (hC : okC6 C) : Ev 35 [.ref 22] M (some (.int (ix (grt C 6).2))) M := by
  apply Ev.of
  simp only [E_35, B_35_0, B_35_2, B_35_3, B_35_4, B_35_5, r_iconst_p, r_iconst_m, r_bipush_p, r_bipush_m, r_sipush_p, r_sipush_m, r_ldc_p, r_ldc_m, r_ldc_w_p, r_ldc_w_m, r_lconst_p, r_lconst_m, r_ldc2_w_p, r_ldc2_w_m, r_iload, r_iload_n, r_lload, r_lload_n, r_aload, r_aload_n, r_istore, r_istore_n, r_astore, r_astore_n, r_lstore, r_lstore_n, r_iinc_p, r_iinc_m, r_iadd, r_isub, r_imul, r_iand, r_ior, r_ixor, r_ishl, r_ishr, r_iushr, r_idiv, r_irem, r_ladd, r_lsub, r_lmul, r_ldiv, r_lrem, r_lshl, r_lcmp, r_i2l, r_i2b, r_i2s, r_dup_i, r_dup_r, r_dup2_ii, r_dup2_ir, r_dup2_l, r_pop, r_getfield, r_putfield, r_iaload, r_iastore, r_aaload, r_arraylength, r_if_eq, r_icmp_eq, r_if_ne, r_icmp_ne, r_if_lt, r_icmp_lt, r_if_ge, r_icmp_ge, r_if_gt, r_icmp_gt, r_if_le, r_icmp_le, r_goto, r_switch, r_ireturn0, r_ireturn1, r_lreturn, r_areturn, r_return, r_inv0, r_inv1, r_inv2, r_inv3, r_inv4, r_inv5, r_min, r_max, r_acopy, onI_s, onL_s, onR_s, onO_s, fv0, fv1, fv2, fv3, fp1, fp20, fp21, fp3, tl_s, tl_n, lg0, lg1, lg2, lg3, lg4, lg5, lg6, lg7, lg8, lg9, lg10, lg11, lg12, lg13, lg14, lg15, lg16, lg17, ls0, ls1, ls2, ls3, ls4, ls5, ls6, ls7, ls8, ls9, ls10, ls11, ls12, ls13, ls14, ls15, ls16, ls17, lk0, lk1, lk2, lk3, lk4, lk5, lk6, lk7, lk8, lk9, lk10, lk11, lk12, lk13, lk14, lk15, lk16, lk17, kl_n, kl_i, kl_r, kl_l, Nat.reduceAdd, r_ins0, r_ins1, r_ins2, r_ins3, r_ins4, r_ins5]
  have key : ∀ n i v, i + n = 6 → WP 35 [] 1 [some (.ref 22), some (.int (ix (grt C i).2)), some (.int (nI (grt C i).1)), some (.int (nI i)), v] [] M (fun v N => v = some (.int (ix (grt C 6).2)) ∧ N = M) := by
    intro n
    induction n with
    | zero =>
      intro i v hi
      obtain rfl : i = 6 := by omega
      rw [B_35_1]
      simp only [B_35_0, B_35_2, B_35_3, B_35_4, B_35_5, cP, cS, r_iconst_p, r_iconst_m, r_bipush_p, r_bipush_m, r_sipush_p, r_sipush_m, r_ldc_p, r_ldc_m, r_ldc_w_p, r_ldc_w_m, r_lconst_p, r_lconst_m, r_ldc2_w_p, r_ldc2_w_m, r_iload, r_iload_n, r_lload, r_lload_n, r_aload, r_aload_n, r_istore, r_istore_n, r_astore, r_astore_n, r_lstore, r_lstore_n, r_iinc_p, r_iinc_m, r_iadd, r_isub, r_imul, r_iand, r_ior, r_ixor, r_ishl, r_ishr, r_iushr, r_idiv, r_irem, r_ladd, r_lsub, r_lmul, r_ldiv, r_lrem, r_lshl, r_lcmp, r_i2l, r_i2b, r_i2s, r_dup_i, r_dup_r, r_dup2_ii, r_dup2_ir, r_dup2_l, r_pop, r_getfield, r_putfield, r_iaload, r_iastore, r_aaload, r_arraylength, r_if_eq, r_icmp_eq, r_if_ne, r_icmp_ne, r_if_lt, r_icmp_lt, r_if_ge, r_icmp_ge, r_if_gt, r_icmp_gt, r_if_le, r_icmp_le, r_goto, r_switch, r_ireturn0, r_ireturn1, r_lreturn, r_areturn, r_return, r_inv0, r_inv1, r_inv2, r_inv3, r_inv4, r_inv5, r_min, r_max, r_acopy, onI_s, onL_s, onR_s, onO_s, fv0, fv1, fv2, fv3, fp1, fp20, fp21, fp3, tl_s, tl_n, lg0, lg1, lg2, lg3, lg4, lg5, lg6, lg7, lg8, lg9, lg10, lg11, lg12, lg13, lg14, lg15, lg16, lg17, ls0, ls1, ls2, ls3, ls4, ls5, ls6, ls7, ls8, ls9, ls10, ls11, ls12, ls13, ls14, ls15, ls16, ls17, lk0, lk1, lk2, lk3, lk4, lk5, lk6, lk7, lk8, lk9, lk10, lk11, lk12, lk13, lk14, lk15, lk16, lk17, kl_n, kl_i, kl_r, kl_l, Nat.reduceAdd, r_ins0, r_ins1, r_ins2, r_ins3, r_ins4, r_ins5]
      rw [brc_pos (Int32.le_refl _)]
      simp
    | succ n ih =>
      intro i v hi
      have hi6 : i < 6 := by omega
      have hl := (hC i).1
      have ht := top_le (hC i).2
      have hg := (grt_le hC i).1
      rw [B_35_1]
      simp only [B_35_0, B_35_2, B_35_4, B_35_5, cP, cS, r_iconst_p, r_iconst_m, r_bipush_p, r_bipush_m, r_sipush_p, r_sipush_m, r_ldc_p, r_ldc_m, r_ldc_w_p, r_ldc_w_m, r_lconst_p, r_lconst_m, r_ldc2_w_p, r_ldc2_w_m, r_iload, r_iload_n, r_lload, r_lload_n, r_aload, r_aload_n, r_istore, r_istore_n, r_astore, r_astore_n, r_lstore, r_lstore_n, r_iinc_p, r_iinc_m, r_iadd, r_isub, r_imul, r_iand, r_ior, r_ixor, r_ishl, r_ishr, r_iushr, r_idiv, r_irem, r_ladd, r_lsub, r_lmul, r_ldiv, r_lrem, r_lshl, r_lcmp, r_i2l, r_i2b, r_i2s, r_dup_i, r_dup_r, r_dup2_ii, r_dup2_ir, r_dup2_l, r_pop, r_getfield, r_putfield, r_iaload, r_iastore, r_aaload, r_arraylength, r_if_eq, r_icmp_eq, r_if_ne, r_icmp_ne, r_if_lt, r_icmp_lt, r_if_ge, r_icmp_ge, r_if_gt, r_icmp_gt, r_if_le, r_icmp_le, r_goto, r_switch, r_ireturn0, r_ireturn1, r_lreturn, r_areturn, r_return, r_inv0, r_inv1, r_inv2, r_inv3, r_inv4, r_inv5, r_min, r_max, r_acopy, onI_s, onL_s, onR_s, onO_s, fv0, fv1, fv2, fv3, fp1, fp20, fp21, fp3, tl_s, tl_n, lg0, lg1, lg2, lg3, lg4, lg5, lg6, lg7, lg8, lg9, lg10, lg11, lg12, lg13, lg14, lg15, lg16, lg17, ls0, ls1, ls2, ls3, ls4, ls5, ls6, ls7, ls8, ls9, ls10, ls11, ls12, ls13, ls14, ls15, ls16, ls17, lk0, lk1, lk2, lk3, lk4, lk5, lk6, lk7, lk8, lk9, lk10, lk11, lk12, lk13, lk14, lk15, lk16, lk17, kl_n, kl_i, kl_r, kl_l, Nat.reduceAdd, r_ins0, r_ins1, r_ins2, r_ins3, r_ins4, r_ins5]
      have st : ∀ x : Nat, x = top (C i) → WP 35 [] 3 [some (.ref 22), some (.int (ix (grt C i).2)), some (.int (nI (grt C i).1)), some (.int (nI i)), v] [.int (nI x)] M (fun v N => v = some (.int (ix (grt C 6).2)) ∧ N = M) := by
        intro x hx
        simp only [B_35_0, B_35_2, B_35_3, B_35_4, B_35_5, cP, cS, r_iconst_p, r_iconst_m, r_bipush_p, r_bipush_m, r_sipush_p, r_sipush_m, r_ldc_p, r_ldc_m, r_ldc_w_p, r_ldc_w_m, r_lconst_p, r_lconst_m, r_ldc2_w_p, r_ldc2_w_m, r_iload, r_iload_n, r_lload, r_lload_n, r_aload, r_aload_n, r_istore, r_istore_n, r_astore, r_astore_n, r_lstore, r_lstore_n, r_iinc_p, r_iinc_m, r_iadd, r_isub, r_imul, r_iand, r_ior, r_ixor, r_ishl, r_ishr, r_iushr, r_idiv, r_irem, r_ladd, r_lsub, r_lmul, r_ldiv, r_lrem, r_lshl, r_lcmp, r_i2l, r_i2b, r_i2s, r_dup_i, r_dup_r, r_dup2_ii, r_dup2_ir, r_dup2_l, r_pop, r_getfield, r_putfield, r_iaload, r_iastore, r_aaload, r_arraylength, r_if_eq, r_icmp_eq, r_if_ne, r_icmp_ne, r_if_lt, r_icmp_lt, r_if_ge, r_icmp_ge, r_if_gt, r_icmp_gt, r_if_le, r_icmp_le, r_goto, r_switch, r_ireturn0, r_ireturn1, r_lreturn, r_areturn, r_return, r_inv0, r_inv1, r_inv2, r_inv3, r_inv4, r_inv5, r_min, r_max, r_acopy, onI_s, onL_s, onR_s, onO_s, fv0, fv1, fv2, fv3, fp1, fp20, fp21, fp3, tl_s, tl_n, lg0, lg1, lg2, lg3, lg4, lg5, lg6, lg7, lg8, lg9, lg10, lg11, lg12, lg13, lg14, lg15, lg16, lg17, ls0, ls1, ls2, ls3, ls4, ls5, ls6, ls7, ls8, ls9, ls10, ls11, ls12, ls13, ls14, ls15, ls16, ls17, lk0, lk1, lk2, lk3, lk4, lk5, lk6, lk7, lk8, lk9, lk10, lk11, lk12, lk13, lk14, lk15, lk16, lk17, kl_n, kl_i, kl_r, kl_l, Nat.reduceAdd, r_ins0, r_ins1, r_ins2, r_ins3, r_ins4, r_ins5]
        have e : grt C (i + 1) = if (grt C i).1 < x then (x, i + 1) else grt C i := by rw [hx]; rfl
        have h2 := ih (i + 1) (some (.int (nI x))) (by omega)
        rw [e, ← q_add] at h2
        rw [q_le (by omega) (by omega)]
        by_cases hc : x ≤ (grt C i).1
        · rw [if_neg (by omega)] at h2
          rw [brc_pos hc]
          exact h2
        · rw [if_pos (by omega)] at h2
          rw [brc_neg hc]
          exact h2
      rw [brc_neg (nI_ge (by omega) (by omega)), inb_n (n := 6) rfl (by omega) (by omega), nI_clamp (by omega), (h i hi6).1, q_eq (by omega) (by omega)]
      refine ⟨hi6, ?_⟩
      by_cases h0 : (C i).length = 0
      · rw [brc_neg (fun q => q h0)]
        exact st 0 (by rw [List.length_eq_zero_iff.mp h0]; rfl)
      · rw [brc_pos h0, q_mul, q_add, q_sub (by omega), inb_n (n := 36) rfl (by omega) (by omega), nI_clamp (by omega)]
        refine ⟨hi6, by omega, ?_⟩
        rw [show i * 6 + (C i).length - 1 = i * 6 + ((C i).length - 1) by omega, (h i hi6).2 _ (by omega)]
        exact st _ rfl
  exact key 6 0 none rfl
theorem s_take_22 {M : Mem} {C : Col} (h : RS M 23 24 C) (hC : okC6 C) {c : Nat} (hc : c < 6) (hn : C c ≠ []) : Ev 34 [.ref 22, .int (nI c)] M (some (.int (nI (top (C c))))) (stM (stM M 24 c (nI ((C c).length - 1))) 23 (c * 6 + ((C c).length - 1)) (nI 0)) := by
  have hl := (hC c).1
  have h0 : 0 < (C c).length := List.length_pos_iff.mpr hn
  apply Ev.of
  simp only [E_34, B_34_0, B_34_1, cP, cS, r_iconst_p, r_iconst_m, r_bipush_p, r_bipush_m, r_sipush_p, r_sipush_m, r_ldc_p, r_ldc_m, r_ldc_w_p, r_ldc_w_m, r_lconst_p, r_lconst_m, r_ldc2_w_p, r_ldc2_w_m, r_iload, r_iload_n, r_lload, r_lload_n, r_aload, r_aload_n, r_istore, r_istore_n, r_astore, r_astore_n, r_lstore, r_lstore_n, r_iinc_p, r_iinc_m, r_iadd, r_isub, r_imul, r_iand, r_ior, r_ixor, r_ishl, r_ishr, r_iushr, r_idiv, r_irem, r_ladd, r_lsub, r_lmul, r_ldiv, r_lrem, r_lshl, r_lcmp, r_i2l, r_i2b, r_i2s, r_dup_i, r_dup_r, r_dup2_ii, r_dup2_ir, r_dup2_l, r_pop, r_getfield, r_putfield, r_iaload, r_iastore, r_aaload, r_arraylength, r_if_eq, r_icmp_eq, r_if_ne, r_icmp_ne, r_if_lt, r_icmp_lt, r_if_ge, r_icmp_ge, r_if_gt, r_icmp_gt, r_if_le, r_icmp_le, r_goto, r_switch, r_ireturn0, r_ireturn1, r_lreturn, r_areturn, r_return, r_inv0, r_inv1, r_inv2, r_inv3, r_inv4, r_inv5, r_min, r_max, r_acopy, onI_s, onL_s, onR_s, onO_s, fv0, fv1, fv2, fv3, fp1, fp20, fp21, fp3, tl_s, tl_n, lg0, lg1, lg2, lg3, lg4, lg5, lg6, lg7, lg8, lg9, lg10, lg11, lg12, lg13, lg14, lg15, lg16, lg17, ls0, ls1, ls2, ls3, ls4, ls5, ls6, ls7, ls8, ls9, ls10, ls11, ls12, ls13, ls14, ls15, ls16, ls17, lk0, lk1, lk2, lk3, lk4, lk5, lk6, lk7, lk8, lk9, lk10, lk11, lk12, lk13, lk14, lk15, lk16, lk17, kl_n, kl_i, kl_r, kl_l, Nat.reduceAdd, r_ins0, r_ins1, r_ins2, r_ins3, r_ins4, r_ins5]
  simp only [inb_n (c := 24) (n := 6) rfl (show c < 2 ^ 31 by omega) (by omega), nI_clamp (show c < 2 ^ 31 by omega), (h c hc).1, q_eq (show (C c).length < 2 ^ 31 by omega) (show 0 < 2 ^ 31 by omega)]
  refine ⟨hc, ?_⟩
  rw [brc_pos (by omega)]
  refine ⟨hc, hc, hc, ?_⟩
  simp only [sm_eq, u_eq, q_mul, q_sub (show 1 ≤ (C c).length by omega), q_add, sm_ne (show ¬ 23 = 24 by decide)]
  rw [inb_n (n := 36) rfl (by omega) (by omega), nI_clamp (by omega)]
  refine ⟨by omega, by omega, ?_⟩
  rw [(h c hc).2 _ (by omega)]
  exact ⟨rfl, rfl⟩
theorem s_total_39 (M : Mem) : Ev 38 [.ref 39] M (some (.int (smI (M 40) 36))) M := by
  apply Ev.of
  simp only [E_38, B_38_0, B_38_2, r_iconst_p, r_iconst_m, r_bipush_p, r_bipush_m, r_sipush_p, r_sipush_m, r_ldc_p, r_ldc_m, r_ldc_w_p, r_ldc_w_m, r_lconst_p, r_lconst_m, r_ldc2_w_p, r_ldc2_w_m, r_iload, r_iload_n, r_lload, r_lload_n, r_aload, r_aload_n, r_istore, r_istore_n, r_astore, r_astore_n, r_lstore, r_lstore_n, r_iinc_p, r_iinc_m, r_iadd, r_isub, r_imul, r_iand, r_ior, r_ixor, r_ishl, r_ishr, r_iushr, r_idiv, r_irem, r_ladd, r_lsub, r_lmul, r_ldiv, r_lrem, r_lshl, r_lcmp, r_i2l, r_i2b, r_i2s, r_dup_i, r_dup_r, r_dup2_ii, r_dup2_ir, r_dup2_l, r_pop, r_getfield, r_putfield, r_iaload, r_iastore, r_aaload, r_arraylength, r_if_eq, r_icmp_eq, r_if_ne, r_icmp_ne, r_if_lt, r_icmp_lt, r_if_ge, r_icmp_ge, r_if_gt, r_icmp_gt, r_if_le, r_icmp_le, r_goto, r_switch, r_ireturn0, r_ireturn1, r_lreturn, r_areturn, r_return, r_inv0, r_inv1, r_inv2, r_inv3, r_inv4, r_inv5, r_min, r_max, r_acopy, onI_s, onL_s, onR_s, onO_s, fv0, fv1, fv2, fv3, fp1, fp20, fp21, fp3, tl_s, tl_n, lg0, lg1, lg2, lg3, lg4, lg5, lg6, lg7, lg8, lg9, lg10, lg11, lg12, lg13, lg14, lg15, lg16, lg17, ls0, ls1, ls2, ls3, ls4, ls5, ls6, ls7, ls8, ls9, ls10, ls11, ls12, ls13, ls14, ls15, ls16, ls17, lk0, lk1, lk2, lk3, lk4, lk5, lk6, lk7, lk8, lk9, lk10, lk11, lk12, lk13, lk14, lk15, lk16, lk17, kl_n, kl_i, kl_r, kl_l, Nat.reduceAdd, r_ins0, r_ins1, r_ins2, r_ins3, r_ins4, r_ins5]
  have key : ∀ n i, i + n = 36 → WP 38 [] 1 [some (.ref 39), some (.int (smI (M 40) i)), some (.int (nI i))] [] M (fun v N => v = some (.int (smI (M 40) 36)) ∧ N = M) := by
    intro n
    induction n with
    | zero =>
      intro i hi
      obtain rfl : i = 36 := by omega
      rw [B_38_1]
      simp only [B_38_0, B_38_2, cP, cS, r_iconst_p, r_iconst_m, r_bipush_p, r_bipush_m, r_sipush_p, r_sipush_m, r_ldc_p, r_ldc_m, r_ldc_w_p, r_ldc_w_m, r_lconst_p, r_lconst_m, r_ldc2_w_p, r_ldc2_w_m, r_iload, r_iload_n, r_lload, r_lload_n, r_aload, r_aload_n, r_istore, r_istore_n, r_astore, r_astore_n, r_lstore, r_lstore_n, r_iinc_p, r_iinc_m, r_iadd, r_isub, r_imul, r_iand, r_ior, r_ixor, r_ishl, r_ishr, r_iushr, r_idiv, r_irem, r_ladd, r_lsub, r_lmul, r_ldiv, r_lrem, r_lshl, r_lcmp, r_i2l, r_i2b, r_i2s, r_dup_i, r_dup_r, r_dup2_ii, r_dup2_ir, r_dup2_l, r_pop, r_getfield, r_putfield, r_iaload, r_iastore, r_aaload, r_arraylength, r_if_eq, r_icmp_eq, r_if_ne, r_icmp_ne, r_if_lt, r_icmp_lt, r_if_ge, r_icmp_ge, r_if_gt, r_icmp_gt, r_if_le, r_icmp_le, r_goto, r_switch, r_ireturn0, r_ireturn1, r_lreturn, r_areturn, r_return, r_inv0, r_inv1, r_inv2, r_inv3, r_inv4, r_inv5, r_min, r_max, r_acopy, onI_s, onL_s, onR_s, onO_s, fv0, fv1, fv2, fv3, fp1, fp20, fp21, fp3, tl_s, tl_n, lg0, lg1, lg2, lg3, lg4, lg5, lg6, lg7, lg8, lg9, lg10, lg11, lg12, lg13, lg14, lg15, lg16, lg17, ls0, ls1, ls2, ls3, ls4, ls5, ls6, ls7, ls8, ls9, ls10, ls11, ls12, ls13, ls14, ls15, ls16, ls17, lk0, lk1, lk2, lk3, lk4, lk5, lk6, lk7, lk8, lk9, lk10, lk11, lk12, lk13, lk14, lk15, lk16, lk17, kl_n, kl_i, kl_r, kl_l, Nat.reduceAdd, r_ins0, r_ins1, r_ins2, r_ins3, r_ins4, r_ins5]
      rw [brc_pos (Int32.le_refl _)]
      simp
    | succ n ih =>
      intro i hi
      rw [B_38_1]
      simp only [B_38_0, B_38_2, cP, cS, r_iconst_p, r_iconst_m, r_bipush_p, r_bipush_m, r_sipush_p, r_sipush_m, r_ldc_p, r_ldc_m, r_ldc_w_p, r_ldc_w_m, r_lconst_p, r_lconst_m, r_ldc2_w_p, r_ldc2_w_m, r_iload, r_iload_n, r_lload, r_lload_n, r_aload, r_aload_n, r_istore, r_istore_n, r_astore, r_astore_n, r_lstore, r_lstore_n, r_iinc_p, r_iinc_m, r_iadd, r_isub, r_imul, r_iand, r_ior, r_ixor, r_ishl, r_ishr, r_iushr, r_idiv, r_irem, r_ladd, r_lsub, r_lmul, r_ldiv, r_lrem, r_lshl, r_lcmp, r_i2l, r_i2b, r_i2s, r_dup_i, r_dup_r, r_dup2_ii, r_dup2_ir, r_dup2_l, r_pop, r_getfield, r_putfield, r_iaload, r_iastore, r_aaload, r_arraylength, r_if_eq, r_icmp_eq, r_if_ne, r_icmp_ne, r_if_lt, r_icmp_lt, r_if_ge, r_icmp_ge, r_if_gt, r_icmp_gt, r_if_le, r_icmp_le, r_goto, r_switch, r_ireturn0, r_ireturn1, r_lreturn, r_areturn, r_return, r_inv0, r_inv1, r_inv2, r_inv3, r_inv4, r_inv5, r_min, r_max, r_acopy, onI_s, onL_s, onR_s, onO_s, fv0, fv1, fv2, fv3, fp1, fp20, fp21, fp3, tl_s, tl_n, lg0, lg1, lg2, lg3, lg4, lg5, lg6, lg7, lg8, lg9, lg10, lg11, lg12, lg13, lg14, lg15, lg16, lg17, ls0, ls1, ls2, ls3, ls4, ls5, ls6, ls7, ls8, ls9, ls10, ls11, ls12, ls13, ls14, ls15, ls16, ls17, lk0, lk1, lk2, lk3, lk4, lk5, lk6, lk7, lk8, lk9, lk10, lk11, lk12, lk13, lk14, lk15, lk16, lk17, kl_n, kl_i, kl_r, kl_l, Nat.reduceAdd, r_ins0, r_ins1, r_ins2, r_ins3, r_ins4, r_ins5]
      rw [brc_neg (nI_ge (by omega) (by omega)), inb_n (n := 36) rfl (by omega) (by omega), nI_clamp (by omega)]
      refine ⟨by omega, ?_⟩
      have h := ih (i + 1) (by omega)
      rw [nI_succ] at h
      exact h
  exact key 36 0 rfl
theorem s_grt_39 {M : Mem} {C : Col} (h : RS M 40 41 C) (hC : okC6 C) : Ev 35 [.ref 39] M (some (.int (ix (grt C 6).2))) M := by
  apply Ev.of
  simp only [E_35, B_35_0, B_35_2, B_35_3, B_35_4, B_35_5, r_iconst_p, r_iconst_m, r_bipush_p, r_bipush_m, r_sipush_p, r_sipush_m, r_ldc_p, r_ldc_m, r_ldc_w_p, r_ldc_w_m, r_lconst_p, r_lconst_m, r_ldc2_w_p, r_ldc2_w_m, r_iload, r_iload_n, r_lload, r_lload_n, r_aload, r_aload_n, r_istore, r_istore_n, r_astore, r_astore_n, r_lstore, r_lstore_n, r_iinc_p, r_iinc_m, r_iadd, r_isub, r_imul, r_iand, r_ior, r_ixor, r_ishl, r_ishr, r_iushr, r_idiv, r_irem, r_ladd, r_lsub, r_lmul, r_ldiv, r_lrem, r_lshl, r_lcmp, r_i2l, r_i2b, r_i2s, r_dup_i, r_dup_r, r_dup2_ii, r_dup2_ir, r_dup2_l, r_pop, r_getfield, r_putfield, r_iaload, r_iastore, r_aaload, r_arraylength, r_if_eq, r_icmp_eq, r_if_ne, r_icmp_ne, r_if_lt, r_icmp_lt, r_if_ge, r_icmp_ge, r_if_gt, r_icmp_gt, r_if_le, r_icmp_le, r_goto, r_switch, r_ireturn0, r_ireturn1, r_lreturn, r_areturn, r_return, r_inv0, r_inv1, r_inv2, r_inv3, r_inv4, r_inv5, r_min, r_max, r_acopy, onI_s, onL_s, onR_s, onO_s, fv0, fv1, fv2, fv3, fp1, fp20, fp21, fp3, tl_s, tl_n, lg0, lg1, lg2, lg3, lg4, lg5, lg6, lg7, lg8, lg9, lg10, lg11, lg12, lg13, lg14, lg15, lg16, lg17, ls0, ls1, ls2, ls3, ls4, ls5, ls6, ls7, ls8, ls9, ls10, ls11, ls12, ls13, ls14, ls15, ls16, ls17, lk0, lk1, lk2, lk3, lk4, lk5, lk6, lk7, lk8, lk9, lk10, lk11, lk12, lk13, lk14, lk15, lk16, lk17, kl_n, kl_i, kl_r, kl_l, Nat.reduceAdd, r_ins0, r_ins1, r_ins2, r_ins3, r_ins4, r_ins5]
  have key : ∀ n i v, i + n = 6 → WP 35 [] 1 [some (.ref 39), some (.int (ix (grt C i).2)), some (.int (nI (grt C i).1)), some (.int (nI i)), v] [] M (fun v N => v = some (.int (ix (grt C 6).2)) ∧ N = M) := by
    intro n
    induction n with
    | zero =>
      intro i v hi
      obtain rfl : i = 6 := by omega
      rw [B_35_1]
      simp only [B_35_0, B_35_2, B_35_3, B_35_4, B_35_5, cP, cS, r_iconst_p, r_iconst_m, r_bipush_p, r_bipush_m, r_sipush_p, r_sipush_m, r_ldc_p, r_ldc_m, r_ldc_w_p, r_ldc_w_m, r_lconst_p, r_lconst_m, r_ldc2_w_p, r_ldc2_w_m, r_iload, r_iload_n, r_lload, r_lload_n, r_aload, r_aload_n, r_istore, r_istore_n, r_astore, r_astore_n, r_lstore, r_lstore_n, r_iinc_p, r_iinc_m, r_iadd, r_isub, r_imul, r_iand, r_ior, r_ixor, r_ishl, r_ishr, r_iushr, r_idiv, r_irem, r_ladd, r_lsub, r_lmul, r_ldiv, r_lrem, r_lshl, r_lcmp, r_i2l, r_i2b, r_i2s, r_dup_i, r_dup_r, r_dup2_ii, r_dup2_ir, r_dup2_l, r_pop, r_getfield, r_putfield, r_iaload, r_iastore, r_aaload, r_arraylength, r_if_eq, r_icmp_eq, r_if_ne, r_icmp_ne, r_if_lt, r_icmp_lt, r_if_ge, r_icmp_ge, r_if_gt, r_icmp_gt, r_if_le, r_icmp_le, r_goto, r_switch, r_ireturn0, r_ireturn1, r_lreturn, r_areturn, r_return, r_inv0, r_inv1, r_inv2, r_inv3, r_inv4, r_inv5, r_min, r_max, r_acopy, onI_s, onL_s, onR_s, onO_s, fv0, fv1, fv2, fv3, fp1, fp20, fp21, fp3, tl_s, tl_n, lg0, lg1, lg2, lg3, lg4, lg5, lg6, lg7, lg8, lg9, lg10, lg11, lg12, lg13, lg14, lg15, lg16, lg17, ls0, ls1, ls2, ls3, ls4, ls5, ls6, ls7, ls8, ls9, ls10, ls11, ls12, ls13, ls14, ls15, ls16, ls17, lk0, lk1, lk2, lk3, lk4, lk5, lk6, lk7, lk8, lk9, lk10, lk11, lk12, lk13, lk14, lk15, lk16, lk17, kl_n, kl_i, kl_r, kl_l, Nat.reduceAdd, r_ins0, r_ins1, r_ins2, r_ins3, r_ins4, r_ins5]
      rw [brc_pos (Int32.le_refl _)]
      simp
    | succ n ih =>
      intro i v hi
      have hi6 : i < 6 := by omega
      have hl := (hC i).1
      have ht := top_le (hC i).2
      have hg := (grt_le hC i).1
      rw [B_35_1]
      simp only [B_35_0, B_35_2, B_35_4, B_35_5, cP, cS, r_iconst_p, r_iconst_m, r_bipush_p, r_bipush_m, r_sipush_p, r_sipush_m, r_ldc_p, r_ldc_m, r_ldc_w_p, r_ldc_w_m, r_lconst_p, r_lconst_m, r_ldc2_w_p, r_ldc2_w_m, r_iload, r_iload_n, r_lload, r_lload_n, r_aload, r_aload_n, r_istore, r_istore_n, r_astore, r_astore_n, r_lstore, r_lstore_n, r_iinc_p, r_iinc_m, r_iadd, r_isub, r_imul, r_iand, r_ior, r_ixor, r_ishl, r_ishr, r_iushr, r_idiv, r_irem, r_ladd, r_lsub, r_lmul, r_ldiv, r_lrem, r_lshl, r_lcmp, r_i2l, r_i2b, r_i2s, r_dup_i, r_dup_r, r_dup2_ii, r_dup2_ir, r_dup2_l, r_pop, r_getfield, r_putfield, r_iaload, r_iastore, r_aaload, r_arraylength, r_if_eq, r_icmp_eq, r_if_ne, r_icmp_ne, r_if_lt, r_icmp_lt, r_if_ge, r_icmp_ge, r_if_gt, r_icmp_gt, r_if_le, r_icmp_le, r_goto, r_switch, r_ireturn0, r_ireturn1, r_lreturn, r_areturn, r_return, r_inv0, r_inv1, r_inv2, r_inv3, r_inv4, r_inv5, r_min, r_max, r_acopy, onI_s, onL_s, onR_s, onO_s, fv0, fv1, fv2, fv3, fp1, fp20, fp21, fp3, tl_s, tl_n, lg0, lg1, lg2, lg3, lg4, lg5, lg6, lg7, lg8, lg9, lg10, lg11, lg12, lg13, lg14, lg15, lg16, lg17, ls0, ls1, ls2, ls3, ls4, ls5, ls6, ls7, ls8, ls9, ls10, ls11, ls12, ls13, ls14, ls15, ls16, ls17, lk0, lk1, lk2, lk3, lk4, lk5, lk6, lk7, lk8, lk9, lk10, lk11, lk12, lk13, lk14, lk15, lk16, lk17, kl_n, kl_i, kl_r, kl_l, Nat.reduceAdd, r_ins0, r_ins1, r_ins2, r_ins3, r_ins4, r_ins5]
      have st : ∀ x : Nat, x = top (C i) → WP 35 [] 3 [some (.ref 39), some (.int (ix (grt C i).2)), some (.int (nI (grt C i).1)), some (.int (nI i)), v] [.int (nI x)] M (fun v N => v = some (.int (ix (grt C 6).2)) ∧ N = M) := by
        intro x hx
        simp only [B_35_0, B_35_2, B_35_3, B_35_4, B_35_5, cP, cS, r_iconst_p, r_iconst_m, r_bipush_p, r_bipush_m, r_sipush_p, r_sipush_m, r_ldc_p, r_ldc_m, r_ldc_w_p, r_ldc_w_m, r_lconst_p, r_lconst_m, r_ldc2_w_p, r_ldc2_w_m, r_iload, r_iload_n, r_lload, r_lload_n, r_aload, r_aload_n, r_istore, r_istore_n, r_astore, r_astore_n, r_lstore, r_lstore_n, r_iinc_p, r_iinc_m, r_iadd, r_isub, r_imul, r_iand, r_ior, r_ixor, r_ishl, r_ishr, r_iushr, r_idiv, r_irem, r_ladd, r_lsub, r_lmul, r_ldiv, r_lrem, r_lshl, r_lcmp, r_i2l, r_i2b, r_i2s, r_dup_i, r_dup_r, r_dup2_ii, r_dup2_ir, r_dup2_l, r_pop, r_getfield, r_putfield, r_iaload, r_iastore, r_aaload, r_arraylength, r_if_eq, r_icmp_eq, r_if_ne, r_icmp_ne, r_if_lt, r_icmp_lt, r_if_ge, r_icmp_ge, r_if_gt, r_icmp_gt, r_if_le, r_icmp_le, r_goto, r_switch, r_ireturn0, r_ireturn1, r_lreturn, r_areturn, r_return, r_inv0, r_inv1, r_inv2, r_inv3, r_inv4, r_inv5, r_min, r_max, r_acopy, onI_s, onL_s, onR_s, onO_s, fv0, fv1, fv2, fv3, fp1, fp20, fp21, fp3, tl_s, tl_n, lg0, lg1, lg2, lg3, lg4, lg5, lg6, lg7, lg8, lg9, lg10, lg11, lg12, lg13, lg14, lg15, lg16, lg17, ls0, ls1, ls2, ls3, ls4, ls5, ls6, ls7, ls8, ls9, ls10, ls11, ls12, ls13, ls14, ls15, ls16, ls17, lk0, lk1, lk2, lk3, lk4, lk5, lk6, lk7, lk8, lk9, lk10, lk11, lk12, lk13, lk14, lk15, lk16, lk17, kl_n, kl_i, kl_r, kl_l, Nat.reduceAdd, r_ins0, r_ins1, r_ins2, r_ins3, r_ins4, r_ins5]
        have e : grt C (i + 1) = if (grt C i).1 < x then (x, i + 1) else grt C i := by rw [hx]; rfl
        have h2 := ih (i + 1) (some (.int (nI x))) (by omega)
        rw [e, ← q_add] at h2
        rw [q_le (by omega) (by omega)]
        by_cases hc : x ≤ (grt C i).1
        · rw [if_neg (by omega)] at h2
          rw [brc_pos hc]
          exact h2
        · rw [if_pos (by omega)] at h2
          rw [brc_neg hc]
          exact h2
      rw [brc_neg (nI_ge (by omega) (by omega)), inb_n (n := 6) rfl (by omega) (by omega), nI_clamp (by omega), (h i hi6).1, q_eq (by omega) (by omega)]
      refine ⟨hi6, ?_⟩
      by_cases h0 : (C i).length = 0
      · rw [brc_neg (fun q => q h0)]
        exact st 0 (by rw [List.length_eq_zero_iff.mp h0]; rfl)
      · rw [brc_pos h0, q_mul, q_add, q_sub (by omega), inb_n (n := 36) rfl (by omega) (by omega), nI_clamp (by omega)]
        refine ⟨hi6, by omega, ?_⟩
        rw [show i * 6 + (C i).length - 1 = i * 6 + ((C i).length - 1) by omega, (h i hi6).2 _ (by omega)]
        exact st _ rfl
  exact key 6 0 none rfl
theorem s_take_39 {M : Mem} {C : Col} (h : RS M 40 41 C) (hC : okC6 C) {c : Nat} (hc : c < 6) (hn : C c ≠ []) : Ev 34 [.ref 39, .int (nI c)] M (some (.int (nI (top (C c))))) (stM (stM M 41 c (nI ((C c).length - 1))) 40 (c * 6 + ((C c).length - 1)) (nI 0)) := by
  have hl := (hC c).1
  have h0 : 0 < (C c).length := List.length_pos_iff.mpr hn
  apply Ev.of
  simp only [E_34, B_34_0, B_34_1, cP, cS, r_iconst_p, r_iconst_m, r_bipush_p, r_bipush_m, r_sipush_p, r_sipush_m, r_ldc_p, r_ldc_m, r_ldc_w_p, r_ldc_w_m, r_lconst_p, r_lconst_m, r_ldc2_w_p, r_ldc2_w_m, r_iload, r_iload_n, r_lload, r_lload_n, r_aload, r_aload_n, r_istore, r_istore_n, r_astore, r_astore_n, r_lstore, r_lstore_n, r_iinc_p, r_iinc_m, r_iadd, r_isub, r_imul, r_iand, r_ior, r_ixor, r_ishl, r_ishr, r_iushr, r_idiv, r_irem, r_ladd, r_lsub, r_lmul, r_ldiv, r_lrem, r_lshl, r_lcmp, r_i2l, r_i2b, r_i2s, r_dup_i, r_dup_r, r_dup2_ii, r_dup2_ir, r_dup2_l, r_pop, r_getfield, r_putfield, r_iaload, r_iastore, r_aaload, r_arraylength, r_if_eq, r_icmp_eq, r_if_ne, r_icmp_ne, r_if_lt, r_icmp_lt, r_if_ge, r_icmp_ge, r_if_gt, r_icmp_gt, r_if_le, r_icmp_le, r_goto, r_switch, r_ireturn0, r_ireturn1, r_lreturn, r_areturn, r_return, r_inv0, r_inv1, r_inv2, r_inv3, r_inv4, r_inv5, r_min, r_max, r_acopy, onI_s, onL_s, onR_s, onO_s, fv0, fv1, fv2, fv3, fp1, fp20, fp21, fp3, tl_s, tl_n, lg0, lg1, lg2, lg3, lg4, lg5, lg6, lg7, lg8, lg9, lg10, lg11, lg12, lg13, lg14, lg15, lg16, lg17, ls0, ls1, ls2, ls3, ls4, ls5, ls6, ls7, ls8, ls9, ls10, ls11, ls12, ls13, ls14, ls15, ls16, ls17, lk0, lk1, lk2, lk3, lk4, lk5, lk6, lk7, lk8, lk9, lk10, lk11, lk12, lk13, lk14, lk15, lk16, lk17, kl_n, kl_i, kl_r, kl_l, Nat.reduceAdd, r_ins0, r_ins1, r_ins2, r_ins3, r_ins4, r_ins5]
  simp only [inb_n (c := 41) (n := 6) rfl (show c < 2 ^ 31 by omega) (by omega), nI_clamp (show c < 2 ^ 31 by omega), (h c hc).1, q_eq (show (C c).length < 2 ^ 31 by omega) (show 0 < 2 ^ 31 by omega)]
  refine ⟨hc, ?_⟩
  rw [brc_pos (by omega)]
  refine ⟨hc, hc, hc, ?_⟩
  simp only [sm_eq, u_eq, q_mul, q_sub (show 1 ≤ (C c).length by omega), q_add, sm_ne (show ¬ 40 = 41 by decide)]
  rw [inb_n (n := 36) rfl (by omega) (by omega), nI_clamp (by omega)]
  refine ⟨by omega, by omega, ?_⟩
  rw [(h c hc).2 _ (by omega)]
  exact ⟨rfl, rfl⟩
theorem RS_take {M : Mem} {C : Col} {g h : Nat} (H : RS M g h C) (hC : okC6 C) (hgh : ¬ g = h) {c : Nat} (hc : c < 6) (hn : C c ≠ []) : RS (stM (stM M h c (nI ((C c).length - 1))) g (c * 6 + ((C c).length - 1)) (nI 0)) g h (setc C c (C c).dropLast) := by
  have hl := (hC c).1
  have h0 : 0 < (C c).length := List.length_pos_iff.mpr hn
  intro d hd
  rw [sm_ne (fun q => hgh q.symm), sm_eq, sm_eq, sm_ne hgh]
  by_cases e : d = c
  · subst e
    rw [u_eq]
    refine ⟨by simp [setc], fun j hj => ?_⟩
    rw [u_if]
    simp only [setc, if_true]
    by_cases hj2 : j = (C d).length - 1
    · rw [if_pos (by omega), hj2, List.getD_eq_getElem?_getD, List.getElem?_eq_none (by simp)]
      rfl
    · rw [if_neg (by omega), (H d hd).2 j hj, List.getD_eq_getElem?_getD, List.getD_eq_getElem?_getD, List.getElem?_dropLast]
      by_cases hj3 : j < (C d).length - 1
      · rw [if_pos hj3]
      · rw [if_neg hj3, List.getElem?_eq_none (by omega)]
  · rw [u_ne e]
    simp only [setc, if_neg e]
    refine ⟨(H d hd).1, fun j hj => ?_⟩
    rw [u_ne (by omega)]
    exact (H d hd).2 j hj
end
section
/-! Stand: the shape; become; exchange; Orders.become; Weather -/
def shp (C : Col) : Nat → Nat
  | 0 => 0
  | n + 1 => shp C n ||| (C n).length <<< (3 * n)
theorem shl_nI {a k : Nat} (hk : k < 31) (ha : a * 2 ^ k < 2 ^ 31) : nI a <<< (nI k &&& 31) = nI (a <<< k) := by
  have e : (nI k &&& 31) = nI k := by
    have h := pk_andN (n := k) (by omega) (m := 31) 5 rfl
    rw [h, Nat.mod_eq_of_lt (by omega)]
  rw [e, Nat.shiftLeft_eq]
  refine pk_shlN (nI k) k ?_ (by omega)
  have h1 : (nI k).toBitVec.toNat = k := pk_tn (by omega)
  have h2 : (nI k).toBitVec = BitVec.ofNat 32 k := rfl
  rw [h2]
  clear h1 h2 e ha
  revert k
  decide +kernel
theorem shr_nI {a k : Nat} (hk : k < 31) (ha : a < 2 ^ 31) : nI a >>> (nI k &&& 31) = nI (a >>> k) := by
  have e : (nI k &&& 31) = nI k := by
    have h := pk_andN (n := k) (by omega) (m := 31) 5 rfl
    rw [h, Nat.mod_eq_of_lt (by omega)]
  rw [e, Nat.shiftRight_eq_div_pow]
  refine pk_shrN ha (nI k) k ?_
  have h2 : (nI k).toBitVec = BitVec.ofNat 32 k := rfl
  rw [h2]
  clear h2 e ha
  revert k
  decide +kernel
theorem q_or (a b : Nat) : nI a ||| nI b = nI (a ||| b) := by
  unfold nI
  apply Int32.toBitVec_inj.mp
  show BitVec.ofNat 32 a ||| BitVec.ofNat 32 b = BitVec.ofNat 32 (a ||| b)
  exact (BitVec.ofNat_or).symm
theorem q_and (a b : Nat) : nI a &&& nI b = nI (a &&& b) := by
  unfold nI
  apply Int32.toBitVec_inj.mp
  show BitVec.ofNat 32 a &&& BitVec.ofNat 32 b = BitVec.ofNat 32 (a &&& b)
  exact (BitVec.ofNat_and).symm
theorem shp_lt {C : Col} (h : okC6 C) : ∀ n, shp C n < 2 ^ (3 * n)
  | 0 => Nat.lt_of_lt_of_le Nat.zero_lt_one (Nat.le_refl _)
  | n + 1 => by
    have ih := shp_lt h n
    have hl := (h n).1
    have h1 : (C n).length <<< (3 * n) < 2 ^ (3 * (n + 1)) := by
      rw [Nat.shiftLeft_eq, show 3 * (n + 1) = 3 * n + 3 by omega, Nat.pow_add]
      have := Nat.pos_of_ne_zero (show 2 ^ (3 * n) ≠ 0 by exact Nat.ne_of_gt (Nat.pow_pos (by decide)))
      have h9 : (C n).length * 2 ^ (3 * n) ≤ 6 * 2 ^ (3 * n) := Nat.mul_le_mul_right _ hl
      omega
    unfold shp
    exact Nat.or_lt_two_pow (Nat.lt_of_lt_of_le ih (Nat.pow_le_pow_right (by decide) (by omega))) h1
theorem shp_bit {C : Col} (h : okC6 C) : ∀ n c, c < n → (shp C n >>> (3 * c)) &&& 7 = (C c).length
  | 0, c, hc => absurd hc (Nat.not_lt_zero c)
  | n + 1, c, hc => by
    have hl := (h c).1
    have h7 : ∀ x : Nat, x &&& 7 = x % 8 := fun x => Nat.and_two_pow_sub_one_eq_mod x 3
    unfold shp
    rw [Nat.shiftRight_or_distrib, Nat.and_or_distrib_right]
    rcases Nat.lt_or_ge c n with q | q
    · rw [shp_bit h n c q]
      have : ((C n).length <<< (3 * n)) >>> (3 * c) &&& 7 = 0 := by
        rw [h7, show 3 * n = 3 * (n - c - 1) + 3 + 3 * c by omega, Nat.shiftLeft_add, Nat.shiftLeft_shiftRight, Nat.shiftLeft_add]
        rw [Nat.shiftLeft_eq _ 3]
        omega
      rw [this, Nat.or_zero]
    · have e : c = n := by omega
      subst e
      rw [Nat.shiftLeft_shiftRight, Nat.shiftRight_eq_div_pow, Nat.div_eq_of_lt (shp_lt h c), Nat.zero_and, Nat.zero_or, h7]
      omega
theorem s_shape_22 {M : Mem} {C : Col} (h : RS M 23 24 C) (hC : okC6 C) : Ev 39 [.ref 22] M (some (.int (nI (shp C 6)))) M := by
  apply Ev.of
  simp only [E_39, B_39_0, B_39_2, r_iconst_p, r_iconst_m, r_bipush_p, r_bipush_m, r_sipush_p, r_sipush_m, r_ldc_p, r_ldc_m, r_ldc_w_p, r_ldc_w_m, r_lconst_p, r_lconst_m, r_ldc2_w_p, r_ldc2_w_m, r_iload, r_iload_n, r_lload, r_lload_n, r_aload, r_aload_n, r_istore, r_istore_n, r_astore, r_astore_n, r_lstore, r_lstore_n, r_iinc_p, r_iinc_m, r_iadd, r_isub, r_imul, r_iand, r_ior, r_ixor, r_ishl, r_ishr, r_iushr, r_idiv, r_irem, r_ladd, r_lsub, r_lmul, r_ldiv, r_lrem, r_lshl, r_lcmp, r_i2l, r_i2b, r_i2s, r_dup_i, r_dup_r, r_dup2_ii, r_dup2_ir, r_dup2_l, r_pop, r_getfield, r_putfield, r_iaload, r_iastore, r_aaload, r_arraylength, r_if_eq, r_icmp_eq, r_if_ne, r_icmp_ne, r_if_lt, r_icmp_lt, r_if_ge, r_icmp_ge, r_if_gt, r_icmp_gt, r_if_le, r_icmp_le, r_goto, r_switch, r_ireturn0, r_ireturn1, r_lreturn, r_areturn, r_return, r_inv0, r_inv1, r_inv2, r_inv3, r_inv4, r_inv5, r_min, r_max, r_acopy, onI_s, onL_s, onR_s, onO_s, fv0, fv1, fv2, fv3, fp1, fp20, fp21, fp3, tl_s, tl_n, lg0, lg1, lg2, lg3, lg4, lg5, lg6, lg7, lg8, lg9, lg10, lg11, lg12, lg13, lg14, lg15, lg16, lg17, ls0, ls1, ls2, ls3, ls4, ls5, ls6, ls7, ls8, ls9, ls10, ls11, ls12, ls13, ls14, ls15, ls16, ls17, lk0, lk1, lk2, lk3, lk4, lk5, lk6, lk7, lk8, lk9, lk10, lk11, lk12, lk13, lk14, lk15, lk16, lk17, kl_n, kl_i, kl_r, kl_l, Nat.reduceAdd, r_ins0, r_ins1, r_ins2, r_ins3, r_ins4, r_ins5]
  have key : ∀ n i, i + n = 6 → WP 39 [] 1 [some (.ref 22), some (.int (nI (shp C i))), some (.int (nI i))] [] M (fun v N => v = some (.int (nI (shp C 6))) ∧ N = M) := by
    intro n
    induction n with
    | zero =>
      intro i hi
      obtain rfl : i = 6 := by omega
      rw [B_39_1]
      simp only [B_39_0, B_39_2, cP, cS, r_iconst_p, r_iconst_m, r_bipush_p, r_bipush_m, r_sipush_p, r_sipush_m, r_ldc_p, r_ldc_m, r_ldc_w_p, r_ldc_w_m, r_lconst_p, r_lconst_m, r_ldc2_w_p, r_ldc2_w_m, r_iload, r_iload_n, r_lload, r_lload_n, r_aload, r_aload_n, r_istore, r_istore_n, r_astore, r_astore_n, r_lstore, r_lstore_n, r_iinc_p, r_iinc_m, r_iadd, r_isub, r_imul, r_iand, r_ior, r_ixor, r_ishl, r_ishr, r_iushr, r_idiv, r_irem, r_ladd, r_lsub, r_lmul, r_ldiv, r_lrem, r_lshl, r_lcmp, r_i2l, r_i2b, r_i2s, r_dup_i, r_dup_r, r_dup2_ii, r_dup2_ir, r_dup2_l, r_pop, r_getfield, r_putfield, r_iaload, r_iastore, r_aaload, r_arraylength, r_if_eq, r_icmp_eq, r_if_ne, r_icmp_ne, r_if_lt, r_icmp_lt, r_if_ge, r_icmp_ge, r_if_gt, r_icmp_gt, r_if_le, r_icmp_le, r_goto, r_switch, r_ireturn0, r_ireturn1, r_lreturn, r_areturn, r_return, r_inv0, r_inv1, r_inv2, r_inv3, r_inv4, r_inv5, r_min, r_max, r_acopy, onI_s, onL_s, onR_s, onO_s, fv0, fv1, fv2, fv3, fp1, fp20, fp21, fp3, tl_s, tl_n, lg0, lg1, lg2, lg3, lg4, lg5, lg6, lg7, lg8, lg9, lg10, lg11, lg12, lg13, lg14, lg15, lg16, lg17, ls0, ls1, ls2, ls3, ls4, ls5, ls6, ls7, ls8, ls9, ls10, ls11, ls12, ls13, ls14, ls15, ls16, ls17, lk0, lk1, lk2, lk3, lk4, lk5, lk6, lk7, lk8, lk9, lk10, lk11, lk12, lk13, lk14, lk15, lk16, lk17, kl_n, kl_i, kl_r, kl_l, Nat.reduceAdd, r_ins0, r_ins1, r_ins2, r_ins3, r_ins4, r_ins5]
      rw [brc_pos (Int32.le_refl _)]
      simp
    | succ n ih =>
      intro i hi
      have hi6 : i < 6 := by omega
      have hl := (hC i).1
      rw [B_39_1]
      simp only [B_39_0, B_39_2, cP, cS, r_iconst_p, r_iconst_m, r_bipush_p, r_bipush_m, r_sipush_p, r_sipush_m, r_ldc_p, r_ldc_m, r_ldc_w_p, r_ldc_w_m, r_lconst_p, r_lconst_m, r_ldc2_w_p, r_ldc2_w_m, r_iload, r_iload_n, r_lload, r_lload_n, r_aload, r_aload_n, r_istore, r_istore_n, r_astore, r_astore_n, r_lstore, r_lstore_n, r_iinc_p, r_iinc_m, r_iadd, r_isub, r_imul, r_iand, r_ior, r_ixor, r_ishl, r_ishr, r_iushr, r_idiv, r_irem, r_ladd, r_lsub, r_lmul, r_ldiv, r_lrem, r_lshl, r_lcmp, r_i2l, r_i2b, r_i2s, r_dup_i, r_dup_r, r_dup2_ii, r_dup2_ir, r_dup2_l, r_pop, r_getfield, r_putfield, r_iaload, r_iastore, r_aaload, r_arraylength, r_if_eq, r_icmp_eq, r_if_ne, r_icmp_ne, r_if_lt, r_icmp_lt, r_if_ge, r_icmp_ge, r_if_gt, r_icmp_gt, r_if_le, r_icmp_le, r_goto, r_switch, r_ireturn0, r_ireturn1, r_lreturn, r_areturn, r_return, r_inv0, r_inv1, r_inv2, r_inv3, r_inv4, r_inv5, r_min, r_max, r_acopy, onI_s, onL_s, onR_s, onO_s, fv0, fv1, fv2, fv3, fp1, fp20, fp21, fp3, tl_s, tl_n, lg0, lg1, lg2, lg3, lg4, lg5, lg6, lg7, lg8, lg9, lg10, lg11, lg12, lg13, lg14, lg15, lg16, lg17, ls0, ls1, ls2, ls3, ls4, ls5, ls6, ls7, ls8, ls9, ls10, ls11, ls12, ls13, ls14, ls15, ls16, ls17, lk0, lk1, lk2, lk3, lk4, lk5, lk6, lk7, lk8, lk9, lk10, lk11, lk12, lk13, lk14, lk15, lk16, lk17, kl_n, kl_i, kl_r, kl_l, Nat.reduceAdd, r_ins0, r_ins1, r_ins2, r_ins3, r_ins4, r_ins5]
      rw [brc_neg (nI_ge (by omega) (by omega)), inb_n (n := 6) rfl (by omega) (by omega), nI_clamp (by omega), (h i hi6).1, q_mul]
      refine ⟨hi6, ?_⟩
      have hb : (C i).length * 2 ^ (3 * i) < 2 ^ 31 := by
        have h1 : 2 ^ (3 * i) ≤ 2 ^ 15 := Nat.pow_le_pow_right (by decide) (by omega)
        have h2 : (C i).length * 2 ^ (3 * i) ≤ 6 * 2 ^ 15 := Nat.mul_le_mul hl h1
        omega
      rw [shl_nI (by omega) hb, q_or, q_add]
      exact ih (i + 1) (by omega)
  exact key 6 0 rfl
theorem s_becomeS_22 (M : Mem) : Ev 32 [.ref 22, .ref 6] M none (cpyM (cpyM M 7 23 0 0 36) 8 24 0 0 6) := by
  apply Ev.of
  simp only [E_32, B_32_0, cB, cP, cS, nI_clamp (show 0 < 2 ^ 31 by decide), nI_clamp (show 36 < 2 ^ 31 by decide), nI_clamp (show 6 < 2 ^ 31 by decide), q_lt (show 0 < 2 ^ 31 by decide) (show 0 < 2 ^ 31 by decide), q_lt (show 36 < 2 ^ 31 by decide) (show 0 < 2 ^ 31 by decide), q_lt (show 6 < 2 ^ 31 by decide) (show 0 < 2 ^ 31 by decide), r_iconst_p, r_iconst_m, r_bipush_p, r_bipush_m, r_sipush_p, r_sipush_m, r_ldc_p, r_ldc_m, r_ldc_w_p, r_ldc_w_m, r_lconst_p, r_lconst_m, r_ldc2_w_p, r_ldc2_w_m, r_iload, r_iload_n, r_lload, r_lload_n, r_aload, r_aload_n, r_istore, r_istore_n, r_astore, r_astore_n, r_lstore, r_lstore_n, r_iinc_p, r_iinc_m, r_iadd, r_isub, r_imul, r_iand, r_ior, r_ixor, r_ishl, r_ishr, r_iushr, r_idiv, r_irem, r_ladd, r_lsub, r_lmul, r_ldiv, r_lrem, r_lshl, r_lcmp, r_i2l, r_i2b, r_i2s, r_dup_i, r_dup_r, r_dup2_ii, r_dup2_ir, r_dup2_l, r_pop, r_getfield, r_putfield, r_iaload, r_iastore, r_aaload, r_arraylength, r_if_eq, r_icmp_eq, r_if_ne, r_icmp_ne, r_if_lt, r_icmp_lt, r_if_ge, r_icmp_ge, r_if_gt, r_icmp_gt, r_if_le, r_icmp_le, r_goto, r_switch, r_ireturn0, r_ireturn1, r_lreturn, r_areturn, r_return, r_inv0, r_inv1, r_inv2, r_inv3, r_inv4, r_inv5, r_min, r_max, r_acopy, onI_s, onL_s, onR_s, onO_s, fv0, fv1, fv2, fv3, fp1, fp20, fp21, fp3, tl_s, tl_n, lg0, lg1, lg2, lg3, lg4, lg5, lg6, lg7, lg8, lg9, lg10, lg11, lg12, lg13, lg14, lg15, lg16, lg17, ls0, ls1, ls2, ls3, ls4, ls5, ls6, ls7, ls8, ls9, ls10, ls11, ls12, ls13, ls14, ls15, ls16, ls17, lk0, lk1, lk2, lk3, lk4, lk5, lk6, lk7, lk8, lk9, lk10, lk11, lk12, lk13, lk14, lk15, lk16, lk17, kl_n, kl_i, kl_r, kl_l, Nat.reduceAdd, r_ins0, r_ins1, r_ins2, r_ins3, r_ins4, r_ins5]
  simp
theorem s_shape_39 {M : Mem} {C : Col} (h : RS M 40 41 C) (hC : okC6 C) : Ev 39 [.ref 39] M (some (.int (nI (shp C 6)))) M := by
  apply Ev.of
  simp only [E_39, B_39_0, B_39_2, r_iconst_p, r_iconst_m, r_bipush_p, r_bipush_m, r_sipush_p, r_sipush_m, r_ldc_p, r_ldc_m, r_ldc_w_p, r_ldc_w_m, r_lconst_p, r_lconst_m, r_ldc2_w_p, r_ldc2_w_m, r_iload, r_iload_n, r_lload, r_lload_n, r_aload, r_aload_n, r_istore, r_istore_n, r_astore, r_astore_n, r_lstore, r_lstore_n, r_iinc_p, r_iinc_m, r_iadd, r_isub, r_imul, r_iand, r_ior, r_ixor, r_ishl, r_ishr, r_iushr, r_idiv, r_irem, r_ladd, r_lsub, r_lmul, r_ldiv, r_lrem, r_lshl, r_lcmp, r_i2l, r_i2b, r_i2s, r_dup_i, r_dup_r, r_dup2_ii, r_dup2_ir, r_dup2_l, r_pop, r_getfield, r_putfield, r_iaload, r_iastore, r_aaload, r_arraylength, r_if_eq, r_icmp_eq, r_if_ne, r_icmp_ne, r_if_lt, r_icmp_lt, r_if_ge, r_icmp_ge, r_if_gt, r_icmp_gt, r_if_le, r_icmp_le, r_goto, r_switch, r_ireturn0, r_ireturn1, r_lreturn, r_areturn, r_return, r_inv0, r_inv1, r_inv2, r_inv3, r_inv4, r_inv5, r_min, r_max, r_acopy, onI_s, onL_s, onR_s, onO_s, fv0, fv1, fv2, fv3, fp1, fp20, fp21, fp3, tl_s, tl_n, lg0, lg1, lg2, lg3, lg4, lg5, lg6, lg7, lg8, lg9, lg10, lg11, lg12, lg13, lg14, lg15, lg16, lg17, ls0, ls1, ls2, ls3, ls4, ls5, ls6, ls7, ls8, ls9, ls10, ls11, ls12, ls13, ls14, ls15, ls16, ls17, lk0, lk1, lk2, lk3, lk4, lk5, lk6, lk7, lk8, lk9, lk10, lk11, lk12, lk13, lk14, lk15, lk16, lk17, kl_n, kl_i, kl_r, kl_l, Nat.reduceAdd, r_ins0, r_ins1, r_ins2, r_ins3, r_ins4, r_ins5]
  have key : ∀ n i, i + n = 6 → WP 39 [] 1 [some (.ref 39), some (.int (nI (shp C i))), some (.int (nI i))] [] M (fun v N => v = some (.int (nI (shp C 6))) ∧ N = M) := by
    intro n
    induction n with
    | zero =>
      intro i hi
      obtain rfl : i = 6 := by omega
      rw [B_39_1]
      simp only [B_39_0, B_39_2, cP, cS, r_iconst_p, r_iconst_m, r_bipush_p, r_bipush_m, r_sipush_p, r_sipush_m, r_ldc_p, r_ldc_m, r_ldc_w_p, r_ldc_w_m, r_lconst_p, r_lconst_m, r_ldc2_w_p, r_ldc2_w_m, r_iload, r_iload_n, r_lload, r_lload_n, r_aload, r_aload_n, r_istore, r_istore_n, r_astore, r_astore_n, r_lstore, r_lstore_n, r_iinc_p, r_iinc_m, r_iadd, r_isub, r_imul, r_iand, r_ior, r_ixor, r_ishl, r_ishr, r_iushr, r_idiv, r_irem, r_ladd, r_lsub, r_lmul, r_ldiv, r_lrem, r_lshl, r_lcmp, r_i2l, r_i2b, r_i2s, r_dup_i, r_dup_r, r_dup2_ii, r_dup2_ir, r_dup2_l, r_pop, r_getfield, r_putfield, r_iaload, r_iastore, r_aaload, r_arraylength, r_if_eq, r_icmp_eq, r_if_ne, r_icmp_ne, r_if_lt, r_icmp_lt, r_if_ge, r_icmp_ge, r_if_gt, r_icmp_gt, r_if_le, r_icmp_le, r_goto, r_switch, r_ireturn0, r_ireturn1, r_lreturn, r_areturn, r_return, r_inv0, r_inv1, r_inv2, r_inv3, r_inv4, r_inv5, r_min, r_max, r_acopy, onI_s, onL_s, onR_s, onO_s, fv0, fv1, fv2, fv3, fp1, fp20, fp21, fp3, tl_s, tl_n, lg0, lg1, lg2, lg3, lg4, lg5, lg6, lg7, lg8, lg9, lg10, lg11, lg12, lg13, lg14, lg15, lg16, lg17, ls0, ls1, ls2, ls3, ls4, ls5, ls6, ls7, ls8, ls9, ls10, ls11, ls12, ls13, ls14, ls15, ls16, ls17, lk0, lk1, lk2, lk3, lk4, lk5, lk6, lk7, lk8, lk9, lk10, lk11, lk12, lk13, lk14, lk15, lk16, lk17, kl_n, kl_i, kl_r, kl_l, Nat.reduceAdd, r_ins0, r_ins1, r_ins2, r_ins3, r_ins4, r_ins5]
      rw [brc_pos (Int32.le_refl _)]
      simp
    | succ n ih =>
      intro i hi
      have hi6 : i < 6 := by omega
      have hl := (hC i).1
      rw [B_39_1]
      simp only [B_39_0, B_39_2, cP, cS, r_iconst_p, r_iconst_m, r_bipush_p, r_bipush_m, r_sipush_p, r_sipush_m, r_ldc_p, r_ldc_m, r_ldc_w_p, r_ldc_w_m, r_lconst_p, r_lconst_m, r_ldc2_w_p, r_ldc2_w_m, r_iload, r_iload_n, r_lload, r_lload_n, r_aload, r_aload_n, r_istore, r_istore_n, r_astore, r_astore_n, r_lstore, r_lstore_n, r_iinc_p, r_iinc_m, r_iadd, r_isub, r_imul, r_iand, r_ior, r_ixor, r_ishl, r_ishr, r_iushr, r_idiv, r_irem, r_ladd, r_lsub, r_lmul, r_ldiv, r_lrem, r_lshl, r_lcmp, r_i2l, r_i2b, r_i2s, r_dup_i, r_dup_r, r_dup2_ii, r_dup2_ir, r_dup2_l, r_pop, r_getfield, r_putfield, r_iaload, r_iastore, r_aaload, r_arraylength, r_if_eq, r_icmp_eq, r_if_ne, r_icmp_ne, r_if_lt, r_icmp_lt, r_if_ge, r_icmp_ge, r_if_gt, r_icmp_gt, r_if_le, r_icmp_le, r_goto, r_switch, r_ireturn0, r_ireturn1, r_lreturn, r_areturn, r_return, r_inv0, r_inv1, r_inv2, r_inv3, r_inv4, r_inv5, r_min, r_max, r_acopy, onI_s, onL_s, onR_s, onO_s, fv0, fv1, fv2, fv3, fp1, fp20, fp21, fp3, tl_s, tl_n, lg0, lg1, lg2, lg3, lg4, lg5, lg6, lg7, lg8, lg9, lg10, lg11, lg12, lg13, lg14, lg15, lg16, lg17, ls0, ls1, ls2, ls3, ls4, ls5, ls6, ls7, ls8, ls9, ls10, ls11, ls12, ls13, ls14, ls15, ls16, ls17, lk0, lk1, lk2, lk3, lk4, lk5, lk6, lk7, lk8, lk9, lk10, lk11, lk12, lk13, lk14, lk15, lk16, lk17, kl_n, kl_i, kl_r, kl_l, Nat.reduceAdd, r_ins0, r_ins1, r_ins2, r_ins3, r_ins4, r_ins5]
      rw [brc_neg (nI_ge (by omega) (by omega)), inb_n (n := 6) rfl (by omega) (by omega), nI_clamp (by omega), (h i hi6).1, q_mul]
      refine ⟨hi6, ?_⟩
      have hb : (C i).length * 2 ^ (3 * i) < 2 ^ 31 := by
        have h1 : 2 ^ (3 * i) ≤ 2 ^ 15 := Nat.pow_le_pow_right (by decide) (by omega)
        have h2 : (C i).length * 2 ^ (3 * i) ≤ 6 * 2 ^ 15 := Nat.mul_le_mul hl h1
        omega
      rw [shl_nI (by omega) hb, q_or, q_add]
      exact ih (i + 1) (by omega)
  exact key 6 0 rfl
theorem s_becomeS_39 (M : Mem) : Ev 32 [.ref 39, .ref 6] M none (cpyM (cpyM M 7 40 0 0 36) 8 41 0 0 6) := by
  apply Ev.of
  simp only [E_32, B_32_0, cB, cP, cS, nI_clamp (show 0 < 2 ^ 31 by decide), nI_clamp (show 36 < 2 ^ 31 by decide), nI_clamp (show 6 < 2 ^ 31 by decide), q_lt (show 0 < 2 ^ 31 by decide) (show 0 < 2 ^ 31 by decide), q_lt (show 36 < 2 ^ 31 by decide) (show 0 < 2 ^ 31 by decide), q_lt (show 6 < 2 ^ 31 by decide) (show 0 < 2 ^ 31 by decide), r_iconst_p, r_iconst_m, r_bipush_p, r_bipush_m, r_sipush_p, r_sipush_m, r_ldc_p, r_ldc_m, r_ldc_w_p, r_ldc_w_m, r_lconst_p, r_lconst_m, r_ldc2_w_p, r_ldc2_w_m, r_iload, r_iload_n, r_lload, r_lload_n, r_aload, r_aload_n, r_istore, r_istore_n, r_astore, r_astore_n, r_lstore, r_lstore_n, r_iinc_p, r_iinc_m, r_iadd, r_isub, r_imul, r_iand, r_ior, r_ixor, r_ishl, r_ishr, r_iushr, r_idiv, r_irem, r_ladd, r_lsub, r_lmul, r_ldiv, r_lrem, r_lshl, r_lcmp, r_i2l, r_i2b, r_i2s, r_dup_i, r_dup_r, r_dup2_ii, r_dup2_ir, r_dup2_l, r_pop, r_getfield, r_putfield, r_iaload, r_iastore, r_aaload, r_arraylength, r_if_eq, r_icmp_eq, r_if_ne, r_icmp_ne, r_if_lt, r_icmp_lt, r_if_ge, r_icmp_ge, r_if_gt, r_icmp_gt, r_if_le, r_icmp_le, r_goto, r_switch, r_ireturn0, r_ireturn1, r_lreturn, r_areturn, r_return, r_inv0, r_inv1, r_inv2, r_inv3, r_inv4, r_inv5, r_min, r_max, r_acopy, onI_s, onL_s, onR_s, onO_s, fv0, fv1, fv2, fv3, fp1, fp20, fp21, fp3, tl_s, tl_n, lg0, lg1, lg2, lg3, lg4, lg5, lg6, lg7, lg8, lg9, lg10, lg11, lg12, lg13, lg14, lg15, lg16, lg17, ls0, ls1, ls2, ls3, ls4, ls5, ls6, ls7, ls8, ls9, ls10, ls11, ls12, ls13, ls14, ls15, ls16, ls17, lk0, lk1, lk2, lk3, lk4, lk5, lk6, lk7, lk8, lk9, lk10, lk11, lk12, lk13, lk14, lk15, lk16, lk17, kl_n, kl_i, kl_r, kl_l, Nat.reduceAdd, r_ins0, r_ins1, r_ins2, r_ins3, r_ins4, r_ins5]
  simp
theorem RS_become {M : Mem} {C : Col} {g h g' h' : Nat} (H : RS M g h C) (hd : ¬ g' = h' ∧ ¬ h = g') : RS (cpyM (cpyM M g g' 0 0 36) h h' 0 0 6) g' h' C := by
  intro c hc
  simp only [cp_if, if_true, if_neg hd.1, if_neg hd.2]
  refine ⟨?_, fun j hj => ?_⟩
  · rw [cpy_in (by omega) (by omega)]
    simp only [Nat.zero_add, Nat.sub_zero]
    exact (H c hc).1
  · rw [cpy_in (by omega) (by omega)]
    simp only [Nat.zero_add, Nat.sub_zero]
    exact (H c hc).2 j hj
theorem s_becomeO_25 (M : Mem) : Ev 8 [.ref 25, .ref 9] M none (stM (cpyM (cpyM M 10 26 0 0 12) 11 27 0 0 12) 25 2 (M 9 2)) := by
  apply Ev.of
  simp only [E_8, B_8_0, cB, cP, cS, nI_clamp (show 0 < 2 ^ 31 by decide), nI_clamp (show 12 < 2 ^ 31 by decide), q_lt (show 0 < 2 ^ 31 by decide) (show 0 < 2 ^ 31 by decide), q_lt (show 12 < 2 ^ 31 by decide) (show 0 < 2 ^ 31 by decide), r_iconst_p, r_iconst_m, r_bipush_p, r_bipush_m, r_sipush_p, r_sipush_m, r_ldc_p, r_ldc_m, r_ldc_w_p, r_ldc_w_m, r_lconst_p, r_lconst_m, r_ldc2_w_p, r_ldc2_w_m, r_iload, r_iload_n, r_lload, r_lload_n, r_aload, r_aload_n, r_istore, r_istore_n, r_astore, r_astore_n, r_lstore, r_lstore_n, r_iinc_p, r_iinc_m, r_iadd, r_isub, r_imul, r_iand, r_ior, r_ixor, r_ishl, r_ishr, r_iushr, r_idiv, r_irem, r_ladd, r_lsub, r_lmul, r_ldiv, r_lrem, r_lshl, r_lcmp, r_i2l, r_i2b, r_i2s, r_dup_i, r_dup_r, r_dup2_ii, r_dup2_ir, r_dup2_l, r_pop, r_getfield, r_putfield, r_iaload, r_iastore, r_aaload, r_arraylength, r_if_eq, r_icmp_eq, r_if_ne, r_icmp_ne, r_if_lt, r_icmp_lt, r_if_ge, r_icmp_ge, r_if_gt, r_icmp_gt, r_if_le, r_icmp_le, r_goto, r_switch, r_ireturn0, r_ireturn1, r_lreturn, r_areturn, r_return, r_inv0, r_inv1, r_inv2, r_inv3, r_inv4, r_inv5, r_min, r_max, r_acopy, onI_s, onL_s, onR_s, onO_s, fv0, fv1, fv2, fv3, fp1, fp20, fp21, fp3, tl_s, tl_n, lg0, lg1, lg2, lg3, lg4, lg5, lg6, lg7, lg8, lg9, lg10, lg11, lg12, lg13, lg14, lg15, lg16, lg17, ls0, ls1, ls2, ls3, ls4, ls5, ls6, ls7, ls8, ls9, ls10, ls11, ls12, ls13, ls14, ls15, ls16, ls17, lk0, lk1, lk2, lk3, lk4, lk5, lk6, lk7, lk8, lk9, lk10, lk11, lk12, lk13, lk14, lk15, lk16, lk17, kl_n, kl_i, kl_r, kl_l, Nat.reduceAdd, r_ins0, r_ins1, r_ins2, r_ins3, r_ins4, r_ins5]
  simp [cp_if]
theorem s_becomeO_42 (M : Mem) : Ev 8 [.ref 42, .ref 9] M none (stM (cpyM (cpyM M 10 43 0 0 12) 11 44 0 0 12) 42 2 (M 9 2)) := by
  apply Ev.of
  simp only [E_8, B_8_0, cB, cP, cS, nI_clamp (show 0 < 2 ^ 31 by decide), nI_clamp (show 12 < 2 ^ 31 by decide), q_lt (show 0 < 2 ^ 31 by decide) (show 0 < 2 ^ 31 by decide), q_lt (show 12 < 2 ^ 31 by decide) (show 0 < 2 ^ 31 by decide), r_iconst_p, r_iconst_m, r_bipush_p, r_bipush_m, r_sipush_p, r_sipush_m, r_ldc_p, r_ldc_m, r_ldc_w_p, r_ldc_w_m, r_lconst_p, r_lconst_m, r_ldc2_w_p, r_ldc2_w_m, r_iload, r_iload_n, r_lload, r_lload_n, r_aload, r_aload_n, r_istore, r_istore_n, r_astore, r_astore_n, r_lstore, r_lstore_n, r_iinc_p, r_iinc_m, r_iadd, r_isub, r_imul, r_iand, r_ior, r_ixor, r_ishl, r_ishr, r_iushr, r_idiv, r_irem, r_ladd, r_lsub, r_lmul, r_ldiv, r_lrem, r_lshl, r_lcmp, r_i2l, r_i2b, r_i2s, r_dup_i, r_dup_r, r_dup2_ii, r_dup2_ir, r_dup2_l, r_pop, r_getfield, r_putfield, r_iaload, r_iastore, r_aaload, r_arraylength, r_if_eq, r_icmp_eq, r_if_ne, r_icmp_ne, r_if_lt, r_icmp_lt, r_if_ge, r_icmp_ge, r_if_gt, r_icmp_gt, r_if_le, r_icmp_le, r_goto, r_switch, r_ireturn0, r_ireturn1, r_lreturn, r_areturn, r_return, r_inv0, r_inv1, r_inv2, r_inv3, r_inv4, r_inv5, r_min, r_max, r_acopy, onI_s, onL_s, onR_s, onO_s, fv0, fv1, fv2, fv3, fp1, fp20, fp21, fp3, tl_s, tl_n, lg0, lg1, lg2, lg3, lg4, lg5, lg6, lg7, lg8, lg9, lg10, lg11, lg12, lg13, lg14, lg15, lg16, lg17, ls0, ls1, ls2, ls3, ls4, ls5, ls6, ls7, ls8, ls9, ls10, ls11, ls12, ls13, ls14, ls15, ls16, ls17, lk0, lk1, lk2, lk3, lk4, lk5, lk6, lk7, lk8, lk9, lk10, lk11, lk12, lk13, lk14, lk15, lk16, lk17, kl_n, kl_i, kl_r, kl_l, Nat.reduceAdd, r_ins0, r_ins1, r_ins2, r_ins3, r_ins4, r_ins5]
  simp [cp_if]
/-- Arrays.fill -/
theorem s_fill {c n : Nat} (hn : alen c = some n) (hn2 : n < 2 ^ 31) (x : Int32) (M : Mem) : Ev 197 [.ref c, .int x] M none (setC M c (fun i => if i < n then x else M c i)) := by
  apply Ev.of
  simp only [E_197, B_197_0, B_197_2, hn, r_iconst_p, r_iconst_m, r_bipush_p, r_bipush_m, r_sipush_p, r_sipush_m, r_ldc_p, r_ldc_m, r_ldc_w_p, r_ldc_w_m, r_lconst_p, r_lconst_m, r_ldc2_w_p, r_ldc2_w_m, r_iload, r_iload_n, r_lload, r_lload_n, r_aload, r_aload_n, r_istore, r_istore_n, r_astore, r_astore_n, r_lstore, r_lstore_n, r_iinc_p, r_iinc_m, r_iadd, r_isub, r_imul, r_iand, r_ior, r_ixor, r_ishl, r_ishr, r_iushr, r_idiv, r_irem, r_ladd, r_lsub, r_lmul, r_ldiv, r_lrem, r_lshl, r_lcmp, r_i2l, r_i2b, r_i2s, r_dup_i, r_dup_r, r_dup2_ii, r_dup2_ir, r_dup2_l, r_pop, r_getfield, r_putfield, r_iaload, r_iastore, r_aaload, r_arraylength, r_if_eq, r_icmp_eq, r_if_ne, r_icmp_ne, r_if_lt, r_icmp_lt, r_if_ge, r_icmp_ge, r_if_gt, r_icmp_gt, r_if_le, r_icmp_le, r_goto, r_switch, r_ireturn0, r_ireturn1, r_lreturn, r_areturn, r_return, r_inv0, r_inv1, r_inv2, r_inv3, r_inv4, r_inv5, r_min, r_max, r_acopy, onI_s, onL_s, onR_s, onO_s, fv0, fv1, fv2, fv3, fp1, fp20, fp21, fp3, tl_s, tl_n, lg0, lg1, lg2, lg3, lg4, lg5, lg6, lg7, lg8, lg9, lg10, lg11, lg12, lg13, lg14, lg15, lg16, lg17, ls0, ls1, ls2, ls3, ls4, ls5, ls6, ls7, ls8, ls9, ls10, ls11, ls12, ls13, ls14, ls15, ls16, ls17, lk0, lk1, lk2, lk3, lk4, lk5, lk6, lk7, lk8, lk9, lk10, lk11, lk12, lk13, lk14, lk15, lk16, lk17, kl_n, kl_i, kl_r, kl_l, Nat.reduceAdd, r_ins0, r_ins1, r_ins2, r_ins3, r_ins4, r_ins5]
  have key : ∀ k i, i + k = n → WP 197 [] 1 [some (.ref c), some (.int x), some (.int (nI i)), some (.int (nI n))] [] (setC M c (fun j => if j < i then x else M c j)) (fun v N => v = none ∧ N = setC M c (fun i => if i < n then x else M c i)) := by
    intro k
    induction k with
    | zero =>
      intro i hi
      obtain rfl : i = n := by omega
      rw [B_197_1]
      simp only [B_197_0, B_197_2, hn, r_iconst_p, r_iconst_m, r_bipush_p, r_bipush_m, r_sipush_p, r_sipush_m, r_ldc_p, r_ldc_m, r_ldc_w_p, r_ldc_w_m, r_lconst_p, r_lconst_m, r_ldc2_w_p, r_ldc2_w_m, r_iload, r_iload_n, r_lload, r_lload_n, r_aload, r_aload_n, r_istore, r_istore_n, r_astore, r_astore_n, r_lstore, r_lstore_n, r_iinc_p, r_iinc_m, r_iadd, r_isub, r_imul, r_iand, r_ior, r_ixor, r_ishl, r_ishr, r_iushr, r_idiv, r_irem, r_ladd, r_lsub, r_lmul, r_ldiv, r_lrem, r_lshl, r_lcmp, r_i2l, r_i2b, r_i2s, r_dup_i, r_dup_r, r_dup2_ii, r_dup2_ir, r_dup2_l, r_pop, r_getfield, r_putfield, r_iaload, r_iastore, r_aaload, r_arraylength, r_if_eq, r_icmp_eq, r_if_ne, r_icmp_ne, r_if_lt, r_icmp_lt, r_if_ge, r_icmp_ge, r_if_gt, r_icmp_gt, r_if_le, r_icmp_le, r_goto, r_switch, r_ireturn0, r_ireturn1, r_lreturn, r_areturn, r_return, r_inv0, r_inv1, r_inv2, r_inv3, r_inv4, r_inv5, r_min, r_max, r_acopy, onI_s, onL_s, onR_s, onO_s, fv0, fv1, fv2, fv3, fp1, fp20, fp21, fp3, tl_s, tl_n, lg0, lg1, lg2, lg3, lg4, lg5, lg6, lg7, lg8, lg9, lg10, lg11, lg12, lg13, lg14, lg15, lg16, lg17, ls0, ls1, ls2, ls3, ls4, ls5, ls6, ls7, ls8, ls9, ls10, ls11, ls12, ls13, ls14, ls15, ls16, ls17, lk0, lk1, lk2, lk3, lk4, lk5, lk6, lk7, lk8, lk9, lk10, lk11, lk12, lk13, lk14, lk15, lk16, lk17, kl_n, kl_i, kl_r, kl_l, Nat.reduceAdd, r_ins0, r_ins1, r_ins2, r_ins3, r_ins4, r_ins5]
      rw [brc_pos (Int32.le_refl _)]
      simp
    | succ k ih =>
      intro i hi
      rw [B_197_1]
      simp only [B_197_0, B_197_2, hn, r_iconst_p, r_iconst_m, r_bipush_p, r_bipush_m, r_sipush_p, r_sipush_m, r_ldc_p, r_ldc_m, r_ldc_w_p, r_ldc_w_m, r_lconst_p, r_lconst_m, r_ldc2_w_p, r_ldc2_w_m, r_iload, r_iload_n, r_lload, r_lload_n, r_aload, r_aload_n, r_istore, r_istore_n, r_astore, r_astore_n, r_lstore, r_lstore_n, r_iinc_p, r_iinc_m, r_iadd, r_isub, r_imul, r_iand, r_ior, r_ixor, r_ishl, r_ishr, r_iushr, r_idiv, r_irem, r_ladd, r_lsub, r_lmul, r_ldiv, r_lrem, r_lshl, r_lcmp, r_i2l, r_i2b, r_i2s, r_dup_i, r_dup_r, r_dup2_ii, r_dup2_ir, r_dup2_l, r_pop, r_getfield, r_putfield, r_iaload, r_iastore, r_aaload, r_arraylength, r_if_eq, r_icmp_eq, r_if_ne, r_icmp_ne, r_if_lt, r_icmp_lt, r_if_ge, r_icmp_ge, r_if_gt, r_icmp_gt, r_if_le, r_icmp_le, r_goto, r_switch, r_ireturn0, r_ireturn1, r_lreturn, r_areturn, r_return, r_inv0, r_inv1, r_inv2, r_inv3, r_inv4, r_inv5, r_min, r_max, r_acopy, onI_s, onL_s, onR_s, onO_s, fv0, fv1, fv2, fv3, fp1, fp20, fp21, fp3, tl_s, tl_n, lg0, lg1, lg2, lg3, lg4, lg5, lg6, lg7, lg8, lg9, lg10, lg11, lg12, lg13, lg14, lg15, lg16, lg17, ls0, ls1, ls2, ls3, ls4, ls5, ls6, ls7, ls8, ls9, ls10, ls11, ls12, ls13, ls14, ls15, ls16, ls17, lk0, lk1, lk2, lk3, lk4, lk5, lk6, lk7, lk8, lk9, lk10, lk11, lk12, lk13, lk14, lk15, lk16, lk17, kl_n, kl_i, kl_r, kl_l, Nat.reduceAdd, r_ins0, r_ins1, r_ins2, r_ins3, r_ins4, r_ins5]
      rw [brc_neg (nI_ge (by omega) (by omega)), inb_n hn (by omega) hn2, nI_clamp (by omega)]
      refine ⟨by omega, ?_⟩
      have h := ih (i + 1) (by omega)
      rw [q_add]
      have e : stM (setC M c (fun j => if j < i then x else M c j)) c i x = setC M c (fun j => if j < i + 1 then x else M c j) := by
        unfold stM
        rw [msc_sc, msc_eq]
        congr 1
        funext j
        rw [u_if]
        by_cases h1 : j = i
        · rw [if_pos h1, if_pos (by omega)]
        · rw [if_neg h1]
          by_cases h2 : j < i
          · rw [if_pos h2, if_pos (by omega)]
          · rw [if_neg h2, if_neg (by omega)]
      rw [e]
      exact h
  have h0 := key n 0 (by omega)
  have e : setC M c (fun j => if j < 0 then x else M c j) = M := by simp [msc_id]
  rw [e] at h0
  exact h0
end
