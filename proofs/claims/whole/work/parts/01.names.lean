-- ===== PART A: goes FIRST, ahead of the names: the tables' words, and 'selects' of the private methods out of them =====
/-- a private method of a class that the tables say can be made, by its rows of tables_1 -/
def lw_okq (q : MethodName × Nat) : Prop := (q.1.cls ≠ "java/lang/invoke/MethodHandle" ∧ q.1.cls ≠ "java/lang/invoke/VarHandle") ∧ Cond.instantiable q.1.cls q.2 ∈ tables_1 ∧ Cond.privateMethod q.1 ∈ tables_1 ∧ Cond.instanceMethod q.1 ∈ tables_1
theorem lw_p0 : lw_okq (⟨"IslandThatLeans$PlanText", "takes", "(I)Z"⟩, 3) := ⟨⟨by decide +kernel, by decide +kernel⟩, List.mem_of_getElem? (i := 39) (by decide +kernel), List.mem_of_getElem? (i := 345) (by decide +kernel), List.mem_of_getElem? (i := 346) (by decide +kernel)⟩
theorem lw_p1 : lw_okq (⟨"IslandThatLeans$PlanText", "endsRow", "()Z"⟩, 3) := ⟨⟨by decide +kernel, by decide +kernel⟩, List.mem_of_getElem? (i := 39) (by decide +kernel), List.mem_of_getElem? (i := 349) (by decide +kernel), List.mem_of_getElem? (i := 350) (by decide +kernel)⟩
theorem lw_p2 : lw_okq (⟨"IslandThatLeans$Island", "addSquare", "(III)V"⟩, 7) := ⟨⟨by decide +kernel, by decide +kernel⟩, List.mem_of_getElem? (i := 55) (by decide +kernel), List.mem_of_getElem? (i := 385) (by decide +kernel), List.mem_of_getElem? (i := 386) (by decide +kernel)⟩
theorem lw_p3 : lw_okq (⟨"IslandThatLeans$Trades", "takeSquares", "(IIIII)V"⟩, 11) := ⟨⟨by decide +kernel, by decide +kernel⟩, List.mem_of_getElem? (i := 156) (by decide +kernel), List.mem_of_getElem? (i := 578) (by decide +kernel), List.mem_of_getElem? (i := 579) (by decide +kernel)⟩
theorem lw_p4 : lw_okq (⟨"IslandThatLeans$Trades", "judge", "(III)V"⟩, 11) := ⟨⟨by decide +kernel, by decide +kernel⟩, List.mem_of_getElem? (i := 156) (by decide +kernel), List.mem_of_getElem? (i := 582) (by decide +kernel), List.mem_of_getElem? (i := 583) (by decide +kernel)⟩
theorem lw_p5 : lw_okq (⟨"IslandThatLeans$Trades", "takeSquareOf", "(IIIIII)V"⟩, 11) := ⟨⟨by decide +kernel, by decide +kernel⟩, List.mem_of_getElem? (i := 156) (by decide +kernel), List.mem_of_getElem? (i := 595) (by decide +kernel), List.mem_of_getElem? (i := 596) (by decide +kernel)⟩
theorem lw_p6 : lw_okq (⟨"IslandThatLeans$Processions", "secondGoesFrom", "(I)Z"⟩, 7) := ⟨⟨by decide +kernel, by decide +kernel⟩, List.mem_of_getElem? (i := 128) (by decide +kernel), List.mem_of_getElem? (i := 638) (by decide +kernel), List.mem_of_getElem? (i := 639) (by decide +kernel)⟩
theorem lw_p7 : lw_okq (⟨"IslandThatLeans$Processions", "wetDoorsWithBoth", "(I)I"⟩, 7) := ⟨⟨by decide +kernel, by decide +kernel⟩, List.mem_of_getElem? (i := 128) (by decide +kernel), List.mem_of_getElem? (i := 645) (by decide +kernel), List.mem_of_getElem? (i := 646) (by decide +kernel)⟩
theorem lw_p8 : lw_okq (⟨"IslandThatLeans$Stones", "measureRooms", "()V"⟩, 6) := ⟨⟨by decide +kernel, by decide +kernel⟩, List.mem_of_getElem? (i := 196) (by decide +kernel), List.mem_of_getElem? (i := 674) (by decide +kernel), List.mem_of_getElem? (i := 675) (by decide +kernel)⟩
theorem lw_p9 : lw_okq (⟨"IslandThatLeans$Stones", "movesKeepDry", "(IIIII)Z"⟩, 6) := ⟨⟨by decide +kernel, by decide +kernel⟩, List.mem_of_getElem? (i := 196) (by decide +kernel), List.mem_of_getElem? (i := 688) (by decide +kernel), List.mem_of_getElem? (i := 689) (by decide +kernel)⟩
theorem lw_p10 : lw_okq (⟨"IslandThatLeans$Stones", "isDryWith", "(II)Z"⟩, 6) := ⟨⟨by decide +kernel, by decide +kernel⟩, List.mem_of_getElem? (i := 196) (by decide +kernel), List.mem_of_getElem? (i := 692) (by decide +kernel), List.mem_of_getElem? (i := 693) (by decide +kernel)⟩
theorem lw_p11 : lw_okq (⟨"IslandThatLeans$Stones", "isWetWith", "(III)Z"⟩, 6) := ⟨⟨by decide +kernel, by decide +kernel⟩, List.mem_of_getElem? (i := 196) (by decide +kernel), List.mem_of_getElem? (i := 696) (by decide +kernel), List.mem_of_getElem? (i := 697) (by decide +kernel)⟩
theorem lw_p12 : lw_okq (⟨"IslandThatLeans$Stones", "moveOfKeepsDry", "(IIIII)Z"⟩, 6) := ⟨⟨by decide +kernel, by decide +kernel⟩, List.mem_of_getElem? (i := 196) (by decide +kernel), List.mem_of_getElem? (i := 705) (by decide +kernel), List.mem_of_getElem? (i := 706) (by decide +kernel)⟩
theorem lw_p13 : lw_okq (⟨"IslandThatLeans$Stones", "keepMove", "(III)V"⟩, 6) := ⟨⟨by decide +kernel, by decide +kernel⟩, List.mem_of_getElem? (i := 196) (by decide +kernel), List.mem_of_getElem? (i := 713) (by decide +kernel), List.mem_of_getElem? (i := 714) (by decide +kernel)⟩
theorem lw_p14 : lw_okq (⟨"IslandThatLeans$Day", "wetDoorsAllDayWith", "(II)I"⟩, 4) := ⟨⟨by decide +kernel, by decide +kernel⟩, List.mem_of_getElem? (i := 109) (by decide +kernel), List.mem_of_getElem? (i := 731) (by decide +kernel), List.mem_of_getElem? (i := 732) (by decide +kernel)⟩
theorem lw_p15 : lw_okq (⟨"IslandThatLeans$Lates", "measureChanges", "(I)V"⟩, 6) := ⟨⟨by decide +kernel, by decide +kernel⟩, List.mem_of_getElem? (i := 221) (by decide +kernel), List.mem_of_getElem? (i := 748) (by decide +kernel), List.mem_of_getElem? (i := 749) (by decide +kernel)⟩
def lw_privs_1 : List (MethodName × Nat) := [(⟨"IslandThatLeans$PlanText", "takes", "(I)Z"⟩, 3), (⟨"IslandThatLeans$PlanText", "endsRow", "()Z"⟩, 3), (⟨"IslandThatLeans$Island", "addSquare", "(III)V"⟩, 7), (⟨"IslandThatLeans$Trades", "takeSquares", "(IIIII)V"⟩, 11), (⟨"IslandThatLeans$Trades", "judge", "(III)V"⟩, 11), (⟨"IslandThatLeans$Trades", "takeSquareOf", "(IIIIII)V"⟩, 11), (⟨"IslandThatLeans$Processions", "secondGoesFrom", "(I)Z"⟩, 7), (⟨"IslandThatLeans$Processions", "wetDoorsWithBoth", "(I)I"⟩, 7), (⟨"IslandThatLeans$Stones", "measureRooms", "()V"⟩, 6), (⟨"IslandThatLeans$Stones", "movesKeepDry", "(IIIII)Z"⟩, 6), (⟨"IslandThatLeans$Stones", "isDryWith", "(II)Z"⟩, 6), (⟨"IslandThatLeans$Stones", "isWetWith", "(III)Z"⟩, 6), (⟨"IslandThatLeans$Stones", "moveOfKeepsDry", "(IIIII)Z"⟩, 6), (⟨"IslandThatLeans$Stones", "keepMove", "(III)V"⟩, 6), (⟨"IslandThatLeans$Day", "wetDoorsAllDayWith", "(II)I"⟩, 4), (⟨"IslandThatLeans$Lates", "measureChanges", "(I)V"⟩, 6)]
theorem lw_r1 : ∀ q ∈ lw_privs_1, lw_okq q := List.forall_mem_cons.mpr ⟨lw_p0, List.forall_mem_cons.mpr ⟨lw_p1, List.forall_mem_cons.mpr ⟨lw_p2, List.forall_mem_cons.mpr ⟨lw_p3, List.forall_mem_cons.mpr ⟨lw_p4, List.forall_mem_cons.mpr ⟨lw_p5, List.forall_mem_cons.mpr ⟨lw_p6, List.forall_mem_cons.mpr ⟨lw_p7, List.forall_mem_cons.mpr ⟨lw_p8, List.forall_mem_cons.mpr ⟨lw_p9, List.forall_mem_cons.mpr ⟨lw_p10, List.forall_mem_cons.mpr ⟨lw_p11, List.forall_mem_cons.mpr ⟨lw_p12, List.forall_mem_cons.mpr ⟨lw_p13, List.forall_mem_cons.mpr ⟨lw_p14, List.forall_mem_cons.mpr ⟨lw_p15, fun _ h => absurd h List.not_mem_nil⟩⟩⟩⟩⟩⟩⟩⟩⟩⟩⟩⟩⟩⟩⟩⟩
theorem lw_p16 : lw_okq (⟨"IslandThatLeans$Lates", "wetDoorsIfLate", "(III)I"⟩, 6) := ⟨⟨by decide +kernel, by decide +kernel⟩, List.mem_of_getElem? (i := 221) (by decide +kernel), List.mem_of_getElem? (i := 759) (by decide +kernel), List.mem_of_getElem? (i := 760) (by decide +kernel)⟩
theorem lw_p17 : lw_okq (⟨"IslandThatLeans$Spots", "standAsIn", "(I)V"⟩, 4) := ⟨⟨by decide +kernel, by decide +kernel⟩, List.mem_of_getElem? (i := 246) (by decide +kernel), List.mem_of_getElem? (i := 776) (by decide +kernel), List.mem_of_getElem? (i := 777) (by decide +kernel)⟩
theorem lw_p18 : lw_okq (⟨"IslandThatLeans$Spots", "isSomeDoorWet", "()Z"⟩, 4) := ⟨⟨by decide +kernel, by decide +kernel⟩, List.mem_of_getElem? (i := 246) (by decide +kernel), List.mem_of_getElem? (i := 781) (by decide +kernel), List.mem_of_getElem? (i := 782) (by decide +kernel)⟩
theorem lw_p19 : lw_okq (⟨"IslandThatLeans$Spots", "peopleGoToMiddle", "()V"⟩, 4) := ⟨⟨by decide +kernel, by decide +kernel⟩, List.mem_of_getElem? (i := 246) (by decide +kernel), List.mem_of_getElem? (i := 789) (by decide +kernel), List.mem_of_getElem? (i := 790) (by decide +kernel)⟩
theorem lw_p20 : lw_okq (⟨"IslandThatLeans$Spots", "cowsGoAstray", "()V"⟩, 4) := ⟨⟨by decide +kernel, by decide +kernel⟩, List.mem_of_getElem? (i := 246) (by decide +kernel), List.mem_of_getElem? (i := 817) (by decide +kernel), List.mem_of_getElem? (i := 818) (by decide +kernel)⟩
theorem lw_p21 : lw_okq (⟨"IslandThatLeans$Spots", "drawOfACow", "()I"⟩, 4) := ⟨⟨by decide +kernel, by decide +kernel⟩, List.mem_of_getElem? (i := 246) (by decide +kernel), List.mem_of_getElem? (i := 821) (by decide +kernel), List.mem_of_getElem? (i := 822) (by decide +kernel)⟩
theorem lw_p22 : lw_okq (⟨"IslandThatLeans", "digestedThing", "(JI)J"⟩, 13) := ⟨⟨by decide +kernel, by decide +kernel⟩, List.mem_of_getElem? (i := 17) (by decide +kernel), List.mem_of_getElem? (i := 879) (by decide +kernel), List.mem_of_getElem? (i := 880) (by decide +kernel)⟩
theorem lw_p23 : lw_okq (⟨"IslandThatLeans", "digestedFindings", "(J)J"⟩, 13) := ⟨⟨by decide +kernel, by decide +kernel⟩, List.mem_of_getElem? (i := 17) (by decide +kernel), List.mem_of_getElem? (i := 883) (by decide +kernel), List.mem_of_getElem? (i := 884) (by decide +kernel)⟩
theorem lw_p24 : lw_okq (⟨"IslandThatLeansModel", "readPlan", "()V"⟩, 40) := ⟨⟨by decide +kernel, by decide +kernel⟩, List.mem_of_getElem? (i := 889) (by decide +kernel), List.mem_of_getElem? (i := 1033) (by decide +kernel), List.mem_of_getElem? (i := 1034) (by decide +kernel)⟩
theorem lw_p25 : lw_okq (⟨"IslandThatLeansModel", "readWay", "()V"⟩, 40) := ⟨⟨by decide +kernel, by decide +kernel⟩, List.mem_of_getElem? (i := 889) (by decide +kernel), List.mem_of_getElem? (i := 1037) (by decide +kernel), List.mem_of_getElem? (i := 1038) (by decide +kernel)⟩
theorem lw_p26 : lw_okq (⟨"IslandThatLeansModel", "isSquare", "(I)Z"⟩, 40) := ⟨⟨by decide +kernel, by decide +kernel⟩, List.mem_of_getElem? (i := 889) (by decide +kernel), List.mem_of_getElem? (i := 1052) (by decide +kernel), List.mem_of_getElem? (i := 1053) (by decide +kernel)⟩
theorem lw_p27 : lw_okq (⟨"IslandThatLeansModel", "eastOf", "(I)I"⟩, 40) := ⟨⟨by decide +kernel, by decide +kernel⟩, List.mem_of_getElem? (i := 889) (by decide +kernel), List.mem_of_getElem? (i := 1058) (by decide +kernel), List.mem_of_getElem? (i := 1059) (by decide +kernel)⟩
theorem lw_p28 : lw_okq (⟨"IslandThatLeansModel", "southOf", "(I)I"⟩, 40) := ⟨⟨by decide +kernel, by decide +kernel⟩, List.mem_of_getElem? (i := 889) (by decide +kernel), List.mem_of_getElem? (i := 1062) (by decide +kernel), List.mem_of_getElem? (i := 1063) (by decide +kernel)⟩
theorem lw_p29 : lw_okq (⟨"IslandThatLeansModel", "isThing", "(I)Z"⟩, 40) := ⟨⟨by decide +kernel, by decide +kernel⟩, List.mem_of_getElem? (i := 889) (by decide +kernel), List.mem_of_getElem? (i := 1074) (by decide +kernel), List.mem_of_getElem? (i := 1075) (by decide +kernel)⟩
theorem lw_p30 : lw_okq (⟨"IslandThatLeansModel", "weighs", "(I)I"⟩, 40) := ⟨⟨by decide +kernel, by decide +kernel⟩, List.mem_of_getElem? (i := 889) (by decide +kernel), List.mem_of_getElem? (i := 1078) (by decide +kernel), List.mem_of_getElem? (i := 1079) (by decide +kernel)⟩
theorem lw_p31 : lw_okq (⟨"IslandThatLeansModel", "isPerson", "(I)Z"⟩, 40) := ⟨⟨by decide +kernel, by decide +kernel⟩, List.mem_of_getElem? (i := 889) (by decide +kernel), List.mem_of_getElem? (i := 1093) (by decide +kernel), List.mem_of_getElem? (i := 1094) (by decide +kernel)⟩
def lw_privs_2 : List (MethodName × Nat) := [(⟨"IslandThatLeans$Lates", "wetDoorsIfLate", "(III)I"⟩, 6), (⟨"IslandThatLeans$Spots", "standAsIn", "(I)V"⟩, 4), (⟨"IslandThatLeans$Spots", "isSomeDoorWet", "()Z"⟩, 4), (⟨"IslandThatLeans$Spots", "peopleGoToMiddle", "()V"⟩, 4), (⟨"IslandThatLeans$Spots", "cowsGoAstray", "()V"⟩, 4), (⟨"IslandThatLeans$Spots", "drawOfACow", "()I"⟩, 4), (⟨"IslandThatLeans", "digestedThing", "(JI)J"⟩, 13), (⟨"IslandThatLeans", "digestedFindings", "(J)J"⟩, 13), (⟨"IslandThatLeansModel", "readPlan", "()V"⟩, 40), (⟨"IslandThatLeansModel", "readWay", "()V"⟩, 40), (⟨"IslandThatLeansModel", "isSquare", "(I)Z"⟩, 40), (⟨"IslandThatLeansModel", "eastOf", "(I)I"⟩, 40), (⟨"IslandThatLeansModel", "southOf", "(I)I"⟩, 40), (⟨"IslandThatLeansModel", "isThing", "(I)Z"⟩, 40), (⟨"IslandThatLeansModel", "weighs", "(I)I"⟩, 40), (⟨"IslandThatLeansModel", "isPerson", "(I)Z"⟩, 40)]
theorem lw_r2 : ∀ q ∈ lw_privs_2, lw_okq q := List.forall_mem_cons.mpr ⟨lw_p16, List.forall_mem_cons.mpr ⟨lw_p17, List.forall_mem_cons.mpr ⟨lw_p18, List.forall_mem_cons.mpr ⟨lw_p19, List.forall_mem_cons.mpr ⟨lw_p20, List.forall_mem_cons.mpr ⟨lw_p21, List.forall_mem_cons.mpr ⟨lw_p22, List.forall_mem_cons.mpr ⟨lw_p23, List.forall_mem_cons.mpr ⟨lw_p24, List.forall_mem_cons.mpr ⟨lw_p25, List.forall_mem_cons.mpr ⟨lw_p26, List.forall_mem_cons.mpr ⟨lw_p27, List.forall_mem_cons.mpr ⟨lw_p28, List.forall_mem_cons.mpr ⟨lw_p29, List.forall_mem_cons.mpr ⟨lw_p30, List.forall_mem_cons.mpr ⟨lw_p31, fun _ h => absurd h List.not_mem_nil⟩⟩⟩⟩⟩⟩⟩⟩⟩⟩⟩⟩⟩⟩⟩⟩
theorem lw_p32 : lw_okq (⟨"IslandThatLeansModel", "putAt", "(II)V"⟩, 40) := ⟨⟨by decide +kernel, by decide +kernel⟩, List.mem_of_getElem? (i := 889) (by decide +kernel), List.mem_of_getElem? (i := 1101) (by decide +kernel), List.mem_of_getElem? (i := 1102) (by decide +kernel)⟩
theorem lw_p33 : lw_okq (⟨"IslandThatLeansModel", "leanOf", "(IZ)I"⟩, 40) := ⟨⟨by decide +kernel, by decide +kernel⟩, List.mem_of_getElem? (i := 889) (by decide +kernel), List.mem_of_getElem? (i := 1113) (by decide +kernel), List.mem_of_getElem? (i := 1114) (by decide +kernel)⟩
theorem lw_p34 : lw_okq (⟨"IslandThatLeansModel", "wetIn", "(I)I"⟩, 40) := ⟨⟨by decide +kernel, by decide +kernel⟩, List.mem_of_getElem? (i := 889) (by decide +kernel), List.mem_of_getElem? (i := 1126) (by decide +kernel), List.mem_of_getElem? (i := 1127) (by decide +kernel)⟩
theorem lw_p35 : lw_okq (⟨"IslandThatLeansModel", "peopleMany", "()I"⟩, 40) := ⟨⟨by decide +kernel, by decide +kernel⟩, List.mem_of_getElem? (i := 889) (by decide +kernel), List.mem_of_getElem? (i := 1134) (by decide +kernel), List.mem_of_getElem? (i := 1135) (by decide +kernel)⟩
theorem lw_p36 : lw_okq (⟨"IslandThatLeansModel", "tradesNow", "(II)I"⟩, 40) := ⟨⟨by decide +kernel, by decide +kernel⟩, List.mem_of_getElem? (i := 889) (by decide +kernel), List.mem_of_getElem? (i := 1138) (by decide +kernel), List.mem_of_getElem? (i := 1139) (by decide +kernel)⟩
theorem lw_p37 : lw_okq (⟨"IslandThatLeansModel", "layPeople", "(I)V"⟩, 40) := ⟨⟨by decide +kernel, by decide +kernel⟩, List.mem_of_getElem? (i := 889) (by decide +kernel), List.mem_of_getElem? (i := 1142) (by decide +kernel), List.mem_of_getElem? (i := 1143) (by decide +kernel)⟩
theorem lw_p38 : lw_okq (⟨"IslandThatLeansModel", "tryTrade", "(II)V"⟩, 40) := ⟨⟨by decide +kernel, by decide +kernel⟩, List.mem_of_getElem? (i := 889) (by decide +kernel), List.mem_of_getElem? (i := 1147) (by decide +kernel), List.mem_of_getElem? (i := 1148) (by decide +kernel)⟩
theorem lw_p39 : lw_okq (⟨"IslandThatLeansModel", "nextTakes", "(I)Z"⟩, 40) := ⟨⟨by decide +kernel, by decide +kernel⟩, List.mem_of_getElem? (i := 889) (by decide +kernel), List.mem_of_getElem? (i := 1154) (by decide +kernel), List.mem_of_getElem? (i := 1155) (by decide +kernel)⟩
theorem lw_p40 : lw_okq (⟨"IslandThatLeansModel", "exchange", "(II)V"⟩, 40) := ⟨⟨by decide +kernel, by decide +kernel⟩, List.mem_of_getElem? (i := 889) (by decide +kernel), List.mem_of_getElem? (i := 1158) (by decide +kernel), List.mem_of_getElem? (i := 1159) (by decide +kernel)⟩
theorem lw_p41 : lw_okq (⟨"IslandThatLeansModel", "layWay", "(IIZ)Z"⟩, 40) := ⟨⟨by decide +kernel, by decide +kernel⟩, List.mem_of_getElem? (i := 889) (by decide +kernel), List.mem_of_getElem? (i := 1166) (by decide +kernel), List.mem_of_getElem? (i := 1167) (by decide +kernel)⟩
theorem lw_p42 : lw_okq (⟨"IslandThatLeansModel", "besideOf", "(II)I"⟩, 40) := ⟨⟨by decide +kernel, by decide +kernel⟩, List.mem_of_getElem? (i := 889) (by decide +kernel), List.mem_of_getElem? (i := 1170) (by decide +kernel), List.mem_of_getElem? (i := 1171) (by decide +kernel)⟩
theorem lw_p43 : lw_okq (⟨"IslandThatLeansModel", "wetWith", "(I)I"⟩, 40) := ⟨⟨by decide +kernel, by decide +kernel⟩, List.mem_of_getElem? (i := 889) (by decide +kernel), List.mem_of_getElem? (i := 1174) (by decide +kernel), List.mem_of_getElem? (i := 1175) (by decide +kernel)⟩
theorem lw_p44 : lw_okq (⟨"IslandThatLeansModel", "stonesNow", "(I)I"⟩, 40) := ⟨⟨by decide +kernel, by decide +kernel⟩, List.mem_of_getElem? (i := 889) (by decide +kernel), List.mem_of_getElem? (i := 1182) (by decide +kernel), List.mem_of_getElem? (i := 1183) (by decide +kernel)⟩
theorem lw_p45 : lw_okq (⟨"IslandThatLeansModel", "isDry", "()Z"⟩, 40) := ⟨⟨by decide +kernel, by decide +kernel⟩, List.mem_of_getElem? (i := 889) (by decide +kernel), List.mem_of_getElem? (i := 1186) (by decide +kernel), List.mem_of_getElem? (i := 1187) (by decide +kernel)⟩
theorem lw_p46 : lw_okq (⟨"IslandThatLeansModel", "helpsFrom", "(I)Z"⟩, 40) := ⟨⟨by decide +kernel, by decide +kernel⟩, List.mem_of_getElem? (i := 889) (by decide +kernel), List.mem_of_getElem? (i := 1190) (by decide +kernel), List.mem_of_getElem? (i := 1191) (by decide +kernel)⟩
theorem lw_p47 : lw_okq (⟨"IslandThatLeansModel", "helpTwo", "()Z"⟩, 40) := ⟨⟨by decide +kernel, by decide +kernel⟩, List.mem_of_getElem? (i := 889) (by decide +kernel), List.mem_of_getElem? (i := 1194) (by decide +kernel), List.mem_of_getElem? (i := 1195) (by decide +kernel)⟩
def lw_privs_3 : List (MethodName × Nat) := [(⟨"IslandThatLeansModel", "putAt", "(II)V"⟩, 40), (⟨"IslandThatLeansModel", "leanOf", "(IZ)I"⟩, 40), (⟨"IslandThatLeansModel", "wetIn", "(I)I"⟩, 40), (⟨"IslandThatLeansModel", "peopleMany", "()I"⟩, 40), (⟨"IslandThatLeansModel", "tradesNow", "(II)I"⟩, 40), (⟨"IslandThatLeansModel", "layPeople", "(I)V"⟩, 40), (⟨"IslandThatLeansModel", "tryTrade", "(II)V"⟩, 40), (⟨"IslandThatLeansModel", "nextTakes", "(I)Z"⟩, 40), (⟨"IslandThatLeansModel", "exchange", "(II)V"⟩, 40), (⟨"IslandThatLeansModel", "layWay", "(IIZ)Z"⟩, 40), (⟨"IslandThatLeansModel", "besideOf", "(II)I"⟩, 40), (⟨"IslandThatLeansModel", "wetWith", "(I)I"⟩, 40), (⟨"IslandThatLeansModel", "stonesNow", "(I)I"⟩, 40), (⟨"IslandThatLeansModel", "isDry", "()Z"⟩, 40), (⟨"IslandThatLeansModel", "helpsFrom", "(I)Z"⟩, 40), (⟨"IslandThatLeansModel", "helpTwo", "()Z"⟩, 40)]
theorem lw_r3 : ∀ q ∈ lw_privs_3, lw_okq q := List.forall_mem_cons.mpr ⟨lw_p32, List.forall_mem_cons.mpr ⟨lw_p33, List.forall_mem_cons.mpr ⟨lw_p34, List.forall_mem_cons.mpr ⟨lw_p35, List.forall_mem_cons.mpr ⟨lw_p36, List.forall_mem_cons.mpr ⟨lw_p37, List.forall_mem_cons.mpr ⟨lw_p38, List.forall_mem_cons.mpr ⟨lw_p39, List.forall_mem_cons.mpr ⟨lw_p40, List.forall_mem_cons.mpr ⟨lw_p41, List.forall_mem_cons.mpr ⟨lw_p42, List.forall_mem_cons.mpr ⟨lw_p43, List.forall_mem_cons.mpr ⟨lw_p44, List.forall_mem_cons.mpr ⟨lw_p45, List.forall_mem_cons.mpr ⟨lw_p46, List.forall_mem_cons.mpr ⟨lw_p47, fun _ h => absurd h List.not_mem_nil⟩⟩⟩⟩⟩⟩⟩⟩⟩⟩⟩⟩⟩⟩⟩⟩
theorem lw_p48 : lw_okq (⟨"IslandThatLeansModel", "siteNow", "(I)I"⟩, 40) := ⟨⟨by decide +kernel, by decide +kernel⟩, List.mem_of_getElem? (i := 889) (by decide +kernel), List.mem_of_getElem? (i := 1202) (by decide +kernel), List.mem_of_getElem? (i := 1203) (by decide +kernel)⟩
theorem lw_p49 : lw_okq (⟨"IslandThatLeansModel", "wetAll", "()I"⟩, 40) := ⟨⟨by decide +kernel, by decide +kernel⟩, List.mem_of_getElem? (i := 889) (by decide +kernel), List.mem_of_getElem? (i := 1206) (by decide +kernel), List.mem_of_getElem? (i := 1207) (by decide +kernel)⟩
theorem lw_p50 : lw_okq (⟨"IslandThatLeansModel", "lateNow", "(III)I"⟩, 40) := ⟨⟨by decide +kernel, by decide +kernel⟩, List.mem_of_getElem? (i := 889) (by decide +kernel), List.mem_of_getElem? (i := 1214) (by decide +kernel), List.mem_of_getElem? (i := 1215) (by decide +kernel)⟩
theorem lw_p51 : lw_okq (⟨"IslandThatLeansModel", "stormNow", "(I)I"⟩, 40) := ⟨⟨by decide +kernel, by decide +kernel⟩, List.mem_of_getElem? (i := 889) (by decide +kernel), List.mem_of_getElem? (i := 1225) (by decide +kernel), List.mem_of_getElem? (i := 1226) (by decide +kernel)⟩
theorem lw_p52 : lw_okq (⟨"IslandThatLeansModel", "keepStands", "(I)V"⟩, 40) := ⟨⟨by decide +kernel, by decide +kernel⟩, List.mem_of_getElem? (i := 889) (by decide +kernel), List.mem_of_getElem? (i := 1229) (by decide +kernel), List.mem_of_getElem? (i := 1230) (by decide +kernel)⟩
theorem lw_p53 : lw_okq (⟨"IslandThatLeansModel", "toMiddle", "(I)I"⟩, 40) := ⟨⟨by decide +kernel, by decide +kernel⟩, List.mem_of_getElem? (i := 889) (by decide +kernel), List.mem_of_getElem? (i := 1233) (by decide +kernel), List.mem_of_getElem? (i := 1234) (by decide +kernel)⟩
theorem lw_p54 : lw_okq (⟨"IslandThatLeansModel", "putStands", "(I)V"⟩, 40) := ⟨⟨by decide +kernel, by decide +kernel⟩, List.mem_of_getElem? (i := 889) (by decide +kernel), List.mem_of_getElem? (i := 1237) (by decide +kernel), List.mem_of_getElem? (i := 1238) (by decide +kernel)⟩
theorem lw_p55 : lw_okq (⟨"IslandThatLeansModel", "mossNow", "()I"⟩, 40) := ⟨⟨by decide +kernel, by decide +kernel⟩, List.mem_of_getElem? (i := 889) (by decide +kernel), List.mem_of_getElem? (i := 1245) (by decide +kernel), List.mem_of_getElem? (i := 1246) (by decide +kernel)⟩
theorem lw_p56 : lw_okq (⟨"IslandThatLeansModel", "cowsNow", "(IIII)I"⟩, 40) := ⟨⟨by decide +kernel, by decide +kernel⟩, List.mem_of_getElem? (i := 889) (by decide +kernel), List.mem_of_getElem? (i := 1253) (by decide +kernel), List.mem_of_getElem? (i := 1254) (by decide +kernel)⟩
theorem lw_p57 : lw_okq (⟨"IslandThatLeansModel", "stray", "(I)V"⟩, 40) := ⟨⟨by decide +kernel, by decide +kernel⟩, List.mem_of_getElem? (i := 889) (by decide +kernel), List.mem_of_getElem? (i := 1257) (by decide +kernel), List.mem_of_getElem? (i := 1258) (by decide +kernel)⟩
theorem lw_p58 : lw_okq (⟨"IslandThatLeansModel", "draw", "(I)I"⟩, 40) := ⟨⟨by decide +kernel, by decide +kernel⟩, List.mem_of_getElem? (i := 889) (by decide +kernel), List.mem_of_getElem? (i := 1261) (by decide +kernel), List.mem_of_getElem? (i := 1262) (by decide +kernel)⟩
theorem lw_p59 : lw_okq (⟨"IslandThatLeansModel", "howMany", "(I)I"⟩, 40) := ⟨⟨by decide +kernel, by decide +kernel⟩, List.mem_of_getElem? (i := 889) (by decide +kernel), List.mem_of_getElem? (i := 1281) (by decide +kernel), List.mem_of_getElem? (i := 1282) (by decide +kernel)⟩
theorem lw_p60 : lw_okq (⟨"IslandThatLeansModel", "doorMany", "()I"⟩, 40) := ⟨⟨by decide +kernel, by decide +kernel⟩, List.mem_of_getElem? (i := 889) (by decide +kernel), List.mem_of_getElem? (i := 1285) (by decide +kernel), List.mem_of_getElem? (i := 1286) (by decide +kernel)⟩
theorem lw_p61 : lw_okq (⟨"IslandThatLeansModel", "mix", "(J)V"⟩, 40) := ⟨⟨by decide +kernel, by decide +kernel⟩, List.mem_of_getElem? (i := 889) (by decide +kernel), List.mem_of_getElem? (i := 1294) (by decide +kernel), List.mem_of_getElem? (i := 1295) (by decide +kernel)⟩
theorem lw_p62 : lw_okq (⟨"IslandThatLeansModel", "mixThing", "(I)V"⟩, 40) := ⟨⟨by decide +kernel, by decide +kernel⟩, List.mem_of_getElem? (i := 889) (by decide +kernel), List.mem_of_getElem? (i := 1299) (by decide +kernel), List.mem_of_getElem? (i := 1300) (by decide +kernel)⟩
def lw_privs_4 : List (MethodName × Nat) := [(⟨"IslandThatLeansModel", "siteNow", "(I)I"⟩, 40), (⟨"IslandThatLeansModel", "wetAll", "()I"⟩, 40), (⟨"IslandThatLeansModel", "lateNow", "(III)I"⟩, 40), (⟨"IslandThatLeansModel", "stormNow", "(I)I"⟩, 40), (⟨"IslandThatLeansModel", "keepStands", "(I)V"⟩, 40), (⟨"IslandThatLeansModel", "toMiddle", "(I)I"⟩, 40), (⟨"IslandThatLeansModel", "putStands", "(I)V"⟩, 40), (⟨"IslandThatLeansModel", "mossNow", "()I"⟩, 40), (⟨"IslandThatLeansModel", "cowsNow", "(IIII)I"⟩, 40), (⟨"IslandThatLeansModel", "stray", "(I)V"⟩, 40), (⟨"IslandThatLeansModel", "draw", "(I)I"⟩, 40), (⟨"IslandThatLeansModel", "howMany", "(I)I"⟩, 40), (⟨"IslandThatLeansModel", "doorMany", "()I"⟩, 40), (⟨"IslandThatLeansModel", "mix", "(J)V"⟩, 40), (⟨"IslandThatLeansModel", "mixThing", "(I)V"⟩, 40)]
theorem lw_r4 : ∀ q ∈ lw_privs_4, lw_okq q := List.forall_mem_cons.mpr ⟨lw_p48, List.forall_mem_cons.mpr ⟨lw_p49, List.forall_mem_cons.mpr ⟨lw_p50, List.forall_mem_cons.mpr ⟨lw_p51, List.forall_mem_cons.mpr ⟨lw_p52, List.forall_mem_cons.mpr ⟨lw_p53, List.forall_mem_cons.mpr ⟨lw_p54, List.forall_mem_cons.mpr ⟨lw_p55, List.forall_mem_cons.mpr ⟨lw_p56, List.forall_mem_cons.mpr ⟨lw_p57, List.forall_mem_cons.mpr ⟨lw_p58, List.forall_mem_cons.mpr ⟨lw_p59, List.forall_mem_cons.mpr ⟨lw_p60, List.forall_mem_cons.mpr ⟨lw_p61, List.forall_mem_cons.mpr ⟨lw_p62, fun _ h => absurd h List.not_mem_nil⟩⟩⟩⟩⟩⟩⟩⟩⟩⟩⟩⟩⟩⟩⟩
def lw_privs : List (MethodName × Nat) := lw_privs_1 ++ (lw_privs_2 ++ (lw_privs_3 ++ (lw_privs_4)))
def lw_tbl : List Cond := k2_sels lw_privs ++ tables_1
theorem lw_privs_ok : ∀ q ∈ lw_privs, lw_okq q := by
  show ∀ q ∈ lw_privs_1 ++ (lw_privs_2 ++ (lw_privs_3 ++ (lw_privs_4))), lw_okq q
  exact List.forall_mem_append.mpr ⟨lw_r1, List.forall_mem_append.mpr ⟨lw_r2, List.forall_mem_append.mpr ⟨lw_r3, lw_r4⟩⟩⟩
-- ===== end of PART A; then your names; then what follows =====
def RX0 : String := "IslandThatLeans$Day"
def TX0 : u_T := fun k => match k with
  | 0 => ("IslandThatLeans$Day", "island", "LIslandThatLeans$Island;", true)
  | 1 => ("IslandThatLeans$Day", "things", "LIslandThatLeans$Things;", true)
  | 2 => ("IslandThatLeans$Day", "easts", "[I", true)
  | _ => ("IslandThatLeans$Day", "souths", "[I", true)
def tyX0 : Nat → FieldType := fun k => match k with
  | 0 => .object "IslandThatLeans$Island"
  | 1 => .object "IslandThatLeans$Things"
  | 2 => .array .int
  | _ => .array .int
theorem nmX0 : ∀ a, a < 4 → ∀ b, b < 4 → a ≠ b → (TX0 a).2.1 ≠ (TX0 b).2.1 := by decide +kernel
theorem tyX0_ok : ∀ k, k < 4 → parseFieldDescriptor (TX0 k).2.2.1 = some (tyX0 k) := by decide +kernel
abbrev cX0_init : ByteArray := prog_2_method_1_code
def yX0_init : MethodName := ⟨RX0, "<init>", "(LIslandThatLeans$Island;LIslandThatLeans$Things;)V"⟩
abbrev cX0_leanEast : ByteArray := prog_2_method_2_code
def yX0_leanEast : MethodName := ⟨RX0, "leanEast", "(I)I"⟩
abbrev cX0_leanSouth : ByteArray := prog_2_method_3_code
def yX0_leanSouth : MethodName := ⟨RX0, "leanSouth", "(I)I"⟩
abbrev cX0_wetIn : ByteArray := prog_2_method_4_code
def yX0_wetIn : MethodName := ⟨RX0, "wetIn", "(I)I"⟩
abbrev cX0_weigh : ByteArray := prog_2_method_5_code
def yX0_weigh : MethodName := ⟨RX0, "weigh", "()V"⟩
abbrev cX0_wetDoorsWith : ByteArray := prog_2_method_6_code
def yX0_wetDoorsWith : MethodName := ⟨RX0, "wetDoorsWith", "(III)I"⟩
abbrev cX0_greatestDip : ByteArray := prog_2_method_7_code
def yX0_greatestDip : MethodName := ⟨RX0, "greatestDip", "(I)I"⟩
abbrev cX0_driestSquareFor : ByteArray := prog_2_method_8_code
def yX0_driestSquareFor : MethodName := ⟨RX0, "driestSquareFor", "(I)I"⟩
abbrev cX0_wetDoorsAllDayWith : ByteArray := prog_2_method_9_code
def yX0_wetDoorsAllDayWith : MethodName := ⟨RX0, "wetDoorsAllDayWith", "(II)I"⟩
def RX1 : String := "IslandThatLeans$Island"
def TX1 : u_T := fun k => match k with
  | 0 => ("IslandThatLeans$Island", "heights", "[I", true)
  | 1 => ("IslandThatLeans$Island", "easts", "[I", true)
  | 2 => ("IslandThatLeans$Island", "souths", "[I", true)
  | 3 => ("IslandThatLeans$Island", "rows", "I", false)
  | 4 => ("IslandThatLeans$Island", "columns", "I", false)
  | 5 => ("IslandThatLeans$Island", "squares", "I", false)
  | _ => ("IslandThatLeans$Island", "doors", "I", false)
def tyX1 : Nat → FieldType := fun k => match k with
  | 0 => .array .int
  | 1 => .array .int
  | 2 => .array .int
  | 3 => .int
  | 4 => .int
  | 5 => .int
  | _ => .int
theorem nmX1 : ∀ a, a < 7 → ∀ b, b < 7 → a ≠ b → (TX1 a).2.1 ≠ (TX1 b).2.1 := by decide +kernel
theorem tyX1_ok : ∀ k, k < 7 → parseFieldDescriptor (TX1 k).2.2.1 = some (tyX1 k) := by decide +kernel
abbrev cX1_init : ByteArray := prog_3_method_1_code
def yX1_init : MethodName := ⟨RX1, "<init>", "()V"⟩
abbrev cX1_read : ByteArray := prog_3_method_2_code
def yX1_read : MethodName := ⟨RX1, "read", "(LIslandThatLeans$Page;II)V"⟩
abbrev cX1_addSquare : ByteArray := prog_3_method_3_code
def yX1_addSquare : MethodName := ⟨RX1, "addSquare", "(III)V"⟩
abbrev cX1_fromCentre : ByteArray := prog_3_method_4_code
def yX1_fromCentre : MethodName := ⟨RX1, "fromCentre", "(II)I"⟩
abbrev cX1_isThere : ByteArray := prog_3_method_5_code
def yX1_isThere : MethodName := ⟨RX1, "isThere", "()Z"⟩
abbrev cX1_squares : ByteArray := prog_3_method_6_code
def yX1_squares : MethodName := ⟨RX1, "squares", "()I"⟩
abbrev cX1_doors : ByteArray := prog_3_method_7_code
def yX1_doors : MethodName := ⟨RX1, "doors", "()I"⟩
abbrev cX1_has : ByteArray := prog_3_method_8_code
def yX1_has : MethodName := ⟨RX1, "has", "(I)Z"⟩
abbrev cX1_hasAll : ByteArray := prog_3_method_9_code
def yX1_hasAll : MethodName := ⟨RX1, "hasAll", "(I)Z"⟩
abbrev cX1_height : ByteArray := prog_3_method_10_code
def yX1_height : MethodName := ⟨RX1, "height", "(I)I"⟩
abbrev cX1_east : ByteArray := prog_3_method_11_code
def yX1_east : MethodName := ⟨RX1, "east", "(I)I"⟩
abbrev cX1_south : ByteArray := prog_3_method_12_code
def yX1_south : MethodName := ⟨RX1, "south", "(I)I"⟩
abbrev cX1_dipOf : ByteArray := prog_3_method_13_code
def yX1_dipOf : MethodName := ⟨RX1, "dipOf", "(III)I"⟩
abbrev cX1_wetDoors : ByteArray := prog_3_method_14_code
def yX1_wetDoors : MethodName := ⟨RX1, "wetDoors", "(II)I"⟩
abbrev cX1_wetDoorsTold : ByteArray := prog_3_method_15_code
def yX1_wetDoorsTold : MethodName := ⟨RX1, "wetDoorsTold", "(II)I"⟩
abbrev cX1_step : ByteArray := prog_3_method_16_code
def yX1_step : MethodName := ⟨RX1, "step", "(II)I"⟩
abbrev cX1_towardsMiddle : ByteArray := prog_3_method_17_code
def yX1_towardsMiddle : MethodName := ⟨RX1, "towardsMiddle", "(I)I"⟩
def RX2 : String := "IslandThatLeans$Lates"
def TX2 : u_T := fun k => match k with
  | 0 => ("IslandThatLeans$Lates", "island", "LIslandThatLeans$Island;", true)
  | 1 => ("IslandThatLeans$Lates", "things", "LIslandThatLeans$Things;", true)
  | 2 => ("IslandThatLeans$Lates", "day", "LIslandThatLeans$Day;", true)
  | 3 => ("IslandThatLeans$Lates", "found", "[I", true)
  | 4 => ("IslandThatLeans$Lates", "easts", "[I", true)
  | _ => ("IslandThatLeans$Lates", "souths", "[I", true)
def tyX2 : Nat → FieldType := fun k => match k with
  | 0 => .object "IslandThatLeans$Island"
  | 1 => .object "IslandThatLeans$Things"
  | 2 => .object "IslandThatLeans$Day"
  | 3 => .array .int
  | 4 => .array .int
  | _ => .array .int
theorem nmX2 : ∀ a, a < 6 → ∀ b, b < 6 → a ≠ b → (TX2 a).2.1 ≠ (TX2 b).2.1 := by decide +kernel
theorem tyX2_ok : ∀ k, k < 6 → parseFieldDescriptor (TX2 k).2.2.1 = some (tyX2 k) := by decide +kernel
abbrev cX2_init : ByteArray := prog_4_method_1_code
def yX2_init : MethodName := ⟨RX2, "<init>", "(LIslandThatLeans$Island;LIslandThatLeans$Things;LIslandThatLeans$Day;)V"⟩
abbrev cX2_found : ByteArray := prog_4_method_2_code
def yX2_found : MethodName := ⟨RX2, "found", "(I)I"⟩
abbrev cX2_search : ByteArray := prog_4_method_3_code
def yX2_search : MethodName := ⟨RX2, "search", "(II)V"⟩
abbrev cX2_measureChanges : ByteArray := prog_4_method_4_code
def yX2_measureChanges : MethodName := ⟨RX2, "measureChanges", "(I)V"⟩
abbrev cX2_wetDoorsIfLate : ByteArray := prog_4_method_5_code
def yX2_wetDoorsIfLate : MethodName := ⟨RX2, "wetDoorsIfLate", "(III)I"⟩
def RX3 : String := "IslandThatLeans$Page"
def TX3 : u_T := fun k => match k with
  | 0 => ("IslandThatLeans$Page", "signs", "[C", true)
  | _ => ("IslandThatLeans$Page", "length", "I", false)
def tyX3 : Nat → FieldType := fun k => match k with
  | 0 => .array .char
  | _ => .int
theorem nmX3 : ∀ a, a < 2 → ∀ b, b < 2 → a ≠ b → (TX3 a).2.1 ≠ (TX3 b).2.1 := by decide +kernel
theorem tyX3_ok : ∀ k, k < 2 → parseFieldDescriptor (TX3 k).2.2.1 = some (tyX3 k) := by decide +kernel
abbrev cX3_init : ByteArray := prog_5_method_1_code
def yX3_init : MethodName := ⟨RX3, "<init>", "()V"⟩
abbrev cX3_length : ByteArray := prog_5_method_2_code
def yX3_length : MethodName := ⟨RX3, "length", "()I"⟩
abbrev cX3_letter : ByteArray := prog_5_method_3_code
def yX3_letter : MethodName := ⟨RX3, "letter", "(I)I"⟩
abbrev cX3_clear : ByteArray := prog_5_method_4_code
def yX3_clear : MethodName := ⟨RX3, "clear", "()V"⟩
abbrev cX3_add : ByteArray := prog_5_method_5_code
def yX3_add : MethodName := ⟨RX3, "add", "(J)I"⟩
abbrev cX3_lettersTold : ByteArray := prog_5_method_6_code
def yX3_lettersTold : MethodName := ⟨RX3, "lettersTold", "(J)I"⟩
abbrev cX3_codeAt : ByteArray := prog_5_method_7_code
def yX3_codeAt : MethodName := ⟨RX3, "codeAt", "(JI)I"⟩
abbrev cX3_isWay : ByteArray := prog_5_method_8_code
def yX3_isWay : MethodName := ⟨RX3, "isWay", "()Z"⟩
abbrev cX3_wayFault : ByteArray := prog_5_method_9_code
def yX3_wayFault : MethodName := ⟨RX3, "wayFault", "()I"⟩
abbrev cX3_wayAt : ByteArray := prog_5_method_10_code
def yX3_wayAt : MethodName := ⟨RX3, "wayAt", "(I)I"⟩
def RX4 : String := "IslandThatLeans$PlanText"
def TX4 : u_T := fun k => match k with
  | 0 => ("IslandThatLeans$PlanText", "rows", "I", false)
  | 1 => ("IslandThatLeans$PlanText", "columns", "I", false)
  | _ => ("IslandThatLeans$PlanText", "inRow", "I", false)
def tyX4 : Nat → FieldType := fun k => match k with
  | 0 => .int
  | 1 => .int
  | _ => .int
theorem nmX4 : ∀ a, a < 3 → ∀ b, b < 3 → a ≠ b → (TX4 a).2.1 ≠ (TX4 b).2.1 := by decide +kernel
theorem tyX4_ok : ∀ k, k < 3 → parseFieldDescriptor (TX4 k).2.2.1 = some (tyX4 k) := by decide +kernel
abbrev cX4_init : ByteArray := prog_6_method_1_code
def yX4_init : MethodName := ⟨RX4, "<init>", "()V"⟩
abbrev cX4_rows : ByteArray := prog_6_method_2_code
def yX4_rows : MethodName := ⟨RX4, "rows", "()I"⟩
abbrev cX4_columns : ByteArray := prog_6_method_3_code
def yX4_columns : MethodName := ⟨RX4, "columns", "()I"⟩
abbrev cX4_isWhole : ByteArray := prog_6_method_4_code
def yX4_isWhole : MethodName := ⟨RX4, "isWhole", "(LIslandThatLeans$Page;)Z"⟩
abbrev cX4_faultIn : ByteArray := prog_6_method_5_code
def yX4_faultIn : MethodName := ⟨RX4, "faultIn", "(LIslandThatLeans$Page;)I"⟩
abbrev cX4_takes : ByteArray := prog_6_method_6_code
def yX4_takes : MethodName := ⟨RX4, "takes", "(I)Z"⟩
abbrev cX4_endsRow : ByteArray := prog_6_method_7_code
def yX4_endsRow : MethodName := ⟨RX4, "endsRow", "()Z"⟩
def RX5 : String := "IslandThatLeans$Processions"
def TX5 : u_T := fun k => match k with
  | 0 => ("IslandThatLeans$Processions", "page", "LIslandThatLeans$Page;", true)
  | 1 => ("IslandThatLeans$Processions", "island", "LIslandThatLeans$Island;", true)
  | 2 => ("IslandThatLeans$Processions", "day", "LIslandThatLeans$Day;", true)
  | 3 => ("IslandThatLeans$Processions", "first", "[I", true)
  | 4 => ("IslandThatLeans$Processions", "second", "[I", true)
  | 5 => ("IslandThatLeans$Processions", "start", "I", false)
  | _ => ("IslandThatLeans$Processions", "wetDoors", "I", false)
def tyX5 : Nat → FieldType := fun k => match k with
  | 0 => .object "IslandThatLeans$Page"
  | 1 => .object "IslandThatLeans$Island"
  | 2 => .object "IslandThatLeans$Day"
  | 3 => .array .int
  | 4 => .array .int
  | 5 => .int
  | _ => .int
theorem nmX5 : ∀ a, a < 7 → ∀ b, b < 7 → a ≠ b → (TX5 a).2.1 ≠ (TX5 b).2.1 := by decide +kernel
theorem tyX5_ok : ∀ k, k < 7 → parseFieldDescriptor (TX5 k).2.2.1 = some (tyX5 k) := by decide +kernel
abbrev cX5_init : ByteArray := prog_7_method_1_code
def yX5_init : MethodName := ⟨RX5, "<init>", "(LIslandThatLeans$Page;LIslandThatLeans$Island;LIslandThatLeans$Day;)V"⟩
abbrev cX5_start : ByteArray := prog_7_method_2_code
def yX5_start : MethodName := ⟨RX5, "start", "()I"⟩
abbrev cX5_wetDoors : ByteArray := prog_7_method_3_code
def yX5_wetDoors : MethodName := ⟨RX5, "wetDoors", "()I"⟩
abbrev cX5_firstGoesFrom : ByteArray := prog_7_method_4_code
def yX5_firstGoesFrom : MethodName := ⟨RX5, "firstGoesFrom", "(I)Z"⟩
abbrev cX5_secondGoesFrom : ByteArray := prog_7_method_5_code
def yX5_secondGoesFrom : MethodName := ⟨RX5, "secondGoesFrom", "(I)Z"⟩
abbrev cX5_turnedRound : ByteArray := prog_7_method_6_code
def yX5_turnedRound : MethodName := ⟨RX5, "turnedRound", "(I)I"⟩
abbrev cX5_search : ByteArray := prog_7_method_7_code
def yX5_search : MethodName := ⟨RX5, "search", "(I)V"⟩
abbrev cX5_wetDoorsWithBoth : ByteArray := prog_7_method_8_code
def yX5_wetDoorsWithBoth : MethodName := ⟨RX5, "wetDoorsWithBoth", "(I)I"⟩
def RX6 : String := "IslandThatLeans$Spots"
def TX6 : u_T := fun k => match k with
  | 0 => ("IslandThatLeans$Spots", "island", "LIslandThatLeans$Island;", true)
  | 1 => ("IslandThatLeans$Spots", "things", "LIslandThatLeans$Things;", true)
  | 2 => ("IslandThatLeans$Spots", "squares", "[I", true)
  | _ => ("IslandThatLeans$Spots", "seed", "J", false)
def tyX6 : Nat → FieldType := fun k => match k with
  | 0 => .object "IslandThatLeans$Island"
  | 1 => .object "IslandThatLeans$Things"
  | 2 => .array .int
  | _ => .long
theorem nmX6 : ∀ a, a < 4 → ∀ b, b < 4 → a ≠ b → (TX6 a).2.1 ≠ (TX6 b).2.1 := by decide +kernel
theorem tyX6_ok : ∀ k, k < 4 → parseFieldDescriptor (TX6 k).2.2.1 = some (tyX6 k) := by decide +kernel
abbrev cX6_init : ByteArray := prog_8_method_1_code
def yX6_init : MethodName := ⟨RX6, "<init>", "(LIslandThatLeans$Island;LIslandThatLeans$Things;)V"⟩
abbrev cX6_placeOf : ByteArray := prog_8_method_2_code
def yX6_placeOf : MethodName := ⟨RX6, "placeOf", "(I)I"⟩
abbrev cX6_seed : ByteArray := prog_8_method_3_code
def yX6_seed : MethodName := ⟨RX6, "seed", "()I"⟩
abbrev cX6_standAsIn : ByteArray := prog_8_method_4_code
def yX6_standAsIn : MethodName := ⟨RX6, "standAsIn", "(I)V"⟩
abbrev cX6_isSomeDoorWet : ByteArray := prog_8_method_5_code
def yX6_isSomeDoorWet : MethodName := ⟨RX6, "isSomeDoorWet", "()Z"⟩
abbrev cX6_dryMinuteOfStorm : ByteArray := prog_8_method_6_code
def yX6_dryMinuteOfStorm : MethodName := ⟨RX6, "dryMinuteOfStorm", "(I)I"⟩
abbrev cX6_peopleGoToMiddle : ByteArray := prog_8_method_7_code
def yX6_peopleGoToMiddle : MethodName := ⟨RX6, "peopleGoToMiddle", "()V"⟩
abbrev cX6_stray : ByteArray := prog_8_method_8_code
def yX6_stray : MethodName := ⟨RX6, "stray", "(III)I"⟩
abbrev cX6_cowsGoAstray : ByteArray := prog_8_method_9_code
def yX6_cowsGoAstray : MethodName := ⟨RX6, "cowsGoAstray", "()V"⟩
abbrev cX6_drawOfACow : ByteArray := prog_8_method_10_code
def yX6_drawOfACow : MethodName := ⟨RX6, "drawOfACow", "()I"⟩
def RX7 : String := "IslandThatLeans$Stones"
def TX7 : u_T := fun k => match k with
  | 0 => ("IslandThatLeans$Stones", "island", "LIslandThatLeans$Island;", true)
  | 1 => ("IslandThatLeans$Stones", "things", "LIslandThatLeans$Things;", true)
  | 2 => ("IslandThatLeans$Stones", "day", "LIslandThatLeans$Day;", true)
  | 3 => ("IslandThatLeans$Stones", "found", "[I", true)
  | 4 => ("IslandThatLeans$Stones", "rooms", "[I", true)
  | _ => ("IslandThatLeans$Stones", "lastWet", "I", false)
def tyX7 : Nat → FieldType := fun k => match k with
  | 0 => .object "IslandThatLeans$Island"
  | 1 => .object "IslandThatLeans$Things"
  | 2 => .object "IslandThatLeans$Day"
  | 3 => .array .int
  | 4 => .array .int
  | _ => .int
theorem nmX7 : ∀ a, a < 6 → ∀ b, b < 6 → a ≠ b → (TX7 a).2.1 ≠ (TX7 b).2.1 := by decide +kernel
theorem tyX7_ok : ∀ k, k < 6 → parseFieldDescriptor (TX7 k).2.2.1 = some (tyX7 k) := by decide +kernel
abbrev cX7_init : ByteArray := prog_9_method_1_code
def yX7_init : MethodName := ⟨RX7, "<init>", "(LIslandThatLeans$Island;LIslandThatLeans$Things;LIslandThatLeans$Day;)V"⟩
abbrev cX7_found : ByteArray := prog_9_method_2_code
def yX7_found : MethodName := ⟨RX7, "found", "(I)I"⟩
abbrev cX7_search : ByteArray := prog_9_method_3_code
def yX7_search : MethodName := ⟨RX7, "search", "()V"⟩
abbrev cX7_movesKeepDry : ByteArray := prog_9_method_4_code
def yX7_movesKeepDry : MethodName := ⟨RX7, "movesKeepDry", "(IIIII)Z"⟩
abbrev cX7_moveOfKeepsDry : ByteArray := prog_9_method_5_code
def yX7_moveOfKeepsDry : MethodName := ⟨RX7, "moveOfKeepsDry", "(IIIII)Z"⟩
abbrev cX7_keepMove : ByteArray := prog_9_method_6_code
def yX7_keepMove : MethodName := ⟨RX7, "keepMove", "(III)V"⟩
abbrev cX7_wetYear : ByteArray := prog_9_method_7_code
def yX7_wetYear : MethodName := ⟨RX7, "wetYear", "()I"⟩
abbrev cX7_measureRooms : ByteArray := prog_9_method_8_code
def yX7_measureRooms : MethodName := ⟨RX7, "measureRooms", "()V"⟩
abbrev cX7_isDryWith : ByteArray := prog_9_method_9_code
def yX7_isDryWith : MethodName := ⟨RX7, "isDryWith", "(II)Z"⟩
abbrev cX7_isWetWith : ByteArray := prog_9_method_10_code
def yX7_isWetWith : MethodName := ⟨RX7, "isWetWith", "(III)Z"⟩
def RX8 : String := "IslandThatLeans$Things"
def TX8 : u_T := fun k => match k with
  | 0 => ("IslandThatLeans$Things", "kinds", "[I", true)
  | 1 => ("IslandThatLeans$Things", "weights", "[I", true)
  | 2 => ("IslandThatLeans$Things", "places", "[I", true)
  | 3 => ("IslandThatLeans$Things", "keptPlaces", "[I", true)
  | 4 => ("IslandThatLeans$Things", "size", "I", false)
  | _ => ("IslandThatLeans$Things", "keptSize", "I", false)
def tyX8 : Nat → FieldType := fun k => match k with
  | 0 => .array .int
  | 1 => .array .int
  | 2 => .array .int
  | 3 => .array .int
  | 4 => .int
  | _ => .int
theorem nmX8 : ∀ a, a < 6 → ∀ b, b < 6 → a ≠ b → (TX8 a).2.1 ≠ (TX8 b).2.1 := by decide +kernel
theorem tyX8_ok : ∀ k, k < 6 → parseFieldDescriptor (TX8 k).2.2.1 = some (tyX8 k) := by decide +kernel
abbrev cX8_init : ByteArray := prog_10_method_1_code
def yX8_init : MethodName := ⟨RX8, "<init>", "()V"⟩
abbrev cX8_clear : ByteArray := prog_10_method_2_code
def yX8_clear : MethodName := ⟨RX8, "clear", "()V"⟩
abbrev cX8_size : ByteArray := prog_10_method_3_code
def yX8_size : MethodName := ⟨RX8, "size", "()I"⟩
abbrev cX8_has : ByteArray := prog_10_method_4_code
def yX8_has : MethodName := ⟨RX8, "has", "(I)Z"⟩
abbrev cX8_add : ByteArray := prog_10_method_5_code
def yX8_add : MethodName := ⟨RX8, "add", "(III)I"⟩
abbrev cX8_kind : ByteArray := prog_10_method_6_code
def yX8_kind : MethodName := ⟨RX8, "kind", "(I)I"⟩
abbrev cX8_weight : ByteArray := prog_10_method_7_code
def yX8_weight : MethodName := ⟨RX8, "weight", "(I)I"⟩
abbrev cX8_weighs : ByteArray := prog_10_method_8_code
def yX8_weighs : MethodName := ⟨RX8, "weighs", "(I)I"⟩
abbrev cX8_isA : ByteArray := prog_10_method_9_code
def yX8_isA : MethodName := ⟨RX8, "isA", "(II)Z"⟩
abbrev cX8_people : ByteArray := prog_10_method_10_code
def yX8_people : MethodName := ⟨RX8, "people", "()I"⟩
abbrev cX8_peopleBits : ByteArray := prog_10_method_11_code
def yX8_peopleBits : MethodName := ⟨RX8, "peopleBits", "()I"⟩
abbrev cX8_place : ByteArray := prog_10_method_12_code
def yX8_place : MethodName := ⟨RX8, "place", "(II)I"⟩
abbrev cX8_move : ByteArray := prog_10_method_13_code
def yX8_move : MethodName := ⟨RX8, "move", "(III)V"⟩
abbrev cX8_moveAllDay : ByteArray := prog_10_method_14_code
def yX8_moveAllDay : MethodName := ⟨RX8, "moveAllDay", "(II)V"⟩
abbrev cX8_keep : ByteArray := prog_10_method_15_code
def yX8_keep : MethodName := ⟨RX8, "keep", "()V"⟩
abbrev cX8_isKept : ByteArray := prog_10_method_16_code
def yX8_isKept : MethodName := ⟨RX8, "isKept", "()Z"⟩
abbrev cX8_goBack : ByteArray := prog_10_method_17_code
def yX8_goBack : MethodName := ⟨RX8, "goBack", "()V"⟩
def RX9 : String := "IslandThatLeans$Trades"
def TX9 : u_T := fun k => match k with
  | 0 => ("IslandThatLeans$Trades", "island", "LIslandThatLeans$Island;", true)
  | 1 => ("IslandThatLeans$Trades", "things", "LIslandThatLeans$Things;", true)
  | 2 => ("IslandThatLeans$Trades", "day", "LIslandThatLeans$Day;", true)
  | 3 => ("IslandThatLeans$Trades", "people", "[I", true)
  | 4 => ("IslandThatLeans$Trades", "squares", "[I", true)
  | 5 => ("IslandThatLeans$Trades", "taken", "[I", true)
  | 6 => ("IslandThatLeans$Trades", "best", "[I", true)
  | 7 => ("IslandThatLeans$Trades", "size", "I", false)
  | 8 => ("IslandThatLeans$Trades", "anyFound", "Z", false)
  | 9 => ("IslandThatLeans$Trades", "wetDoors", "I", false)
  | _ => ("IslandThatLeans$Trades", "elsewhere", "I", false)
def tyX9 : Nat → FieldType := fun k => match k with
  | 0 => .object "IslandThatLeans$Island"
  | 1 => .object "IslandThatLeans$Things"
  | 2 => .object "IslandThatLeans$Day"
  | 3 => .array .int
  | 4 => .array .int
  | 5 => .array .int
  | 6 => .array .int
  | 7 => .int
  | 8 => .boolean
  | 9 => .int
  | _ => .int
theorem nmX9 : ∀ a, a < 11 → ∀ b, b < 11 → a ≠ b → (TX9 a).2.1 ≠ (TX9 b).2.1 := by decide +kernel
theorem tyX9_ok : ∀ k, k < 11 → parseFieldDescriptor (TX9 k).2.2.1 = some (tyX9 k) := by decide +kernel
abbrev cX9_init : ByteArray := prog_11_method_1_code
def yX9_init : MethodName := ⟨RX9, "<init>", "(LIslandThatLeans$Island;LIslandThatLeans$Things;LIslandThatLeans$Day;)V"⟩
abbrev cX9_wetDoors : ByteArray := prog_11_method_2_code
def yX9_wetDoors : MethodName := ⟨RX9, "wetDoors", "()I"⟩
abbrev cX9_elsewhere : ByteArray := prog_11_method_3_code
def yX9_elsewhere : MethodName := ⟨RX9, "elsewhere", "()I"⟩
abbrev cX9_placeOf : ByteArray := prog_11_method_4_code
def yX9_placeOf : MethodName := ⟨RX9, "placeOf", "(I)I"⟩
abbrev cX9_search : ByteArray := prog_11_method_5_code
def yX9_search : MethodName := ⟨RX9, "search", "(I)V"⟩
abbrev cX9_takeSquares : ByteArray := prog_11_method_6_code
def yX9_takeSquares : MethodName := ⟨RX9, "takeSquares", "(IIIII)V"⟩
abbrev cX9_takeSquareOf : ByteArray := prog_11_method_7_code
def yX9_takeSquareOf : MethodName := ⟨RX9, "takeSquareOf", "(IIIIII)V"⟩
abbrev cX9_judge : ByteArray := prog_11_method_8_code
def yX9_judge : MethodName := ⟨RX9, "judge", "(III)V"⟩
def RX10 : String := "IslandThatLeans"
def TX10 : u_T := fun k => match k with
  | 0 => ("IslandThatLeans", "page", "LIslandThatLeans$Page;", true)
  | 1 => ("IslandThatLeans", "planText", "LIslandThatLeans$PlanText;", true)
  | 2 => ("IslandThatLeans", "island", "LIslandThatLeans$Island;", true)
  | 3 => ("IslandThatLeans", "things", "LIslandThatLeans$Things;", true)
  | 4 => ("IslandThatLeans", "day", "LIslandThatLeans$Day;", true)
  | 5 => ("IslandThatLeans", "processions", "LIslandThatLeans$Processions;", true)
  | 6 => ("IslandThatLeans", "trades", "LIslandThatLeans$Trades;", true)
  | 7 => ("IslandThatLeans", "stones", "LIslandThatLeans$Stones;", true)
  | 8 => ("IslandThatLeans", "lates", "LIslandThatLeans$Lates;", true)
  | 9 => ("IslandThatLeans", "spots", "LIslandThatLeans$Spots;", true)
  | 10 => ("IslandThatLeans", "plansRead", "I", false)
  | 11 => ("IslandThatLeans", "tradesDone", "I", false)
  | _ => ("IslandThatLeans", "stonesDone", "I", false)
def tyX10 : Nat → FieldType := fun k => match k with
  | 0 => .object "IslandThatLeans$Page"
  | 1 => .object "IslandThatLeans$PlanText"
  | 2 => .object "IslandThatLeans$Island"
  | 3 => .object "IslandThatLeans$Things"
  | 4 => .object "IslandThatLeans$Day"
  | 5 => .object "IslandThatLeans$Processions"
  | 6 => .object "IslandThatLeans$Trades"
  | 7 => .object "IslandThatLeans$Stones"
  | 8 => .object "IslandThatLeans$Lates"
  | 9 => .object "IslandThatLeans$Spots"
  | 10 => .int
  | 11 => .int
  | _ => .int
theorem nmX10 : ∀ a, a < 13 → ∀ b, b < 13 → a ≠ b → (TX10 a).2.1 ≠ (TX10 b).2.1 := by decide +kernel
theorem tyX10_ok : ∀ k, k < 13 → parseFieldDescriptor (TX10 k).2.2.1 = some (tyX10 k) := by decide +kernel
abbrev cX10_init : ByteArray := prog_1_method_1_code
def yX10_init : MethodName := ⟨RX10, "<init>", "()V"⟩
abbrev cX10_letters : ByteArray := prog_1_method_2_code
def yX10_letters : MethodName := ⟨RX10, "letters", "(J)I"⟩
abbrev cX10_blank : ByteArray := prog_1_method_3_code
def yX10_blank : MethodName := ⟨RX10, "blank", "()I"⟩
abbrev cX10_fault : ByteArray := prog_1_method_4_code
def yX10_fault : MethodName := ⟨RX10, "fault", "(I)I"⟩
abbrev cX10_plan : ByteArray := prog_1_method_5_code
def yX10_plan : MethodName := ⟨RX10, "plan", "()I"⟩
abbrev cX10_square : ByteArray := prog_1_method_6_code
def yX10_square : MethodName := ⟨RX10, "square", "(II)I"⟩
abbrev cX10_thing : ByteArray := prog_1_method_7_code
def yX10_thing : MethodName := ⟨RX10, "thing", "(III)I"⟩
abbrev cX10_about : ByteArray := prog_1_method_8_code
def yX10_about : MethodName := ⟨RX10, "about", "(II)I"⟩
abbrev cX10_as : ByteArray := prog_1_method_9_code
def yX10_as : MethodName := ⟨RX10, "as", "(II)I"⟩
abbrev cX10_stand : ByteArray := prog_1_method_10_code
def yX10_stand : MethodName := ⟨RX10, "stand", "(III)I"⟩
abbrev cX10_put : ByteArray := prog_1_method_11_code
def yX10_put : MethodName := ⟨RX10, "put", "(II)I"⟩
abbrev cX10_trade : ByteArray := prog_1_method_12_code
def yX10_trade : MethodName := ⟨RX10, "trade", "(III)I"⟩
abbrev cX10_leans : ByteArray := prog_1_method_13_code
def yX10_leans : MethodName := ⟨RX10, "leans", "(II)I"⟩
abbrev cX10_dip : ByteArray := prog_1_method_14_code
def yX10_dip : MethodName := ⟨RX10, "dip", "(II)I"⟩
abbrev cX10_wet : ByteArray := prog_1_method_15_code
def yX10_wet : MethodName := ⟨RX10, "wet", "(I)I"⟩
abbrev cX10_trades : ByteArray := prog_1_method_16_code
def yX10_trades : MethodName := ⟨RX10, "trades", "(II)I"⟩
abbrev cX10_counter : ByteArray := prog_1_method_17_code
def yX10_counter : MethodName := ⟨RX10, "counter", "(III)I"⟩
abbrev cX10_stones : ByteArray := prog_1_method_18_code
def yX10_stones : MethodName := ⟨RX10, "stones", "(I)I"⟩
abbrev cX10_site : ByteArray := prog_1_method_19_code
def yX10_site : MethodName := ⟨RX10, "site", "(I)I"⟩
abbrev cX10_late : ByteArray := prog_1_method_20_code
def yX10_late : MethodName := ⟨RX10, "late", "(III)I"⟩
abbrev cX10_storm : ByteArray := prog_1_method_21_code
def yX10_storm : MethodName := ⟨RX10, "storm", "(I)I"⟩
abbrev cX10_moss : ByteArray := prog_1_method_22_code
def yX10_moss : MethodName := ⟨RX10, "moss", "()I"⟩
abbrev cX10_cows : ByteArray := prog_1_method_23_code
def yX10_cows : MethodName := ⟨RX10, "cows", "(IIII)I"⟩
abbrev cX10_image : ByteArray := prog_1_method_24_code
def yX10_image : MethodName := ⟨RX10, "image", "()I"⟩
abbrev cX10_restore : ByteArray := prog_1_method_25_code
def yX10_restore : MethodName := ⟨RX10, "restore", "()I"⟩
abbrev cX10_count : ByteArray := prog_1_method_26_code
def yX10_count : MethodName := ⟨RX10, "count", "(I)I"⟩
abbrev cX10_digest : ByteArray := prog_1_method_27_code
def yX10_digest : MethodName := ⟨RX10, "digest", "()J"⟩
abbrev cX10_digested : ByteArray := prog_1_method_28_code
def yX10_digested : MethodName := ⟨RX10, "digested", "(JI)J"⟩
abbrev cX10_digestedThing : ByteArray := prog_1_method_29_code
def yX10_digestedThing : MethodName := ⟨RX10, "digestedThing", "(JI)J"⟩
abbrev cX10_digestedFindings : ByteArray := prog_1_method_30_code
def yX10_digestedFindings : MethodName := ⟨RX10, "digestedFindings", "(J)J"⟩
abbrev cX10_isQuarter : ByteArray := prog_1_method_31_code
def yX10_isQuarter : MethodName := ⟨RX10, "isQuarter", "(I)Z"⟩
abbrev cX10_isKind : ByteArray := prog_1_method_32_code
def yX10_isKind : MethodName := ⟨RX10, "isKind", "(I)Z"⟩
abbrev cX10_isWeight : ByteArray := prog_1_method_33_code
def yX10_isWeight : MethodName := ⟨RX10, "isWeight", "(I)Z"⟩
abbrev cX10_asksPlace : ByteArray := prog_1_method_34_code
def yX10_asksPlace : MethodName := ⟨RX10, "asksPlace", "(I)Z"⟩
def RX11 : String := "IslandThatLeansModel"
def TX11 : u_T := fun k => match k with
  | 0 => ("IslandThatLeansModel", "rows", "I", false)
  | 1 => ("IslandThatLeansModel", "wide", "I", false)
  | 2 => ("IslandThatLeansModel", "squares", "I", false)
  | 3 => ("IslandThatLeansModel", "plans", "I", false)
  | 4 => ("IslandThatLeansModel", "heightOf", "[I", true)
  | 5 => ("IslandThatLeansModel", "things", "I", false)
  | 6 => ("IslandThatLeansModel", "kindOf", "[I", true)
  | 7 => ("IslandThatLeansModel", "weightOf", "[I", true)
  | 8 => ("IslandThatLeansModel", "standsIn", "[I", true)
  | 9 => ("IslandThatLeansModel", "tradesDone", "I", false)
  | 10 => ("IslandThatLeansModel", "stonesDone", "I", false)
  | 11 => ("IslandThatLeansModel", "pageLength", "I", false)
  | 12 => ("IslandThatLeansModel", "page", "[B", true)
  | 13 => ("IslandThatLeansModel", "faultAt", "I", false)
  | 14 => ("IslandThatLeansModel", "isWhole", "Z", false)
  | 15 => ("IslandThatLeansModel", "newRows", "I", false)
  | 16 => ("IslandThatLeansModel", "newWide", "I", false)
  | 17 => ("IslandThatLeansModel", "newMany", "I", false)
  | 18 => ("IslandThatLeansModel", "newHeight", "[I", true)
  | 19 => ("IslandThatLeansModel", "moreEast", "I", false)
  | 20 => ("IslandThatLeansModel", "moreSouth", "I", false)
  | 21 => ("IslandThatLeansModel", "moss", "I", false)
  | 22 => ("IslandThatLeansModel", "person", "[I", true)
  | 23 => ("IslandThatLeansModel", "hadIn", "[I", true)
  | 24 => ("IslandThatLeansModel", "takes", "[I", true)
  | 25 => ("IslandThatLeansModel", "bestIn", "[I", true)
  | 26 => ("IslandThatLeansModel", "bestWet", "I", false)
  | 27 => ("IslandThatLeansModel", "bestMoved", "I", false)
  | 28 => ("IslandThatLeansModel", "wayOne", "[I", true)
  | 29 => ("IslandThatLeansModel", "wayTwo", "[I", true)
  | 30 => ("IslandThatLeansModel", "stoneOne", "I", false)
  | 31 => ("IslandThatLeansModel", "stoneOneAt", "I", false)
  | 32 => ("IslandThatLeansModel", "stoneTwo", "I", false)
  | 33 => ("IslandThatLeansModel", "stoneTwoAt", "I", false)
  | 34 => ("IslandThatLeansModel", "seedNow", "J", false)
  | 35 => ("IslandThatLeansModel", "isKept", "Z", false)
  | 36 => ("IslandThatLeansModel", "keptPlan", "I", false)
  | 37 => ("IslandThatLeansModel", "keptThings", "I", false)
  | 38 => ("IslandThatLeansModel", "keptIn", "[I", true)
  | _ => ("IslandThatLeansModel", "h", "J", false)
def tyX11 : Nat → FieldType := fun k => match k with
  | 0 => .int
  | 1 => .int
  | 2 => .int
  | 3 => .int
  | 4 => .array .int
  | 5 => .int
  | 6 => .array .int
  | 7 => .array .int
  | 8 => .array .int
  | 9 => .int
  | 10 => .int
  | 11 => .int
  | 12 => .array .byte
  | 13 => .int
  | 14 => .boolean
  | 15 => .int
  | 16 => .int
  | 17 => .int
  | 18 => .array .int
  | 19 => .int
  | 20 => .int
  | 21 => .int
  | 22 => .array .int
  | 23 => .array .int
  | 24 => .array .int
  | 25 => .array .int
  | 26 => .int
  | 27 => .int
  | 28 => .array .int
  | 29 => .array .int
  | 30 => .int
  | 31 => .int
  | 32 => .int
  | 33 => .int
  | 34 => .long
  | 35 => .boolean
  | 36 => .int
  | 37 => .int
  | 38 => .array .int
  | _ => .long
theorem nmX11 : ∀ a, a < 40 → ∀ b, b < 40 → a ≠ b → (TX11 a).2.1 ≠ (TX11 b).2.1 := by decide +kernel
theorem tyX11_ok : ∀ k, k < 40 → parseFieldDescriptor (TX11 k).2.2.1 = some (tyX11 k) := by decide +kernel
abbrev cX11_init : ByteArray := prog_13_method_1_code
def yX11_init : MethodName := ⟨RX11, "<init>", "()V"⟩
abbrev cX11_within : ByteArray := prog_13_method_3_code
def yX11_within : MethodName := ⟨RX11, "within", "(III)Z"⟩
abbrev cX11_has : ByteArray := prog_13_method_4_code
def yX11_has : MethodName := ⟨RX11, "has", "(II)Z"⟩
abbrev cX11_letters : ByteArray := prog_13_method_5_code
def yX11_letters : MethodName := ⟨RX11, "letters", "(J)I"⟩
abbrev cX11_blank : ByteArray := prog_13_method_6_code
def yX11_blank : MethodName := ⟨RX11, "blank", "()I"⟩
abbrev cX11_readPlan : ByteArray := prog_13_method_7_code
def yX11_readPlan : MethodName := ⟨RX11, "readPlan", "()V"⟩
abbrev cX11_wayBy : ByteArray := prog_13_method_8_code
def yX11_wayBy : MethodName := ⟨RX11, "wayBy", "(I)I"⟩
abbrev cX11_readWay : ByteArray := prog_13_method_9_code
def yX11_readWay : MethodName := ⟨RX11, "readWay", "()V"⟩
abbrev cX11_fault : ByteArray := prog_13_method_10_code
def yX11_fault : MethodName := ⟨RX11, "fault", "(I)I"⟩
abbrev cX11_plan : ByteArray := prog_13_method_11_code
def yX11_plan : MethodName := ⟨RX11, "plan", "()I"⟩
abbrev cX11_isSquare : ByteArray := prog_13_method_12_code
def yX11_isSquare : MethodName := ⟨RX11, "isSquare", "(I)Z"⟩
abbrev cX11_eastOf : ByteArray := prog_13_method_13_code
def yX11_eastOf : MethodName := ⟨RX11, "eastOf", "(I)I"⟩
abbrev cX11_southOf : ByteArray := prog_13_method_14_code
def yX11_southOf : MethodName := ⟨RX11, "southOf", "(I)I"⟩
abbrev cX11_square : ByteArray := prog_13_method_15_code
def yX11_square : MethodName := ⟨RX11, "square", "(II)I"⟩
abbrev cX11_isThing : ByteArray := prog_13_method_16_code
def yX11_isThing : MethodName := ⟨RX11, "isThing", "(I)Z"⟩
abbrev cX11_isQuarter : ByteArray := prog_13_method_17_code
def yX11_isQuarter : MethodName := ⟨RX11, "isQuarter", "(I)Z"⟩
abbrev cX11_isPerson : ByteArray := prog_13_method_18_code
def yX11_isPerson : MethodName := ⟨RX11, "isPerson", "(I)Z"⟩
abbrev cX11_thing : ByteArray := prog_13_method_19_code
def yX11_thing : MethodName := ⟨RX11, "thing", "(III)I"⟩
abbrev cX11_weighs : ByteArray := prog_13_method_20_code
def yX11_weighs : MethodName := ⟨RX11, "weighs", "(I)I"⟩
abbrev cX11_about : ByteArray := prog_13_method_21_code
def yX11_about : MethodName := ⟨RX11, "about", "(II)I"⟩
abbrev cX11_as : ByteArray := prog_13_method_22_code
def yX11_as : MethodName := ⟨RX11, "as", "(II)I"⟩
abbrev cX11_stand : ByteArray := prog_13_method_23_code
def yX11_stand : MethodName := ⟨RX11, "stand", "(III)I"⟩
abbrev cX11_putAt : ByteArray := prog_13_method_24_code
def yX11_putAt : MethodName := ⟨RX11, "putAt", "(II)V"⟩
abbrev cX11_put : ByteArray := prog_13_method_25_code
def yX11_put : MethodName := ⟨RX11, "put", "(II)I"⟩
abbrev cX11_trade : ByteArray := prog_13_method_26_code
def yX11_trade : MethodName := ⟨RX11, "trade", "(III)I"⟩
abbrev cX11_leanOf : ByteArray := prog_13_method_27_code
def yX11_leanOf : MethodName := ⟨RX11, "leanOf", "(IZ)I"⟩
abbrev cX11_leans : ByteArray := prog_13_method_28_code
def yX11_leans : MethodName := ⟨RX11, "leans", "(II)I"⟩
abbrev cX11_dip : ByteArray := prog_13_method_29_code
def yX11_dip : MethodName := ⟨RX11, "dip", "(II)I"⟩
abbrev cX11_wetIn : ByteArray := prog_13_method_30_code
def yX11_wetIn : MethodName := ⟨RX11, "wetIn", "(I)I"⟩
abbrev cX11_size : ByteArray := prog_13_method_31_code
def yX11_size : MethodName := ⟨RX11, "size", "(I)I"⟩
abbrev cX11_wet : ByteArray := prog_13_method_32_code
def yX11_wet : MethodName := ⟨RX11, "wet", "(I)I"⟩
abbrev cX11_wetAll : ByteArray := prog_13_method_33_code
def yX11_wetAll : MethodName := ⟨RX11, "wetAll", "()I"⟩
abbrev cX11_peopleMany : ByteArray := prog_13_method_34_code
def yX11_peopleMany : MethodName := ⟨RX11, "peopleMany", "()I"⟩
abbrev cX11_layPeople : ByteArray := prog_13_method_35_code
def yX11_layPeople : MethodName := ⟨RX11, "layPeople", "(I)V"⟩
abbrev cX11_exchange : ByteArray := prog_13_method_36_code
def yX11_exchange : MethodName := ⟨RX11, "exchange", "(II)V"⟩
abbrev cX11_nextTakes : ByteArray := prog_13_method_37_code
def yX11_nextTakes : MethodName := ⟨RX11, "nextTakes", "(I)Z"⟩
abbrev cX11_tryTrade : ByteArray := prog_13_method_38_code
def yX11_tryTrade : MethodName := ⟨RX11, "tryTrade", "(II)V"⟩
abbrev cX11_tradesNow : ByteArray := prog_13_method_39_code
def yX11_tradesNow : MethodName := ⟨RX11, "tradesNow", "(II)I"⟩
abbrev cX11_trades : ByteArray := prog_13_method_40_code
def yX11_trades : MethodName := ⟨RX11, "trades", "(II)I"⟩
abbrev cX11_besideOf : ByteArray := prog_13_method_41_code
def yX11_besideOf : MethodName := ⟨RX11, "besideOf", "(II)I"⟩
abbrev cX11_layWay : ByteArray := prog_13_method_42_code
def yX11_layWay : MethodName := ⟨RX11, "layWay", "(IIZ)Z"⟩
abbrev cX11_wetWith : ByteArray := prog_13_method_43_code
def yX11_wetWith : MethodName := ⟨RX11, "wetWith", "(I)I"⟩
abbrev cX11_counter : ByteArray := prog_13_method_44_code
def yX11_counter : MethodName := ⟨RX11, "counter", "(III)I"⟩
abbrev cX11_isDry : ByteArray := prog_13_method_45_code
def yX11_isDry : MethodName := ⟨RX11, "isDry", "()Z"⟩
abbrev cX11_helpsFrom : ByteArray := prog_13_method_46_code
def yX11_helpsFrom : MethodName := ⟨RX11, "helpsFrom", "(I)Z"⟩
abbrev cX11_helpTwo : ByteArray := prog_13_method_47_code
def yX11_helpTwo : MethodName := ⟨RX11, "helpTwo", "()Z"⟩
abbrev cX11_stonesNow : ByteArray := prog_13_method_48_code
def yX11_stonesNow : MethodName := ⟨RX11, "stonesNow", "(I)I"⟩
abbrev cX11_stones : ByteArray := prog_13_method_49_code
def yX11_stones : MethodName := ⟨RX11, "stones", "(I)I"⟩
abbrev cX11_siteNow : ByteArray := prog_13_method_50_code
def yX11_siteNow : MethodName := ⟨RX11, "siteNow", "(I)I"⟩
abbrev cX11_site : ByteArray := prog_13_method_51_code
def yX11_site : MethodName := ⟨RX11, "site", "(I)I"⟩
abbrev cX11_lateNow : ByteArray := prog_13_method_52_code
def yX11_lateNow : MethodName := ⟨RX11, "lateNow", "(III)I"⟩
abbrev cX11_late : ByteArray := prog_13_method_53_code
def yX11_late : MethodName := ⟨RX11, "late", "(III)I"⟩
abbrev cX11_toMiddle : ByteArray := prog_13_method_54_code
def yX11_toMiddle : MethodName := ⟨RX11, "toMiddle", "(I)I"⟩
abbrev cX11_keepStands : ByteArray := prog_13_method_55_code
def yX11_keepStands : MethodName := ⟨RX11, "keepStands", "(I)V"⟩
abbrev cX11_putStands : ByteArray := prog_13_method_56_code
def yX11_putStands : MethodName := ⟨RX11, "putStands", "(I)V"⟩
abbrev cX11_stormNow : ByteArray := prog_13_method_57_code
def yX11_stormNow : MethodName := ⟨RX11, "stormNow", "(I)I"⟩
abbrev cX11_storm : ByteArray := prog_13_method_58_code
def yX11_storm : MethodName := ⟨RX11, "storm", "(I)I"⟩
abbrev cX11_mossNow : ByteArray := prog_13_method_59_code
def yX11_mossNow : MethodName := ⟨RX11, "mossNow", "()I"⟩
abbrev cX11_moss : ByteArray := prog_13_method_60_code
def yX11_moss : MethodName := ⟨RX11, "moss", "()I"⟩
abbrev cX11_draw : ByteArray := prog_13_method_61_code
def yX11_draw : MethodName := ⟨RX11, "draw", "(I)I"⟩
abbrev cX11_stray : ByteArray := prog_13_method_62_code
def yX11_stray : MethodName := ⟨RX11, "stray", "(I)V"⟩
abbrev cX11_cowsNow : ByteArray := prog_13_method_63_code
def yX11_cowsNow : MethodName := ⟨RX11, "cowsNow", "(IIII)I"⟩
abbrev cX11_cows : ByteArray := prog_13_method_64_code
def yX11_cows : MethodName := ⟨RX11, "cows", "(IIII)I"⟩
abbrev cX11_image : ByteArray := prog_13_method_65_code
def yX11_image : MethodName := ⟨RX11, "image", "()I"⟩
abbrev cX11_restore : ByteArray := prog_13_method_66_code
def yX11_restore : MethodName := ⟨RX11, "restore", "()I"⟩
abbrev cX11_doorMany : ByteArray := prog_13_method_67_code
def yX11_doorMany : MethodName := ⟨RX11, "doorMany", "()I"⟩
abbrev cX11_howMany : ByteArray := prog_13_method_68_code
def yX11_howMany : MethodName := ⟨RX11, "howMany", "(I)I"⟩
abbrev cX11_count : ByteArray := prog_13_method_69_code
def yX11_count : MethodName := ⟨RX11, "count", "(I)I"⟩
abbrev cX11_mix : ByteArray := prog_13_method_70_code
def yX11_mix : MethodName := ⟨RX11, "mix", "(J)V"⟩
abbrev cX11_mixThing : ByteArray := prog_13_method_71_code
def yX11_mixThing : MethodName := ⟨RX11, "mixThing", "(I)V"⟩
abbrev cX11_digest : ByteArray := prog_13_method_72_code
def yX11_digest : MethodName := ⟨RX11, "digest", "()J"⟩
def RJ6 : String := "java/lang/Integer"
def TJ6 : u_T := fun k => match k with
  | _ => ("", "", "", false)
def tyJ6 : Nat → FieldType := fun k => match k with
  | _ => .int
theorem nmJ6 : ∀ a, a < 0 → ∀ b, b < 0 → a ≠ b → (TJ6 a).2.1 ≠ (TJ6 b).2.1 := by decide +kernel
theorem tyJ6_ok : ∀ k, k < 0 → parseFieldDescriptor (TJ6 k).2.2.1 = some (tyJ6 k) := by decide +kernel
abbrev cJ6_bitCount_0f7a4 : ByteArray := prog_14_method_49_code
def yJ6_bitCount_0f7a4 : MethodName := ⟨RJ6, "bitCount", "(I)I"⟩
def RJ9 : String := "java/lang/Math"
def TJ9 : u_T := fun k => match k with
  | _ => ("", "", "", false)
def tyJ9 : Nat → FieldType := fun k => match k with
  | _ => .int
theorem nmJ9 : ∀ a, a < 0 → ∀ b, b < 0 → a ≠ b → (TJ9 a).2.1 ≠ (TJ9 b).2.1 := by decide +kernel
theorem tyJ9_ok : ∀ k, k < 0 → parseFieldDescriptor (TJ9 k).2.2.1 = some (tyJ9 k) := by decide +kernel
abbrev cJ9_max_7cf53 : ByteArray := prog_15_method_65_code
def yJ9_max_7cf53 : MethodName := ⟨RJ9, "max", "(II)I"⟩
def RJ10 : String := "java/lang/System"
def TJ10 : u_T := fun k => match k with
  | _ => ("", "", "", false)
def tyJ10 : Nat → FieldType := fun k => match k with
  | _ => .int
theorem nmJ10 : ∀ a, a < 0 → ∀ b, b < 0 → a ≠ b → (TJ10 a).2.1 ≠ (TJ10 b).2.1 := by decide +kernel
theorem tyJ10_ok : ∀ k, k < 0 → parseFieldDescriptor (TJ10 k).2.2.1 = some (tyJ10 k) := by decide +kernel
def RL : String := "IslandThatLeansLaw"
abbrev cL_law : ByteArray := code
def yL_law : MethodName := ⟨RL, "law", "([I)Z"⟩
