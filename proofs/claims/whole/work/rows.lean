section
-- ===== PART A: goes FIRST, ahead of the names: the tables' words, and 'selects' of the private methods out of them =====
/-- a private method of a class that the tables say can be made, by its rows of tables_1 -/
def lw_okq (q : MethodName × Nat) : Prop := (q.1.cls ≠ "java/lang/invoke/MethodHandle" ∧ q.1.cls ≠ "java/lang/invoke/VarHandle") ∧ Cond.instantiable q.1.cls q.2 ∈ tables_1 ∧ Cond.privateMethod q.1 ∈ tables_1 ∧ Cond.instanceMethod q.1 ∈ tables_1
theorem lw_p0 : lw_okq (⟨"IslandThatLeans$PlanText", "takes", "(I)Z"⟩, 3) := ⟨⟨by decide +kernel, by decide +kernel⟩, List.mem_of_getElem? (i := 39) (by decide +kernel), List.mem_of_getElem? (i := 345) (by decide +kernel), List.mem_of_getElem? (i := 346) (by decide +kernel)⟩
theorem lw_p1 : lw_okq (⟨"IslandThatLeans$PlanText", "endsRow", "()Z"⟩, 3) := ⟨⟨by decide +kernel, by decide +kernel⟩, List.mem_of_getElem? (i := 39) (by decide +kernel), List.mem_of_getElem? (i := 349) (by decide +kernel), List.mem_of_getElem? (i := 350) (by decide +kernel)⟩
theorem lw_p2 : lw_okq (⟨"IslandThatLeans$Island", "addSquare", "(III)V"⟩, 7) := ⟨⟨by decide +kernel, by decide +kernel⟩, List.mem_of_getElem? (i := 55) (by decide +kernel), List.mem_of_getElem? (i := 385) (by decide +kernel), List.mem_of_getElem? (i := 386) (by decide +kernel)⟩
theorem lw_p3 : lw_okq (⟨"IslandThatLeans$Trades", "takeSquares", "(IIIII)V"⟩, 11) := ⟨⟨by decide +kernel, by decide +kernel⟩, List.mem_of_getElem? (i := 156) (by decide +kernel), List.mem_of_getElem? (i := 578) (by decide +kernel), List.mem_of_getElem? (i := 579) (by decide +kernel)⟩
theorem lw_p4 : lw_okq (⟨"IslandThatLeans$Trades", "judge", "(III)V"⟩, 11) := ⟨⟨by decide +kernel, by decide +kernel⟩, List.mem_of_getElem? (i := 156) (by decide +kernel), List.mem_of_getElem? (i := 582) (by decide +kernel), List.mem_of_getElem? (i := 583) (by decide +kernel)⟩
theorem lw_p5 : lw_okq (⟨"IslandThatLeans$Processions", "secondGoesFrom", "(I)Z"⟩, 7) := ⟨⟨by decide +kernel, by decide +kernel⟩, List.mem_of_getElem? (i := 128) (by decide +kernel), List.mem_of_getElem? (i := 634) (by decide +kernel), List.mem_of_getElem? (i := 635) (by decide +kernel)⟩
theorem lw_p6 : lw_okq (⟨"IslandThatLeans$Processions", "wetDoorsWithBoth", "(I)I"⟩, 7) := ⟨⟨by decide +kernel, by decide +kernel⟩, List.mem_of_getElem? (i := 128) (by decide +kernel), List.mem_of_getElem? (i := 641) (by decide +kernel), List.mem_of_getElem? (i := 642) (by decide +kernel)⟩
theorem lw_p7 : lw_okq (⟨"IslandThatLeans$Stones", "measureRooms", "()V"⟩, 6) := ⟨⟨by decide +kernel, by decide +kernel⟩, List.mem_of_getElem? (i := 196) (by decide +kernel), List.mem_of_getElem? (i := 670) (by decide +kernel), List.mem_of_getElem? (i := 671) (by decide +kernel)⟩
theorem lw_p8 : lw_okq (⟨"IslandThatLeans$Stones", "movesKeepDry", "(IIIII)Z"⟩, 6) := ⟨⟨by decide +kernel, by decide +kernel⟩, List.mem_of_getElem? (i := 196) (by decide +kernel), List.mem_of_getElem? (i := 684) (by decide +kernel), List.mem_of_getElem? (i := 685) (by decide +kernel)⟩
theorem lw_p9 : lw_okq (⟨"IslandThatLeans$Stones", "isDryWith", "(II)Z"⟩, 6) := ⟨⟨by decide +kernel, by decide +kernel⟩, List.mem_of_getElem? (i := 196) (by decide +kernel), List.mem_of_getElem? (i := 688) (by decide +kernel), List.mem_of_getElem? (i := 689) (by decide +kernel)⟩
theorem lw_p10 : lw_okq (⟨"IslandThatLeans$Stones", "isWetWith", "(III)Z"⟩, 6) := ⟨⟨by decide +kernel, by decide +kernel⟩, List.mem_of_getElem? (i := 196) (by decide +kernel), List.mem_of_getElem? (i := 692) (by decide +kernel), List.mem_of_getElem? (i := 693) (by decide +kernel)⟩
theorem lw_p11 : lw_okq (⟨"IslandThatLeans$Stones", "moveOfKeepsDry", "(IIIII)Z"⟩, 6) := ⟨⟨by decide +kernel, by decide +kernel⟩, List.mem_of_getElem? (i := 196) (by decide +kernel), List.mem_of_getElem? (i := 701) (by decide +kernel), List.mem_of_getElem? (i := 702) (by decide +kernel)⟩
theorem lw_p12 : lw_okq (⟨"IslandThatLeans$Stones", "keepMove", "(III)V"⟩, 6) := ⟨⟨by decide +kernel, by decide +kernel⟩, List.mem_of_getElem? (i := 196) (by decide +kernel), List.mem_of_getElem? (i := 709) (by decide +kernel), List.mem_of_getElem? (i := 710) (by decide +kernel)⟩
theorem lw_p13 : lw_okq (⟨"IslandThatLeans$Day", "wetDoorsAllDayWith", "(II)I"⟩, 4) := ⟨⟨by decide +kernel, by decide +kernel⟩, List.mem_of_getElem? (i := 109) (by decide +kernel), List.mem_of_getElem? (i := 727) (by decide +kernel), List.mem_of_getElem? (i := 728) (by decide +kernel)⟩
theorem lw_p14 : lw_okq (⟨"IslandThatLeans$Lates", "measureChanges", "(I)V"⟩, 6) := ⟨⟨by decide +kernel, by decide +kernel⟩, List.mem_of_getElem? (i := 221) (by decide +kernel), List.mem_of_getElem? (i := 744) (by decide +kernel), List.mem_of_getElem? (i := 745) (by decide +kernel)⟩
theorem lw_p15 : lw_okq (⟨"IslandThatLeans$Lates", "wetDoorsIfLate", "(III)I"⟩, 6) := ⟨⟨by decide +kernel, by decide +kernel⟩, List.mem_of_getElem? (i := 221) (by decide +kernel), List.mem_of_getElem? (i := 755) (by decide +kernel), List.mem_of_getElem? (i := 756) (by decide +kernel)⟩
def lw_privs_1 : List (MethodName × Nat) := [(⟨"IslandThatLeans$PlanText", "takes", "(I)Z"⟩, 3), (⟨"IslandThatLeans$PlanText", "endsRow", "()Z"⟩, 3), (⟨"IslandThatLeans$Island", "addSquare", "(III)V"⟩, 7), (⟨"IslandThatLeans$Trades", "takeSquares", "(IIIII)V"⟩, 11), (⟨"IslandThatLeans$Trades", "judge", "(III)V"⟩, 11), (⟨"IslandThatLeans$Processions", "secondGoesFrom", "(I)Z"⟩, 7), (⟨"IslandThatLeans$Processions", "wetDoorsWithBoth", "(I)I"⟩, 7), (⟨"IslandThatLeans$Stones", "measureRooms", "()V"⟩, 6), (⟨"IslandThatLeans$Stones", "movesKeepDry", "(IIIII)Z"⟩, 6), (⟨"IslandThatLeans$Stones", "isDryWith", "(II)Z"⟩, 6), (⟨"IslandThatLeans$Stones", "isWetWith", "(III)Z"⟩, 6), (⟨"IslandThatLeans$Stones", "moveOfKeepsDry", "(IIIII)Z"⟩, 6), (⟨"IslandThatLeans$Stones", "keepMove", "(III)V"⟩, 6), (⟨"IslandThatLeans$Day", "wetDoorsAllDayWith", "(II)I"⟩, 4), (⟨"IslandThatLeans$Lates", "measureChanges", "(I)V"⟩, 6), (⟨"IslandThatLeans$Lates", "wetDoorsIfLate", "(III)I"⟩, 6)]
theorem lw_r1 : ∀ q ∈ lw_privs_1, lw_okq q := List.forall_mem_cons.mpr ⟨lw_p0, List.forall_mem_cons.mpr ⟨lw_p1, List.forall_mem_cons.mpr ⟨lw_p2, List.forall_mem_cons.mpr ⟨lw_p3, List.forall_mem_cons.mpr ⟨lw_p4, List.forall_mem_cons.mpr ⟨lw_p5, List.forall_mem_cons.mpr ⟨lw_p6, List.forall_mem_cons.mpr ⟨lw_p7, List.forall_mem_cons.mpr ⟨lw_p8, List.forall_mem_cons.mpr ⟨lw_p9, List.forall_mem_cons.mpr ⟨lw_p10, List.forall_mem_cons.mpr ⟨lw_p11, List.forall_mem_cons.mpr ⟨lw_p12, List.forall_mem_cons.mpr ⟨lw_p13, List.forall_mem_cons.mpr ⟨lw_p14, List.forall_mem_cons.mpr ⟨lw_p15, fun _ h => absurd h List.not_mem_nil⟩⟩⟩⟩⟩⟩⟩⟩⟩⟩⟩⟩⟩⟩⟩⟩
theorem lw_p16 : lw_okq (⟨"IslandThatLeans$Spots", "standAsIn", "(I)V"⟩, 4) := ⟨⟨by decide +kernel, by decide +kernel⟩, List.mem_of_getElem? (i := 246) (by decide +kernel), List.mem_of_getElem? (i := 772) (by decide +kernel), List.mem_of_getElem? (i := 773) (by decide +kernel)⟩
theorem lw_p17 : lw_okq (⟨"IslandThatLeans$Spots", "isSomeDoorWet", "()Z"⟩, 4) := ⟨⟨by decide +kernel, by decide +kernel⟩, List.mem_of_getElem? (i := 246) (by decide +kernel), List.mem_of_getElem? (i := 777) (by decide +kernel), List.mem_of_getElem? (i := 778) (by decide +kernel)⟩
theorem lw_p18 : lw_okq (⟨"IslandThatLeans$Spots", "peopleGoToMiddle", "()V"⟩, 4) := ⟨⟨by decide +kernel, by decide +kernel⟩, List.mem_of_getElem? (i := 246) (by decide +kernel), List.mem_of_getElem? (i := 785) (by decide +kernel), List.mem_of_getElem? (i := 786) (by decide +kernel)⟩
theorem lw_p19 : lw_okq (⟨"IslandThatLeans$Spots", "cowsGoAstray", "()V"⟩, 4) := ⟨⟨by decide +kernel, by decide +kernel⟩, List.mem_of_getElem? (i := 246) (by decide +kernel), List.mem_of_getElem? (i := 813) (by decide +kernel), List.mem_of_getElem? (i := 814) (by decide +kernel)⟩
theorem lw_p20 : lw_okq (⟨"IslandThatLeans$Spots", "drawOfACow", "()I"⟩, 4) := ⟨⟨by decide +kernel, by decide +kernel⟩, List.mem_of_getElem? (i := 246) (by decide +kernel), List.mem_of_getElem? (i := 817) (by decide +kernel), List.mem_of_getElem? (i := 818) (by decide +kernel)⟩
theorem lw_p21 : lw_okq (⟨"IslandThatLeans", "digestedThing", "(JI)J"⟩, 13) := ⟨⟨by decide +kernel, by decide +kernel⟩, List.mem_of_getElem? (i := 17) (by decide +kernel), List.mem_of_getElem? (i := 875) (by decide +kernel), List.mem_of_getElem? (i := 876) (by decide +kernel)⟩
theorem lw_p22 : lw_okq (⟨"IslandThatLeans", "digestedFindings", "(J)J"⟩, 13) := ⟨⟨by decide +kernel, by decide +kernel⟩, List.mem_of_getElem? (i := 17) (by decide +kernel), List.mem_of_getElem? (i := 879) (by decide +kernel), List.mem_of_getElem? (i := 880) (by decide +kernel)⟩
theorem lw_p23 : lw_okq (⟨"IslandThatLeansModel", "readPlan", "()V"⟩, 40) := ⟨⟨by decide +kernel, by decide +kernel⟩, List.mem_of_getElem? (i := 885) (by decide +kernel), List.mem_of_getElem? (i := 1029) (by decide +kernel), List.mem_of_getElem? (i := 1030) (by decide +kernel)⟩
theorem lw_p24 : lw_okq (⟨"IslandThatLeansModel", "readWay", "()V"⟩, 40) := ⟨⟨by decide +kernel, by decide +kernel⟩, List.mem_of_getElem? (i := 885) (by decide +kernel), List.mem_of_getElem? (i := 1033) (by decide +kernel), List.mem_of_getElem? (i := 1034) (by decide +kernel)⟩
theorem lw_p25 : lw_okq (⟨"IslandThatLeansModel", "isSquare", "(I)Z"⟩, 40) := ⟨⟨by decide +kernel, by decide +kernel⟩, List.mem_of_getElem? (i := 885) (by decide +kernel), List.mem_of_getElem? (i := 1048) (by decide +kernel), List.mem_of_getElem? (i := 1049) (by decide +kernel)⟩
theorem lw_p26 : lw_okq (⟨"IslandThatLeansModel", "eastOf", "(I)I"⟩, 40) := ⟨⟨by decide +kernel, by decide +kernel⟩, List.mem_of_getElem? (i := 885) (by decide +kernel), List.mem_of_getElem? (i := 1054) (by decide +kernel), List.mem_of_getElem? (i := 1055) (by decide +kernel)⟩
theorem lw_p27 : lw_okq (⟨"IslandThatLeansModel", "southOf", "(I)I"⟩, 40) := ⟨⟨by decide +kernel, by decide +kernel⟩, List.mem_of_getElem? (i := 885) (by decide +kernel), List.mem_of_getElem? (i := 1058) (by decide +kernel), List.mem_of_getElem? (i := 1059) (by decide +kernel)⟩
theorem lw_p28 : lw_okq (⟨"IslandThatLeansModel", "isThing", "(I)Z"⟩, 40) := ⟨⟨by decide +kernel, by decide +kernel⟩, List.mem_of_getElem? (i := 885) (by decide +kernel), List.mem_of_getElem? (i := 1070) (by decide +kernel), List.mem_of_getElem? (i := 1071) (by decide +kernel)⟩
theorem lw_p29 : lw_okq (⟨"IslandThatLeansModel", "weighs", "(I)I"⟩, 40) := ⟨⟨by decide +kernel, by decide +kernel⟩, List.mem_of_getElem? (i := 885) (by decide +kernel), List.mem_of_getElem? (i := 1074) (by decide +kernel), List.mem_of_getElem? (i := 1075) (by decide +kernel)⟩
theorem lw_p30 : lw_okq (⟨"IslandThatLeansModel", "isPerson", "(I)Z"⟩, 40) := ⟨⟨by decide +kernel, by decide +kernel⟩, List.mem_of_getElem? (i := 885) (by decide +kernel), List.mem_of_getElem? (i := 1089) (by decide +kernel), List.mem_of_getElem? (i := 1090) (by decide +kernel)⟩
theorem lw_p31 : lw_okq (⟨"IslandThatLeansModel", "putAt", "(II)V"⟩, 40) := ⟨⟨by decide +kernel, by decide +kernel⟩, List.mem_of_getElem? (i := 885) (by decide +kernel), List.mem_of_getElem? (i := 1097) (by decide +kernel), List.mem_of_getElem? (i := 1098) (by decide +kernel)⟩
def lw_privs_2 : List (MethodName × Nat) := [(⟨"IslandThatLeans$Spots", "standAsIn", "(I)V"⟩, 4), (⟨"IslandThatLeans$Spots", "isSomeDoorWet", "()Z"⟩, 4), (⟨"IslandThatLeans$Spots", "peopleGoToMiddle", "()V"⟩, 4), (⟨"IslandThatLeans$Spots", "cowsGoAstray", "()V"⟩, 4), (⟨"IslandThatLeans$Spots", "drawOfACow", "()I"⟩, 4), (⟨"IslandThatLeans", "digestedThing", "(JI)J"⟩, 13), (⟨"IslandThatLeans", "digestedFindings", "(J)J"⟩, 13), (⟨"IslandThatLeansModel", "readPlan", "()V"⟩, 40), (⟨"IslandThatLeansModel", "readWay", "()V"⟩, 40), (⟨"IslandThatLeansModel", "isSquare", "(I)Z"⟩, 40), (⟨"IslandThatLeansModel", "eastOf", "(I)I"⟩, 40), (⟨"IslandThatLeansModel", "southOf", "(I)I"⟩, 40), (⟨"IslandThatLeansModel", "isThing", "(I)Z"⟩, 40), (⟨"IslandThatLeansModel", "weighs", "(I)I"⟩, 40), (⟨"IslandThatLeansModel", "isPerson", "(I)Z"⟩, 40), (⟨"IslandThatLeansModel", "putAt", "(II)V"⟩, 40)]
theorem lw_r2 : ∀ q ∈ lw_privs_2, lw_okq q := List.forall_mem_cons.mpr ⟨lw_p16, List.forall_mem_cons.mpr ⟨lw_p17, List.forall_mem_cons.mpr ⟨lw_p18, List.forall_mem_cons.mpr ⟨lw_p19, List.forall_mem_cons.mpr ⟨lw_p20, List.forall_mem_cons.mpr ⟨lw_p21, List.forall_mem_cons.mpr ⟨lw_p22, List.forall_mem_cons.mpr ⟨lw_p23, List.forall_mem_cons.mpr ⟨lw_p24, List.forall_mem_cons.mpr ⟨lw_p25, List.forall_mem_cons.mpr ⟨lw_p26, List.forall_mem_cons.mpr ⟨lw_p27, List.forall_mem_cons.mpr ⟨lw_p28, List.forall_mem_cons.mpr ⟨lw_p29, List.forall_mem_cons.mpr ⟨lw_p30, List.forall_mem_cons.mpr ⟨lw_p31, fun _ h => absurd h List.not_mem_nil⟩⟩⟩⟩⟩⟩⟩⟩⟩⟩⟩⟩⟩⟩⟩⟩
theorem lw_p32 : lw_okq (⟨"IslandThatLeansModel", "leanOf", "(IZ)I"⟩, 40) := ⟨⟨by decide +kernel, by decide +kernel⟩, List.mem_of_getElem? (i := 885) (by decide +kernel), List.mem_of_getElem? (i := 1109) (by decide +kernel), List.mem_of_getElem? (i := 1110) (by decide +kernel)⟩
theorem lw_p33 : lw_okq (⟨"IslandThatLeansModel", "wetIn", "(I)I"⟩, 40) := ⟨⟨by decide +kernel, by decide +kernel⟩, List.mem_of_getElem? (i := 885) (by decide +kernel), List.mem_of_getElem? (i := 1122) (by decide +kernel), List.mem_of_getElem? (i := 1123) (by decide +kernel)⟩
theorem lw_p34 : lw_okq (⟨"IslandThatLeansModel", "peopleMany", "()I"⟩, 40) := ⟨⟨by decide +kernel, by decide +kernel⟩, List.mem_of_getElem? (i := 885) (by decide +kernel), List.mem_of_getElem? (i := 1130) (by decide +kernel), List.mem_of_getElem? (i := 1131) (by decide +kernel)⟩
theorem lw_p35 : lw_okq (⟨"IslandThatLeansModel", "tradesNow", "(II)I"⟩, 40) := ⟨⟨by decide +kernel, by decide +kernel⟩, List.mem_of_getElem? (i := 885) (by decide +kernel), List.mem_of_getElem? (i := 1134) (by decide +kernel), List.mem_of_getElem? (i := 1135) (by decide +kernel)⟩
theorem lw_p36 : lw_okq (⟨"IslandThatLeansModel", "layPeople", "(I)V"⟩, 40) := ⟨⟨by decide +kernel, by decide +kernel⟩, List.mem_of_getElem? (i := 885) (by decide +kernel), List.mem_of_getElem? (i := 1138) (by decide +kernel), List.mem_of_getElem? (i := 1139) (by decide +kernel)⟩
theorem lw_p37 : lw_okq (⟨"IslandThatLeansModel", "tryTrade", "(II)V"⟩, 40) := ⟨⟨by decide +kernel, by decide +kernel⟩, List.mem_of_getElem? (i := 885) (by decide +kernel), List.mem_of_getElem? (i := 1143) (by decide +kernel), List.mem_of_getElem? (i := 1144) (by decide +kernel)⟩
theorem lw_p38 : lw_okq (⟨"IslandThatLeansModel", "nextTakes", "(I)Z"⟩, 40) := ⟨⟨by decide +kernel, by decide +kernel⟩, List.mem_of_getElem? (i := 885) (by decide +kernel), List.mem_of_getElem? (i := 1150) (by decide +kernel), List.mem_of_getElem? (i := 1151) (by decide +kernel)⟩
theorem lw_p39 : lw_okq (⟨"IslandThatLeansModel", "exchange", "(II)V"⟩, 40) := ⟨⟨by decide +kernel, by decide +kernel⟩, List.mem_of_getElem? (i := 885) (by decide +kernel), List.mem_of_getElem? (i := 1154) (by decide +kernel), List.mem_of_getElem? (i := 1155) (by decide +kernel)⟩
theorem lw_p40 : lw_okq (⟨"IslandThatLeansModel", "layWay", "(IIZ)Z"⟩, 40) := ⟨⟨by decide +kernel, by decide +kernel⟩, List.mem_of_getElem? (i := 885) (by decide +kernel), List.mem_of_getElem? (i := 1162) (by decide +kernel), List.mem_of_getElem? (i := 1163) (by decide +kernel)⟩
theorem lw_p41 : lw_okq (⟨"IslandThatLeansModel", "besideOf", "(II)I"⟩, 40) := ⟨⟨by decide +kernel, by decide +kernel⟩, List.mem_of_getElem? (i := 885) (by decide +kernel), List.mem_of_getElem? (i := 1166) (by decide +kernel), List.mem_of_getElem? (i := 1167) (by decide +kernel)⟩
theorem lw_p42 : lw_okq (⟨"IslandThatLeansModel", "wetWith", "(I)I"⟩, 40) := ⟨⟨by decide +kernel, by decide +kernel⟩, List.mem_of_getElem? (i := 885) (by decide +kernel), List.mem_of_getElem? (i := 1170) (by decide +kernel), List.mem_of_getElem? (i := 1171) (by decide +kernel)⟩
theorem lw_p43 : lw_okq (⟨"IslandThatLeansModel", "stonesNow", "(I)I"⟩, 40) := ⟨⟨by decide +kernel, by decide +kernel⟩, List.mem_of_getElem? (i := 885) (by decide +kernel), List.mem_of_getElem? (i := 1178) (by decide +kernel), List.mem_of_getElem? (i := 1179) (by decide +kernel)⟩
theorem lw_p44 : lw_okq (⟨"IslandThatLeansModel", "isDry", "()Z"⟩, 40) := ⟨⟨by decide +kernel, by decide +kernel⟩, List.mem_of_getElem? (i := 885) (by decide +kernel), List.mem_of_getElem? (i := 1182) (by decide +kernel), List.mem_of_getElem? (i := 1183) (by decide +kernel)⟩
theorem lw_p45 : lw_okq (⟨"IslandThatLeansModel", "helpsFrom", "(I)Z"⟩, 40) := ⟨⟨by decide +kernel, by decide +kernel⟩, List.mem_of_getElem? (i := 885) (by decide +kernel), List.mem_of_getElem? (i := 1186) (by decide +kernel), List.mem_of_getElem? (i := 1187) (by decide +kernel)⟩
theorem lw_p46 : lw_okq (⟨"IslandThatLeansModel", "helpTwo", "()Z"⟩, 40) := ⟨⟨by decide +kernel, by decide +kernel⟩, List.mem_of_getElem? (i := 885) (by decide +kernel), List.mem_of_getElem? (i := 1190) (by decide +kernel), List.mem_of_getElem? (i := 1191) (by decide +kernel)⟩
theorem lw_p47 : lw_okq (⟨"IslandThatLeansModel", "siteNow", "(I)I"⟩, 40) := ⟨⟨by decide +kernel, by decide +kernel⟩, List.mem_of_getElem? (i := 885) (by decide +kernel), List.mem_of_getElem? (i := 1198) (by decide +kernel), List.mem_of_getElem? (i := 1199) (by decide +kernel)⟩
def lw_privs_3 : List (MethodName × Nat) := [(⟨"IslandThatLeansModel", "leanOf", "(IZ)I"⟩, 40), (⟨"IslandThatLeansModel", "wetIn", "(I)I"⟩, 40), (⟨"IslandThatLeansModel", "peopleMany", "()I"⟩, 40), (⟨"IslandThatLeansModel", "tradesNow", "(II)I"⟩, 40), (⟨"IslandThatLeansModel", "layPeople", "(I)V"⟩, 40), (⟨"IslandThatLeansModel", "tryTrade", "(II)V"⟩, 40), (⟨"IslandThatLeansModel", "nextTakes", "(I)Z"⟩, 40), (⟨"IslandThatLeansModel", "exchange", "(II)V"⟩, 40), (⟨"IslandThatLeansModel", "layWay", "(IIZ)Z"⟩, 40), (⟨"IslandThatLeansModel", "besideOf", "(II)I"⟩, 40), (⟨"IslandThatLeansModel", "wetWith", "(I)I"⟩, 40), (⟨"IslandThatLeansModel", "stonesNow", "(I)I"⟩, 40), (⟨"IslandThatLeansModel", "isDry", "()Z"⟩, 40), (⟨"IslandThatLeansModel", "helpsFrom", "(I)Z"⟩, 40), (⟨"IslandThatLeansModel", "helpTwo", "()Z"⟩, 40), (⟨"IslandThatLeansModel", "siteNow", "(I)I"⟩, 40)]
theorem lw_r3 : ∀ q ∈ lw_privs_3, lw_okq q := List.forall_mem_cons.mpr ⟨lw_p32, List.forall_mem_cons.mpr ⟨lw_p33, List.forall_mem_cons.mpr ⟨lw_p34, List.forall_mem_cons.mpr ⟨lw_p35, List.forall_mem_cons.mpr ⟨lw_p36, List.forall_mem_cons.mpr ⟨lw_p37, List.forall_mem_cons.mpr ⟨lw_p38, List.forall_mem_cons.mpr ⟨lw_p39, List.forall_mem_cons.mpr ⟨lw_p40, List.forall_mem_cons.mpr ⟨lw_p41, List.forall_mem_cons.mpr ⟨lw_p42, List.forall_mem_cons.mpr ⟨lw_p43, List.forall_mem_cons.mpr ⟨lw_p44, List.forall_mem_cons.mpr ⟨lw_p45, List.forall_mem_cons.mpr ⟨lw_p46, List.forall_mem_cons.mpr ⟨lw_p47, fun _ h => absurd h List.not_mem_nil⟩⟩⟩⟩⟩⟩⟩⟩⟩⟩⟩⟩⟩⟩⟩⟩
theorem lw_p48 : lw_okq (⟨"IslandThatLeansModel", "wetAll", "()I"⟩, 40) := ⟨⟨by decide +kernel, by decide +kernel⟩, List.mem_of_getElem? (i := 885) (by decide +kernel), List.mem_of_getElem? (i := 1202) (by decide +kernel), List.mem_of_getElem? (i := 1203) (by decide +kernel)⟩
theorem lw_p49 : lw_okq (⟨"IslandThatLeansModel", "lateNow", "(III)I"⟩, 40) := ⟨⟨by decide +kernel, by decide +kernel⟩, List.mem_of_getElem? (i := 885) (by decide +kernel), List.mem_of_getElem? (i := 1210) (by decide +kernel), List.mem_of_getElem? (i := 1211) (by decide +kernel)⟩
theorem lw_p50 : lw_okq (⟨"IslandThatLeansModel", "stormNow", "(I)I"⟩, 40) := ⟨⟨by decide +kernel, by decide +kernel⟩, List.mem_of_getElem? (i := 885) (by decide +kernel), List.mem_of_getElem? (i := 1221) (by decide +kernel), List.mem_of_getElem? (i := 1222) (by decide +kernel)⟩
theorem lw_p51 : lw_okq (⟨"IslandThatLeansModel", "keepStands", "(I)V"⟩, 40) := ⟨⟨by decide +kernel, by decide +kernel⟩, List.mem_of_getElem? (i := 885) (by decide +kernel), List.mem_of_getElem? (i := 1225) (by decide +kernel), List.mem_of_getElem? (i := 1226) (by decide +kernel)⟩
theorem lw_p52 : lw_okq (⟨"IslandThatLeansModel", "toMiddle", "(I)I"⟩, 40) := ⟨⟨by decide +kernel, by decide +kernel⟩, List.mem_of_getElem? (i := 885) (by decide +kernel), List.mem_of_getElem? (i := 1229) (by decide +kernel), List.mem_of_getElem? (i := 1230) (by decide +kernel)⟩
theorem lw_p53 : lw_okq (⟨"IslandThatLeansModel", "putStands", "(I)V"⟩, 40) := ⟨⟨by decide +kernel, by decide +kernel⟩, List.mem_of_getElem? (i := 885) (by decide +kernel), List.mem_of_getElem? (i := 1233) (by decide +kernel), List.mem_of_getElem? (i := 1234) (by decide +kernel)⟩
theorem lw_p54 : lw_okq (⟨"IslandThatLeansModel", "mossNow", "()I"⟩, 40) := ⟨⟨by decide +kernel, by decide +kernel⟩, List.mem_of_getElem? (i := 885) (by decide +kernel), List.mem_of_getElem? (i := 1241) (by decide +kernel), List.mem_of_getElem? (i := 1242) (by decide +kernel)⟩
theorem lw_p55 : lw_okq (⟨"IslandThatLeansModel", "cowsNow", "(IIII)I"⟩, 40) := ⟨⟨by decide +kernel, by decide +kernel⟩, List.mem_of_getElem? (i := 885) (by decide +kernel), List.mem_of_getElem? (i := 1249) (by decide +kernel), List.mem_of_getElem? (i := 1250) (by decide +kernel)⟩
theorem lw_p56 : lw_okq (⟨"IslandThatLeansModel", "stray", "(I)V"⟩, 40) := ⟨⟨by decide +kernel, by decide +kernel⟩, List.mem_of_getElem? (i := 885) (by decide +kernel), List.mem_of_getElem? (i := 1253) (by decide +kernel), List.mem_of_getElem? (i := 1254) (by decide +kernel)⟩
theorem lw_p57 : lw_okq (⟨"IslandThatLeansModel", "draw", "(I)I"⟩, 40) := ⟨⟨by decide +kernel, by decide +kernel⟩, List.mem_of_getElem? (i := 885) (by decide +kernel), List.mem_of_getElem? (i := 1257) (by decide +kernel), List.mem_of_getElem? (i := 1258) (by decide +kernel)⟩
theorem lw_p58 : lw_okq (⟨"IslandThatLeansModel", "howMany", "(I)I"⟩, 40) := ⟨⟨by decide +kernel, by decide +kernel⟩, List.mem_of_getElem? (i := 885) (by decide +kernel), List.mem_of_getElem? (i := 1277) (by decide +kernel), List.mem_of_getElem? (i := 1278) (by decide +kernel)⟩
theorem lw_p59 : lw_okq (⟨"IslandThatLeansModel", "doorMany", "()I"⟩, 40) := ⟨⟨by decide +kernel, by decide +kernel⟩, List.mem_of_getElem? (i := 885) (by decide +kernel), List.mem_of_getElem? (i := 1281) (by decide +kernel), List.mem_of_getElem? (i := 1282) (by decide +kernel)⟩
theorem lw_p60 : lw_okq (⟨"IslandThatLeansModel", "mix", "(J)V"⟩, 40) := ⟨⟨by decide +kernel, by decide +kernel⟩, List.mem_of_getElem? (i := 885) (by decide +kernel), List.mem_of_getElem? (i := 1290) (by decide +kernel), List.mem_of_getElem? (i := 1291) (by decide +kernel)⟩
theorem lw_p61 : lw_okq (⟨"IslandThatLeansModel", "mixThing", "(I)V"⟩, 40) := ⟨⟨by decide +kernel, by decide +kernel⟩, List.mem_of_getElem? (i := 885) (by decide +kernel), List.mem_of_getElem? (i := 1295) (by decide +kernel), List.mem_of_getElem? (i := 1296) (by decide +kernel)⟩
def lw_privs_4 : List (MethodName × Nat) := [(⟨"IslandThatLeansModel", "wetAll", "()I"⟩, 40), (⟨"IslandThatLeansModel", "lateNow", "(III)I"⟩, 40), (⟨"IslandThatLeansModel", "stormNow", "(I)I"⟩, 40), (⟨"IslandThatLeansModel", "keepStands", "(I)V"⟩, 40), (⟨"IslandThatLeansModel", "toMiddle", "(I)I"⟩, 40), (⟨"IslandThatLeansModel", "putStands", "(I)V"⟩, 40), (⟨"IslandThatLeansModel", "mossNow", "()I"⟩, 40), (⟨"IslandThatLeansModel", "cowsNow", "(IIII)I"⟩, 40), (⟨"IslandThatLeansModel", "stray", "(I)V"⟩, 40), (⟨"IslandThatLeansModel", "draw", "(I)I"⟩, 40), (⟨"IslandThatLeansModel", "howMany", "(I)I"⟩, 40), (⟨"IslandThatLeansModel", "doorMany", "()I"⟩, 40), (⟨"IslandThatLeansModel", "mix", "(J)V"⟩, 40), (⟨"IslandThatLeansModel", "mixThing", "(I)V"⟩, 40)]
theorem lw_r4 : ∀ q ∈ lw_privs_4, lw_okq q := List.forall_mem_cons.mpr ⟨lw_p48, List.forall_mem_cons.mpr ⟨lw_p49, List.forall_mem_cons.mpr ⟨lw_p50, List.forall_mem_cons.mpr ⟨lw_p51, List.forall_mem_cons.mpr ⟨lw_p52, List.forall_mem_cons.mpr ⟨lw_p53, List.forall_mem_cons.mpr ⟨lw_p54, List.forall_mem_cons.mpr ⟨lw_p55, List.forall_mem_cons.mpr ⟨lw_p56, List.forall_mem_cons.mpr ⟨lw_p57, List.forall_mem_cons.mpr ⟨lw_p58, List.forall_mem_cons.mpr ⟨lw_p59, List.forall_mem_cons.mpr ⟨lw_p60, List.forall_mem_cons.mpr ⟨lw_p61, fun _ h => absurd h List.not_mem_nil⟩⟩⟩⟩⟩⟩⟩⟩⟩⟩⟩⟩⟩⟩
def lw_privs : List (MethodName × Nat) := lw_privs_1 ++ (lw_privs_2 ++ (lw_privs_3 ++ (lw_privs_4)))
def lw_tbl : List Cond := k2_sels lw_privs ++ tables_1
theorem lw_privs_ok : ∀ q ∈ lw_privs, lw_okq q := by
  show ∀ q ∈ lw_privs_1 ++ (lw_privs_2 ++ (lw_privs_3 ++ (lw_privs_4))), lw_okq q
  exact List.forall_mem_append.mpr ⟨lw_r1, List.forall_mem_append.mpr ⟨lw_r2, List.forall_mem_append.mpr ⟨lw_r3, lw_r4⟩⟩⟩
-- ===== end of PART A; then your names; then what follows =====
def RX0 : String := "IslandThatLeans$Day"
def TX0 : u_T := fun k => match k with
  | 0 => ("IslandThatLeans$Day", "island", "LIslandThatLeans$Island;", true)
  | 1 => ("IslandThatLeans$Day", "things", "LIslandThatLeans$Things;", true)
  | 2 => ("IslandThatLeans$Day", "easts", "[I", true)
  | _ => ("IslandThatLeans$Day", "souths", "[I", true)
def tyX0 : Nat → FieldType := fun k => match k with
  | 0 => .object "IslandThatLeans$Island"
  | 1 => .object "IslandThatLeans$Things"
  | 2 => .array .int
  | _ => .array .int
theorem nmX0 : ∀ a, a < 4 → ∀ b, b < 4 → a ≠ b → (TX0 a).2.1 ≠ (TX0 b).2.1 := by decide +kernel
theorem tyX0_ok : ∀ k, k < 4 → parseFieldDescriptor (TX0 k).2.2.1 = some (tyX0 k) := by decide +kernel
abbrev cX0_init : ByteArray := prog_2_method_1_code
def yX0_init : MethodName := ⟨RX0, "<init>", "(LIslandThatLeans$Island;LIslandThatLeans$Things;)V"⟩
abbrev cX0_leanEast : ByteArray := prog_2_method_2_code
def yX0_leanEast : MethodName := ⟨RX0, "leanEast", "(I)I"⟩
abbrev cX0_leanSouth : ByteArray := prog_2_method_3_code
def yX0_leanSouth : MethodName := ⟨RX0, "leanSouth", "(I)I"⟩
abbrev cX0_wetIn : ByteArray := prog_2_method_4_code
def yX0_wetIn : MethodName := ⟨RX0, "wetIn", "(I)I"⟩
abbrev cX0_weigh : ByteArray := prog_2_method_5_code
def yX0_weigh : MethodName := ⟨RX0, "weigh", "()V"⟩
abbrev cX0_wetDoorsWith : ByteArray := prog_2_method_6_code
def yX0_wetDoorsWith : MethodName := ⟨RX0, "wetDoorsWith", "(III)I"⟩
abbrev cX0_greatestDip : ByteArray := prog_2_method_7_code
def yX0_greatestDip : MethodName := ⟨RX0, "greatestDip", "(I)I"⟩
abbrev cX0_driestSquareFor : ByteArray := prog_2_method_8_code
def yX0_driestSquareFor : MethodName := ⟨RX0, "driestSquareFor", "(I)I"⟩
abbrev cX0_wetDoorsAllDayWith : ByteArray := prog_2_method_9_code
def yX0_wetDoorsAllDayWith : MethodName := ⟨RX0, "wetDoorsAllDayWith", "(II)I"⟩
def RX1 : String := "IslandThatLeans$Island"
def TX1 : u_T := fun k => match k with
  | 0 => ("IslandThatLeans$Island", "heights", "[I", true)
  | 1 => ("IslandThatLeans$Island", "easts", "[I", true)
  | 2 => ("IslandThatLeans$Island", "souths", "[I", true)
  | 3 => ("IslandThatLeans$Island", "rows", "I", false)
  | 4 => ("IslandThatLeans$Island", "columns", "I", false)
  | 5 => ("IslandThatLeans$Island", "squares", "I", false)
  | _ => ("IslandThatLeans$Island", "doors", "I", false)
def tyX1 : Nat → FieldType := fun k => match k with
  | 0 => .array .int
  | 1 => .array .int
  | 2 => .array .int
  | 3 => .int
  | 4 => .int
  | 5 => .int
  | _ => .int
theorem nmX1 : ∀ a, a < 7 → ∀ b, b < 7 → a ≠ b → (TX1 a).2.1 ≠ (TX1 b).2.1 := by decide +kernel
theorem tyX1_ok : ∀ k, k < 7 → parseFieldDescriptor (TX1 k).2.2.1 = some (tyX1 k) := by decide +kernel
abbrev cX1_init : ByteArray := prog_3_method_1_code
def yX1_init : MethodName := ⟨RX1, "<init>", "()V"⟩
abbrev cX1_read : ByteArray := prog_3_method_2_code
def yX1_read : MethodName := ⟨RX1, "read", "(LIslandThatLeans$Page;II)V"⟩
abbrev cX1_addSquare : ByteArray := prog_3_method_3_code
def yX1_addSquare : MethodName := ⟨RX1, "addSquare", "(III)V"⟩
abbrev cX1_fromCentre : ByteArray := prog_3_method_4_code
def yX1_fromCentre : MethodName := ⟨RX1, "fromCentre", "(II)I"⟩
abbrev cX1_isThere : ByteArray := prog_3_method_5_code
def yX1_isThere : MethodName := ⟨RX1, "isThere", "()Z"⟩
abbrev cX1_squares : ByteArray := prog_3_method_6_code
def yX1_squares : MethodName := ⟨RX1, "squares", "()I"⟩
abbrev cX1_doors : ByteArray := prog_3_method_7_code
def yX1_doors : MethodName := ⟨RX1, "doors", "()I"⟩
abbrev cX1_has : ByteArray := prog_3_method_8_code
def yX1_has : MethodName := ⟨RX1, "has", "(I)Z"⟩
abbrev cX1_hasAll : ByteArray := prog_3_method_9_code
def yX1_hasAll : MethodName := ⟨RX1, "hasAll", "(I)Z"⟩
abbrev cX1_height : ByteArray := prog_3_method_10_code
def yX1_height : MethodName := ⟨RX1, "height", "(I)I"⟩
abbrev cX1_east : ByteArray := prog_3_method_11_code
def yX1_east : MethodName := ⟨RX1, "east", "(I)I"⟩
abbrev cX1_south : ByteArray := prog_3_method_12_code
def yX1_south : MethodName := ⟨RX1, "south", "(I)I"⟩
abbrev cX1_dipOf : ByteArray := prog_3_method_13_code
def yX1_dipOf : MethodName := ⟨RX1, "dipOf", "(III)I"⟩
abbrev cX1_wetDoors : ByteArray := prog_3_method_14_code
def yX1_wetDoors : MethodName := ⟨RX1, "wetDoors", "(II)I"⟩
abbrev cX1_wetDoorsTold : ByteArray := prog_3_method_15_code
def yX1_wetDoorsTold : MethodName := ⟨RX1, "wetDoorsTold", "(II)I"⟩
abbrev cX1_step : ByteArray := prog_3_method_16_code
def yX1_step : MethodName := ⟨RX1, "step", "(II)I"⟩
abbrev cX1_towardsMiddle : ByteArray := prog_3_method_17_code
def yX1_towardsMiddle : MethodName := ⟨RX1, "towardsMiddle", "(I)I"⟩
def RX2 : String := "IslandThatLeans$Lates"
def TX2 : u_T := fun k => match k with
  | 0 => ("IslandThatLeans$Lates", "island", "LIslandThatLeans$Island;", true)
  | 1 => ("IslandThatLeans$Lates", "things", "LIslandThatLeans$Things;", true)
  | 2 => ("IslandThatLeans$Lates", "day", "LIslandThatLeans$Day;", true)
  | 3 => ("IslandThatLeans$Lates", "found", "[I", true)
  | 4 => ("IslandThatLeans$Lates", "easts", "[I", true)
  | _ => ("IslandThatLeans$Lates", "souths", "[I", true)
def tyX2 : Nat → FieldType := fun k => match k with
  | 0 => .object "IslandThatLeans$Island"
  | 1 => .object "IslandThatLeans$Things"
  | 2 => .object "IslandThatLeans$Day"
  | 3 => .array .int
  | 4 => .array .int
  | _ => .array .int
theorem nmX2 : ∀ a, a < 6 → ∀ b, b < 6 → a ≠ b → (TX2 a).2.1 ≠ (TX2 b).2.1 := by decide +kernel
theorem tyX2_ok : ∀ k, k < 6 → parseFieldDescriptor (TX2 k).2.2.1 = some (tyX2 k) := by decide +kernel
abbrev cX2_init : ByteArray := prog_4_method_1_code
def yX2_init : MethodName := ⟨RX2, "<init>", "(LIslandThatLeans$Island;LIslandThatLeans$Things;LIslandThatLeans$Day;)V"⟩
abbrev cX2_found : ByteArray := prog_4_method_2_code
def yX2_found : MethodName := ⟨RX2, "found", "(I)I"⟩
abbrev cX2_search : ByteArray := prog_4_method_3_code
def yX2_search : MethodName := ⟨RX2, "search", "(II)V"⟩
abbrev cX2_measureChanges : ByteArray := prog_4_method_4_code
def yX2_measureChanges : MethodName := ⟨RX2, "measureChanges", "(I)V"⟩
abbrev cX2_wetDoorsIfLate : ByteArray := prog_4_method_5_code
def yX2_wetDoorsIfLate : MethodName := ⟨RX2, "wetDoorsIfLate", "(III)I"⟩
def RX3 : String := "IslandThatLeans$Page"
def TX3 : u_T := fun k => match k with
  | 0 => ("IslandThatLeans$Page", "signs", "[C", true)
  | _ => ("IslandThatLeans$Page", "length", "I", false)
def tyX3 : Nat → FieldType := fun k => match k with
  | 0 => .array .char
  | _ => .int
theorem nmX3 : ∀ a, a < 2 → ∀ b, b < 2 → a ≠ b → (TX3 a).2.1 ≠ (TX3 b).2.1 := by decide +kernel
theorem tyX3_ok : ∀ k, k < 2 → parseFieldDescriptor (TX3 k).2.2.1 = some (tyX3 k) := by decide +kernel
abbrev cX3_init : ByteArray := prog_5_method_1_code
def yX3_init : MethodName := ⟨RX3, "<init>", "()V"⟩
abbrev cX3_length : ByteArray := prog_5_method_2_code
def yX3_length : MethodName := ⟨RX3, "length", "()I"⟩
abbrev cX3_letter : ByteArray := prog_5_method_3_code
def yX3_letter : MethodName := ⟨RX3, "letter", "(I)I"⟩
abbrev cX3_clear : ByteArray := prog_5_method_4_code
def yX3_clear : MethodName := ⟨RX3, "clear", "()V"⟩
abbrev cX3_add : ByteArray := prog_5_method_5_code
def yX3_add : MethodName := ⟨RX3, "add", "(J)I"⟩
abbrev cX3_lettersTold : ByteArray := prog_5_method_6_code
def yX3_lettersTold : MethodName := ⟨RX3, "lettersTold", "(J)I"⟩
abbrev cX3_codeAt : ByteArray := prog_5_method_7_code
def yX3_codeAt : MethodName := ⟨RX3, "codeAt", "(JI)I"⟩
abbrev cX3_isWay : ByteArray := prog_5_method_8_code
def yX3_isWay : MethodName := ⟨RX3, "isWay", "()Z"⟩
abbrev cX3_wayFault : ByteArray := prog_5_method_9_code
def yX3_wayFault : MethodName := ⟨RX3, "wayFault", "()I"⟩
abbrev cX3_wayAt : ByteArray := prog_5_method_10_code
def yX3_wayAt : MethodName := ⟨RX3, "wayAt", "(I)I"⟩
def RX4 : String := "IslandThatLeans$PlanText"
def TX4 : u_T := fun k => match k with
  | 0 => ("IslandThatLeans$PlanText", "rows", "I", false)
  | 1 => ("IslandThatLeans$PlanText", "columns", "I", false)
  | _ => ("IslandThatLeans$PlanText", "inRow", "I", false)
def tyX4 : Nat → FieldType := fun k => match k with
  | 0 => .int
  | 1 => .int
  | _ => .int
theorem nmX4 : ∀ a, a < 3 → ∀ b, b < 3 → a ≠ b → (TX4 a).2.1 ≠ (TX4 b).2.1 := by decide +kernel
theorem tyX4_ok : ∀ k, k < 3 → parseFieldDescriptor (TX4 k).2.2.1 = some (tyX4 k) := by decide +kernel
abbrev cX4_init : ByteArray := prog_6_method_1_code
def yX4_init : MethodName := ⟨RX4, "<init>", "()V"⟩
abbrev cX4_rows : ByteArray := prog_6_method_2_code
def yX4_rows : MethodName := ⟨RX4, "rows", "()I"⟩
abbrev cX4_columns : ByteArray := prog_6_method_3_code
def yX4_columns : MethodName := ⟨RX4, "columns", "()I"⟩
abbrev cX4_isWhole : ByteArray := prog_6_method_4_code
def yX4_isWhole : MethodName := ⟨RX4, "isWhole", "(LIslandThatLeans$Page;)Z"⟩
abbrev cX4_faultIn : ByteArray := prog_6_method_5_code
def yX4_faultIn : MethodName := ⟨RX4, "faultIn", "(LIslandThatLeans$Page;)I"⟩
abbrev cX4_takes : ByteArray := prog_6_method_6_code
def yX4_takes : MethodName := ⟨RX4, "takes", "(I)Z"⟩
abbrev cX4_endsRow : ByteArray := prog_6_method_7_code
def yX4_endsRow : MethodName := ⟨RX4, "endsRow", "()Z"⟩
def RX5 : String := "IslandThatLeans$Processions"
def TX5 : u_T := fun k => match k with
  | 0 => ("IslandThatLeans$Processions", "page", "LIslandThatLeans$Page;", true)
  | 1 => ("IslandThatLeans$Processions", "island", "LIslandThatLeans$Island;", true)
  | 2 => ("IslandThatLeans$Processions", "day", "LIslandThatLeans$Day;", true)
  | 3 => ("IslandThatLeans$Processions", "first", "[I", true)
  | 4 => ("IslandThatLeans$Processions", "second", "[I", true)
  | 5 => ("IslandThatLeans$Processions", "start", "I", false)
  | _ => ("IslandThatLeans$Processions", "wetDoors", "I", false)
def tyX5 : Nat → FieldType := fun k => match k with
  | 0 => .object "IslandThatLeans$Page"
  | 1 => .object "IslandThatLeans$Island"
  | 2 => .object "IslandThatLeans$Day"
  | 3 => .array .int
  | 4 => .array .int
  | 5 => .int
  | _ => .int
theorem nmX5 : ∀ a, a < 7 → ∀ b, b < 7 → a ≠ b → (TX5 a).2.1 ≠ (TX5 b).2.1 := by decide +kernel
theorem tyX5_ok : ∀ k, k < 7 → parseFieldDescriptor (TX5 k).2.2.1 = some (tyX5 k) := by decide +kernel
abbrev cX5_init : ByteArray := prog_7_method_1_code
def yX5_init : MethodName := ⟨RX5, "<init>", "(LIslandThatLeans$Page;LIslandThatLeans$Island;LIslandThatLeans$Day;)V"⟩
abbrev cX5_start : ByteArray := prog_7_method_2_code
def yX5_start : MethodName := ⟨RX5, "start", "()I"⟩
abbrev cX5_wetDoors : ByteArray := prog_7_method_3_code
def yX5_wetDoors : MethodName := ⟨RX5, "wetDoors", "()I"⟩
abbrev cX5_firstGoesFrom : ByteArray := prog_7_method_4_code
def yX5_firstGoesFrom : MethodName := ⟨RX5, "firstGoesFrom", "(I)Z"⟩
abbrev cX5_secondGoesFrom : ByteArray := prog_7_method_5_code
def yX5_secondGoesFrom : MethodName := ⟨RX5, "secondGoesFrom", "(I)Z"⟩
abbrev cX5_turnedRound : ByteArray := prog_7_method_6_code
def yX5_turnedRound : MethodName := ⟨RX5, "turnedRound", "(I)I"⟩
abbrev cX5_search : ByteArray := prog_7_method_7_code
def yX5_search : MethodName := ⟨RX5, "search", "(I)V"⟩
abbrev cX5_wetDoorsWithBoth : ByteArray := prog_7_method_8_code
def yX5_wetDoorsWithBoth : MethodName := ⟨RX5, "wetDoorsWithBoth", "(I)I"⟩
def RX6 : String := "IslandThatLeans$Spots"
def TX6 : u_T := fun k => match k with
  | 0 => ("IslandThatLeans$Spots", "island", "LIslandThatLeans$Island;", true)
  | 1 => ("IslandThatLeans$Spots", "things", "LIslandThatLeans$Things;", true)
  | 2 => ("IslandThatLeans$Spots", "squares", "[I", true)
  | _ => ("IslandThatLeans$Spots", "seed", "J", false)
def tyX6 : Nat → FieldType := fun k => match k with
  | 0 => .object "IslandThatLeans$Island"
  | 1 => .object "IslandThatLeans$Things"
  | 2 => .array .int
  | _ => .long
theorem nmX6 : ∀ a, a < 4 → ∀ b, b < 4 → a ≠ b → (TX6 a).2.1 ≠ (TX6 b).2.1 := by decide +kernel
theorem tyX6_ok : ∀ k, k < 4 → parseFieldDescriptor (TX6 k).2.2.1 = some (tyX6 k) := by decide +kernel
abbrev cX6_init : ByteArray := prog_8_method_1_code
def yX6_init : MethodName := ⟨RX6, "<init>", "(LIslandThatLeans$Island;LIslandThatLeans$Things;)V"⟩
abbrev cX6_placeOf : ByteArray := prog_8_method_2_code
def yX6_placeOf : MethodName := ⟨RX6, "placeOf", "(I)I"⟩
abbrev cX6_seed : ByteArray := prog_8_method_3_code
def yX6_seed : MethodName := ⟨RX6, "seed", "()I"⟩
abbrev cX6_standAsIn : ByteArray := prog_8_method_4_code
def yX6_standAsIn : MethodName := ⟨RX6, "standAsIn", "(I)V"⟩
abbrev cX6_isSomeDoorWet : ByteArray := prog_8_method_5_code
def yX6_isSomeDoorWet : MethodName := ⟨RX6, "isSomeDoorWet", "()Z"⟩
abbrev cX6_dryMinuteOfStorm : ByteArray := prog_8_method_6_code
def yX6_dryMinuteOfStorm : MethodName := ⟨RX6, "dryMinuteOfStorm", "(I)I"⟩
abbrev cX6_peopleGoToMiddle : ByteArray := prog_8_method_7_code
def yX6_peopleGoToMiddle : MethodName := ⟨RX6, "peopleGoToMiddle", "()V"⟩
abbrev cX6_stray : ByteArray := prog_8_method_8_code
def yX6_stray : MethodName := ⟨RX6, "stray", "(III)I"⟩
abbrev cX6_cowsGoAstray : ByteArray := prog_8_method_9_code
def yX6_cowsGoAstray : MethodName := ⟨RX6, "cowsGoAstray", "()V"⟩
abbrev cX6_drawOfACow : ByteArray := prog_8_method_10_code
def yX6_drawOfACow : MethodName := ⟨RX6, "drawOfACow", "()I"⟩
def RX7 : String := "IslandThatLeans$Stones"
def TX7 : u_T := fun k => match k with
  | 0 => ("IslandThatLeans$Stones", "island", "LIslandThatLeans$Island;", true)
  | 1 => ("IslandThatLeans$Stones", "things", "LIslandThatLeans$Things;", true)
  | 2 => ("IslandThatLeans$Stones", "day", "LIslandThatLeans$Day;", true)
  | 3 => ("IslandThatLeans$Stones", "found", "[I", true)
  | 4 => ("IslandThatLeans$Stones", "rooms", "[I", true)
  | _ => ("IslandThatLeans$Stones", "lastWet", "I", false)
def tyX7 : Nat → FieldType := fun k => match k with
  | 0 => .object "IslandThatLeans$Island"
  | 1 => .object "IslandThatLeans$Things"
  | 2 => .object "IslandThatLeans$Day"
  | 3 => .array .int
  | 4 => .array .int
  | _ => .int
theorem nmX7 : ∀ a, a < 6 → ∀ b, b < 6 → a ≠ b → (TX7 a).2.1 ≠ (TX7 b).2.1 := by decide +kernel
theorem tyX7_ok : ∀ k, k < 6 → parseFieldDescriptor (TX7 k).2.2.1 = some (tyX7 k) := by decide +kernel
abbrev cX7_init : ByteArray := prog_9_method_1_code
def yX7_init : MethodName := ⟨RX7, "<init>", "(LIslandThatLeans$Island;LIslandThatLeans$Things;LIslandThatLeans$Day;)V"⟩
abbrev cX7_found : ByteArray := prog_9_method_2_code
def yX7_found : MethodName := ⟨RX7, "found", "(I)I"⟩
abbrev cX7_search : ByteArray := prog_9_method_3_code
def yX7_search : MethodName := ⟨RX7, "search", "()V"⟩
abbrev cX7_movesKeepDry : ByteArray := prog_9_method_4_code
def yX7_movesKeepDry : MethodName := ⟨RX7, "movesKeepDry", "(IIIII)Z"⟩
abbrev cX7_moveOfKeepsDry : ByteArray := prog_9_method_5_code
def yX7_moveOfKeepsDry : MethodName := ⟨RX7, "moveOfKeepsDry", "(IIIII)Z"⟩
abbrev cX7_keepMove : ByteArray := prog_9_method_6_code
def yX7_keepMove : MethodName := ⟨RX7, "keepMove", "(III)V"⟩
abbrev cX7_wetYear : ByteArray := prog_9_method_7_code
def yX7_wetYear : MethodName := ⟨RX7, "wetYear", "()I"⟩
abbrev cX7_measureRooms : ByteArray := prog_9_method_8_code
def yX7_measureRooms : MethodName := ⟨RX7, "measureRooms", "()V"⟩
abbrev cX7_isDryWith : ByteArray := prog_9_method_9_code
def yX7_isDryWith : MethodName := ⟨RX7, "isDryWith", "(II)Z"⟩
abbrev cX7_isWetWith : ByteArray := prog_9_method_10_code
def yX7_isWetWith : MethodName := ⟨RX7, "isWetWith", "(III)Z"⟩
def RX8 : String := "IslandThatLeans$Things"
def TX8 : u_T := fun k => match k with
  | 0 => ("IslandThatLeans$Things", "kinds", "[I", true)
  | 1 => ("IslandThatLeans$Things", "weights", "[I", true)
  | 2 => ("IslandThatLeans$Things", "places", "[I", true)
  | 3 => ("IslandThatLeans$Things", "keptPlaces", "[I", true)
  | 4 => ("IslandThatLeans$Things", "size", "I", false)
  | _ => ("IslandThatLeans$Things", "keptSize", "I", false)
def tyX8 : Nat → FieldType := fun k => match k with
  | 0 => .array .int
  | 1 => .array .int
  | 2 => .array .int
  | 3 => .array .int
  | 4 => .int
  | _ => .int
theorem nmX8 : ∀ a, a < 6 → ∀ b, b < 6 → a ≠ b → (TX8 a).2.1 ≠ (TX8 b).2.1 := by decide +kernel
theorem tyX8_ok : ∀ k, k < 6 → parseFieldDescriptor (TX8 k).2.2.1 = some (tyX8 k) := by decide +kernel
abbrev cX8_init : ByteArray := prog_10_method_1_code
def yX8_init : MethodName := ⟨RX8, "<init>", "()V"⟩
abbrev cX8_clear : ByteArray := prog_10_method_2_code
def yX8_clear : MethodName := ⟨RX8, "clear", "()V"⟩
abbrev cX8_size : ByteArray := prog_10_method_3_code
def yX8_size : MethodName := ⟨RX8, "size", "()I"⟩
abbrev cX8_has : ByteArray := prog_10_method_4_code
def yX8_has : MethodName := ⟨RX8, "has", "(I)Z"⟩
abbrev cX8_add : ByteArray := prog_10_method_5_code
def yX8_add : MethodName := ⟨RX8, "add", "(III)I"⟩
abbrev cX8_kind : ByteArray := prog_10_method_6_code
def yX8_kind : MethodName := ⟨RX8, "kind", "(I)I"⟩
abbrev cX8_weight : ByteArray := prog_10_method_7_code
def yX8_weight : MethodName := ⟨RX8, "weight", "(I)I"⟩
abbrev cX8_weighs : ByteArray := prog_10_method_8_code
def yX8_weighs : MethodName := ⟨RX8, "weighs", "(I)I"⟩
abbrev cX8_isA : ByteArray := prog_10_method_9_code
def yX8_isA : MethodName := ⟨RX8, "isA", "(II)Z"⟩
abbrev cX8_people : ByteArray := prog_10_method_10_code
def yX8_people : MethodName := ⟨RX8, "people", "()I"⟩
abbrev cX8_peopleBits : ByteArray := prog_10_method_11_code
def yX8_peopleBits : MethodName := ⟨RX8, "peopleBits", "()I"⟩
abbrev cX8_place : ByteArray := prog_10_method_12_code
def yX8_place : MethodName := ⟨RX8, "place", "(II)I"⟩
abbrev cX8_move : ByteArray := prog_10_method_13_code
def yX8_move : MethodName := ⟨RX8, "move", "(III)V"⟩
abbrev cX8_moveAllDay : ByteArray := prog_10_method_14_code
def yX8_moveAllDay : MethodName := ⟨RX8, "moveAllDay", "(II)V"⟩
abbrev cX8_keep : ByteArray := prog_10_method_15_code
def yX8_keep : MethodName := ⟨RX8, "keep", "()V"⟩
abbrev cX8_isKept : ByteArray := prog_10_method_16_code
def yX8_isKept : MethodName := ⟨RX8, "isKept", "()Z"⟩
abbrev cX8_goBack : ByteArray := prog_10_method_17_code
def yX8_goBack : MethodName := ⟨RX8, "goBack", "()V"⟩
def RX9 : String := "IslandThatLeans$Trades"
def TX9 : u_T := fun k => match k with
  | 0 => ("IslandThatLeans$Trades", "island", "LIslandThatLeans$Island;", true)
  | 1 => ("IslandThatLeans$Trades", "things", "LIslandThatLeans$Things;", true)
  | 2 => ("IslandThatLeans$Trades", "day", "LIslandThatLeans$Day;", true)
  | 3 => ("IslandThatLeans$Trades", "people", "[I", true)
  | 4 => ("IslandThatLeans$Trades", "squares", "[I", true)
  | 5 => ("IslandThatLeans$Trades", "taken", "[I", true)
  | 6 => ("IslandThatLeans$Trades", "best", "[I", true)
  | 7 => ("IslandThatLeans$Trades", "size", "I", false)
  | 8 => ("IslandThatLeans$Trades", "anyFound", "Z", false)
  | 9 => ("IslandThatLeans$Trades", "wetDoors", "I", false)
  | _ => ("IslandThatLeans$Trades", "elsewhere", "I", false)
def tyX9 : Nat → FieldType := fun k => match k with
  | 0 => .object "IslandThatLeans$Island"
  | 1 => .object "IslandThatLeans$Things"
  | 2 => .object "IslandThatLeans$Day"
  | 3 => .array .int
  | 4 => .array .int
  | 5 => .array .int
  | 6 => .array .int
  | 7 => .int
  | 8 => .boolean
  | 9 => .int
  | _ => .int
theorem nmX9 : ∀ a, a < 11 → ∀ b, b < 11 → a ≠ b → (TX9 a).2.1 ≠ (TX9 b).2.1 := by decide +kernel
theorem tyX9_ok : ∀ k, k < 11 → parseFieldDescriptor (TX9 k).2.2.1 = some (tyX9 k) := by decide +kernel
abbrev cX9_init : ByteArray := prog_11_method_1_code
def yX9_init : MethodName := ⟨RX9, "<init>", "(LIslandThatLeans$Island;LIslandThatLeans$Things;LIslandThatLeans$Day;)V"⟩
abbrev cX9_wetDoors : ByteArray := prog_11_method_2_code
def yX9_wetDoors : MethodName := ⟨RX9, "wetDoors", "()I"⟩
abbrev cX9_elsewhere : ByteArray := prog_11_method_3_code
def yX9_elsewhere : MethodName := ⟨RX9, "elsewhere", "()I"⟩
abbrev cX9_placeOf : ByteArray := prog_11_method_4_code
def yX9_placeOf : MethodName := ⟨RX9, "placeOf", "(I)I"⟩
abbrev cX9_search : ByteArray := prog_11_method_5_code
def yX9_search : MethodName := ⟨RX9, "search", "(I)V"⟩
abbrev cX9_takeSquares : ByteArray := prog_11_method_6_code
def yX9_takeSquares : MethodName := ⟨RX9, "takeSquares", "(IIIII)V"⟩
abbrev cX9_judge : ByteArray := prog_11_method_7_code
def yX9_judge : MethodName := ⟨RX9, "judge", "(III)V"⟩
def RX10 : String := "IslandThatLeans"
def TX10 : u_T := fun k => match k with
  | 0 => ("IslandThatLeans", "page", "LIslandThatLeans$Page;", true)
  | 1 => ("IslandThatLeans", "planText", "LIslandThatLeans$PlanText;", true)
  | 2 => ("IslandThatLeans", "island", "LIslandThatLeans$Island;", true)
  | 3 => ("IslandThatLeans", "things", "LIslandThatLeans$Things;", true)
  | 4 => ("IslandThatLeans", "day", "LIslandThatLeans$Day;", true)
  | 5 => ("IslandThatLeans", "processions", "LIslandThatLeans$Processions;", true)
  | 6 => ("IslandThatLeans", "trades", "LIslandThatLeans$Trades;", true)
  | 7 => ("IslandThatLeans", "stones", "LIslandThatLeans$Stones;", true)
  | 8 => ("IslandThatLeans", "lates", "LIslandThatLeans$Lates;", true)
  | 9 => ("IslandThatLeans", "spots", "LIslandThatLeans$Spots;", true)
  | 10 => ("IslandThatLeans", "plansRead", "I", false)
  | 11 => ("IslandThatLeans", "tradesDone", "I", false)
  | _ => ("IslandThatLeans", "stonesDone", "I", false)
def tyX10 : Nat → FieldType := fun k => match k with
  | 0 => .object "IslandThatLeans$Page"
  | 1 => .object "IslandThatLeans$PlanText"
  | 2 => .object "IslandThatLeans$Island"
  | 3 => .object "IslandThatLeans$Things"
  | 4 => .object "IslandThatLeans$Day"
  | 5 => .object "IslandThatLeans$Processions"
  | 6 => .object "IslandThatLeans$Trades"
  | 7 => .object "IslandThatLeans$Stones"
  | 8 => .object "IslandThatLeans$Lates"
  | 9 => .object "IslandThatLeans$Spots"
  | 10 => .int
  | 11 => .int
  | _ => .int
theorem nmX10 : ∀ a, a < 13 → ∀ b, b < 13 → a ≠ b → (TX10 a).2.1 ≠ (TX10 b).2.1 := by decide +kernel
theorem tyX10_ok : ∀ k, k < 13 → parseFieldDescriptor (TX10 k).2.2.1 = some (tyX10 k) := by decide +kernel
abbrev cX10_init : ByteArray := prog_1_method_1_code
def yX10_init : MethodName := ⟨RX10, "<init>", "()V"⟩
abbrev cX10_letters : ByteArray := prog_1_method_2_code
def yX10_letters : MethodName := ⟨RX10, "letters", "(J)I"⟩
abbrev cX10_blank : ByteArray := prog_1_method_3_code
def yX10_blank : MethodName := ⟨RX10, "blank", "()I"⟩
abbrev cX10_fault : ByteArray := prog_1_method_4_code
def yX10_fault : MethodName := ⟨RX10, "fault", "(I)I"⟩
abbrev cX10_plan : ByteArray := prog_1_method_5_code
def yX10_plan : MethodName := ⟨RX10, "plan", "()I"⟩
abbrev cX10_square : ByteArray := prog_1_method_6_code
def yX10_square : MethodName := ⟨RX10, "square", "(II)I"⟩
abbrev cX10_thing : ByteArray := prog_1_method_7_code
def yX10_thing : MethodName := ⟨RX10, "thing", "(III)I"⟩
abbrev cX10_about : ByteArray := prog_1_method_8_code
def yX10_about : MethodName := ⟨RX10, "about", "(II)I"⟩
abbrev cX10_as : ByteArray := prog_1_method_9_code
def yX10_as : MethodName := ⟨RX10, "as", "(II)I"⟩
abbrev cX10_stand : ByteArray := prog_1_method_10_code
def yX10_stand : MethodName := ⟨RX10, "stand", "(III)I"⟩
abbrev cX10_put : ByteArray := prog_1_method_11_code
def yX10_put : MethodName := ⟨RX10, "put", "(II)I"⟩
abbrev cX10_trade : ByteArray := prog_1_method_12_code
def yX10_trade : MethodName := ⟨RX10, "trade", "(III)I"⟩
abbrev cX10_leans : ByteArray := prog_1_method_13_code
def yX10_leans : MethodName := ⟨RX10, "leans", "(II)I"⟩
abbrev cX10_dip : ByteArray := prog_1_method_14_code
def yX10_dip : MethodName := ⟨RX10, "dip", "(II)I"⟩
abbrev cX10_wet : ByteArray := prog_1_method_15_code
def yX10_wet : MethodName := ⟨RX10, "wet", "(I)I"⟩
abbrev cX10_trades : ByteArray := prog_1_method_16_code
def yX10_trades : MethodName := ⟨RX10, "trades", "(II)I"⟩
abbrev cX10_counter : ByteArray := prog_1_method_17_code
def yX10_counter : MethodName := ⟨RX10, "counter", "(III)I"⟩
abbrev cX10_stones : ByteArray := prog_1_method_18_code
def yX10_stones : MethodName := ⟨RX10, "stones", "(I)I"⟩
abbrev cX10_site : ByteArray := prog_1_method_19_code
def yX10_site : MethodName := ⟨RX10, "site", "(I)I"⟩
abbrev cX10_late : ByteArray := prog_1_method_20_code
def yX10_late : MethodName := ⟨RX10, "late", "(III)I"⟩
abbrev cX10_storm : ByteArray := prog_1_method_21_code
def yX10_storm : MethodName := ⟨RX10, "storm", "(I)I"⟩
abbrev cX10_moss : ByteArray := prog_1_method_22_code
def yX10_moss : MethodName := ⟨RX10, "moss", "()I"⟩
abbrev cX10_cows : ByteArray := prog_1_method_23_code
def yX10_cows : MethodName := ⟨RX10, "cows", "(IIII)I"⟩
abbrev cX10_image : ByteArray := prog_1_method_24_code
def yX10_image : MethodName := ⟨RX10, "image", "()I"⟩
abbrev cX10_restore : ByteArray := prog_1_method_25_code
def yX10_restore : MethodName := ⟨RX10, "restore", "()I"⟩
abbrev cX10_count : ByteArray := prog_1_method_26_code
def yX10_count : MethodName := ⟨RX10, "count", "(I)I"⟩
abbrev cX10_digest : ByteArray := prog_1_method_27_code
def yX10_digest : MethodName := ⟨RX10, "digest", "()J"⟩
abbrev cX10_digested : ByteArray := prog_1_method_28_code
def yX10_digested : MethodName := ⟨RX10, "digested", "(JI)J"⟩
abbrev cX10_digestedThing : ByteArray := prog_1_method_29_code
def yX10_digestedThing : MethodName := ⟨RX10, "digestedThing", "(JI)J"⟩
abbrev cX10_digestedFindings : ByteArray := prog_1_method_30_code
def yX10_digestedFindings : MethodName := ⟨RX10, "digestedFindings", "(J)J"⟩
abbrev cX10_isQuarter : ByteArray := prog_1_method_31_code
def yX10_isQuarter : MethodName := ⟨RX10, "isQuarter", "(I)Z"⟩
abbrev cX10_isKind : ByteArray := prog_1_method_32_code
def yX10_isKind : MethodName := ⟨RX10, "isKind", "(I)Z"⟩
abbrev cX10_isWeight : ByteArray := prog_1_method_33_code
def yX10_isWeight : MethodName := ⟨RX10, "isWeight", "(I)Z"⟩
abbrev cX10_asksPlace : ByteArray := prog_1_method_34_code
def yX10_asksPlace : MethodName := ⟨RX10, "asksPlace", "(I)Z"⟩
def RX11 : String := "IslandThatLeansModel"
def TX11 : u_T := fun k => match k with
  | 0 => ("IslandThatLeansModel", "rows", "I", false)
  | 1 => ("IslandThatLeansModel", "wide", "I", false)
  | 2 => ("IslandThatLeansModel", "squares", "I", false)
  | 3 => ("IslandThatLeansModel", "plans", "I", false)
  | 4 => ("IslandThatLeansModel", "heightOf", "[I", true)
  | 5 => ("IslandThatLeansModel", "things", "I", false)
  | 6 => ("IslandThatLeansModel", "kindOf", "[I", true)
  | 7 => ("IslandThatLeansModel", "weightOf", "[I", true)
  | 8 => ("IslandThatLeansModel", "standsIn", "[I", true)
  | 9 => ("IslandThatLeansModel", "tradesDone", "I", false)
  | 10 => ("IslandThatLeansModel", "stonesDone", "I", false)
  | 11 => ("IslandThatLeansModel", "pageLength", "I", false)
  | 12 => ("IslandThatLeansModel", "page", "[B", true)
  | 13 => ("IslandThatLeansModel", "faultAt", "I", false)
  | 14 => ("IslandThatLeansModel", "isWhole", "Z", false)
  | 15 => ("IslandThatLeansModel", "newRows", "I", false)
  | 16 => ("IslandThatLeansModel", "newWide", "I", false)
  | 17 => ("IslandThatLeansModel", "newMany", "I", false)
  | 18 => ("IslandThatLeansModel", "newHeight", "[I", true)
  | 19 => ("IslandThatLeansModel", "moreEast", "I", false)
  | 20 => ("IslandThatLeansModel", "moreSouth", "I", false)
  | 21 => ("IslandThatLeansModel", "moss", "I", false)
  | 22 => ("IslandThatLeansModel", "person", "[I", true)
  | 23 => ("IslandThatLeansModel", "hadIn", "[I", true)
  | 24 => ("IslandThatLeansModel", "takes", "[I", true)
  | 25 => ("IslandThatLeansModel", "bestIn", "[I", true)
  | 26 => ("IslandThatLeansModel", "bestWet", "I", false)
  | 27 => ("IslandThatLeansModel", "bestMoved", "I", false)
  | 28 => ("IslandThatLeansModel", "wayOne", "[I", true)
  | 29 => ("IslandThatLeansModel", "wayTwo", "[I", true)
  | 30 => ("IslandThatLeansModel", "stoneOne", "I", false)
  | 31 => ("IslandThatLeansModel", "stoneOneAt", "I", false)
  | 32 => ("IslandThatLeansModel", "stoneTwo", "I", false)
  | 33 => ("IslandThatLeansModel", "stoneTwoAt", "I", false)
  | 34 => ("IslandThatLeansModel", "seedNow", "J", false)
  | 35 => ("IslandThatLeansModel", "isKept", "Z", false)
  | 36 => ("IslandThatLeansModel", "keptPlan", "I", false)
  | 37 => ("IslandThatLeansModel", "keptThings", "I", false)
  | 38 => ("IslandThatLeansModel", "keptIn", "[I", true)
  | _ => ("IslandThatLeansModel", "h", "J", false)
def tyX11 : Nat → FieldType := fun k => match k with
  | 0 => .int
  | 1 => .int
  | 2 => .int
  | 3 => .int
  | 4 => .array .int
  | 5 => .int
  | 6 => .array .int
  | 7 => .array .int
  | 8 => .array .int
  | 9 => .int
  | 10 => .int
  | 11 => .int
  | 12 => .array .byte
  | 13 => .int
  | 14 => .boolean
  | 15 => .int
  | 16 => .int
  | 17 => .int
  | 18 => .array .int
  | 19 => .int
  | 20 => .int
  | 21 => .int
  | 22 => .array .int
  | 23 => .array .int
  | 24 => .array .int
  | 25 => .array .int
  | 26 => .int
  | 27 => .int
  | 28 => .array .int
  | 29 => .array .int
  | 30 => .int
  | 31 => .int
  | 32 => .int
  | 33 => .int
  | 34 => .long
  | 35 => .boolean
  | 36 => .int
  | 37 => .int
  | 38 => .array .int
  | _ => .long
theorem nmX11 : ∀ a, a < 40 → ∀ b, b < 40 → a ≠ b → (TX11 a).2.1 ≠ (TX11 b).2.1 := by decide +kernel
theorem tyX11_ok : ∀ k, k < 40 → parseFieldDescriptor (TX11 k).2.2.1 = some (tyX11 k) := by decide +kernel
abbrev cX11_init : ByteArray := prog_13_method_1_code
def yX11_init : MethodName := ⟨RX11, "<init>", "()V"⟩
abbrev cX11_within : ByteArray := prog_13_method_3_code
def yX11_within : MethodName := ⟨RX11, "within", "(III)Z"⟩
abbrev cX11_has : ByteArray := prog_13_method_4_code
def yX11_has : MethodName := ⟨RX11, "has", "(II)Z"⟩
abbrev cX11_letters : ByteArray := prog_13_method_5_code
def yX11_letters : MethodName := ⟨RX11, "letters", "(J)I"⟩
abbrev cX11_blank : ByteArray := prog_13_method_6_code
def yX11_blank : MethodName := ⟨RX11, "blank", "()I"⟩
abbrev cX11_readPlan : ByteArray := prog_13_method_7_code
def yX11_readPlan : MethodName := ⟨RX11, "readPlan", "()V"⟩
abbrev cX11_wayBy : ByteArray := prog_13_method_8_code
def yX11_wayBy : MethodName := ⟨RX11, "wayBy", "(I)I"⟩
abbrev cX11_readWay : ByteArray := prog_13_method_9_code
def yX11_readWay : MethodName := ⟨RX11, "readWay", "()V"⟩
abbrev cX11_fault : ByteArray := prog_13_method_10_code
def yX11_fault : MethodName := ⟨RX11, "fault", "(I)I"⟩
abbrev cX11_plan : ByteArray := prog_13_method_11_code
def yX11_plan : MethodName := ⟨RX11, "plan", "()I"⟩
abbrev cX11_isSquare : ByteArray := prog_13_method_12_code
def yX11_isSquare : MethodName := ⟨RX11, "isSquare", "(I)Z"⟩
abbrev cX11_eastOf : ByteArray := prog_13_method_13_code
def yX11_eastOf : MethodName := ⟨RX11, "eastOf", "(I)I"⟩
abbrev cX11_southOf : ByteArray := prog_13_method_14_code
def yX11_southOf : MethodName := ⟨RX11, "southOf", "(I)I"⟩
abbrev cX11_square : ByteArray := prog_13_method_15_code
def yX11_square : MethodName := ⟨RX11, "square", "(II)I"⟩
abbrev cX11_isThing : ByteArray := prog_13_method_16_code
def yX11_isThing : MethodName := ⟨RX11, "isThing", "(I)Z"⟩
abbrev cX11_isQuarter : ByteArray := prog_13_method_17_code
def yX11_isQuarter : MethodName := ⟨RX11, "isQuarter", "(I)Z"⟩
abbrev cX11_isPerson : ByteArray := prog_13_method_18_code
def yX11_isPerson : MethodName := ⟨RX11, "isPerson", "(I)Z"⟩
abbrev cX11_thing : ByteArray := prog_13_method_19_code
def yX11_thing : MethodName := ⟨RX11, "thing", "(III)I"⟩
abbrev cX11_weighs : ByteArray := prog_13_method_20_code
def yX11_weighs : MethodName := ⟨RX11, "weighs", "(I)I"⟩
abbrev cX11_about : ByteArray := prog_13_method_21_code
def yX11_about : MethodName := ⟨RX11, "about", "(II)I"⟩
abbrev cX11_as : ByteArray := prog_13_method_22_code
def yX11_as : MethodName := ⟨RX11, "as", "(II)I"⟩
abbrev cX11_stand : ByteArray := prog_13_method_23_code
def yX11_stand : MethodName := ⟨RX11, "stand", "(III)I"⟩
abbrev cX11_putAt : ByteArray := prog_13_method_24_code
def yX11_putAt : MethodName := ⟨RX11, "putAt", "(II)V"⟩
abbrev cX11_put : ByteArray := prog_13_method_25_code
def yX11_put : MethodName := ⟨RX11, "put", "(II)I"⟩
abbrev cX11_trade : ByteArray := prog_13_method_26_code
def yX11_trade : MethodName := ⟨RX11, "trade", "(III)I"⟩
abbrev cX11_leanOf : ByteArray := prog_13_method_27_code
def yX11_leanOf : MethodName := ⟨RX11, "leanOf", "(IZ)I"⟩
abbrev cX11_leans : ByteArray := prog_13_method_28_code
def yX11_leans : MethodName := ⟨RX11, "leans", "(II)I"⟩
abbrev cX11_dip : ByteArray := prog_13_method_29_code
def yX11_dip : MethodName := ⟨RX11, "dip", "(II)I"⟩
abbrev cX11_wetIn : ByteArray := prog_13_method_30_code
def yX11_wetIn : MethodName := ⟨RX11, "wetIn", "(I)I"⟩
abbrev cX11_size : ByteArray := prog_13_method_31_code
def yX11_size : MethodName := ⟨RX11, "size", "(I)I"⟩
abbrev cX11_wet : ByteArray := prog_13_method_32_code
def yX11_wet : MethodName := ⟨RX11, "wet", "(I)I"⟩
abbrev cX11_wetAll : ByteArray := prog_13_method_33_code
def yX11_wetAll : MethodName := ⟨RX11, "wetAll", "()I"⟩
abbrev cX11_peopleMany : ByteArray := prog_13_method_34_code
def yX11_peopleMany : MethodName := ⟨RX11, "peopleMany", "()I"⟩
abbrev cX11_layPeople : ByteArray := prog_13_method_35_code
def yX11_layPeople : MethodName := ⟨RX11, "layPeople", "(I)V"⟩
abbrev cX11_exchange : ByteArray := prog_13_method_36_code
def yX11_exchange : MethodName := ⟨RX11, "exchange", "(II)V"⟩
abbrev cX11_nextTakes : ByteArray := prog_13_method_37_code
def yX11_nextTakes : MethodName := ⟨RX11, "nextTakes", "(I)Z"⟩
abbrev cX11_tryTrade : ByteArray := prog_13_method_38_code
def yX11_tryTrade : MethodName := ⟨RX11, "tryTrade", "(II)V"⟩
abbrev cX11_tradesNow : ByteArray := prog_13_method_39_code
def yX11_tradesNow : MethodName := ⟨RX11, "tradesNow", "(II)I"⟩
abbrev cX11_trades : ByteArray := prog_13_method_40_code
def yX11_trades : MethodName := ⟨RX11, "trades", "(II)I"⟩
abbrev cX11_besideOf : ByteArray := prog_13_method_41_code
def yX11_besideOf : MethodName := ⟨RX11, "besideOf", "(II)I"⟩
abbrev cX11_layWay : ByteArray := prog_13_method_42_code
def yX11_layWay : MethodName := ⟨RX11, "layWay", "(IIZ)Z"⟩
abbrev cX11_wetWith : ByteArray := prog_13_method_43_code
def yX11_wetWith : MethodName := ⟨RX11, "wetWith", "(I)I"⟩
abbrev cX11_counter : ByteArray := prog_13_method_44_code
def yX11_counter : MethodName := ⟨RX11, "counter", "(III)I"⟩
abbrev cX11_isDry : ByteArray := prog_13_method_45_code
def yX11_isDry : MethodName := ⟨RX11, "isDry", "()Z"⟩
abbrev cX11_helpsFrom : ByteArray := prog_13_method_46_code
def yX11_helpsFrom : MethodName := ⟨RX11, "helpsFrom", "(I)Z"⟩
abbrev cX11_helpTwo : ByteArray := prog_13_method_47_code
def yX11_helpTwo : MethodName := ⟨RX11, "helpTwo", "()Z"⟩
abbrev cX11_stonesNow : ByteArray := prog_13_method_48_code
def yX11_stonesNow : MethodName := ⟨RX11, "stonesNow", "(I)I"⟩
abbrev cX11_stones : ByteArray := prog_13_method_49_code
def yX11_stones : MethodName := ⟨RX11, "stones", "(I)I"⟩
abbrev cX11_siteNow : ByteArray := prog_13_method_50_code
def yX11_siteNow : MethodName := ⟨RX11, "siteNow", "(I)I"⟩
abbrev cX11_site : ByteArray := prog_13_method_51_code
def yX11_site : MethodName := ⟨RX11, "site", "(I)I"⟩
abbrev cX11_lateNow : ByteArray := prog_13_method_52_code
def yX11_lateNow : MethodName := ⟨RX11, "lateNow", "(III)I"⟩
abbrev cX11_late : ByteArray := prog_13_method_53_code
def yX11_late : MethodName := ⟨RX11, "late", "(III)I"⟩
abbrev cX11_toMiddle : ByteArray := prog_13_method_54_code
def yX11_toMiddle : MethodName := ⟨RX11, "toMiddle", "(I)I"⟩
abbrev cX11_keepStands : ByteArray := prog_13_method_55_code
def yX11_keepStands : MethodName := ⟨RX11, "keepStands", "(I)V"⟩
abbrev cX11_putStands : ByteArray := prog_13_method_56_code
def yX11_putStands : MethodName := ⟨RX11, "putStands", "(I)V"⟩
abbrev cX11_stormNow : ByteArray := prog_13_method_57_code
def yX11_stormNow : MethodName := ⟨RX11, "stormNow", "(I)I"⟩
abbrev cX11_storm : ByteArray := prog_13_method_58_code
def yX11_storm : MethodName := ⟨RX11, "storm", "(I)I"⟩
abbrev cX11_mossNow : ByteArray := prog_13_method_59_code
def yX11_mossNow : MethodName := ⟨RX11, "mossNow", "()I"⟩
abbrev cX11_moss : ByteArray := prog_13_method_60_code
def yX11_moss : MethodName := ⟨RX11, "moss", "()I"⟩
abbrev cX11_draw : ByteArray := prog_13_method_61_code
def yX11_draw : MethodName := ⟨RX11, "draw", "(I)I"⟩
abbrev cX11_stray : ByteArray := prog_13_method_62_code
def yX11_stray : MethodName := ⟨RX11, "stray", "(I)V"⟩
abbrev cX11_cowsNow : ByteArray := prog_13_method_63_code
def yX11_cowsNow : MethodName := ⟨RX11, "cowsNow", "(IIII)I"⟩
abbrev cX11_cows : ByteArray := prog_13_method_64_code
def yX11_cows : MethodName := ⟨RX11, "cows", "(IIII)I"⟩
abbrev cX11_image : ByteArray := prog_13_method_65_code
def yX11_image : MethodName := ⟨RX11, "image", "()I"⟩
abbrev cX11_restore : ByteArray := prog_13_method_66_code
def yX11_restore : MethodName := ⟨RX11, "restore", "()I"⟩
abbrev cX11_doorMany : ByteArray := prog_13_method_67_code
def yX11_doorMany : MethodName := ⟨RX11, "doorMany", "()I"⟩
abbrev cX11_howMany : ByteArray := prog_13_method_68_code
def yX11_howMany : MethodName := ⟨RX11, "howMany", "(I)I"⟩
abbrev cX11_count : ByteArray := prog_13_method_69_code
def yX11_count : MethodName := ⟨RX11, "count", "(I)I"⟩
abbrev cX11_mix : ByteArray := prog_13_method_70_code
def yX11_mix : MethodName := ⟨RX11, "mix", "(J)V"⟩
abbrev cX11_mixThing : ByteArray := prog_13_method_71_code
def yX11_mixThing : MethodName := ⟨RX11, "mixThing", "(I)V"⟩
abbrev cX11_digest : ByteArray := prog_13_method_72_code
def yX11_digest : MethodName := ⟨RX11, "digest", "()J"⟩
def RJ6 : String := "java/lang/Integer"
def TJ6 : u_T := fun k => match k with
  | _ => ("", "", "", false)
def tyJ6 : Nat → FieldType := fun k => match k with
  | _ => .int
theorem nmJ6 : ∀ a, a < 0 → ∀ b, b < 0 → a ≠ b → (TJ6 a).2.1 ≠ (TJ6 b).2.1 := by decide +kernel
theorem tyJ6_ok : ∀ k, k < 0 → parseFieldDescriptor (TJ6 k).2.2.1 = some (tyJ6 k) := by decide +kernel
abbrev cJ6_bitCount_0f7a4 : ByteArray := prog_14_method_49_code
def yJ6_bitCount_0f7a4 : MethodName := ⟨RJ6, "bitCount", "(I)I"⟩
def RJ9 : String := "java/lang/Math"
def TJ9 : u_T := fun k => match k with
  | _ => ("", "", "", false)
def tyJ9 : Nat → FieldType := fun k => match k with
  | _ => .int
theorem nmJ9 : ∀ a, a < 0 → ∀ b, b < 0 → a ≠ b → (TJ9 a).2.1 ≠ (TJ9 b).2.1 := by decide +kernel
theorem tyJ9_ok : ∀ k, k < 0 → parseFieldDescriptor (TJ9 k).2.2.1 = some (tyJ9 k) := by decide +kernel
abbrev cJ9_max_7cf53 : ByteArray := prog_15_method_65_code
def yJ9_max_7cf53 : MethodName := ⟨RJ9, "max", "(II)I"⟩
def RJ10 : String := "java/lang/System"
def TJ10 : u_T := fun k => match k with
  | _ => ("", "", "", false)
def tyJ10 : Nat → FieldType := fun k => match k with
  | _ => .int
theorem nmJ10 : ∀ a, a < 0 → ∀ b, b < 0 → a ≠ b → (TJ10 a).2.1 ≠ (TJ10 b).2.1 := by decide +kernel
theorem tyJ10_ok : ∀ k, k < 0 → parseFieldDescriptor (TJ10 k).2.2.1 = some (tyJ10 k) := by decide +kernel
def RL : String := "IslandThatLeansLaw"
abbrev cL_law : ByteArray := code
def yL_law : MethodName := ⟨RL, "law", "([I)Z"⟩
end
section
theorem dX0_init_0 : decode cX0_init 0 = .ok (.aload_n 0, 1) := by decide +kernel
theorem dX0_init_1 : decode cX0_init 1 = .ok (.invokespecial 3, 3) := by decide +kernel
theorem dX0_init_4 : decode cX0_init 4 = .ok (.aload_n 0, 1) := by decide +kernel
theorem dX0_init_5 : decode cX0_init 5 = .ok (.bipush 8, 2) := by decide +kernel
theorem dX0_init_7 : decode cX0_init 7 = .ok (.newarray .int, 2) := by decide +kernel
theorem dX0_init_9 : decode cX0_init 9 = .ok (.putfield 9, 3) := by decide +kernel
theorem dX0_init_12 : decode cX0_init 12 = .ok (.aload_n 0, 1) := by decide +kernel
theorem dX0_init_13 : decode cX0_init 13 = .ok (.bipush 8, 2) := by decide +kernel
theorem dX0_init_15 : decode cX0_init 15 = .ok (.newarray .int, 2) := by decide +kernel
theorem dX0_init_17 : decode cX0_init 17 = .ok (.putfield 15, 3) := by decide +kernel
theorem dX0_init_20 : decode cX0_init 20 = .ok (.aload_n 0, 1) := by decide +kernel
theorem dX0_init_21 : decode cX0_init 21 = .ok (.aload_n 1, 1) := by decide +kernel
theorem dX0_init_22 : decode cX0_init 22 = .ok (.putfield 18, 3) := by decide +kernel
theorem dX0_init_25 : decode cX0_init 25 = .ok (.aload_n 0, 1) := by decide +kernel
theorem dX0_init_26 : decode cX0_init 26 = .ok (.aload_n 2, 1) := by decide +kernel
theorem dX0_init_27 : decode cX0_init 27 = .ok (.putfield 22, 3) := by decide +kernel
theorem dX0_init_30 : decode cX0_init 30 = .ok (.return_, 1) := by decide +kernel
theorem dX0_leanEast_0 : decode cX0_leanEast 0 = .ok (.iconst 0, 1) := by decide +kernel
theorem dX0_leanEast_1 : decode cX0_leanEast 1 = .ok (.istore_n 2, 1) := by decide +kernel
theorem dX0_leanEast_2 : decode cX0_leanEast 2 = .ok (.iconst 0, 1) := by decide +kernel
theorem dX0_leanEast_3 : decode cX0_leanEast 3 = .ok (.istore_n 3, 1) := by decide +kernel
theorem dX0_leanEast_4 : decode cX0_leanEast 4 = .ok (.iload_n 3, 1) := by decide +kernel
theorem dX0_leanEast_5 : decode cX0_leanEast 5 = .ok (.aload_n 0, 1) := by decide +kernel
theorem dX0_leanEast_6 : decode cX0_leanEast 6 = .ok (.getfield 22, 3) := by decide +kernel
theorem dX0_leanEast_9 : decode cX0_leanEast 9 = .ok (.invokevirtual 26, 3) := by decide +kernel
theorem dX0_leanEast_12 : decode cX0_leanEast 12 = .ok (.if_icmp .ge 37, 3) := by decide +kernel
theorem dX0_leanEast_15 : decode cX0_leanEast 15 = .ok (.iload_n 2, 1) := by decide +kernel
theorem dX0_leanEast_16 : decode cX0_leanEast 16 = .ok (.aload_n 0, 1) := by decide +kernel
theorem dX0_leanEast_17 : decode cX0_leanEast 17 = .ok (.getfield 22, 3) := by decide +kernel
theorem dX0_leanEast_20 : decode cX0_leanEast 20 = .ok (.iload_n 3, 1) := by decide +kernel
theorem dX0_leanEast_21 : decode cX0_leanEast 21 = .ok (.invokevirtual 32, 3) := by decide +kernel
theorem dX0_leanEast_24 : decode cX0_leanEast 24 = .ok (.aload_n 0, 1) := by decide +kernel
theorem dX0_leanEast_25 : decode cX0_leanEast 25 = .ok (.getfield 18, 3) := by decide +kernel
theorem dX0_leanEast_28 : decode cX0_leanEast 28 = .ok (.aload_n 0, 1) := by decide +kernel
theorem dX0_leanEast_29 : decode cX0_leanEast 29 = .ok (.getfield 22, 3) := by decide +kernel
theorem dX0_leanEast_32 : decode cX0_leanEast 32 = .ok (.iload_n 3, 1) := by decide +kernel
theorem dX0_leanEast_33 : decode cX0_leanEast 33 = .ok (.iload_n 1, 1) := by decide +kernel
theorem dX0_leanEast_34 : decode cX0_leanEast 34 = .ok (.invokevirtual 36, 3) := by decide +kernel
theorem dX0_leanEast_37 : decode cX0_leanEast 37 = .ok (.invokevirtual 40, 3) := by decide +kernel
theorem dX0_leanEast_40 : decode cX0_leanEast 40 = .ok (.imul, 1) := by decide +kernel
theorem dX0_leanEast_41 : decode cX0_leanEast 41 = .ok (.iadd, 1) := by decide +kernel
theorem dX0_leanEast_42 : decode cX0_leanEast 42 = .ok (.istore_n 2, 1) := by decide +kernel
theorem dX0_leanEast_43 : decode cX0_leanEast 43 = .ok (.iinc 3 1, 3) := by decide +kernel
theorem dX0_leanEast_46 : decode cX0_leanEast 46 = .ok (.goto (-42), 3) := by decide +kernel
theorem dX0_leanEast_49 : decode cX0_leanEast 49 = .ok (.iload_n 2, 1) := by decide +kernel
theorem dX0_leanEast_50 : decode cX0_leanEast 50 = .ok (.ireturn, 1) := by decide +kernel
theorem dX0_leanSouth_0 : decode cX0_leanSouth 0 = .ok (.iconst 0, 1) := by decide +kernel
theorem dX0_leanSouth_1 : decode cX0_leanSouth 1 = .ok (.istore_n 2, 1) := by decide +kernel
theorem dX0_leanSouth_2 : decode cX0_leanSouth 2 = .ok (.iconst 0, 1) := by decide +kernel
theorem dX0_leanSouth_3 : decode cX0_leanSouth 3 = .ok (.istore_n 3, 1) := by decide +kernel
theorem dX0_leanSouth_4 : decode cX0_leanSouth 4 = .ok (.iload_n 3, 1) := by decide +kernel
theorem dX0_leanSouth_5 : decode cX0_leanSouth 5 = .ok (.aload_n 0, 1) := by decide +kernel
theorem dX0_leanSouth_6 : decode cX0_leanSouth 6 = .ok (.getfield 22, 3) := by decide +kernel
theorem dX0_leanSouth_9 : decode cX0_leanSouth 9 = .ok (.invokevirtual 26, 3) := by decide +kernel
theorem dX0_leanSouth_12 : decode cX0_leanSouth 12 = .ok (.if_icmp .ge 37, 3) := by decide +kernel
theorem dX0_leanSouth_15 : decode cX0_leanSouth 15 = .ok (.iload_n 2, 1) := by decide +kernel
theorem dX0_leanSouth_16 : decode cX0_leanSouth 16 = .ok (.aload_n 0, 1) := by decide +kernel
theorem dX0_leanSouth_17 : decode cX0_leanSouth 17 = .ok (.getfield 22, 3) := by decide +kernel
theorem dX0_leanSouth_20 : decode cX0_leanSouth 20 = .ok (.iload_n 3, 1) := by decide +kernel
theorem dX0_leanSouth_21 : decode cX0_leanSouth 21 = .ok (.invokevirtual 32, 3) := by decide +kernel
theorem dX0_leanSouth_24 : decode cX0_leanSouth 24 = .ok (.aload_n 0, 1) := by decide +kernel
theorem dX0_leanSouth_25 : decode cX0_leanSouth 25 = .ok (.getfield 18, 3) := by decide +kernel
theorem dX0_leanSouth_28 : decode cX0_leanSouth 28 = .ok (.aload_n 0, 1) := by decide +kernel
theorem dX0_leanSouth_29 : decode cX0_leanSouth 29 = .ok (.getfield 22, 3) := by decide +kernel
theorem dX0_leanSouth_32 : decode cX0_leanSouth 32 = .ok (.iload_n 3, 1) := by decide +kernel
theorem dX0_leanSouth_33 : decode cX0_leanSouth 33 = .ok (.iload_n 1, 1) := by decide +kernel
theorem dX0_leanSouth_34 : decode cX0_leanSouth 34 = .ok (.invokevirtual 36, 3) := by decide +kernel
theorem dX0_leanSouth_37 : decode cX0_leanSouth 37 = .ok (.invokevirtual 45, 3) := by decide +kernel
theorem dX0_leanSouth_40 : decode cX0_leanSouth 40 = .ok (.imul, 1) := by decide +kernel
theorem dX0_leanSouth_41 : decode cX0_leanSouth 41 = .ok (.iadd, 1) := by decide +kernel
theorem dX0_leanSouth_42 : decode cX0_leanSouth 42 = .ok (.istore_n 2, 1) := by decide +kernel
theorem dX0_leanSouth_43 : decode cX0_leanSouth 43 = .ok (.iinc 3 1, 3) := by decide +kernel
theorem dX0_leanSouth_46 : decode cX0_leanSouth 46 = .ok (.goto (-42), 3) := by decide +kernel
theorem dX0_leanSouth_49 : decode cX0_leanSouth 49 = .ok (.iload_n 2, 1) := by decide +kernel
theorem dX0_leanSouth_50 : decode cX0_leanSouth 50 = .ok (.ireturn, 1) := by decide +kernel
theorem dX0_wetIn_0 : decode cX0_wetIn 0 = .ok (.aload_n 0, 1) := by decide +kernel
theorem dX0_wetIn_1 : decode cX0_wetIn 1 = .ok (.getfield 18, 3) := by decide +kernel
theorem dX0_wetIn_4 : decode cX0_wetIn 4 = .ok (.aload_n 0, 1) := by decide +kernel
theorem dX0_wetIn_5 : decode cX0_wetIn 5 = .ok (.iload_n 1, 1) := by decide +kernel
theorem dX0_wetIn_6 : decode cX0_wetIn 6 = .ok (.invokevirtual 48, 3) := by decide +kernel
theorem dX0_wetIn_9 : decode cX0_wetIn 9 = .ok (.aload_n 0, 1) := by decide +kernel
theorem dX0_wetIn_10 : decode cX0_wetIn 10 = .ok (.iload_n 1, 1) := by decide +kernel
theorem dX0_wetIn_11 : decode cX0_wetIn 11 = .ok (.invokevirtual 51, 3) := by decide +kernel
theorem dX0_wetIn_14 : decode cX0_wetIn 14 = .ok (.invokevirtual 54, 3) := by decide +kernel
theorem dX0_wetIn_17 : decode cX0_wetIn 17 = .ok (.ireturn, 1) := by decide +kernel
theorem dX0_weigh_0 : decode cX0_weigh 0 = .ok (.iconst 0, 1) := by decide +kernel
theorem dX0_weigh_1 : decode cX0_weigh 1 = .ok (.istore_n 1, 1) := by decide +kernel
theorem dX0_weigh_2 : decode cX0_weigh 2 = .ok (.iload_n 1, 1) := by decide +kernel
theorem dX0_weigh_3 : decode cX0_weigh 3 = .ok (.bipush 8, 2) := by decide +kernel
theorem dX0_weigh_5 : decode cX0_weigh 5 = .ok (.if_icmp .ge 31, 3) := by decide +kernel
theorem dX0_weigh_8 : decode cX0_weigh 8 = .ok (.aload_n 0, 1) := by decide +kernel
theorem dX0_weigh_9 : decode cX0_weigh 9 = .ok (.getfield 9, 3) := by decide +kernel
theorem dX0_weigh_12 : decode cX0_weigh 12 = .ok (.iload_n 1, 1) := by decide +kernel
theorem dX0_weigh_13 : decode cX0_weigh 13 = .ok (.aload_n 0, 1) := by decide +kernel
theorem dX0_weigh_14 : decode cX0_weigh 14 = .ok (.iload_n 1, 1) := by decide +kernel
theorem dX0_weigh_15 : decode cX0_weigh 15 = .ok (.invokevirtual 48, 3) := by decide +kernel
theorem dX0_weigh_18 : decode cX0_weigh 18 = .ok (.iastore, 1) := by decide +kernel
theorem dX0_weigh_19 : decode cX0_weigh 19 = .ok (.aload_n 0, 1) := by decide +kernel
theorem dX0_weigh_20 : decode cX0_weigh 20 = .ok (.getfield 15, 3) := by decide +kernel
theorem dX0_weigh_23 : decode cX0_weigh 23 = .ok (.iload_n 1, 1) := by decide +kernel
theorem dX0_weigh_24 : decode cX0_weigh 24 = .ok (.aload_n 0, 1) := by decide +kernel
theorem dX0_weigh_25 : decode cX0_weigh 25 = .ok (.iload_n 1, 1) := by decide +kernel
theorem dX0_weigh_26 : decode cX0_weigh 26 = .ok (.invokevirtual 51, 3) := by decide +kernel
theorem dX0_weigh_29 : decode cX0_weigh 29 = .ok (.iastore, 1) := by decide +kernel
theorem dX0_weigh_30 : decode cX0_weigh 30 = .ok (.iinc 1 1, 3) := by decide +kernel
theorem dX0_weigh_33 : decode cX0_weigh 33 = .ok (.goto (-31), 3) := by decide +kernel
theorem dX0_weigh_36 : decode cX0_weigh 36 = .ok (.return_, 1) := by decide +kernel
theorem dX0_wetDoorsWith_0 : decode cX0_wetDoorsWith 0 = .ok (.iload_n 1, 1) := by decide +kernel
theorem dX0_wetDoorsWith_1 : decode cX0_wetDoorsWith 1 = .ok (.invokestatic 57, 3) := by decide +kernel
theorem dX0_wetDoorsWith_4 : decode cX0_wetDoorsWith 4 = .ok (.ifCond .ne 5, 3) := by decide +kernel
theorem dX0_wetDoorsWith_7 : decode cX0_wetDoorsWith 7 = .ok (.iconst 0, 1) := by decide +kernel
theorem dX0_wetDoorsWith_8 : decode cX0_wetDoorsWith 8 = .ok (.ireturn, 1) := by decide +kernel
theorem dX0_wetDoorsWith_9 : decode cX0_wetDoorsWith 9 = .ok (.aload_n 0, 1) := by decide +kernel
theorem dX0_wetDoorsWith_10 : decode cX0_wetDoorsWith 10 = .ok (.getfield 18, 3) := by decide +kernel
theorem dX0_wetDoorsWith_13 : decode cX0_wetDoorsWith 13 = .ok (.aload_n 0, 1) := by decide +kernel
theorem dX0_wetDoorsWith_14 : decode cX0_wetDoorsWith 14 = .ok (.getfield 9, 3) := by decide +kernel
theorem dX0_wetDoorsWith_17 : decode cX0_wetDoorsWith 17 = .ok (.iload_n 1, 1) := by decide +kernel
theorem dX0_wetDoorsWith_18 : decode cX0_wetDoorsWith 18 = .ok (.iaload, 1) := by decide +kernel
theorem dX0_wetDoorsWith_19 : decode cX0_wetDoorsWith 19 = .ok (.iload_n 2, 1) := by decide +kernel
theorem dX0_wetDoorsWith_20 : decode cX0_wetDoorsWith 20 = .ok (.iadd, 1) := by decide +kernel
theorem dX0_wetDoorsWith_21 : decode cX0_wetDoorsWith 21 = .ok (.aload_n 0, 1) := by decide +kernel
theorem dX0_wetDoorsWith_22 : decode cX0_wetDoorsWith 22 = .ok (.getfield 15, 3) := by decide +kernel
theorem dX0_wetDoorsWith_25 : decode cX0_wetDoorsWith 25 = .ok (.iload_n 1, 1) := by decide +kernel
theorem dX0_wetDoorsWith_26 : decode cX0_wetDoorsWith 26 = .ok (.iaload, 1) := by decide +kernel
theorem dX0_wetDoorsWith_27 : decode cX0_wetDoorsWith 27 = .ok (.iload_n 3, 1) := by decide +kernel
theorem dX0_wetDoorsWith_28 : decode cX0_wetDoorsWith 28 = .ok (.iadd, 1) := by decide +kernel
theorem dX0_wetDoorsWith_29 : decode cX0_wetDoorsWith 29 = .ok (.invokevirtual 61, 3) := by decide +kernel
theorem dX0_wetDoorsWith_32 : decode cX0_wetDoorsWith 32 = .ok (.ireturn, 1) := by decide +kernel
theorem dX0_greatestDip_0 : decode cX0_greatestDip 0 = .ok (.aload_n 0, 1) := by decide +kernel
theorem dX0_greatestDip_1 : decode cX0_greatestDip 1 = .ok (.getfield 18, 3) := by decide +kernel
theorem dX0_greatestDip_4 : decode cX0_greatestDip 4 = .ok (.iload_n 1, 1) := by decide +kernel
theorem dX0_greatestDip_5 : decode cX0_greatestDip 5 = .ok (.aload_n 0, 1) := by decide +kernel
theorem dX0_greatestDip_6 : decode cX0_greatestDip 6 = .ok (.getfield 9, 3) := by decide +kernel
theorem dX0_greatestDip_9 : decode cX0_greatestDip 9 = .ok (.iconst 0, 1) := by decide +kernel
theorem dX0_greatestDip_10 : decode cX0_greatestDip 10 = .ok (.iaload, 1) := by decide +kernel
theorem dX0_greatestDip_11 : decode cX0_greatestDip 11 = .ok (.aload_n 0, 1) := by decide +kernel
theorem dX0_greatestDip_12 : decode cX0_greatestDip 12 = .ok (.getfield 15, 3) := by decide +kernel
theorem dX0_greatestDip_15 : decode cX0_greatestDip 15 = .ok (.iconst 0, 1) := by decide +kernel
theorem dX0_greatestDip_16 : decode cX0_greatestDip 16 = .ok (.iaload, 1) := by decide +kernel
theorem dX0_greatestDip_17 : decode cX0_greatestDip 17 = .ok (.invokevirtual 64, 3) := by decide +kernel
theorem dX0_greatestDip_20 : decode cX0_greatestDip 20 = .ok (.istore_n 2, 1) := by decide +kernel
theorem dX0_greatestDip_21 : decode cX0_greatestDip 21 = .ok (.iconst 1, 1) := by decide +kernel
theorem dX0_greatestDip_22 : decode cX0_greatestDip 22 = .ok (.istore_n 3, 1) := by decide +kernel
theorem dX0_greatestDip_23 : decode cX0_greatestDip 23 = .ok (.iload_n 3, 1) := by decide +kernel
theorem dX0_greatestDip_24 : decode cX0_greatestDip 24 = .ok (.bipush 8, 2) := by decide +kernel
theorem dX0_greatestDip_26 : decode cX0_greatestDip 26 = .ok (.if_icmp .ge 34, 3) := by decide +kernel
theorem dX0_greatestDip_29 : decode cX0_greatestDip 29 = .ok (.iload_n 2, 1) := by decide +kernel
theorem dX0_greatestDip_30 : decode cX0_greatestDip 30 = .ok (.aload_n 0, 1) := by decide +kernel
theorem dX0_greatestDip_31 : decode cX0_greatestDip 31 = .ok (.getfield 18, 3) := by decide +kernel
theorem dX0_greatestDip_34 : decode cX0_greatestDip 34 = .ok (.iload_n 1, 1) := by decide +kernel
theorem dX0_greatestDip_35 : decode cX0_greatestDip 35 = .ok (.aload_n 0, 1) := by decide +kernel
theorem dX0_greatestDip_36 : decode cX0_greatestDip 36 = .ok (.getfield 9, 3) := by decide +kernel
theorem dX0_greatestDip_39 : decode cX0_greatestDip 39 = .ok (.iload_n 3, 1) := by decide +kernel
theorem dX0_greatestDip_40 : decode cX0_greatestDip 40 = .ok (.iaload, 1) := by decide +kernel
theorem dX0_greatestDip_41 : decode cX0_greatestDip 41 = .ok (.aload_n 0, 1) := by decide +kernel
theorem dX0_greatestDip_42 : decode cX0_greatestDip 42 = .ok (.getfield 15, 3) := by decide +kernel
theorem dX0_greatestDip_45 : decode cX0_greatestDip 45 = .ok (.iload_n 3, 1) := by decide +kernel
theorem dX0_greatestDip_46 : decode cX0_greatestDip 46 = .ok (.iaload, 1) := by decide +kernel
theorem dX0_greatestDip_47 : decode cX0_greatestDip 47 = .ok (.invokevirtual 64, 3) := by decide +kernel
theorem dX0_greatestDip_50 : decode cX0_greatestDip 50 = .ok (.invokestatic 68, 3) := by decide +kernel
theorem dX0_greatestDip_53 : decode cX0_greatestDip 53 = .ok (.istore_n 2, 1) := by decide +kernel
theorem dX0_greatestDip_54 : decode cX0_greatestDip 54 = .ok (.iinc 3 1, 3) := by decide +kernel
theorem dX0_greatestDip_57 : decode cX0_greatestDip 57 = .ok (.goto (-34), 3) := by decide +kernel
theorem dX0_greatestDip_60 : decode cX0_greatestDip 60 = .ok (.iload_n 2, 1) := by decide +kernel
theorem dX0_greatestDip_61 : decode cX0_greatestDip 61 = .ok (.ireturn, 1) := by decide +kernel
theorem dX0_driestSquareFor_0 : decode cX0_driestSquareFor 0 = .ok (.aload_n 0, 1) := by decide +kernel
theorem dX0_driestSquareFor_1 : decode cX0_driestSquareFor 1 = .ok (.invokevirtual 73, 3) := by decide +kernel
theorem dX0_driestSquareFor_4 : decode cX0_driestSquareFor 4 = .ok (.iconst (-1), 1) := by decide +kernel
theorem dX0_driestSquareFor_5 : decode cX0_driestSquareFor 5 = .ok (.istore_n 2, 1) := by decide +kernel
theorem dX0_driestSquareFor_6 : decode cX0_driestSquareFor 6 = .ok (.iconst 0, 1) := by decide +kernel
theorem dX0_driestSquareFor_7 : decode cX0_driestSquareFor 7 = .ok (.istore_n 3, 1) := by decide +kernel
theorem dX0_driestSquareFor_8 : decode cX0_driestSquareFor 8 = .ok (.iconst 0, 1) := by decide +kernel
theorem dX0_driestSquareFor_9 : decode cX0_driestSquareFor 9 = .ok (.istore 4, 2) := by decide +kernel
theorem dX0_driestSquareFor_11 : decode cX0_driestSquareFor 11 = .ok (.iload 4, 2) := by decide +kernel
theorem dX0_driestSquareFor_13 : decode cX0_driestSquareFor 13 = .ok (.aload_n 0, 1) := by decide +kernel
theorem dX0_driestSquareFor_14 : decode cX0_driestSquareFor 14 = .ok (.getfield 18, 3) := by decide +kernel
theorem dX0_driestSquareFor_17 : decode cX0_driestSquareFor 17 = .ok (.invokevirtual 76, 3) := by decide +kernel
theorem dX0_driestSquareFor_20 : decode cX0_driestSquareFor 20 = .ok (.if_icmp .ge 54, 3) := by decide +kernel
theorem dX0_driestSquareFor_23 : decode cX0_driestSquareFor 23 = .ok (.aload_n 0, 1) := by decide +kernel
theorem dX0_driestSquareFor_24 : decode cX0_driestSquareFor 24 = .ok (.iload_n 1, 1) := by decide +kernel
theorem dX0_driestSquareFor_25 : decode cX0_driestSquareFor 25 = .ok (.aload_n 0, 1) := by decide +kernel
theorem dX0_driestSquareFor_26 : decode cX0_driestSquareFor 26 = .ok (.getfield 18, 3) := by decide +kernel
theorem dX0_driestSquareFor_29 : decode cX0_driestSquareFor 29 = .ok (.iload 4, 2) := by decide +kernel
theorem dX0_driestSquareFor_31 : decode cX0_driestSquareFor 31 = .ok (.invokevirtual 40, 3) := by decide +kernel
theorem dX0_driestSquareFor_34 : decode cX0_driestSquareFor 34 = .ok (.imul, 1) := by decide +kernel
theorem dX0_driestSquareFor_35 : decode cX0_driestSquareFor 35 = .ok (.iload_n 1, 1) := by decide +kernel
theorem dX0_driestSquareFor_36 : decode cX0_driestSquareFor 36 = .ok (.aload_n 0, 1) := by decide +kernel
theorem dX0_driestSquareFor_37 : decode cX0_driestSquareFor 37 = .ok (.getfield 18, 3) := by decide +kernel
theorem dX0_driestSquareFor_40 : decode cX0_driestSquareFor 40 = .ok (.iload 4, 2) := by decide +kernel
theorem dX0_driestSquareFor_42 : decode cX0_driestSquareFor 42 = .ok (.invokevirtual 45, 3) := by decide +kernel
theorem dX0_driestSquareFor_45 : decode cX0_driestSquareFor 45 = .ok (.imul, 1) := by decide +kernel
theorem dX0_driestSquareFor_46 : decode cX0_driestSquareFor 46 = .ok (.invokevirtual 79, 3) := by decide +kernel
theorem dX0_driestSquareFor_49 : decode cX0_driestSquareFor 49 = .ok (.istore 5, 2) := by decide +kernel
theorem dX0_driestSquareFor_51 : decode cX0_driestSquareFor 51 = .ok (.iload_n 2, 1) := by decide +kernel
theorem dX0_driestSquareFor_52 : decode cX0_driestSquareFor 52 = .ok (.iconst (-1), 1) := by decide +kernel
theorem dX0_driestSquareFor_53 : decode cX0_driestSquareFor 53 = .ok (.if_icmp .eq 9, 3) := by decide +kernel
theorem dX0_driestSquareFor_56 : decode cX0_driestSquareFor 56 = .ok (.iload 5, 2) := by decide +kernel
theorem dX0_driestSquareFor_58 : decode cX0_driestSquareFor 58 = .ok (.iload_n 3, 1) := by decide +kernel
theorem dX0_driestSquareFor_59 : decode cX0_driestSquareFor 59 = .ok (.if_icmp .ge 9, 3) := by decide +kernel
theorem dX0_driestSquareFor_62 : decode cX0_driestSquareFor 62 = .ok (.iload 4, 2) := by decide +kernel
theorem dX0_driestSquareFor_64 : decode cX0_driestSquareFor 64 = .ok (.istore_n 2, 1) := by decide +kernel
theorem dX0_driestSquareFor_65 : decode cX0_driestSquareFor 65 = .ok (.iload 5, 2) := by decide +kernel
theorem dX0_driestSquareFor_67 : decode cX0_driestSquareFor 67 = .ok (.istore_n 3, 1) := by decide +kernel
theorem dX0_driestSquareFor_68 : decode cX0_driestSquareFor 68 = .ok (.iinc 4 1, 3) := by decide +kernel
theorem dX0_driestSquareFor_71 : decode cX0_driestSquareFor 71 = .ok (.goto (-60), 3) := by decide +kernel
theorem dX0_driestSquareFor_74 : decode cX0_driestSquareFor 74 = .ok (.iload_n 2, 1) := by decide +kernel
theorem dX0_driestSquareFor_75 : decode cX0_driestSquareFor 75 = .ok (.ireturn, 1) := by decide +kernel
theorem dX0_wetDoorsAllDayWith_0 : decode cX0_wetDoorsAllDayWith 0 = .ok (.iconst 0, 1) := by decide +kernel
theorem dX0_wetDoorsAllDayWith_1 : decode cX0_wetDoorsAllDayWith 1 = .ok (.istore_n 3, 1) := by decide +kernel
theorem dX0_wetDoorsAllDayWith_2 : decode cX0_wetDoorsAllDayWith 2 = .ok (.iconst 0, 1) := by decide +kernel
theorem dX0_wetDoorsAllDayWith_3 : decode cX0_wetDoorsAllDayWith 3 = .ok (.istore 4, 2) := by decide +kernel
theorem dX0_wetDoorsAllDayWith_5 : decode cX0_wetDoorsAllDayWith 5 = .ok (.iload 4, 2) := by decide +kernel
theorem dX0_wetDoorsAllDayWith_7 : decode cX0_wetDoorsAllDayWith 7 = .ok (.bipush 8, 2) := by decide +kernel
theorem dX0_wetDoorsAllDayWith_9 : decode cX0_wetDoorsAllDayWith 9 = .ok (.if_icmp .ge 20, 3) := by decide +kernel
theorem dX0_wetDoorsAllDayWith_12 : decode cX0_wetDoorsAllDayWith 12 = .ok (.iload_n 3, 1) := by decide +kernel
theorem dX0_wetDoorsAllDayWith_13 : decode cX0_wetDoorsAllDayWith 13 = .ok (.aload_n 0, 1) := by decide +kernel
theorem dX0_wetDoorsAllDayWith_14 : decode cX0_wetDoorsAllDayWith 14 = .ok (.iload 4, 2) := by decide +kernel
theorem dX0_wetDoorsAllDayWith_16 : decode cX0_wetDoorsAllDayWith 16 = .ok (.iload_n 1, 1) := by decide +kernel
theorem dX0_wetDoorsAllDayWith_17 : decode cX0_wetDoorsAllDayWith 17 = .ok (.iload_n 2, 1) := by decide +kernel
theorem dX0_wetDoorsAllDayWith_18 : decode cX0_wetDoorsAllDayWith 18 = .ok (.invokevirtual 82, 3) := by decide +kernel
theorem dX0_wetDoorsAllDayWith_21 : decode cX0_wetDoorsAllDayWith 21 = .ok (.iadd, 1) := by decide +kernel
theorem dX0_wetDoorsAllDayWith_22 : decode cX0_wetDoorsAllDayWith 22 = .ok (.istore_n 3, 1) := by decide +kernel
theorem dX0_wetDoorsAllDayWith_23 : decode cX0_wetDoorsAllDayWith 23 = .ok (.iinc 4 1, 3) := by decide +kernel
theorem dX0_wetDoorsAllDayWith_26 : decode cX0_wetDoorsAllDayWith 26 = .ok (.goto (-21), 3) := by decide +kernel
theorem dX0_wetDoorsAllDayWith_29 : decode cX0_wetDoorsAllDayWith 29 = .ok (.iload_n 3, 1) := by decide +kernel
theorem dX0_wetDoorsAllDayWith_30 : decode cX0_wetDoorsAllDayWith 30 = .ok (.ireturn, 1) := by decide +kernel
theorem dX1_init_0 : decode cX1_init 0 = .ok (.aload_n 0, 1) := by decide +kernel
theorem dX1_init_1 : decode cX1_init 1 = .ok (.invokespecial 3, 3) := by decide +kernel
theorem dX1_init_4 : decode cX1_init 4 = .ok (.aload_n 0, 1) := by decide +kernel
theorem dX1_init_5 : decode cX1_init 5 = .ok (.bipush 30, 2) := by decide +kernel
theorem dX1_init_7 : decode cX1_init 7 = .ok (.newarray .int, 2) := by decide +kernel
theorem dX1_init_9 : decode cX1_init 9 = .ok (.putfield 9, 3) := by decide +kernel
theorem dX1_init_12 : decode cX1_init 12 = .ok (.aload_n 0, 1) := by decide +kernel
theorem dX1_init_13 : decode cX1_init 13 = .ok (.bipush 30, 2) := by decide +kernel
theorem dX1_init_15 : decode cX1_init 15 = .ok (.newarray .int, 2) := by decide +kernel
theorem dX1_init_17 : decode cX1_init 17 = .ok (.putfield 15, 3) := by decide +kernel
theorem dX1_init_20 : decode cX1_init 20 = .ok (.aload_n 0, 1) := by decide +kernel
theorem dX1_init_21 : decode cX1_init 21 = .ok (.bipush 30, 2) := by decide +kernel
theorem dX1_init_23 : decode cX1_init 23 = .ok (.newarray .int, 2) := by decide +kernel
theorem dX1_init_25 : decode cX1_init 25 = .ok (.putfield 18, 3) := by decide +kernel
theorem dX1_init_28 : decode cX1_init 28 = .ok (.return_, 1) := by decide +kernel
theorem dX1_read_0 : decode cX1_read 0 = .ok (.aload_n 0, 1) := by decide +kernel
theorem dX1_read_1 : decode cX1_read 1 = .ok (.iload_n 2, 1) := by decide +kernel
theorem dX1_read_2 : decode cX1_read 2 = .ok (.putfield 21, 3) := by decide +kernel
theorem dX1_read_5 : decode cX1_read 5 = .ok (.aload_n 0, 1) := by decide +kernel
theorem dX1_read_6 : decode cX1_read 6 = .ok (.iload_n 3, 1) := by decide +kernel
theorem dX1_read_7 : decode cX1_read 7 = .ok (.putfield 25, 3) := by decide +kernel
theorem dX1_read_10 : decode cX1_read 10 = .ok (.aload_n 0, 1) := by decide +kernel
theorem dX1_read_11 : decode cX1_read 11 = .ok (.iconst 0, 1) := by decide +kernel
theorem dX1_read_12 : decode cX1_read 12 = .ok (.putfield 28, 3) := by decide +kernel
theorem dX1_read_15 : decode cX1_read 15 = .ok (.aload_n 0, 1) := by decide +kernel
theorem dX1_read_16 : decode cX1_read 16 = .ok (.iconst 0, 1) := by decide +kernel
theorem dX1_read_17 : decode cX1_read 17 = .ok (.putfield 31, 3) := by decide +kernel
theorem dX1_read_20 : decode cX1_read 20 = .ok (.iconst 0, 1) := by decide +kernel
theorem dX1_read_21 : decode cX1_read 21 = .ok (.istore 4, 2) := by decide +kernel
theorem dX1_read_23 : decode cX1_read 23 = .ok (.iconst 0, 1) := by decide +kernel
theorem dX1_read_24 : decode cX1_read 24 = .ok (.istore 5, 2) := by decide +kernel
theorem dX1_read_26 : decode cX1_read 26 = .ok (.iconst 0, 1) := by decide +kernel
theorem dX1_read_27 : decode cX1_read 27 = .ok (.istore 6, 2) := by decide +kernel
theorem dX1_read_29 : decode cX1_read 29 = .ok (.iload 6, 2) := by decide +kernel
theorem dX1_read_31 : decode cX1_read 31 = .ok (.aload_n 1, 1) := by decide +kernel
theorem dX1_read_32 : decode cX1_read 32 = .ok (.invokevirtual 34, 3) := by decide +kernel
theorem dX1_read_35 : decode cX1_read 35 = .ok (.if_icmp .ge 60, 3) := by decide +kernel
theorem dX1_read_38 : decode cX1_read 38 = .ok (.aload_n 1, 1) := by decide +kernel
theorem dX1_read_39 : decode cX1_read 39 = .ok (.iload 6, 2) := by decide +kernel
theorem dX1_read_41 : decode cX1_read 41 = .ok (.invokevirtual 40, 3) := by decide +kernel
theorem dX1_read_44 : decode cX1_read 44 = .ok (.istore 7, 2) := by decide +kernel
theorem dX1_read_46 : decode cX1_read 46 = .ok (.iload 7, 2) := by decide +kernel
theorem dX1_read_48 : decode cX1_read 48 = .ok (.bipush 47, 2) := by decide +kernel
theorem dX1_read_50 : decode cX1_read 50 = .ok (.if_icmp .ne 12, 3) := by decide +kernel
theorem dX1_read_53 : decode cX1_read 53 = .ok (.iinc 4 1, 3) := by decide +kernel
theorem dX1_read_56 : decode cX1_read 56 = .ok (.iconst 0, 1) := by decide +kernel
theorem dX1_read_57 : decode cX1_read 57 = .ok (.istore 5, 2) := by decide +kernel
theorem dX1_read_59 : decode cX1_read 59 = .ok (.goto 30, 3) := by decide +kernel
theorem dX1_read_62 : decode cX1_read 62 = .ok (.aload_n 0, 1) := by decide +kernel
theorem dX1_read_63 : decode cX1_read 63 = .ok (.iload 7, 2) := by decide +kernel
theorem dX1_read_65 : decode cX1_read 65 = .ok (.bipush 46, 2) := by decide +kernel
theorem dX1_read_67 : decode cX1_read 67 = .ok (.if_icmp .ne 7, 3) := by decide +kernel
theorem dX1_read_70 : decode cX1_read 70 = .ok (.iconst 0, 1) := by decide +kernel
theorem dX1_read_71 : decode cX1_read 71 = .ok (.goto 8, 3) := by decide +kernel
theorem dX1_read_74 : decode cX1_read 74 = .ok (.iload 7, 2) := by decide +kernel
theorem dX1_read_76 : decode cX1_read 76 = .ok (.bipush 48, 2) := by decide +kernel
theorem dX1_read_78 : decode cX1_read 78 = .ok (.isub, 1) := by decide +kernel
theorem dX1_read_79 : decode cX1_read 79 = .ok (.iload 4, 2) := by decide +kernel
theorem dX1_read_81 : decode cX1_read 81 = .ok (.iload 5, 2) := by decide +kernel
theorem dX1_read_83 : decode cX1_read 83 = .ok (.invokevirtual 44, 3) := by decide +kernel
theorem dX1_read_86 : decode cX1_read 86 = .ok (.iinc 5 1, 3) := by decide +kernel
theorem dX1_read_89 : decode cX1_read 89 = .ok (.iinc 6 1, 3) := by decide +kernel
theorem dX1_read_92 : decode cX1_read 92 = .ok (.goto (-63), 3) := by decide +kernel
theorem dX1_read_95 : decode cX1_read 95 = .ok (.return_, 1) := by decide +kernel
theorem dX1_addSquare_0 : decode cX1_addSquare 0 = .ok (.aload_n 0, 1) := by decide +kernel
theorem dX1_addSquare_1 : decode cX1_addSquare 1 = .ok (.getfield 28, 3) := by decide +kernel
theorem dX1_addSquare_4 : decode cX1_addSquare 4 = .ok (.bipush 30, 2) := by decide +kernel
theorem dX1_addSquare_6 : decode cX1_addSquare 6 = .ok (.if_icmp .lt 4, 3) := by decide +kernel
theorem dX1_addSquare_9 : decode cX1_addSquare 9 = .ok (.return_, 1) := by decide +kernel
theorem dX1_addSquare_10 : decode cX1_addSquare 10 = .ok (.aload_n 0, 1) := by decide +kernel
theorem dX1_addSquare_11 : decode cX1_addSquare 11 = .ok (.getfield 9, 3) := by decide +kernel
theorem dX1_addSquare_14 : decode cX1_addSquare 14 = .ok (.aload_n 0, 1) := by decide +kernel
theorem dX1_addSquare_15 : decode cX1_addSquare 15 = .ok (.getfield 28, 3) := by decide +kernel
theorem dX1_addSquare_18 : decode cX1_addSquare 18 = .ok (.iload_n 1, 1) := by decide +kernel
theorem dX1_addSquare_19 : decode cX1_addSquare 19 = .ok (.iastore, 1) := by decide +kernel
theorem dX1_addSquare_20 : decode cX1_addSquare 20 = .ok (.aload_n 0, 1) := by decide +kernel
theorem dX1_addSquare_21 : decode cX1_addSquare 21 = .ok (.getfield 15, 3) := by decide +kernel
theorem dX1_addSquare_24 : decode cX1_addSquare 24 = .ok (.aload_n 0, 1) := by decide +kernel
theorem dX1_addSquare_25 : decode cX1_addSquare 25 = .ok (.getfield 28, 3) := by decide +kernel
theorem dX1_addSquare_28 : decode cX1_addSquare 28 = .ok (.iload_n 3, 1) := by decide +kernel
theorem dX1_addSquare_29 : decode cX1_addSquare 29 = .ok (.aload_n 0, 1) := by decide +kernel
theorem dX1_addSquare_30 : decode cX1_addSquare 30 = .ok (.getfield 25, 3) := by decide +kernel
theorem dX1_addSquare_33 : decode cX1_addSquare 33 = .ok (.invokestatic 48, 3) := by decide +kernel
theorem dX1_addSquare_36 : decode cX1_addSquare 36 = .ok (.iastore, 1) := by decide +kernel
theorem dX1_addSquare_37 : decode cX1_addSquare 37 = .ok (.aload_n 0, 1) := by decide +kernel
theorem dX1_addSquare_38 : decode cX1_addSquare 38 = .ok (.getfield 18, 3) := by decide +kernel
theorem dX1_addSquare_41 : decode cX1_addSquare 41 = .ok (.aload_n 0, 1) := by decide +kernel
theorem dX1_addSquare_42 : decode cX1_addSquare 42 = .ok (.getfield 28, 3) := by decide +kernel
theorem dX1_addSquare_45 : decode cX1_addSquare 45 = .ok (.iload_n 2, 1) := by decide +kernel
theorem dX1_addSquare_46 : decode cX1_addSquare 46 = .ok (.aload_n 0, 1) := by decide +kernel
theorem dX1_addSquare_47 : decode cX1_addSquare 47 = .ok (.getfield 21, 3) := by decide +kernel
theorem dX1_addSquare_50 : decode cX1_addSquare 50 = .ok (.invokestatic 48, 3) := by decide +kernel
theorem dX1_addSquare_53 : decode cX1_addSquare 53 = .ok (.iastore, 1) := by decide +kernel
theorem dX1_addSquare_54 : decode cX1_addSquare 54 = .ok (.aload_n 0, 1) := by decide +kernel
theorem dX1_addSquare_55 : decode cX1_addSquare 55 = .ok (.dup, 1) := by decide +kernel
theorem dX1_addSquare_56 : decode cX1_addSquare 56 = .ok (.getfield 28, 3) := by decide +kernel
theorem dX1_addSquare_59 : decode cX1_addSquare 59 = .ok (.iconst 1, 1) := by decide +kernel
theorem dX1_addSquare_60 : decode cX1_addSquare 60 = .ok (.iadd, 1) := by decide +kernel
theorem dX1_addSquare_61 : decode cX1_addSquare 61 = .ok (.putfield 28, 3) := by decide +kernel
theorem dX1_addSquare_64 : decode cX1_addSquare 64 = .ok (.iload_n 1, 1) := by decide +kernel
theorem dX1_addSquare_65 : decode cX1_addSquare 65 = .ok (.ifCond .le 13, 3) := by decide +kernel
theorem dX1_addSquare_68 : decode cX1_addSquare 68 = .ok (.aload_n 0, 1) := by decide +kernel
theorem dX1_addSquare_69 : decode cX1_addSquare 69 = .ok (.dup, 1) := by decide +kernel
theorem dX1_addSquare_70 : decode cX1_addSquare 70 = .ok (.getfield 31, 3) := by decide +kernel
theorem dX1_addSquare_73 : decode cX1_addSquare 73 = .ok (.iconst 1, 1) := by decide +kernel
theorem dX1_addSquare_74 : decode cX1_addSquare 74 = .ok (.iadd, 1) := by decide +kernel
theorem dX1_addSquare_75 : decode cX1_addSquare 75 = .ok (.putfield 31, 3) := by decide +kernel
theorem dX1_addSquare_78 : decode cX1_addSquare 78 = .ok (.return_, 1) := by decide +kernel
theorem dX1_fromCentre_0 : decode cX1_fromCentre 0 = .ok (.iconst 2, 1) := by decide +kernel
theorem dX1_fromCentre_1 : decode cX1_fromCentre 1 = .ok (.iload_n 0, 1) := by decide +kernel
theorem dX1_fromCentre_2 : decode cX1_fromCentre 2 = .ok (.imul, 1) := by decide +kernel
theorem dX1_fromCentre_3 : decode cX1_fromCentre 3 = .ok (.iload_n 1, 1) := by decide +kernel
theorem dX1_fromCentre_4 : decode cX1_fromCentre 4 = .ok (.iconst 1, 1) := by decide +kernel
theorem dX1_fromCentre_5 : decode cX1_fromCentre 5 = .ok (.isub, 1) := by decide +kernel
theorem dX1_fromCentre_6 : decode cX1_fromCentre 6 = .ok (.isub, 1) := by decide +kernel
theorem dX1_fromCentre_7 : decode cX1_fromCentre 7 = .ok (.ireturn, 1) := by decide +kernel
theorem dX1_isThere_0 : decode cX1_isThere 0 = .ok (.aload_n 0, 1) := by decide +kernel
theorem dX1_isThere_1 : decode cX1_isThere 1 = .ok (.getfield 28, 3) := by decide +kernel
theorem dX1_isThere_4 : decode cX1_isThere 4 = .ok (.ifCond .le 7, 3) := by decide +kernel
theorem dX1_isThere_7 : decode cX1_isThere 7 = .ok (.iconst 1, 1) := by decide +kernel
theorem dX1_isThere_8 : decode cX1_isThere 8 = .ok (.goto 4, 3) := by decide +kernel
theorem dX1_isThere_11 : decode cX1_isThere 11 = .ok (.iconst 0, 1) := by decide +kernel
theorem dX1_isThere_12 : decode cX1_isThere 12 = .ok (.ireturn, 1) := by decide +kernel
theorem dX1_squares_0 : decode cX1_squares 0 = .ok (.aload_n 0, 1) := by decide +kernel
theorem dX1_squares_1 : decode cX1_squares 1 = .ok (.getfield 28, 3) := by decide +kernel
theorem dX1_squares_4 : decode cX1_squares 4 = .ok (.ireturn, 1) := by decide +kernel
theorem dX1_doors_0 : decode cX1_doors 0 = .ok (.aload_n 0, 1) := by decide +kernel
theorem dX1_doors_1 : decode cX1_doors 1 = .ok (.getfield 31, 3) := by decide +kernel
theorem dX1_doors_4 : decode cX1_doors 4 = .ok (.ireturn, 1) := by decide +kernel
theorem dX1_has_0 : decode cX1_has 0 = .ok (.iload_n 1, 1) := by decide +kernel
theorem dX1_has_1 : decode cX1_has 1 = .ok (.ifCond .lt 15, 3) := by decide +kernel
theorem dX1_has_4 : decode cX1_has 4 = .ok (.iload_n 1, 1) := by decide +kernel
theorem dX1_has_5 : decode cX1_has 5 = .ok (.aload_n 0, 1) := by decide +kernel
theorem dX1_has_6 : decode cX1_has 6 = .ok (.getfield 28, 3) := by decide +kernel
theorem dX1_has_9 : decode cX1_has 9 = .ok (.if_icmp .ge 7, 3) := by decide +kernel
theorem dX1_has_12 : decode cX1_has 12 = .ok (.iconst 1, 1) := by decide +kernel
theorem dX1_has_13 : decode cX1_has 13 = .ok (.goto 4, 3) := by decide +kernel
theorem dX1_has_16 : decode cX1_has 16 = .ok (.iconst 0, 1) := by decide +kernel
theorem dX1_has_17 : decode cX1_has 17 = .ok (.ireturn, 1) := by decide +kernel
theorem dX1_hasAll_0 : decode cX1_hasAll 0 = .ok (.iload_n 1, 1) := by decide +kernel
theorem dX1_hasAll_1 : decode cX1_hasAll 1 = .ok (.ifCond .lt 16, 3) := by decide +kernel
theorem dX1_hasAll_4 : decode cX1_hasAll 4 = .ok (.iload_n 1, 1) := by decide +kernel
theorem dX1_hasAll_5 : decode cX1_hasAll 5 = .ok (.aload_n 0, 1) := by decide +kernel
theorem dX1_hasAll_6 : decode cX1_hasAll 6 = .ok (.getfield 28, 3) := by decide +kernel
theorem dX1_hasAll_9 : decode cX1_hasAll 9 = .ok (.iushr, 1) := by decide +kernel
theorem dX1_hasAll_10 : decode cX1_hasAll 10 = .ok (.ifCond .ne 7, 3) := by decide +kernel
theorem dX1_hasAll_13 : decode cX1_hasAll 13 = .ok (.iconst 1, 1) := by decide +kernel
theorem dX1_hasAll_14 : decode cX1_hasAll 14 = .ok (.goto 4, 3) := by decide +kernel
theorem dX1_hasAll_17 : decode cX1_hasAll 17 = .ok (.iconst 0, 1) := by decide +kernel
theorem dX1_hasAll_18 : decode cX1_hasAll 18 = .ok (.ireturn, 1) := by decide +kernel
theorem dX1_height_0 : decode cX1_height 0 = .ok (.aload_n 0, 1) := by decide +kernel
theorem dX1_height_1 : decode cX1_height 1 = .ok (.iload_n 1, 1) := by decide +kernel
theorem dX1_height_2 : decode cX1_height 2 = .ok (.invokevirtual 52, 3) := by decide +kernel
theorem dX1_height_5 : decode cX1_height 5 = .ok (.ifCond .eq 12, 3) := by decide +kernel
theorem dX1_height_8 : decode cX1_height 8 = .ok (.aload_n 0, 1) := by decide +kernel
theorem dX1_height_9 : decode cX1_height 9 = .ok (.getfield 9, 3) := by decide +kernel
theorem dX1_height_12 : decode cX1_height 12 = .ok (.iload_n 1, 1) := by decide +kernel
theorem dX1_height_13 : decode cX1_height 13 = .ok (.iaload, 1) := by decide +kernel
theorem dX1_height_14 : decode cX1_height 14 = .ok (.goto 4, 3) := by decide +kernel
theorem dX1_height_17 : decode cX1_height 17 = .ok (.iconst 0, 1) := by decide +kernel
theorem dX1_height_18 : decode cX1_height 18 = .ok (.ireturn, 1) := by decide +kernel
theorem dX1_east_0 : decode cX1_east 0 = .ok (.aload_n 0, 1) := by decide +kernel
theorem dX1_east_1 : decode cX1_east 1 = .ok (.iload_n 1, 1) := by decide +kernel
theorem dX1_east_2 : decode cX1_east 2 = .ok (.invokevirtual 52, 3) := by decide +kernel
theorem dX1_east_5 : decode cX1_east 5 = .ok (.ifCond .eq 12, 3) := by decide +kernel
theorem dX1_east_8 : decode cX1_east 8 = .ok (.aload_n 0, 1) := by decide +kernel
theorem dX1_east_9 : decode cX1_east 9 = .ok (.getfield 15, 3) := by decide +kernel
theorem dX1_east_12 : decode cX1_east 12 = .ok (.iload_n 1, 1) := by decide +kernel
theorem dX1_east_13 : decode cX1_east 13 = .ok (.iaload, 1) := by decide +kernel
theorem dX1_east_14 : decode cX1_east 14 = .ok (.goto 4, 3) := by decide +kernel
theorem dX1_east_17 : decode cX1_east 17 = .ok (.iconst 0, 1) := by decide +kernel
theorem dX1_east_18 : decode cX1_east 18 = .ok (.ireturn, 1) := by decide +kernel
theorem dX1_south_0 : decode cX1_south 0 = .ok (.aload_n 0, 1) := by decide +kernel
theorem dX1_south_1 : decode cX1_south 1 = .ok (.iload_n 1, 1) := by decide +kernel
theorem dX1_south_2 : decode cX1_south 2 = .ok (.invokevirtual 52, 3) := by decide +kernel
theorem dX1_south_5 : decode cX1_south 5 = .ok (.ifCond .eq 12, 3) := by decide +kernel
theorem dX1_south_8 : decode cX1_south 8 = .ok (.aload_n 0, 1) := by decide +kernel
theorem dX1_south_9 : decode cX1_south 9 = .ok (.getfield 18, 3) := by decide +kernel
theorem dX1_south_12 : decode cX1_south 12 = .ok (.iload_n 1, 1) := by decide +kernel
theorem dX1_south_13 : decode cX1_south 13 = .ok (.iaload, 1) := by decide +kernel
theorem dX1_south_14 : decode cX1_south 14 = .ok (.goto 4, 3) := by decide +kernel
theorem dX1_south_17 : decode cX1_south 17 = .ok (.iconst 0, 1) := by decide +kernel
theorem dX1_south_18 : decode cX1_south 18 = .ok (.ireturn, 1) := by decide +kernel
theorem dX1_dipOf_0 : decode cX1_dipOf 0 = .ok (.aload_n 0, 1) := by decide +kernel
theorem dX1_dipOf_1 : decode cX1_dipOf 1 = .ok (.iload_n 1, 1) := by decide +kernel
theorem dX1_dipOf_2 : decode cX1_dipOf 2 = .ok (.invokevirtual 52, 3) := by decide +kernel
theorem dX1_dipOf_5 : decode cX1_dipOf 5 = .ok (.ifCond .eq 23, 3) := by decide +kernel
theorem dX1_dipOf_8 : decode cX1_dipOf 8 = .ok (.iload_n 2, 1) := by decide +kernel
theorem dX1_dipOf_9 : decode cX1_dipOf 9 = .ok (.aload_n 0, 1) := by decide +kernel
theorem dX1_dipOf_10 : decode cX1_dipOf 10 = .ok (.getfield 15, 3) := by decide +kernel
theorem dX1_dipOf_13 : decode cX1_dipOf 13 = .ok (.iload_n 1, 1) := by decide +kernel
theorem dX1_dipOf_14 : decode cX1_dipOf 14 = .ok (.iaload, 1) := by decide +kernel
theorem dX1_dipOf_15 : decode cX1_dipOf 15 = .ok (.imul, 1) := by decide +kernel
theorem dX1_dipOf_16 : decode cX1_dipOf 16 = .ok (.iload_n 3, 1) := by decide +kernel
theorem dX1_dipOf_17 : decode cX1_dipOf 17 = .ok (.aload_n 0, 1) := by decide +kernel
theorem dX1_dipOf_18 : decode cX1_dipOf 18 = .ok (.getfield 18, 3) := by decide +kernel
theorem dX1_dipOf_21 : decode cX1_dipOf 21 = .ok (.iload_n 1, 1) := by decide +kernel
theorem dX1_dipOf_22 : decode cX1_dipOf 22 = .ok (.iaload, 1) := by decide +kernel
theorem dX1_dipOf_23 : decode cX1_dipOf 23 = .ok (.imul, 1) := by decide +kernel
theorem dX1_dipOf_24 : decode cX1_dipOf 24 = .ok (.iadd, 1) := by decide +kernel
theorem dX1_dipOf_25 : decode cX1_dipOf 25 = .ok (.goto 4, 3) := by decide +kernel
theorem dX1_dipOf_28 : decode cX1_dipOf 28 = .ok (.iconst 0, 1) := by decide +kernel
theorem dX1_dipOf_29 : decode cX1_dipOf 29 = .ok (.ireturn, 1) := by decide +kernel
theorem dX1_wetDoors_0 : decode cX1_wetDoors 0 = .ok (.iconst 0, 1) := by decide +kernel
theorem dX1_wetDoors_1 : decode cX1_wetDoors 1 = .ok (.istore_n 3, 1) := by decide +kernel
theorem dX1_wetDoors_2 : decode cX1_wetDoors 2 = .ok (.iconst 0, 1) := by decide +kernel
theorem dX1_wetDoors_3 : decode cX1_wetDoors 3 = .ok (.istore 4, 2) := by decide +kernel
theorem dX1_wetDoors_5 : decode cX1_wetDoors 5 = .ok (.iload 4, 2) := by decide +kernel
theorem dX1_wetDoors_7 : decode cX1_wetDoors 7 = .ok (.aload_n 0, 1) := by decide +kernel
theorem dX1_wetDoors_8 : decode cX1_wetDoors 8 = .ok (.getfield 28, 3) := by decide +kernel
theorem dX1_wetDoors_11 : decode cX1_wetDoors 11 = .ok (.if_icmp .ge 61, 3) := by decide +kernel
theorem dX1_wetDoors_14 : decode cX1_wetDoors 14 = .ok (.aload_n 0, 1) := by decide +kernel
theorem dX1_wetDoors_15 : decode cX1_wetDoors 15 = .ok (.getfield 9, 3) := by decide +kernel
theorem dX1_wetDoors_18 : decode cX1_wetDoors 18 = .ok (.iload 4, 2) := by decide +kernel
theorem dX1_wetDoors_20 : decode cX1_wetDoors 20 = .ok (.iaload, 1) := by decide +kernel
theorem dX1_wetDoors_21 : decode cX1_wetDoors 21 = .ok (.istore 5, 2) := by decide +kernel
theorem dX1_wetDoors_23 : decode cX1_wetDoors 23 = .ok (.iload_n 1, 1) := by decide +kernel
theorem dX1_wetDoors_24 : decode cX1_wetDoors 24 = .ok (.aload_n 0, 1) := by decide +kernel
theorem dX1_wetDoors_25 : decode cX1_wetDoors 25 = .ok (.getfield 15, 3) := by decide +kernel
theorem dX1_wetDoors_28 : decode cX1_wetDoors 28 = .ok (.iload 4, 2) := by decide +kernel
theorem dX1_wetDoors_30 : decode cX1_wetDoors 30 = .ok (.iaload, 1) := by decide +kernel
theorem dX1_wetDoors_31 : decode cX1_wetDoors 31 = .ok (.imul, 1) := by decide +kernel
theorem dX1_wetDoors_32 : decode cX1_wetDoors 32 = .ok (.iload_n 2, 1) := by decide +kernel
theorem dX1_wetDoors_33 : decode cX1_wetDoors 33 = .ok (.aload_n 0, 1) := by decide +kernel
theorem dX1_wetDoors_34 : decode cX1_wetDoors 34 = .ok (.getfield 18, 3) := by decide +kernel
theorem dX1_wetDoors_37 : decode cX1_wetDoors 37 = .ok (.iload 4, 2) := by decide +kernel
theorem dX1_wetDoors_39 : decode cX1_wetDoors 39 = .ok (.iaload, 1) := by decide +kernel
theorem dX1_wetDoors_40 : decode cX1_wetDoors 40 = .ok (.imul, 1) := by decide +kernel
theorem dX1_wetDoors_41 : decode cX1_wetDoors 41 = .ok (.iadd, 1) := by decide +kernel
theorem dX1_wetDoors_42 : decode cX1_wetDoors 42 = .ok (.istore 6, 2) := by decide +kernel
theorem dX1_wetDoors_44 : decode cX1_wetDoors 44 = .ok (.iload 5, 2) := by decide +kernel
theorem dX1_wetDoors_46 : decode cX1_wetDoors 46 = .ok (.ifCond .le 20, 3) := by decide +kernel
theorem dX1_wetDoors_49 : decode cX1_wetDoors 49 = .ok (.iload 6, 2) := by decide +kernel
theorem dX1_wetDoors_51 : decode cX1_wetDoors 51 = .ok (.bipush 50, 2) := by decide +kernel
theorem dX1_wetDoors_53 : decode cX1_wetDoors 53 = .ok (.iload 5, 2) := by decide +kernel
theorem dX1_wetDoors_55 : decode cX1_wetDoors 55 = .ok (.imul, 1) := by decide +kernel
theorem dX1_wetDoors_56 : decode cX1_wetDoors 56 = .ok (.if_icmp .lt 10, 3) := by decide +kernel
theorem dX1_wetDoors_59 : decode cX1_wetDoors 59 = .ok (.iload_n 3, 1) := by decide +kernel
theorem dX1_wetDoors_60 : decode cX1_wetDoors 60 = .ok (.iconst 1, 1) := by decide +kernel
theorem dX1_wetDoors_61 : decode cX1_wetDoors 61 = .ok (.iload 4, 2) := by decide +kernel
theorem dX1_wetDoors_63 : decode cX1_wetDoors 63 = .ok (.ishl, 1) := by decide +kernel
theorem dX1_wetDoors_64 : decode cX1_wetDoors 64 = .ok (.ior, 1) := by decide +kernel
theorem dX1_wetDoors_65 : decode cX1_wetDoors 65 = .ok (.istore_n 3, 1) := by decide +kernel
theorem dX1_wetDoors_66 : decode cX1_wetDoors 66 = .ok (.iinc 4 1, 3) := by decide +kernel
theorem dX1_wetDoors_69 : decode cX1_wetDoors 69 = .ok (.goto (-64), 3) := by decide +kernel
theorem dX1_wetDoors_72 : decode cX1_wetDoors 72 = .ok (.iload_n 3, 1) := by decide +kernel
theorem dX1_wetDoors_73 : decode cX1_wetDoors 73 = .ok (.ireturn, 1) := by decide +kernel
theorem dX1_wetDoorsTold_0 : decode cX1_wetDoorsTold 0 = .ok (.aload_n 0, 1) := by decide +kernel
theorem dX1_wetDoorsTold_1 : decode cX1_wetDoorsTold 1 = .ok (.iload_n 1, 1) := by decide +kernel
theorem dX1_wetDoorsTold_2 : decode cX1_wetDoorsTold 2 = .ok (.iload_n 2, 1) := by decide +kernel
theorem dX1_wetDoorsTold_3 : decode cX1_wetDoorsTold 3 = .ok (.invokevirtual 56, 3) := by decide +kernel
theorem dX1_wetDoorsTold_6 : decode cX1_wetDoorsTold 6 = .ok (.invokestatic 59, 3) := by decide +kernel
theorem dX1_wetDoorsTold_9 : decode cX1_wetDoorsTold 9 = .ok (.ireturn, 1) := by decide +kernel
theorem dX1_step_0 : decode cX1_step 0 = .ok (.aload_n 0, 1) := by decide +kernel
theorem dX1_step_1 : decode cX1_step 1 = .ok (.iload_n 1, 1) := by decide +kernel
theorem dX1_step_2 : decode cX1_step 2 = .ok (.invokevirtual 52, 3) := by decide +kernel
theorem dX1_step_5 : decode cX1_step 5 = .ok (.ifCond .ne 5, 3) := by decide +kernel
theorem dX1_step_8 : decode cX1_step 8 = .ok (.iconst (-1), 1) := by decide +kernel
theorem dX1_step_9 : decode cX1_step 9 = .ok (.ireturn, 1) := by decide +kernel
theorem dX1_step_10 : decode cX1_step 10 = .ok (.iload_n 2, 1) := by decide +kernel
theorem dX1_step_11 : decode cX1_step 11 = .ok (.tableswitch 119 1 4 #[29, 49, 72, 96], 29) := by decide +kernel
theorem dX1_step_40 : decode cX1_step 40 = .ok (.iload_n 1, 1) := by decide +kernel
theorem dX1_step_41 : decode cX1_step 41 = .ok (.aload_n 0, 1) := by decide +kernel
theorem dX1_step_42 : decode cX1_step 42 = .ok (.getfield 25, 3) := by decide +kernel
theorem dX1_step_45 : decode cX1_step 45 = .ok (.isub, 1) := by decide +kernel
theorem dX1_step_46 : decode cX1_step 46 = .ok (.ifCond .lt 12, 3) := by decide +kernel
theorem dX1_step_49 : decode cX1_step 49 = .ok (.iload_n 1, 1) := by decide +kernel
theorem dX1_step_50 : decode cX1_step 50 = .ok (.aload_n 0, 1) := by decide +kernel
theorem dX1_step_51 : decode cX1_step 51 = .ok (.getfield 25, 3) := by decide +kernel
theorem dX1_step_54 : decode cX1_step 54 = .ok (.isub, 1) := by decide +kernel
theorem dX1_step_55 : decode cX1_step 55 = .ok (.goto 4, 3) := by decide +kernel
theorem dX1_step_58 : decode cX1_step 58 = .ok (.iconst (-1), 1) := by decide +kernel
theorem dX1_step_59 : decode cX1_step 59 = .ok (.ireturn, 1) := by decide +kernel
theorem dX1_step_60 : decode cX1_step 60 = .ok (.aload_n 0, 1) := by decide +kernel
theorem dX1_step_61 : decode cX1_step 61 = .ok (.getfield 15, 3) := by decide +kernel
theorem dX1_step_64 : decode cX1_step 64 = .ok (.iload_n 1, 1) := by decide +kernel
theorem dX1_step_65 : decode cX1_step 65 = .ok (.iaload, 1) := by decide +kernel
theorem dX1_step_66 : decode cX1_step 66 = .ok (.aload_n 0, 1) := by decide +kernel
theorem dX1_step_67 : decode cX1_step 67 = .ok (.getfield 25, 3) := by decide +kernel
theorem dX1_step_70 : decode cX1_step 70 = .ok (.iconst 1, 1) := by decide +kernel
theorem dX1_step_71 : decode cX1_step 71 = .ok (.isub, 1) := by decide +kernel
theorem dX1_step_72 : decode cX1_step 72 = .ok (.if_icmp .ge 9, 3) := by decide +kernel
theorem dX1_step_75 : decode cX1_step 75 = .ok (.iload_n 1, 1) := by decide +kernel
theorem dX1_step_76 : decode cX1_step 76 = .ok (.iconst 1, 1) := by decide +kernel
theorem dX1_step_77 : decode cX1_step 77 = .ok (.iadd, 1) := by decide +kernel
theorem dX1_step_78 : decode cX1_step 78 = .ok (.goto 4, 3) := by decide +kernel
theorem dX1_step_81 : decode cX1_step 81 = .ok (.iconst (-1), 1) := by decide +kernel
theorem dX1_step_82 : decode cX1_step 82 = .ok (.ireturn, 1) := by decide +kernel
theorem dX1_step_83 : decode cX1_step 83 = .ok (.iload_n 1, 1) := by decide +kernel
theorem dX1_step_84 : decode cX1_step 84 = .ok (.aload_n 0, 1) := by decide +kernel
theorem dX1_step_85 : decode cX1_step 85 = .ok (.getfield 25, 3) := by decide +kernel
theorem dX1_step_88 : decode cX1_step 88 = .ok (.iadd, 1) := by decide +kernel
theorem dX1_step_89 : decode cX1_step 89 = .ok (.aload_n 0, 1) := by decide +kernel
theorem dX1_step_90 : decode cX1_step 90 = .ok (.getfield 28, 3) := by decide +kernel
theorem dX1_step_93 : decode cX1_step 93 = .ok (.if_icmp .ge 12, 3) := by decide +kernel
theorem dX1_step_96 : decode cX1_step 96 = .ok (.iload_n 1, 1) := by decide +kernel
theorem dX1_step_97 : decode cX1_step 97 = .ok (.aload_n 0, 1) := by decide +kernel
theorem dX1_step_98 : decode cX1_step 98 = .ok (.getfield 25, 3) := by decide +kernel
theorem dX1_step_101 : decode cX1_step 101 = .ok (.iadd, 1) := by decide +kernel
theorem dX1_step_102 : decode cX1_step 102 = .ok (.goto 4, 3) := by decide +kernel
theorem dX1_step_105 : decode cX1_step 105 = .ok (.iconst (-1), 1) := by decide +kernel
theorem dX1_step_106 : decode cX1_step 106 = .ok (.ireturn, 1) := by decide +kernel
theorem dX1_step_107 : decode cX1_step 107 = .ok (.aload_n 0, 1) := by decide +kernel
theorem dX1_step_108 : decode cX1_step 108 = .ok (.getfield 15, 3) := by decide +kernel
theorem dX1_step_111 : decode cX1_step 111 = .ok (.iload_n 1, 1) := by decide +kernel
theorem dX1_step_112 : decode cX1_step 112 = .ok (.iaload, 1) := by decide +kernel
theorem dX1_step_113 : decode cX1_step 113 = .ok (.iconst 1, 1) := by decide +kernel
theorem dX1_step_114 : decode cX1_step 114 = .ok (.aload_n 0, 1) := by decide +kernel
theorem dX1_step_115 : decode cX1_step 115 = .ok (.getfield 25, 3) := by decide +kernel
theorem dX1_step_118 : decode cX1_step 118 = .ok (.isub, 1) := by decide +kernel
theorem dX1_step_119 : decode cX1_step 119 = .ok (.if_icmp .le 9, 3) := by decide +kernel
theorem dX1_step_122 : decode cX1_step 122 = .ok (.iload_n 1, 1) := by decide +kernel
theorem dX1_step_123 : decode cX1_step 123 = .ok (.iconst 1, 1) := by decide +kernel
theorem dX1_step_124 : decode cX1_step 124 = .ok (.isub, 1) := by decide +kernel
theorem dX1_step_125 : decode cX1_step 125 = .ok (.goto 4, 3) := by decide +kernel
theorem dX1_step_128 : decode cX1_step 128 = .ok (.iconst (-1), 1) := by decide +kernel
theorem dX1_step_129 : decode cX1_step 129 = .ok (.ireturn, 1) := by decide +kernel
theorem dX1_step_130 : decode cX1_step 130 = .ok (.iload_n 1, 1) := by decide +kernel
theorem dX1_step_131 : decode cX1_step 131 = .ok (.ireturn, 1) := by decide +kernel
theorem dX1_towardsMiddle_0 : decode cX1_towardsMiddle 0 = .ok (.aload_n 0, 1) := by decide +kernel
theorem dX1_towardsMiddle_1 : decode cX1_towardsMiddle 1 = .ok (.getfield 21, 3) := by decide +kernel
theorem dX1_towardsMiddle_4 : decode cX1_towardsMiddle 4 = .ok (.iconst 2, 1) := by decide +kernel
theorem dX1_towardsMiddle_5 : decode cX1_towardsMiddle 5 = .ok (.idiv, 1) := by decide +kernel
theorem dX1_towardsMiddle_6 : decode cX1_towardsMiddle 6 = .ok (.aload_n 0, 1) := by decide +kernel
theorem dX1_towardsMiddle_7 : decode cX1_towardsMiddle 7 = .ok (.getfield 21, 3) := by decide +kernel
theorem dX1_towardsMiddle_10 : decode cX1_towardsMiddle 10 = .ok (.invokestatic 48, 3) := by decide +kernel
theorem dX1_towardsMiddle_13 : decode cX1_towardsMiddle 13 = .ok (.aload_n 0, 1) := by decide +kernel
theorem dX1_towardsMiddle_14 : decode cX1_towardsMiddle 14 = .ok (.iload_n 1, 1) := by decide +kernel
theorem dX1_towardsMiddle_15 : decode cX1_towardsMiddle 15 = .ok (.invokevirtual 64, 3) := by decide +kernel
theorem dX1_towardsMiddle_18 : decode cX1_towardsMiddle 18 = .ok (.isub, 1) := by decide +kernel
theorem dX1_towardsMiddle_19 : decode cX1_towardsMiddle 19 = .ok (.istore_n 2, 1) := by decide +kernel
theorem dX1_towardsMiddle_20 : decode cX1_towardsMiddle 20 = .ok (.aload_n 0, 1) := by decide +kernel
theorem dX1_towardsMiddle_21 : decode cX1_towardsMiddle 21 = .ok (.getfield 25, 3) := by decide +kernel
theorem dX1_towardsMiddle_24 : decode cX1_towardsMiddle 24 = .ok (.iconst 2, 1) := by decide +kernel
theorem dX1_towardsMiddle_25 : decode cX1_towardsMiddle 25 = .ok (.idiv, 1) := by decide +kernel
theorem dX1_towardsMiddle_26 : decode cX1_towardsMiddle 26 = .ok (.aload_n 0, 1) := by decide +kernel
theorem dX1_towardsMiddle_27 : decode cX1_towardsMiddle 27 = .ok (.getfield 25, 3) := by decide +kernel
theorem dX1_towardsMiddle_30 : decode cX1_towardsMiddle 30 = .ok (.invokestatic 48, 3) := by decide +kernel
theorem dX1_towardsMiddle_33 : decode cX1_towardsMiddle 33 = .ok (.aload_n 0, 1) := by decide +kernel
theorem dX1_towardsMiddle_34 : decode cX1_towardsMiddle 34 = .ok (.iload_n 1, 1) := by decide +kernel
theorem dX1_towardsMiddle_35 : decode cX1_towardsMiddle 35 = .ok (.invokevirtual 67, 3) := by decide +kernel
theorem dX1_towardsMiddle_38 : decode cX1_towardsMiddle 38 = .ok (.isub, 1) := by decide +kernel
theorem dX1_towardsMiddle_39 : decode cX1_towardsMiddle 39 = .ok (.istore_n 3, 1) := by decide +kernel
theorem dX1_towardsMiddle_40 : decode cX1_towardsMiddle 40 = .ok (.iload_n 2, 1) := by decide +kernel
theorem dX1_towardsMiddle_41 : decode cX1_towardsMiddle 41 = .ok (.ifCond .eq 18, 3) := by decide +kernel
theorem dX1_towardsMiddle_44 : decode cX1_towardsMiddle 44 = .ok (.aload_n 0, 1) := by decide +kernel
theorem dX1_towardsMiddle_45 : decode cX1_towardsMiddle 45 = .ok (.iload_n 1, 1) := by decide +kernel
theorem dX1_towardsMiddle_46 : decode cX1_towardsMiddle 46 = .ok (.iload_n 2, 1) := by decide +kernel
theorem dX1_towardsMiddle_47 : decode cX1_towardsMiddle 47 = .ok (.ifCond .ge 7, 3) := by decide +kernel
theorem dX1_towardsMiddle_50 : decode cX1_towardsMiddle 50 = .ok (.iconst 1, 1) := by decide +kernel
theorem dX1_towardsMiddle_51 : decode cX1_towardsMiddle 51 = .ok (.goto 4, 3) := by decide +kernel
theorem dX1_towardsMiddle_54 : decode cX1_towardsMiddle 54 = .ok (.iconst 3, 1) := by decide +kernel
theorem dX1_towardsMiddle_55 : decode cX1_towardsMiddle 55 = .ok (.invokevirtual 70, 3) := by decide +kernel
theorem dX1_towardsMiddle_58 : decode cX1_towardsMiddle 58 = .ok (.ireturn, 1) := by decide +kernel
theorem dX1_towardsMiddle_59 : decode cX1_towardsMiddle 59 = .ok (.iload_n 3, 1) := by decide +kernel
theorem dX1_towardsMiddle_60 : decode cX1_towardsMiddle 60 = .ok (.ifCond .eq 18, 3) := by decide +kernel
theorem dX1_towardsMiddle_63 : decode cX1_towardsMiddle 63 = .ok (.aload_n 0, 1) := by decide +kernel
theorem dX1_towardsMiddle_64 : decode cX1_towardsMiddle 64 = .ok (.iload_n 1, 1) := by decide +kernel
theorem dX1_towardsMiddle_65 : decode cX1_towardsMiddle 65 = .ok (.iload_n 3, 1) := by decide +kernel
theorem dX1_towardsMiddle_66 : decode cX1_towardsMiddle 66 = .ok (.ifCond .ge 7, 3) := by decide +kernel
theorem dX1_towardsMiddle_69 : decode cX1_towardsMiddle 69 = .ok (.iconst 4, 1) := by decide +kernel
theorem dX1_towardsMiddle_70 : decode cX1_towardsMiddle 70 = .ok (.goto 4, 3) := by decide +kernel
theorem dX1_towardsMiddle_73 : decode cX1_towardsMiddle 73 = .ok (.iconst 2, 1) := by decide +kernel
theorem dX1_towardsMiddle_74 : decode cX1_towardsMiddle 74 = .ok (.invokevirtual 70, 3) := by decide +kernel
theorem dX1_towardsMiddle_77 : decode cX1_towardsMiddle 77 = .ok (.ireturn, 1) := by decide +kernel
theorem dX1_towardsMiddle_78 : decode cX1_towardsMiddle 78 = .ok (.iload_n 1, 1) := by decide +kernel
theorem dX1_towardsMiddle_79 : decode cX1_towardsMiddle 79 = .ok (.ireturn, 1) := by decide +kernel
theorem dX2_init_0 : decode cX2_init 0 = .ok (.aload_n 0, 1) := by decide +kernel
theorem dX2_init_1 : decode cX2_init 1 = .ok (.invokespecial 3, 3) := by decide +kernel
theorem dX2_init_4 : decode cX2_init 4 = .ok (.aload_n 0, 1) := by decide +kernel
theorem dX2_init_5 : decode cX2_init 5 = .ok (.iconst 3, 1) := by decide +kernel
theorem dX2_init_6 : decode cX2_init 6 = .ok (.newarray .int, 2) := by decide +kernel
theorem dX2_init_8 : decode cX2_init 8 = .ok (.putfield 11, 3) := by decide +kernel
theorem dX2_init_11 : decode cX2_init 11 = .ok (.aload_n 0, 1) := by decide +kernel
theorem dX2_init_12 : decode cX2_init 12 = .ok (.bipush 8, 2) := by decide +kernel
theorem dX2_init_14 : decode cX2_init 14 = .ok (.newarray .int, 2) := by decide +kernel
theorem dX2_init_16 : decode cX2_init 16 = .ok (.putfield 15, 3) := by decide +kernel
theorem dX2_init_19 : decode cX2_init 19 = .ok (.aload_n 0, 1) := by decide +kernel
theorem dX2_init_20 : decode cX2_init 20 = .ok (.bipush 8, 2) := by decide +kernel
theorem dX2_init_22 : decode cX2_init 22 = .ok (.newarray .int, 2) := by decide +kernel
theorem dX2_init_24 : decode cX2_init 24 = .ok (.putfield 18, 3) := by decide +kernel
theorem dX2_init_27 : decode cX2_init 27 = .ok (.aload_n 0, 1) := by decide +kernel
theorem dX2_init_28 : decode cX2_init 28 = .ok (.aload_n 1, 1) := by decide +kernel
theorem dX2_init_29 : decode cX2_init 29 = .ok (.putfield 21, 3) := by decide +kernel
theorem dX2_init_32 : decode cX2_init 32 = .ok (.aload_n 0, 1) := by decide +kernel
theorem dX2_init_33 : decode cX2_init 33 = .ok (.aload_n 2, 1) := by decide +kernel
theorem dX2_init_34 : decode cX2_init 34 = .ok (.putfield 25, 3) := by decide +kernel
theorem dX2_init_37 : decode cX2_init 37 = .ok (.aload_n 0, 1) := by decide +kernel
theorem dX2_init_38 : decode cX2_init 38 = .ok (.aload_n 3, 1) := by decide +kernel
theorem dX2_init_39 : decode cX2_init 39 = .ok (.putfield 29, 3) := by decide +kernel
theorem dX2_init_42 : decode cX2_init 42 = .ok (.return_, 1) := by decide +kernel
theorem dX2_found_0 : decode cX2_found 0 = .ok (.iload_n 1, 1) := by decide +kernel
theorem dX2_found_1 : decode cX2_found 1 = .ok (.ifCond .lt 17, 3) := by decide +kernel
theorem dX2_found_4 : decode cX2_found 4 = .ok (.iload_n 1, 1) := by decide +kernel
theorem dX2_found_5 : decode cX2_found 5 = .ok (.iconst 3, 1) := by decide +kernel
theorem dX2_found_6 : decode cX2_found 6 = .ok (.if_icmp .ge 12, 3) := by decide +kernel
theorem dX2_found_9 : decode cX2_found 9 = .ok (.aload_n 0, 1) := by decide +kernel
theorem dX2_found_10 : decode cX2_found 10 = .ok (.getfield 11, 3) := by decide +kernel
theorem dX2_found_13 : decode cX2_found 13 = .ok (.iload_n 1, 1) := by decide +kernel
theorem dX2_found_14 : decode cX2_found 14 = .ok (.iaload, 1) := by decide +kernel
theorem dX2_found_15 : decode cX2_found 15 = .ok (.goto 4, 3) := by decide +kernel
theorem dX2_found_18 : decode cX2_found 18 = .ok (.iconst (-1), 1) := by decide +kernel
theorem dX2_found_19 : decode cX2_found 19 = .ok (.ireturn, 1) := by decide +kernel
theorem dX2_search_0 : decode cX2_search 0 = .ok (.aload_n 0, 1) := by decide +kernel
theorem dX2_search_1 : decode cX2_search 1 = .ok (.iload_n 1, 1) := by decide +kernel
theorem dX2_search_2 : decode cX2_search 2 = .ok (.invokevirtual 33, 3) := by decide +kernel
theorem dX2_search_5 : decode cX2_search 5 = .ok (.aload_n 0, 1) := by decide +kernel
theorem dX2_search_6 : decode cX2_search 6 = .ok (.getfield 25, 3) := by decide +kernel
theorem dX2_search_9 : decode cX2_search 9 = .ok (.invokevirtual 37, 3) := by decide +kernel
theorem dX2_search_12 : decode cX2_search 12 = .ok (.istore_n 3, 1) := by decide +kernel
theorem dX2_search_13 : decode cX2_search 13 = .ok (.aload_n 0, 1) := by decide +kernel
theorem dX2_search_14 : decode cX2_search 14 = .ok (.getfield 29, 3) := by decide +kernel
theorem dX2_search_17 : decode cX2_search 17 = .ok (.iload_n 1, 1) := by decide +kernel
theorem dX2_search_18 : decode cX2_search 18 = .ok (.invokevirtual 43, 3) := by decide +kernel
theorem dX2_search_21 : decode cX2_search 21 = .ok (.istore 4, 2) := by decide +kernel
theorem dX2_search_23 : decode cX2_search 23 = .ok (.aload_n 0, 1) := by decide +kernel
theorem dX2_search_24 : decode cX2_search 24 = .ok (.getfield 29, 3) := by decide +kernel
theorem dX2_search_27 : decode cX2_search 27 = .ok (.iload_n 1, 1) := by decide +kernel
theorem dX2_search_28 : decode cX2_search 28 = .ok (.invokevirtual 49, 3) := by decide +kernel
theorem dX2_search_31 : decode cX2_search 31 = .ok (.istore 5, 2) := by decide +kernel
theorem dX2_search_33 : decode cX2_search 33 = .ok (.iconst 0, 1) := by decide +kernel
theorem dX2_search_34 : decode cX2_search 34 = .ok (.istore 6, 2) := by decide +kernel
theorem dX2_search_36 : decode cX2_search 36 = .ok (.iload_n 3, 1) := by decide +kernel
theorem dX2_search_37 : decode cX2_search 37 = .ok (.istore 7, 2) := by decide +kernel
theorem dX2_search_39 : decode cX2_search 39 = .ok (.iconst 0, 1) := by decide +kernel
theorem dX2_search_40 : decode cX2_search 40 = .ok (.istore 8, 2) := by decide +kernel
theorem dX2_search_42 : decode cX2_search 42 = .ok (.iconst 0, 1) := by decide +kernel
theorem dX2_search_43 : decode cX2_search 43 = .ok (.istore 9, 2) := by decide +kernel
theorem dX2_search_45 : decode cX2_search 45 = .ok (.iload 9, 2) := by decide +kernel
theorem dX2_search_47 : decode cX2_search 47 = .ok (.iload_n 3, 1) := by decide +kernel
theorem dX2_search_48 : decode cX2_search 48 = .ok (.if_icmp .gt 49, 3) := by decide +kernel
theorem dX2_search_51 : decode cX2_search 51 = .ok (.iload 9, 2) := by decide +kernel
theorem dX2_search_53 : decode cX2_search 53 = .ok (.iload_n 3, 1) := by decide +kernel
theorem dX2_search_54 : decode cX2_search 54 = .ok (.iconst (-1), 1) := by decide +kernel
theorem dX2_search_55 : decode cX2_search 55 = .ok (.ixor, 1) := by decide +kernel
theorem dX2_search_56 : decode cX2_search 56 = .ok (.iand, 1) := by decide +kernel
theorem dX2_search_57 : decode cX2_search 57 = .ok (.ifCond .ne 34, 3) := by decide +kernel
theorem dX2_search_60 : decode cX2_search 60 = .ok (.aload_n 0, 1) := by decide +kernel
theorem dX2_search_61 : decode cX2_search 61 = .ok (.iload 9, 2) := by decide +kernel
theorem dX2_search_63 : decode cX2_search 63 = .ok (.iload 4, 2) := by decide +kernel
theorem dX2_search_65 : decode cX2_search 65 = .ok (.iload 5, 2) := by decide +kernel
theorem dX2_search_67 : decode cX2_search 67 = .ok (.invokevirtual 52, 3) := by decide +kernel
theorem dX2_search_70 : decode cX2_search 70 = .ok (.iload_n 2, 1) := by decide +kernel
theorem dX2_search_71 : decode cX2_search 71 = .ok (.if_icmp .ne 20, 3) := by decide +kernel
theorem dX2_search_74 : decode cX2_search 74 = .ok (.iinc 6 1, 3) := by decide +kernel
theorem dX2_search_77 : decode cX2_search 77 = .ok (.iload 7, 2) := by decide +kernel
theorem dX2_search_79 : decode cX2_search 79 = .ok (.iload 9, 2) := by decide +kernel
theorem dX2_search_81 : decode cX2_search 81 = .ok (.iand, 1) := by decide +kernel
theorem dX2_search_82 : decode cX2_search 82 = .ok (.istore 7, 2) := by decide +kernel
theorem dX2_search_84 : decode cX2_search 84 = .ok (.iload 8, 2) := by decide +kernel
theorem dX2_search_86 : decode cX2_search 86 = .ok (.iload 9, 2) := by decide +kernel
theorem dX2_search_88 : decode cX2_search 88 = .ok (.ior, 1) := by decide +kernel
theorem dX2_search_89 : decode cX2_search 89 = .ok (.istore 8, 2) := by decide +kernel
theorem dX2_search_91 : decode cX2_search 91 = .ok (.iinc 9 1, 3) := by decide +kernel
theorem dX2_search_94 : decode cX2_search 94 = .ok (.goto (-49), 3) := by decide +kernel
theorem dX2_search_97 : decode cX2_search 97 = .ok (.aload_n 0, 1) := by decide +kernel
theorem dX2_search_98 : decode cX2_search 98 = .ok (.getfield 11, 3) := by decide +kernel
theorem dX2_search_101 : decode cX2_search 101 = .ok (.iconst 0, 1) := by decide +kernel
theorem dX2_search_102 : decode cX2_search 102 = .ok (.iload 6, 2) := by decide +kernel
theorem dX2_search_104 : decode cX2_search 104 = .ok (.iastore, 1) := by decide +kernel
theorem dX2_search_105 : decode cX2_search 105 = .ok (.aload_n 0, 1) := by decide +kernel
theorem dX2_search_106 : decode cX2_search 106 = .ok (.getfield 11, 3) := by decide +kernel
theorem dX2_search_109 : decode cX2_search 109 = .ok (.iconst 1, 1) := by decide +kernel
theorem dX2_search_110 : decode cX2_search 110 = .ok (.iload 6, 2) := by decide +kernel
theorem dX2_search_112 : decode cX2_search 112 = .ok (.ifCond .ne 7, 3) := by decide +kernel
theorem dX2_search_115 : decode cX2_search 115 = .ok (.iconst 0, 1) := by decide +kernel
theorem dX2_search_116 : decode cX2_search 116 = .ok (.goto 5, 3) := by decide +kernel
theorem dX2_search_119 : decode cX2_search 119 = .ok (.iload 7, 2) := by decide +kernel
theorem dX2_search_121 : decode cX2_search 121 = .ok (.iastore, 1) := by decide +kernel
theorem dX2_search_122 : decode cX2_search 122 = .ok (.aload_n 0, 1) := by decide +kernel
theorem dX2_search_123 : decode cX2_search 123 = .ok (.getfield 11, 3) := by decide +kernel
theorem dX2_search_126 : decode cX2_search 126 = .ok (.iconst 2, 1) := by decide +kernel
theorem dX2_search_127 : decode cX2_search 127 = .ok (.iload 8, 2) := by decide +kernel
theorem dX2_search_129 : decode cX2_search 129 = .ok (.iastore, 1) := by decide +kernel
theorem dX2_search_130 : decode cX2_search 130 = .ok (.return_, 1) := by decide +kernel
theorem dX2_measureChanges_0 : decode cX2_measureChanges 0 = .ok (.iconst 0, 1) := by decide +kernel
theorem dX2_measureChanges_1 : decode cX2_measureChanges 1 = .ok (.istore_n 2, 1) := by decide +kernel
theorem dX2_measureChanges_2 : decode cX2_measureChanges 2 = .ok (.iload_n 2, 1) := by decide +kernel
theorem dX2_measureChanges_3 : decode cX2_measureChanges 3 = .ok (.bipush 8, 2) := by decide +kernel
theorem dX2_measureChanges_5 : decode cX2_measureChanges 5 = .ok (.if_icmp .ge 96, 3) := by decide +kernel
theorem dX2_measureChanges_8 : decode cX2_measureChanges 8 = .ok (.aload_n 0, 1) := by decide +kernel
theorem dX2_measureChanges_9 : decode cX2_measureChanges 9 = .ok (.getfield 25, 3) := by decide +kernel
theorem dX2_measureChanges_12 : decode cX2_measureChanges 12 = .ok (.iload_n 2, 1) := by decide +kernel
theorem dX2_measureChanges_13 : decode cX2_measureChanges 13 = .ok (.iload_n 1, 1) := by decide +kernel
theorem dX2_measureChanges_14 : decode cX2_measureChanges 14 = .ok (.invokevirtual 56, 3) := by decide +kernel
theorem dX2_measureChanges_17 : decode cX2_measureChanges 17 = .ok (.istore_n 3, 1) := by decide +kernel
theorem dX2_measureChanges_18 : decode cX2_measureChanges 18 = .ok (.aload_n 0, 1) := by decide +kernel
theorem dX2_measureChanges_19 : decode cX2_measureChanges 19 = .ok (.getfield 25, 3) := by decide +kernel
theorem dX2_measureChanges_22 : decode cX2_measureChanges 22 = .ok (.iload_n 2, 1) := by decide +kernel
theorem dX2_measureChanges_23 : decode cX2_measureChanges 23 = .ok (.iload_n 1, 1) := by decide +kernel
theorem dX2_measureChanges_24 : decode cX2_measureChanges 24 = .ok (.iconst 1, 1) := by decide +kernel
theorem dX2_measureChanges_25 : decode cX2_measureChanges 25 = .ok (.isub, 1) := by decide +kernel
theorem dX2_measureChanges_26 : decode cX2_measureChanges 26 = .ok (.invokevirtual 56, 3) := by decide +kernel
theorem dX2_measureChanges_29 : decode cX2_measureChanges 29 = .ok (.istore 4, 2) := by decide +kernel
theorem dX2_measureChanges_31 : decode cX2_measureChanges 31 = .ok (.aload_n 0, 1) := by decide +kernel
theorem dX2_measureChanges_32 : decode cX2_measureChanges 32 = .ok (.getfield 25, 3) := by decide +kernel
theorem dX2_measureChanges_35 : decode cX2_measureChanges 35 = .ok (.iload_n 2, 1) := by decide +kernel
theorem dX2_measureChanges_36 : decode cX2_measureChanges 36 = .ok (.invokevirtual 60, 3) := by decide +kernel
theorem dX2_measureChanges_39 : decode cX2_measureChanges 39 = .ok (.istore 5, 2) := by decide +kernel
theorem dX2_measureChanges_41 : decode cX2_measureChanges 41 = .ok (.aload_n 0, 1) := by decide +kernel
theorem dX2_measureChanges_42 : decode cX2_measureChanges 42 = .ok (.getfield 15, 3) := by decide +kernel
theorem dX2_measureChanges_45 : decode cX2_measureChanges 45 = .ok (.iload_n 2, 1) := by decide +kernel
theorem dX2_measureChanges_46 : decode cX2_measureChanges 46 = .ok (.iload 5, 2) := by decide +kernel
theorem dX2_measureChanges_48 : decode cX2_measureChanges 48 = .ok (.aload_n 0, 1) := by decide +kernel
theorem dX2_measureChanges_49 : decode cX2_measureChanges 49 = .ok (.getfield 21, 3) := by decide +kernel
theorem dX2_measureChanges_52 : decode cX2_measureChanges 52 = .ok (.iload 4, 2) := by decide +kernel
theorem dX2_measureChanges_54 : decode cX2_measureChanges 54 = .ok (.invokevirtual 63, 3) := by decide +kernel
theorem dX2_measureChanges_57 : decode cX2_measureChanges 57 = .ok (.aload_n 0, 1) := by decide +kernel
theorem dX2_measureChanges_58 : decode cX2_measureChanges 58 = .ok (.getfield 21, 3) := by decide +kernel
theorem dX2_measureChanges_61 : decode cX2_measureChanges 61 = .ok (.iload_n 3, 1) := by decide +kernel
theorem dX2_measureChanges_62 : decode cX2_measureChanges 62 = .ok (.invokevirtual 63, 3) := by decide +kernel
theorem dX2_measureChanges_65 : decode cX2_measureChanges 65 = .ok (.isub, 1) := by decide +kernel
theorem dX2_measureChanges_66 : decode cX2_measureChanges 66 = .ok (.imul, 1) := by decide +kernel
theorem dX2_measureChanges_67 : decode cX2_measureChanges 67 = .ok (.iastore, 1) := by decide +kernel
theorem dX2_measureChanges_68 : decode cX2_measureChanges 68 = .ok (.aload_n 0, 1) := by decide +kernel
theorem dX2_measureChanges_69 : decode cX2_measureChanges 69 = .ok (.getfield 18, 3) := by decide +kernel
theorem dX2_measureChanges_72 : decode cX2_measureChanges 72 = .ok (.iload_n 2, 1) := by decide +kernel
theorem dX2_measureChanges_73 : decode cX2_measureChanges 73 = .ok (.iload 5, 2) := by decide +kernel
theorem dX2_measureChanges_75 : decode cX2_measureChanges 75 = .ok (.aload_n 0, 1) := by decide +kernel
theorem dX2_measureChanges_76 : decode cX2_measureChanges 76 = .ok (.getfield 21, 3) := by decide +kernel
theorem dX2_measureChanges_79 : decode cX2_measureChanges 79 = .ok (.iload 4, 2) := by decide +kernel
theorem dX2_measureChanges_81 : decode cX2_measureChanges 81 = .ok (.invokevirtual 68, 3) := by decide +kernel
theorem dX2_measureChanges_84 : decode cX2_measureChanges 84 = .ok (.aload_n 0, 1) := by decide +kernel
theorem dX2_measureChanges_85 : decode cX2_measureChanges 85 = .ok (.getfield 21, 3) := by decide +kernel
theorem dX2_measureChanges_88 : decode cX2_measureChanges 88 = .ok (.iload_n 3, 1) := by decide +kernel
theorem dX2_measureChanges_89 : decode cX2_measureChanges 89 = .ok (.invokevirtual 68, 3) := by decide +kernel
theorem dX2_measureChanges_92 : decode cX2_measureChanges 92 = .ok (.isub, 1) := by decide +kernel
theorem dX2_measureChanges_93 : decode cX2_measureChanges 93 = .ok (.imul, 1) := by decide +kernel
theorem dX2_measureChanges_94 : decode cX2_measureChanges 94 = .ok (.iastore, 1) := by decide +kernel
theorem dX2_measureChanges_95 : decode cX2_measureChanges 95 = .ok (.iinc 2 1, 3) := by decide +kernel
theorem dX2_measureChanges_98 : decode cX2_measureChanges 98 = .ok (.goto (-96), 3) := by decide +kernel
theorem dX2_measureChanges_101 : decode cX2_measureChanges 101 = .ok (.return_, 1) := by decide +kernel
theorem dX2_wetDoorsIfLate_0 : decode cX2_wetDoorsIfLate 0 = .ok (.iload_n 2, 1) := by decide +kernel
theorem dX2_wetDoorsIfLate_1 : decode cX2_wetDoorsIfLate 1 = .ok (.istore 4, 2) := by decide +kernel
theorem dX2_wetDoorsIfLate_3 : decode cX2_wetDoorsIfLate 3 = .ok (.iload_n 3, 1) := by decide +kernel
theorem dX2_wetDoorsIfLate_4 : decode cX2_wetDoorsIfLate 4 = .ok (.istore 5, 2) := by decide +kernel
theorem dX2_wetDoorsIfLate_6 : decode cX2_wetDoorsIfLate 6 = .ok (.iconst 0, 1) := by decide +kernel
theorem dX2_wetDoorsIfLate_7 : decode cX2_wetDoorsIfLate 7 = .ok (.istore 6, 2) := by decide +kernel
theorem dX2_wetDoorsIfLate_9 : decode cX2_wetDoorsIfLate 9 = .ok (.iload 6, 2) := by decide +kernel
theorem dX2_wetDoorsIfLate_11 : decode cX2_wetDoorsIfLate 11 = .ok (.bipush 8, 2) := by decide +kernel
theorem dX2_wetDoorsIfLate_13 : decode cX2_wetDoorsIfLate 13 = .ok (.if_icmp .ge 42, 3) := by decide +kernel
theorem dX2_wetDoorsIfLate_16 : decode cX2_wetDoorsIfLate 16 = .ok (.iload_n 1, 1) := by decide +kernel
theorem dX2_wetDoorsIfLate_17 : decode cX2_wetDoorsIfLate 17 = .ok (.iconst 1, 1) := by decide +kernel
theorem dX2_wetDoorsIfLate_18 : decode cX2_wetDoorsIfLate 18 = .ok (.iload 6, 2) := by decide +kernel
theorem dX2_wetDoorsIfLate_20 : decode cX2_wetDoorsIfLate 20 = .ok (.ishl, 1) := by decide +kernel
theorem dX2_wetDoorsIfLate_21 : decode cX2_wetDoorsIfLate 21 = .ok (.iand, 1) := by decide +kernel
theorem dX2_wetDoorsIfLate_22 : decode cX2_wetDoorsIfLate 22 = .ok (.ifCond .eq 27, 3) := by decide +kernel
theorem dX2_wetDoorsIfLate_25 : decode cX2_wetDoorsIfLate 25 = .ok (.iload 4, 2) := by decide +kernel
theorem dX2_wetDoorsIfLate_27 : decode cX2_wetDoorsIfLate 27 = .ok (.aload_n 0, 1) := by decide +kernel
theorem dX2_wetDoorsIfLate_28 : decode cX2_wetDoorsIfLate 28 = .ok (.getfield 15, 3) := by decide +kernel
theorem dX2_wetDoorsIfLate_31 : decode cX2_wetDoorsIfLate 31 = .ok (.iload 6, 2) := by decide +kernel
theorem dX2_wetDoorsIfLate_33 : decode cX2_wetDoorsIfLate 33 = .ok (.iaload, 1) := by decide +kernel
theorem dX2_wetDoorsIfLate_34 : decode cX2_wetDoorsIfLate 34 = .ok (.iadd, 1) := by decide +kernel
theorem dX2_wetDoorsIfLate_35 : decode cX2_wetDoorsIfLate 35 = .ok (.istore 4, 2) := by decide +kernel
theorem dX2_wetDoorsIfLate_37 : decode cX2_wetDoorsIfLate 37 = .ok (.iload 5, 2) := by decide +kernel
theorem dX2_wetDoorsIfLate_39 : decode cX2_wetDoorsIfLate 39 = .ok (.aload_n 0, 1) := by decide +kernel
theorem dX2_wetDoorsIfLate_40 : decode cX2_wetDoorsIfLate 40 = .ok (.getfield 18, 3) := by decide +kernel
theorem dX2_wetDoorsIfLate_43 : decode cX2_wetDoorsIfLate 43 = .ok (.iload 6, 2) := by decide +kernel
theorem dX2_wetDoorsIfLate_45 : decode cX2_wetDoorsIfLate 45 = .ok (.iaload, 1) := by decide +kernel
theorem dX2_wetDoorsIfLate_46 : decode cX2_wetDoorsIfLate 46 = .ok (.iadd, 1) := by decide +kernel
theorem dX2_wetDoorsIfLate_47 : decode cX2_wetDoorsIfLate 47 = .ok (.istore 5, 2) := by decide +kernel
theorem dX2_wetDoorsIfLate_49 : decode cX2_wetDoorsIfLate 49 = .ok (.iinc 6 1, 3) := by decide +kernel
theorem dX2_wetDoorsIfLate_52 : decode cX2_wetDoorsIfLate 52 = .ok (.goto (-43), 3) := by decide +kernel
theorem dX2_wetDoorsIfLate_55 : decode cX2_wetDoorsIfLate 55 = .ok (.aload_n 0, 1) := by decide +kernel
theorem dX2_wetDoorsIfLate_56 : decode cX2_wetDoorsIfLate 56 = .ok (.getfield 21, 3) := by decide +kernel
theorem dX2_wetDoorsIfLate_59 : decode cX2_wetDoorsIfLate 59 = .ok (.iload 4, 2) := by decide +kernel
theorem dX2_wetDoorsIfLate_61 : decode cX2_wetDoorsIfLate 61 = .ok (.iload 5, 2) := by decide +kernel
theorem dX2_wetDoorsIfLate_63 : decode cX2_wetDoorsIfLate 63 = .ok (.invokevirtual 71, 3) := by decide +kernel
theorem dX2_wetDoorsIfLate_66 : decode cX2_wetDoorsIfLate 66 = .ok (.ireturn, 1) := by decide +kernel
theorem dX3_init_0 : decode cX3_init 0 = .ok (.aload_n 0, 1) := by decide +kernel
theorem dX3_init_1 : decode cX3_init 1 = .ok (.invokespecial 3, 3) := by decide +kernel
theorem dX3_init_4 : decode cX3_init 4 = .ok (.aload_n 0, 1) := by decide +kernel
theorem dX3_init_5 : decode cX3_init 5 = .ok (.bipush 40, 2) := by decide +kernel
theorem dX3_init_7 : decode cX3_init 7 = .ok (.newarray .char, 2) := by decide +kernel
theorem dX3_init_9 : decode cX3_init 9 = .ok (.putfield 9, 3) := by decide +kernel
theorem dX3_init_12 : decode cX3_init 12 = .ok (.return_, 1) := by decide +kernel
theorem dX3_length_0 : decode cX3_length 0 = .ok (.aload_n 0, 1) := by decide +kernel
theorem dX3_length_1 : decode cX3_length 1 = .ok (.getfield 15, 3) := by decide +kernel
theorem dX3_length_4 : decode cX3_length 4 = .ok (.ireturn, 1) := by decide +kernel
theorem dX3_letter_0 : decode cX3_letter 0 = .ok (.iload_n 1, 1) := by decide +kernel
theorem dX3_letter_1 : decode cX3_letter 1 = .ok (.ifCond .lt 20, 3) := by decide +kernel
theorem dX3_letter_4 : decode cX3_letter 4 = .ok (.iload_n 1, 1) := by decide +kernel
theorem dX3_letter_5 : decode cX3_letter 5 = .ok (.aload_n 0, 1) := by decide +kernel
theorem dX3_letter_6 : decode cX3_letter 6 = .ok (.getfield 15, 3) := by decide +kernel
theorem dX3_letter_9 : decode cX3_letter 9 = .ok (.if_icmp .ge 12, 3) := by decide +kernel
theorem dX3_letter_12 : decode cX3_letter 12 = .ok (.aload_n 0, 1) := by decide +kernel
theorem dX3_letter_13 : decode cX3_letter 13 = .ok (.getfield 9, 3) := by decide +kernel
theorem dX3_letter_16 : decode cX3_letter 16 = .ok (.iload_n 1, 1) := by decide +kernel
theorem dX3_letter_17 : decode cX3_letter 17 = .ok (.caload, 1) := by decide +kernel
theorem dX3_letter_18 : decode cX3_letter 18 = .ok (.goto 4, 3) := by decide +kernel
theorem dX3_letter_21 : decode cX3_letter 21 = .ok (.iconst 0, 1) := by decide +kernel
theorem dX3_letter_22 : decode cX3_letter 22 = .ok (.ireturn, 1) := by decide +kernel
theorem dX3_clear_0 : decode cX3_clear 0 = .ok (.aload_n 0, 1) := by decide +kernel
theorem dX3_clear_1 : decode cX3_clear 1 = .ok (.iconst 0, 1) := by decide +kernel
theorem dX3_clear_2 : decode cX3_clear 2 = .ok (.putfield 15, 3) := by decide +kernel
theorem dX3_clear_5 : decode cX3_clear 5 = .ok (.return_, 1) := by decide +kernel
theorem dX3_add_0 : decode cX3_add 0 = .ok (.lload_n 1, 1) := by decide +kernel
theorem dX3_add_1 : decode cX3_add 1 = .ok (.invokestatic 19, 3) := by decide +kernel
theorem dX3_add_4 : decode cX3_add 4 = .ok (.istore_n 3, 1) := by decide +kernel
theorem dX3_add_5 : decode cX3_add 5 = .ok (.iload_n 3, 1) := by decide +kernel
theorem dX3_add_6 : decode cX3_add 6 = .ok (.bipush (-102), 2) := by decide +kernel
theorem dX3_add_8 : decode cX3_add 8 = .ok (.if_icmp .ne 6, 3) := by decide +kernel
theorem dX3_add_11 : decode cX3_add 11 = .ok (.bipush (-102), 2) := by decide +kernel
theorem dX3_add_13 : decode cX3_add 13 = .ok (.ireturn, 1) := by decide +kernel
theorem dX3_add_14 : decode cX3_add 14 = .ok (.aload_n 0, 1) := by decide +kernel
theorem dX3_add_15 : decode cX3_add 15 = .ok (.getfield 15, 3) := by decide +kernel
theorem dX3_add_18 : decode cX3_add 18 = .ok (.iload_n 3, 1) := by decide +kernel
theorem dX3_add_19 : decode cX3_add 19 = .ok (.iadd, 1) := by decide +kernel
theorem dX3_add_20 : decode cX3_add 20 = .ok (.bipush 40, 2) := by decide +kernel
theorem dX3_add_22 : decode cX3_add 22 = .ok (.if_icmp .le 6, 3) := by decide +kernel
theorem dX3_add_25 : decode cX3_add 25 = .ok (.bipush (-104), 2) := by decide +kernel
theorem dX3_add_27 : decode cX3_add 27 = .ok (.ireturn, 1) := by decide +kernel
theorem dX3_add_28 : decode cX3_add 28 = .ok (.iconst 0, 1) := by decide +kernel
theorem dX3_add_29 : decode cX3_add 29 = .ok (.istore 4, 2) := by decide +kernel
theorem dX3_add_31 : decode cX3_add 31 = .ok (.iload 4, 2) := by decide +kernel
theorem dX3_add_33 : decode cX3_add 33 = .ok (.iload_n 3, 1) := by decide +kernel
theorem dX3_add_34 : decode cX3_add 34 = .ok (.if_icmp .ge 28, 3) := by decide +kernel
theorem dX3_add_37 : decode cX3_add 37 = .ok (.aload_n 0, 1) := by decide +kernel
theorem dX3_add_38 : decode cX3_add 38 = .ok (.getfield 9, 3) := by decide +kernel
theorem dX3_add_41 : decode cX3_add 41 = .ok (.aload_n 0, 1) := by decide +kernel
theorem dX3_add_42 : decode cX3_add 42 = .ok (.getfield 15, 3) := by decide +kernel
theorem dX3_add_45 : decode cX3_add 45 = .ok (.iload 4, 2) := by decide +kernel
theorem dX3_add_47 : decode cX3_add 47 = .ok (.iadd, 1) := by decide +kernel
theorem dX3_add_48 : decode cX3_add 48 = .ok (.lload_n 1, 1) := by decide +kernel
theorem dX3_add_49 : decode cX3_add 49 = .ok (.iload 4, 2) := by decide +kernel
theorem dX3_add_51 : decode cX3_add 51 = .ok (.invokestatic 23, 3) := by decide +kernel
theorem dX3_add_54 : decode cX3_add 54 = .ok (.i2c, 1) := by decide +kernel
theorem dX3_add_55 : decode cX3_add 55 = .ok (.castore, 1) := by decide +kernel
theorem dX3_add_56 : decode cX3_add 56 = .ok (.iinc 4 1, 3) := by decide +kernel
theorem dX3_add_59 : decode cX3_add 59 = .ok (.goto (-28), 3) := by decide +kernel
theorem dX3_add_62 : decode cX3_add 62 = .ok (.aload_n 0, 1) := by decide +kernel
theorem dX3_add_63 : decode cX3_add 63 = .ok (.dup, 1) := by decide +kernel
theorem dX3_add_64 : decode cX3_add 64 = .ok (.getfield 15, 3) := by decide +kernel
theorem dX3_add_67 : decode cX3_add 67 = .ok (.iload_n 3, 1) := by decide +kernel
theorem dX3_add_68 : decode cX3_add 68 = .ok (.iadd, 1) := by decide +kernel
theorem dX3_add_69 : decode cX3_add 69 = .ok (.putfield 15, 3) := by decide +kernel
theorem dX3_add_72 : decode cX3_add 72 = .ok (.aload_n 0, 1) := by decide +kernel
theorem dX3_add_73 : decode cX3_add 73 = .ok (.getfield 15, 3) := by decide +kernel
theorem dX3_add_76 : decode cX3_add 76 = .ok (.ireturn, 1) := by decide +kernel
theorem dX3_lettersTold_0 : decode cX3_lettersTold 0 = .ok (.iconst 0, 1) := by decide +kernel
theorem dX3_lettersTold_1 : decode cX3_lettersTold 1 = .ok (.istore_n 2, 1) := by decide +kernel
theorem dX3_lettersTold_2 : decode cX3_lettersTold 2 = .ok (.iconst 0, 1) := by decide +kernel
theorem dX3_lettersTold_3 : decode cX3_lettersTold 3 = .ok (.istore_n 3, 1) := by decide +kernel
theorem dX3_lettersTold_4 : decode cX3_lettersTold 4 = .ok (.iload_n 3, 1) := by decide +kernel
theorem dX3_lettersTold_5 : decode cX3_lettersTold 5 = .ok (.bipush 8, 2) := by decide +kernel
theorem dX3_lettersTold_7 : decode cX3_lettersTold 7 = .ok (.if_icmp .ge 56, 3) := by decide +kernel
theorem dX3_lettersTold_10 : decode cX3_lettersTold 10 = .ok (.lload_n 0, 1) := by decide +kernel
theorem dX3_lettersTold_11 : decode cX3_lettersTold 11 = .ok (.iload_n 3, 1) := by decide +kernel
theorem dX3_lettersTold_12 : decode cX3_lettersTold 12 = .ok (.invokestatic 23, 3) := by decide +kernel
theorem dX3_lettersTold_15 : decode cX3_lettersTold 15 = .ok (.istore 4, 2) := by decide +kernel
theorem dX3_lettersTold_17 : decode cX3_lettersTold 17 = .ok (.iload 4, 2) := by decide +kernel
theorem dX3_lettersTold_19 : decode cX3_lettersTold 19 = .ok (.ifCond .eq 12, 3) := by decide +kernel
theorem dX3_lettersTold_22 : decode cX3_lettersTold 22 = .ok (.iload_n 2, 1) := by decide +kernel
theorem dX3_lettersTold_23 : decode cX3_lettersTold 23 = .ok (.iload_n 3, 1) := by decide +kernel
theorem dX3_lettersTold_24 : decode cX3_lettersTold 24 = .ok (.if_icmp .ge 7, 3) := by decide +kernel
theorem dX3_lettersTold_27 : decode cX3_lettersTold 27 = .ok (.iconst 1, 1) := by decide +kernel
theorem dX3_lettersTold_28 : decode cX3_lettersTold 28 = .ok (.goto 4, 3) := by decide +kernel
theorem dX3_lettersTold_31 : decode cX3_lettersTold 31 = .ok (.iconst 0, 1) := by decide +kernel
theorem dX3_lettersTold_32 : decode cX3_lettersTold 32 = .ok (.istore 5, 2) := by decide +kernel
theorem dX3_lettersTold_34 : decode cX3_lettersTold 34 = .ok (.iload 4, 2) := by decide +kernel
theorem dX3_lettersTold_36 : decode cX3_lettersTold 36 = .ok (.bipush 126, 2) := by decide +kernel
theorem dX3_lettersTold_38 : decode cX3_lettersTold 38 = .ok (.if_icmp .gt 8, 3) := by decide +kernel
theorem dX3_lettersTold_41 : decode cX3_lettersTold 41 = .ok (.iload 5, 2) := by decide +kernel
theorem dX3_lettersTold_43 : decode cX3_lettersTold 43 = .ok (.ifCond .eq 6, 3) := by decide +kernel
theorem dX3_lettersTold_46 : decode cX3_lettersTold 46 = .ok (.bipush (-102), 2) := by decide +kernel
theorem dX3_lettersTold_48 : decode cX3_lettersTold 48 = .ok (.ireturn, 1) := by decide +kernel
theorem dX3_lettersTold_49 : decode cX3_lettersTold 49 = .ok (.iload 4, 2) := by decide +kernel
theorem dX3_lettersTold_51 : decode cX3_lettersTold 51 = .ok (.ifCond .eq 6, 3) := by decide +kernel
theorem dX3_lettersTold_54 : decode cX3_lettersTold 54 = .ok (.iinc 2 1, 3) := by decide +kernel
theorem dX3_lettersTold_57 : decode cX3_lettersTold 57 = .ok (.iinc 3 1, 3) := by decide +kernel
theorem dX3_lettersTold_60 : decode cX3_lettersTold 60 = .ok (.goto (-56), 3) := by decide +kernel
theorem dX3_lettersTold_63 : decode cX3_lettersTold 63 = .ok (.iload_n 2, 1) := by decide +kernel
theorem dX3_lettersTold_64 : decode cX3_lettersTold 64 = .ok (.ireturn, 1) := by decide +kernel
theorem dX3_codeAt_0 : decode cX3_codeAt 0 = .ok (.lload_n 0, 1) := by decide +kernel
theorem dX3_codeAt_1 : decode cX3_codeAt 1 = .ok (.bipush 8, 2) := by decide +kernel
theorem dX3_codeAt_3 : decode cX3_codeAt 3 = .ok (.iload_n 2, 1) := by decide +kernel
theorem dX3_codeAt_4 : decode cX3_codeAt 4 = .ok (.imul, 1) := by decide +kernel
theorem dX3_codeAt_5 : decode cX3_codeAt 5 = .ok (.lushr, 1) := by decide +kernel
theorem dX3_codeAt_6 : decode cX3_codeAt 6 = .ok (.ldc2_w 27, 3) := by decide +kernel
theorem dX3_codeAt_9 : decode cX3_codeAt 9 = .ok (.land, 1) := by decide +kernel
theorem dX3_codeAt_10 : decode cX3_codeAt 10 = .ok (.l2i, 1) := by decide +kernel
theorem dX3_codeAt_11 : decode cX3_codeAt 11 = .ok (.ireturn, 1) := by decide +kernel
theorem dX3_isWay_0 : decode cX3_isWay 0 = .ok (.aload_n 0, 1) := by decide +kernel
theorem dX3_isWay_1 : decode cX3_isWay 1 = .ok (.getfield 15, 3) := by decide +kernel
theorem dX3_isWay_4 : decode cX3_isWay 4 = .ok (.ifCond .le 18, 3) := by decide +kernel
theorem dX3_isWay_7 : decode cX3_isWay 7 = .ok (.aload_n 0, 1) := by decide +kernel
theorem dX3_isWay_8 : decode cX3_isWay 8 = .ok (.invokevirtual 29, 3) := by decide +kernel
theorem dX3_isWay_11 : decode cX3_isWay 11 = .ok (.aload_n 0, 1) := by decide +kernel
theorem dX3_isWay_12 : decode cX3_isWay 12 = .ok (.getfield 15, 3) := by decide +kernel
theorem dX3_isWay_15 : decode cX3_isWay 15 = .ok (.if_icmp .ne 7, 3) := by decide +kernel
theorem dX3_isWay_18 : decode cX3_isWay 18 = .ok (.iconst 1, 1) := by decide +kernel
theorem dX3_isWay_19 : decode cX3_isWay 19 = .ok (.goto 4, 3) := by decide +kernel
theorem dX3_isWay_22 : decode cX3_isWay 22 = .ok (.iconst 0, 1) := by decide +kernel
theorem dX3_isWay_23 : decode cX3_isWay 23 = .ok (.ireturn, 1) := by decide +kernel
theorem dX3_wayFault_0 : decode cX3_wayFault 0 = .ok (.iconst 0, 1) := by decide +kernel
theorem dX3_wayFault_1 : decode cX3_wayFault 1 = .ok (.istore_n 1, 1) := by decide +kernel
theorem dX3_wayFault_2 : decode cX3_wayFault 2 = .ok (.iload_n 1, 1) := by decide +kernel
theorem dX3_wayFault_3 : decode cX3_wayFault 3 = .ok (.aload_n 0, 1) := by decide +kernel
theorem dX3_wayFault_4 : decode cX3_wayFault 4 = .ok (.getfield 15, 3) := by decide +kernel
theorem dX3_wayFault_7 : decode cX3_wayFault 7 = .ok (.if_icmp .ge 25, 3) := by decide +kernel
theorem dX3_wayFault_10 : decode cX3_wayFault 10 = .ok (.iload_n 1, 1) := by decide +kernel
theorem dX3_wayFault_11 : decode cX3_wayFault 11 = .ok (.bipush 7, 2) := by decide +kernel
theorem dX3_wayFault_13 : decode cX3_wayFault 13 = .ok (.if_icmp .ge 11, 3) := by decide +kernel
theorem dX3_wayFault_16 : decode cX3_wayFault 16 = .ok (.aload_n 0, 1) := by decide +kernel
theorem dX3_wayFault_17 : decode cX3_wayFault 17 = .ok (.iload_n 1, 1) := by decide +kernel
theorem dX3_wayFault_18 : decode cX3_wayFault 18 = .ok (.invokevirtual 33, 3) := by decide +kernel
theorem dX3_wayFault_21 : decode cX3_wayFault 21 = .ok (.ifCond .ne 5, 3) := by decide +kernel
theorem dX3_wayFault_24 : decode cX3_wayFault 24 = .ok (.iload_n 1, 1) := by decide +kernel
theorem dX3_wayFault_25 : decode cX3_wayFault 25 = .ok (.ireturn, 1) := by decide +kernel
theorem dX3_wayFault_26 : decode cX3_wayFault 26 = .ok (.iinc 1 1, 3) := by decide +kernel
theorem dX3_wayFault_29 : decode cX3_wayFault 29 = .ok (.goto (-27), 3) := by decide +kernel
theorem dX3_wayFault_32 : decode cX3_wayFault 32 = .ok (.aload_n 0, 1) := by decide +kernel
theorem dX3_wayFault_33 : decode cX3_wayFault 33 = .ok (.getfield 15, 3) := by decide +kernel
theorem dX3_wayFault_36 : decode cX3_wayFault 36 = .ok (.ireturn, 1) := by decide +kernel
theorem dX3_wayAt_0 : decode cX3_wayAt 0 = .ok (.aload_n 0, 1) := by decide +kernel
theorem dX3_wayAt_1 : decode cX3_wayAt 1 = .ok (.iload_n 1, 1) := by decide +kernel
theorem dX3_wayAt_2 : decode cX3_wayAt 2 = .ok (.invokevirtual 37, 3) := by decide +kernel
theorem dX3_wayAt_5 : decode cX3_wayAt 5 = .ok (.lookupswitch 51 #[(101, 45), (110, 43), (115, 47), (119, 49)], 43) := by decide +kernel
theorem dX3_wayAt_48 : decode cX3_wayAt 48 = .ok (.iconst 1, 1) := by decide +kernel
theorem dX3_wayAt_49 : decode cX3_wayAt 49 = .ok (.ireturn, 1) := by decide +kernel
theorem dX3_wayAt_50 : decode cX3_wayAt 50 = .ok (.iconst 2, 1) := by decide +kernel
theorem dX3_wayAt_51 : decode cX3_wayAt 51 = .ok (.ireturn, 1) := by decide +kernel
theorem dX3_wayAt_52 : decode cX3_wayAt 52 = .ok (.iconst 3, 1) := by decide +kernel
theorem dX3_wayAt_53 : decode cX3_wayAt 53 = .ok (.ireturn, 1) := by decide +kernel
theorem dX3_wayAt_54 : decode cX3_wayAt 54 = .ok (.iconst 4, 1) := by decide +kernel
theorem dX3_wayAt_55 : decode cX3_wayAt 55 = .ok (.ireturn, 1) := by decide +kernel
theorem dX3_wayAt_56 : decode cX3_wayAt 56 = .ok (.iconst 0, 1) := by decide +kernel
theorem dX3_wayAt_57 : decode cX3_wayAt 57 = .ok (.ireturn, 1) := by decide +kernel
theorem dX4_init_0 : decode cX4_init 0 = .ok (.aload_n 0, 1) := by decide +kernel
theorem dX4_init_1 : decode cX4_init 1 = .ok (.invokespecial 3, 3) := by decide +kernel
theorem dX4_init_4 : decode cX4_init 4 = .ok (.return_, 1) := by decide +kernel
theorem dX4_rows_0 : decode cX4_rows 0 = .ok (.aload_n 0, 1) := by decide +kernel
theorem dX4_rows_1 : decode cX4_rows 1 = .ok (.getfield 9, 3) := by decide +kernel
theorem dX4_rows_4 : decode cX4_rows 4 = .ok (.ireturn, 1) := by decide +kernel
theorem dX4_columns_0 : decode cX4_columns 0 = .ok (.aload_n 0, 1) := by decide +kernel
theorem dX4_columns_1 : decode cX4_columns 1 = .ok (.getfield 15, 3) := by decide +kernel
theorem dX4_columns_4 : decode cX4_columns 4 = .ok (.ireturn, 1) := by decide +kernel
theorem dX4_isWhole_0 : decode cX4_isWhole 0 = .ok (.aload_n 0, 1) := by decide +kernel
theorem dX4_isWhole_1 : decode cX4_isWhole 1 = .ok (.aload_n 1, 1) := by decide +kernel
theorem dX4_isWhole_2 : decode cX4_isWhole 2 = .ok (.invokevirtual 18, 3) := by decide +kernel
theorem dX4_isWhole_5 : decode cX4_isWhole 5 = .ok (.aload_n 1, 1) := by decide +kernel
theorem dX4_isWhole_6 : decode cX4_isWhole 6 = .ok (.invokevirtual 22, 3) := by decide +kernel
theorem dX4_isWhole_9 : decode cX4_isWhole 9 = .ok (.if_icmp .ne 26, 3) := by decide +kernel
theorem dX4_isWhole_12 : decode cX4_isWhole 12 = .ok (.aload_n 0, 1) := by decide +kernel
theorem dX4_isWhole_13 : decode cX4_isWhole 13 = .ok (.getfield 9, 3) := by decide +kernel
theorem dX4_isWhole_16 : decode cX4_isWhole 16 = .ok (.iconst 2, 1) := by decide +kernel
theorem dX4_isWhole_17 : decode cX4_isWhole 17 = .ok (.if_icmp .lt 18, 3) := by decide +kernel
theorem dX4_isWhole_20 : decode cX4_isWhole 20 = .ok (.aload_n 0, 1) := by decide +kernel
theorem dX4_isWhole_21 : decode cX4_isWhole 21 = .ok (.getfield 28, 3) := by decide +kernel
theorem dX4_isWhole_24 : decode cX4_isWhole 24 = .ok (.aload_n 0, 1) := by decide +kernel
theorem dX4_isWhole_25 : decode cX4_isWhole 25 = .ok (.getfield 15, 3) := by decide +kernel
theorem dX4_isWhole_28 : decode cX4_isWhole 28 = .ok (.if_icmp .ne 7, 3) := by decide +kernel
theorem dX4_isWhole_31 : decode cX4_isWhole 31 = .ok (.iconst 1, 1) := by decide +kernel
theorem dX4_isWhole_32 : decode cX4_isWhole 32 = .ok (.goto 4, 3) := by decide +kernel
theorem dX4_isWhole_35 : decode cX4_isWhole 35 = .ok (.iconst 0, 1) := by decide +kernel
theorem dX4_isWhole_36 : decode cX4_isWhole 36 = .ok (.ireturn, 1) := by decide +kernel
theorem dX4_faultIn_0 : decode cX4_faultIn 0 = .ok (.aload_n 0, 1) := by decide +kernel
theorem dX4_faultIn_1 : decode cX4_faultIn 1 = .ok (.iconst 1, 1) := by decide +kernel
theorem dX4_faultIn_2 : decode cX4_faultIn 2 = .ok (.putfield 9, 3) := by decide +kernel
theorem dX4_faultIn_5 : decode cX4_faultIn 5 = .ok (.aload_n 0, 1) := by decide +kernel
theorem dX4_faultIn_6 : decode cX4_faultIn 6 = .ok (.iconst 0, 1) := by decide +kernel
theorem dX4_faultIn_7 : decode cX4_faultIn 7 = .ok (.putfield 15, 3) := by decide +kernel
theorem dX4_faultIn_10 : decode cX4_faultIn 10 = .ok (.aload_n 0, 1) := by decide +kernel
theorem dX4_faultIn_11 : decode cX4_faultIn 11 = .ok (.iconst 0, 1) := by decide +kernel
theorem dX4_faultIn_12 : decode cX4_faultIn 12 = .ok (.putfield 28, 3) := by decide +kernel
theorem dX4_faultIn_15 : decode cX4_faultIn 15 = .ok (.iconst 0, 1) := by decide +kernel
theorem dX4_faultIn_16 : decode cX4_faultIn 16 = .ok (.istore_n 2, 1) := by decide +kernel
theorem dX4_faultIn_17 : decode cX4_faultIn 17 = .ok (.iload_n 2, 1) := by decide +kernel
theorem dX4_faultIn_18 : decode cX4_faultIn 18 = .ok (.aload_n 1, 1) := by decide +kernel
theorem dX4_faultIn_19 : decode cX4_faultIn 19 = .ok (.invokevirtual 22, 3) := by decide +kernel
theorem dX4_faultIn_22 : decode cX4_faultIn 22 = .ok (.if_icmp .ge 23, 3) := by decide +kernel
theorem dX4_faultIn_25 : decode cX4_faultIn 25 = .ok (.aload_n 0, 1) := by decide +kernel
theorem dX4_faultIn_26 : decode cX4_faultIn 26 = .ok (.aload_n 1, 1) := by decide +kernel
theorem dX4_faultIn_27 : decode cX4_faultIn 27 = .ok (.iload_n 2, 1) := by decide +kernel
theorem dX4_faultIn_28 : decode cX4_faultIn 28 = .ok (.invokevirtual 31, 3) := by decide +kernel
theorem dX4_faultIn_31 : decode cX4_faultIn 31 = .ok (.invokevirtual 35, 3) := by decide +kernel
theorem dX4_faultIn_34 : decode cX4_faultIn 34 = .ok (.ifCond .ne 5, 3) := by decide +kernel
theorem dX4_faultIn_37 : decode cX4_faultIn 37 = .ok (.iload_n 2, 1) := by decide +kernel
theorem dX4_faultIn_38 : decode cX4_faultIn 38 = .ok (.ireturn, 1) := by decide +kernel
theorem dX4_faultIn_39 : decode cX4_faultIn 39 = .ok (.iinc 2 1, 3) := by decide +kernel
theorem dX4_faultIn_42 : decode cX4_faultIn 42 = .ok (.goto (-25), 3) := by decide +kernel
theorem dX4_faultIn_45 : decode cX4_faultIn 45 = .ok (.aload_n 1, 1) := by decide +kernel
theorem dX4_faultIn_46 : decode cX4_faultIn 46 = .ok (.invokevirtual 22, 3) := by decide +kernel
theorem dX4_faultIn_49 : decode cX4_faultIn 49 = .ok (.ireturn, 1) := by decide +kernel
theorem dX4_takes_0 : decode cX4_takes 0 = .ok (.iload_n 1, 1) := by decide +kernel
theorem dX4_takes_1 : decode cX4_takes 1 = .ok (.bipush 47, 2) := by decide +kernel
theorem dX4_takes_3 : decode cX4_takes 3 = .ok (.if_icmp .ne 8, 3) := by decide +kernel
theorem dX4_takes_6 : decode cX4_takes 6 = .ok (.aload_n 0, 1) := by decide +kernel
theorem dX4_takes_7 : decode cX4_takes 7 = .ok (.invokevirtual 39, 3) := by decide +kernel
theorem dX4_takes_10 : decode cX4_takes 10 = .ok (.ireturn, 1) := by decide +kernel
theorem dX4_takes_11 : decode cX4_takes 11 = .ok (.iload_n 1, 1) := by decide +kernel
theorem dX4_takes_12 : decode cX4_takes 12 = .ok (.bipush 46, 2) := by decide +kernel
theorem dX4_takes_14 : decode cX4_takes 14 = .ok (.if_icmp .eq 15, 3) := by decide +kernel
theorem dX4_takes_17 : decode cX4_takes 17 = .ok (.iload_n 1, 1) := by decide +kernel
theorem dX4_takes_18 : decode cX4_takes 18 = .ok (.bipush 49, 2) := by decide +kernel
theorem dX4_takes_20 : decode cX4_takes 20 = .ok (.if_icmp .lt 13, 3) := by decide +kernel
theorem dX4_takes_23 : decode cX4_takes 23 = .ok (.iload_n 1, 1) := by decide +kernel
theorem dX4_takes_24 : decode cX4_takes 24 = .ok (.bipush 57, 2) := by decide +kernel
theorem dX4_takes_26 : decode cX4_takes 26 = .ok (.if_icmp .gt 7, 3) := by decide +kernel
theorem dX4_takes_29 : decode cX4_takes 29 = .ok (.iconst 1, 1) := by decide +kernel
theorem dX4_takes_30 : decode cX4_takes 30 = .ok (.goto 4, 3) := by decide +kernel
theorem dX4_takes_33 : decode cX4_takes 33 = .ok (.iconst 0, 1) := by decide +kernel
theorem dX4_takes_34 : decode cX4_takes 34 = .ok (.istore_n 2, 1) := by decide +kernel
theorem dX4_takes_35 : decode cX4_takes 35 = .ok (.aload_n 0, 1) := by decide +kernel
theorem dX4_takes_36 : decode cX4_takes 36 = .ok (.getfield 9, 3) := by decide +kernel
theorem dX4_takes_39 : decode cX4_takes 39 = .ok (.iconst 1, 1) := by decide +kernel
theorem dX4_takes_40 : decode cX4_takes 40 = .ok (.if_icmp .ne 8, 3) := by decide +kernel
theorem dX4_takes_43 : decode cX4_takes 43 = .ok (.bipush 6, 2) := by decide +kernel
theorem dX4_takes_45 : decode cX4_takes 45 = .ok (.goto 7, 3) := by decide +kernel
theorem dX4_takes_48 : decode cX4_takes 48 = .ok (.aload_n 0, 1) := by decide +kernel
theorem dX4_takes_49 : decode cX4_takes 49 = .ok (.getfield 15, 3) := by decide +kernel
theorem dX4_takes_52 : decode cX4_takes 52 = .ok (.istore_n 3, 1) := by decide +kernel
theorem dX4_takes_53 : decode cX4_takes 53 = .ok (.iload_n 2, 1) := by decide +kernel
theorem dX4_takes_54 : decode cX4_takes 54 = .ok (.ifCond .eq 11, 3) := by decide +kernel
theorem dX4_takes_57 : decode cX4_takes 57 = .ok (.aload_n 0, 1) := by decide +kernel
theorem dX4_takes_58 : decode cX4_takes 58 = .ok (.getfield 28, 3) := by decide +kernel
theorem dX4_takes_61 : decode cX4_takes 61 = .ok (.iload_n 3, 1) := by decide +kernel
theorem dX4_takes_62 : decode cX4_takes 62 = .ok (.if_icmp .lt 5, 3) := by decide +kernel
theorem dX4_takes_65 : decode cX4_takes 65 = .ok (.iconst 0, 1) := by decide +kernel
theorem dX4_takes_66 : decode cX4_takes 66 = .ok (.ireturn, 1) := by decide +kernel
theorem dX4_takes_67 : decode cX4_takes 67 = .ok (.aload_n 0, 1) := by decide +kernel
theorem dX4_takes_68 : decode cX4_takes 68 = .ok (.dup, 1) := by decide +kernel
theorem dX4_takes_69 : decode cX4_takes 69 = .ok (.getfield 28, 3) := by decide +kernel
theorem dX4_takes_72 : decode cX4_takes 72 = .ok (.iconst 1, 1) := by decide +kernel
theorem dX4_takes_73 : decode cX4_takes 73 = .ok (.iadd, 1) := by decide +kernel
theorem dX4_takes_74 : decode cX4_takes 74 = .ok (.putfield 28, 3) := by decide +kernel
theorem dX4_takes_77 : decode cX4_takes 77 = .ok (.iconst 1, 1) := by decide +kernel
theorem dX4_takes_78 : decode cX4_takes 78 = .ok (.ireturn, 1) := by decide +kernel
theorem dX4_endsRow_0 : decode cX4_endsRow 0 = .ok (.aload_n 0, 1) := by decide +kernel
theorem dX4_endsRow_1 : decode cX4_endsRow 1 = .ok (.getfield 9, 3) := by decide +kernel
theorem dX4_endsRow_4 : decode cX4_endsRow 4 = .ok (.iconst 1, 1) := by decide +kernel
theorem dX4_endsRow_5 : decode cX4_endsRow 5 = .ok (.if_icmp .ne 19, 3) := by decide +kernel
theorem dX4_endsRow_8 : decode cX4_endsRow 8 = .ok (.aload_n 0, 1) := by decide +kernel
theorem dX4_endsRow_9 : decode cX4_endsRow 9 = .ok (.getfield 28, 3) := by decide +kernel
theorem dX4_endsRow_12 : decode cX4_endsRow 12 = .ok (.iconst 2, 1) := by decide +kernel
theorem dX4_endsRow_13 : decode cX4_endsRow 13 = .ok (.if_icmp .lt 7, 3) := by decide +kernel
theorem dX4_endsRow_16 : decode cX4_endsRow 16 = .ok (.iconst 1, 1) := by decide +kernel
theorem dX4_endsRow_17 : decode cX4_endsRow 17 = .ok (.goto 23, 3) := by decide +kernel
theorem dX4_endsRow_20 : decode cX4_endsRow 20 = .ok (.iconst 0, 1) := by decide +kernel
theorem dX4_endsRow_21 : decode cX4_endsRow 21 = .ok (.goto 19, 3) := by decide +kernel
theorem dX4_endsRow_24 : decode cX4_endsRow 24 = .ok (.aload_n 0, 1) := by decide +kernel
theorem dX4_endsRow_25 : decode cX4_endsRow 25 = .ok (.getfield 28, 3) := by decide +kernel
theorem dX4_endsRow_28 : decode cX4_endsRow 28 = .ok (.aload_n 0, 1) := by decide +kernel
theorem dX4_endsRow_29 : decode cX4_endsRow 29 = .ok (.getfield 15, 3) := by decide +kernel
theorem dX4_endsRow_32 : decode cX4_endsRow 32 = .ok (.if_icmp .ne 7, 3) := by decide +kernel
theorem dX4_endsRow_35 : decode cX4_endsRow 35 = .ok (.iconst 1, 1) := by decide +kernel
theorem dX4_endsRow_36 : decode cX4_endsRow 36 = .ok (.goto 4, 3) := by decide +kernel
theorem dX4_endsRow_39 : decode cX4_endsRow 39 = .ok (.iconst 0, 1) := by decide +kernel
theorem dX4_endsRow_40 : decode cX4_endsRow 40 = .ok (.istore_n 1, 1) := by decide +kernel
theorem dX4_endsRow_41 : decode cX4_endsRow 41 = .ok (.iload_n 1, 1) := by decide +kernel
theorem dX4_endsRow_42 : decode cX4_endsRow 42 = .ok (.ifCond .eq 11, 3) := by decide +kernel
theorem dX4_endsRow_45 : decode cX4_endsRow 45 = .ok (.aload_n 0, 1) := by decide +kernel
theorem dX4_endsRow_46 : decode cX4_endsRow 46 = .ok (.getfield 9, 3) := by decide +kernel
theorem dX4_endsRow_49 : decode cX4_endsRow 49 = .ok (.iconst 5, 1) := by decide +kernel
theorem dX4_endsRow_50 : decode cX4_endsRow 50 = .ok (.if_icmp .lt 5, 3) := by decide +kernel
theorem dX4_endsRow_53 : decode cX4_endsRow 53 = .ok (.iconst 0, 1) := by decide +kernel
theorem dX4_endsRow_54 : decode cX4_endsRow 54 = .ok (.ireturn, 1) := by decide +kernel
theorem dX4_endsRow_55 : decode cX4_endsRow 55 = .ok (.aload_n 0, 1) := by decide +kernel
theorem dX4_endsRow_56 : decode cX4_endsRow 56 = .ok (.aload_n 0, 1) := by decide +kernel
theorem dX4_endsRow_57 : decode cX4_endsRow 57 = .ok (.getfield 28, 3) := by decide +kernel
theorem dX4_endsRow_60 : decode cX4_endsRow 60 = .ok (.putfield 15, 3) := by decide +kernel
theorem dX4_endsRow_63 : decode cX4_endsRow 63 = .ok (.aload_n 0, 1) := by decide +kernel
theorem dX4_endsRow_64 : decode cX4_endsRow 64 = .ok (.dup, 1) := by decide +kernel
theorem dX4_endsRow_65 : decode cX4_endsRow 65 = .ok (.getfield 9, 3) := by decide +kernel
theorem dX4_endsRow_68 : decode cX4_endsRow 68 = .ok (.iconst 1, 1) := by decide +kernel
theorem dX4_endsRow_69 : decode cX4_endsRow 69 = .ok (.iadd, 1) := by decide +kernel
theorem dX4_endsRow_70 : decode cX4_endsRow 70 = .ok (.putfield 9, 3) := by decide +kernel
theorem dX4_endsRow_73 : decode cX4_endsRow 73 = .ok (.aload_n 0, 1) := by decide +kernel
theorem dX4_endsRow_74 : decode cX4_endsRow 74 = .ok (.iconst 0, 1) := by decide +kernel
theorem dX4_endsRow_75 : decode cX4_endsRow 75 = .ok (.putfield 28, 3) := by decide +kernel
theorem dX4_endsRow_78 : decode cX4_endsRow 78 = .ok (.iconst 1, 1) := by decide +kernel
theorem dX4_endsRow_79 : decode cX4_endsRow 79 = .ok (.ireturn, 1) := by decide +kernel
theorem dX5_init_0 : decode cX5_init 0 = .ok (.aload_n 0, 1) := by decide +kernel
theorem dX5_init_1 : decode cX5_init 1 = .ok (.invokespecial 3, 3) := by decide +kernel
theorem dX5_init_4 : decode cX5_init 4 = .ok (.aload_n 0, 1) := by decide +kernel
theorem dX5_init_5 : decode cX5_init 5 = .ok (.bipush 8, 2) := by decide +kernel
theorem dX5_init_7 : decode cX5_init 7 = .ok (.newarray .int, 2) := by decide +kernel
theorem dX5_init_9 : decode cX5_init 9 = .ok (.putfield 9, 3) := by decide +kernel
theorem dX5_init_12 : decode cX5_init 12 = .ok (.aload_n 0, 1) := by decide +kernel
theorem dX5_init_13 : decode cX5_init 13 = .ok (.bipush 8, 2) := by decide +kernel
theorem dX5_init_15 : decode cX5_init 15 = .ok (.newarray .int, 2) := by decide +kernel
theorem dX5_init_17 : decode cX5_init 17 = .ok (.putfield 15, 3) := by decide +kernel
theorem dX5_init_20 : decode cX5_init 20 = .ok (.aload_n 0, 1) := by decide +kernel
theorem dX5_init_21 : decode cX5_init 21 = .ok (.aload_n 1, 1) := by decide +kernel
theorem dX5_init_22 : decode cX5_init 22 = .ok (.putfield 18, 3) := by decide +kernel
theorem dX5_init_25 : decode cX5_init 25 = .ok (.aload_n 0, 1) := by decide +kernel
theorem dX5_init_26 : decode cX5_init 26 = .ok (.aload_n 2, 1) := by decide +kernel
theorem dX5_init_27 : decode cX5_init 27 = .ok (.putfield 22, 3) := by decide +kernel
theorem dX5_init_30 : decode cX5_init 30 = .ok (.aload_n 0, 1) := by decide +kernel
theorem dX5_init_31 : decode cX5_init 31 = .ok (.aload_n 3, 1) := by decide +kernel
theorem dX5_init_32 : decode cX5_init 32 = .ok (.putfield 26, 3) := by decide +kernel
theorem dX5_init_35 : decode cX5_init 35 = .ok (.return_, 1) := by decide +kernel
theorem dX5_start_0 : decode cX5_start 0 = .ok (.aload_n 0, 1) := by decide +kernel
theorem dX5_start_1 : decode cX5_start 1 = .ok (.getfield 30, 3) := by decide +kernel
theorem dX5_start_4 : decode cX5_start 4 = .ok (.ireturn, 1) := by decide +kernel
theorem dX5_wetDoors_0 : decode cX5_wetDoors 0 = .ok (.aload_n 0, 1) := by decide +kernel
theorem dX5_wetDoors_1 : decode cX5_wetDoors 1 = .ok (.getfield 34, 3) := by decide +kernel
theorem dX5_wetDoors_4 : decode cX5_wetDoors 4 = .ok (.ireturn, 1) := by decide +kernel
theorem dX5_firstGoesFrom_0 : decode cX5_firstGoesFrom 0 = .ok (.iload_n 1, 1) := by decide +kernel
theorem dX5_firstGoesFrom_1 : decode cX5_firstGoesFrom 1 = .ok (.istore_n 2, 1) := by decide +kernel
theorem dX5_firstGoesFrom_2 : decode cX5_firstGoesFrom 2 = .ok (.iconst 0, 1) := by decide +kernel
theorem dX5_firstGoesFrom_3 : decode cX5_firstGoesFrom 3 = .ok (.istore_n 3, 1) := by decide +kernel
theorem dX5_firstGoesFrom_4 : decode cX5_firstGoesFrom 4 = .ok (.iload_n 3, 1) := by decide +kernel
theorem dX5_firstGoesFrom_5 : decode cX5_firstGoesFrom 5 = .ok (.bipush 8, 2) := by decide +kernel
theorem dX5_firstGoesFrom_7 : decode cX5_firstGoesFrom 7 = .ok (.if_icmp .ge 50, 3) := by decide +kernel
theorem dX5_firstGoesFrom_10 : decode cX5_firstGoesFrom 10 = .ok (.iload_n 3, 1) := by decide +kernel
theorem dX5_firstGoesFrom_11 : decode cX5_firstGoesFrom 11 = .ok (.ifCond .ne 7, 3) := by decide +kernel
theorem dX5_firstGoesFrom_14 : decode cX5_firstGoesFrom 14 = .ok (.iload_n 2, 1) := by decide +kernel
theorem dX5_firstGoesFrom_15 : decode cX5_firstGoesFrom 15 = .ok (.goto 21, 3) := by decide +kernel
theorem dX5_firstGoesFrom_18 : decode cX5_firstGoesFrom 18 = .ok (.aload_n 0, 1) := by decide +kernel
theorem dX5_firstGoesFrom_19 : decode cX5_firstGoesFrom 19 = .ok (.getfield 22, 3) := by decide +kernel
theorem dX5_firstGoesFrom_22 : decode cX5_firstGoesFrom 22 = .ok (.iload_n 2, 1) := by decide +kernel
theorem dX5_firstGoesFrom_23 : decode cX5_firstGoesFrom 23 = .ok (.aload_n 0, 1) := by decide +kernel
theorem dX5_firstGoesFrom_24 : decode cX5_firstGoesFrom 24 = .ok (.getfield 18, 3) := by decide +kernel
theorem dX5_firstGoesFrom_27 : decode cX5_firstGoesFrom 27 = .ok (.iload_n 3, 1) := by decide +kernel
theorem dX5_firstGoesFrom_28 : decode cX5_firstGoesFrom 28 = .ok (.iconst 1, 1) := by decide +kernel
theorem dX5_firstGoesFrom_29 : decode cX5_firstGoesFrom 29 = .ok (.isub, 1) := by decide +kernel
theorem dX5_firstGoesFrom_30 : decode cX5_firstGoesFrom 30 = .ok (.invokevirtual 37, 3) := by decide +kernel
theorem dX5_firstGoesFrom_33 : decode cX5_firstGoesFrom 33 = .ok (.invokevirtual 43, 3) := by decide +kernel
theorem dX5_firstGoesFrom_36 : decode cX5_firstGoesFrom 36 = .ok (.istore_n 2, 1) := by decide +kernel
theorem dX5_firstGoesFrom_37 : decode cX5_firstGoesFrom 37 = .ok (.iload_n 2, 1) := by decide +kernel
theorem dX5_firstGoesFrom_38 : decode cX5_firstGoesFrom 38 = .ok (.iconst (-1), 1) := by decide +kernel
theorem dX5_firstGoesFrom_39 : decode cX5_firstGoesFrom 39 = .ok (.if_icmp .ne 5, 3) := by decide +kernel
theorem dX5_firstGoesFrom_42 : decode cX5_firstGoesFrom 42 = .ok (.iconst 0, 1) := by decide +kernel
theorem dX5_firstGoesFrom_43 : decode cX5_firstGoesFrom 43 = .ok (.ireturn, 1) := by decide +kernel
theorem dX5_firstGoesFrom_44 : decode cX5_firstGoesFrom 44 = .ok (.aload_n 0, 1) := by decide +kernel
theorem dX5_firstGoesFrom_45 : decode cX5_firstGoesFrom 45 = .ok (.getfield 9, 3) := by decide +kernel
theorem dX5_firstGoesFrom_48 : decode cX5_firstGoesFrom 48 = .ok (.iload_n 3, 1) := by decide +kernel
theorem dX5_firstGoesFrom_49 : decode cX5_firstGoesFrom 49 = .ok (.iload_n 2, 1) := by decide +kernel
theorem dX5_firstGoesFrom_50 : decode cX5_firstGoesFrom 50 = .ok (.iastore, 1) := by decide +kernel
theorem dX5_firstGoesFrom_51 : decode cX5_firstGoesFrom 51 = .ok (.iinc 3 1, 3) := by decide +kernel
theorem dX5_firstGoesFrom_54 : decode cX5_firstGoesFrom 54 = .ok (.goto (-50), 3) := by decide +kernel
theorem dX5_firstGoesFrom_57 : decode cX5_firstGoesFrom 57 = .ok (.iconst 1, 1) := by decide +kernel
theorem dX5_firstGoesFrom_58 : decode cX5_firstGoesFrom 58 = .ok (.ireturn, 1) := by decide +kernel
theorem dX5_secondGoesFrom_0 : decode cX5_secondGoesFrom 0 = .ok (.iload_n 1, 1) := by decide +kernel
theorem dX5_secondGoesFrom_1 : decode cX5_secondGoesFrom 1 = .ok (.istore_n 2, 1) := by decide +kernel
theorem dX5_secondGoesFrom_2 : decode cX5_secondGoesFrom 2 = .ok (.iconst 0, 1) := by decide +kernel
theorem dX5_secondGoesFrom_3 : decode cX5_secondGoesFrom 3 = .ok (.istore_n 3, 1) := by decide +kernel
theorem dX5_secondGoesFrom_4 : decode cX5_secondGoesFrom 4 = .ok (.iload_n 3, 1) := by decide +kernel
theorem dX5_secondGoesFrom_5 : decode cX5_secondGoesFrom 5 = .ok (.bipush 8, 2) := by decide +kernel
theorem dX5_secondGoesFrom_7 : decode cX5_secondGoesFrom 7 = .ok (.if_icmp .ge 53, 3) := by decide +kernel
theorem dX5_secondGoesFrom_10 : decode cX5_secondGoesFrom 10 = .ok (.iload_n 3, 1) := by decide +kernel
theorem dX5_secondGoesFrom_11 : decode cX5_secondGoesFrom 11 = .ok (.ifCond .ne 7, 3) := by decide +kernel
theorem dX5_secondGoesFrom_14 : decode cX5_secondGoesFrom 14 = .ok (.iload_n 2, 1) := by decide +kernel
theorem dX5_secondGoesFrom_15 : decode cX5_secondGoesFrom 15 = .ok (.goto 24, 3) := by decide +kernel
theorem dX5_secondGoesFrom_18 : decode cX5_secondGoesFrom 18 = .ok (.aload_n 0, 1) := by decide +kernel
theorem dX5_secondGoesFrom_19 : decode cX5_secondGoesFrom 19 = .ok (.getfield 22, 3) := by decide +kernel
theorem dX5_secondGoesFrom_22 : decode cX5_secondGoesFrom 22 = .ok (.iload_n 2, 1) := by decide +kernel
theorem dX5_secondGoesFrom_23 : decode cX5_secondGoesFrom 23 = .ok (.aload_n 0, 1) := by decide +kernel
theorem dX5_secondGoesFrom_24 : decode cX5_secondGoesFrom 24 = .ok (.getfield 18, 3) := by decide +kernel
theorem dX5_secondGoesFrom_27 : decode cX5_secondGoesFrom 27 = .ok (.iload_n 3, 1) := by decide +kernel
theorem dX5_secondGoesFrom_28 : decode cX5_secondGoesFrom 28 = .ok (.iconst 1, 1) := by decide +kernel
theorem dX5_secondGoesFrom_29 : decode cX5_secondGoesFrom 29 = .ok (.isub, 1) := by decide +kernel
theorem dX5_secondGoesFrom_30 : decode cX5_secondGoesFrom 30 = .ok (.invokevirtual 37, 3) := by decide +kernel
theorem dX5_secondGoesFrom_33 : decode cX5_secondGoesFrom 33 = .ok (.invokestatic 49, 3) := by decide +kernel
theorem dX5_secondGoesFrom_36 : decode cX5_secondGoesFrom 36 = .ok (.invokevirtual 43, 3) := by decide +kernel
theorem dX5_secondGoesFrom_39 : decode cX5_secondGoesFrom 39 = .ok (.istore_n 2, 1) := by decide +kernel
theorem dX5_secondGoesFrom_40 : decode cX5_secondGoesFrom 40 = .ok (.iload_n 2, 1) := by decide +kernel
theorem dX5_secondGoesFrom_41 : decode cX5_secondGoesFrom 41 = .ok (.iconst (-1), 1) := by decide +kernel
theorem dX5_secondGoesFrom_42 : decode cX5_secondGoesFrom 42 = .ok (.if_icmp .ne 5, 3) := by decide +kernel
theorem dX5_secondGoesFrom_45 : decode cX5_secondGoesFrom 45 = .ok (.iconst 0, 1) := by decide +kernel
theorem dX5_secondGoesFrom_46 : decode cX5_secondGoesFrom 46 = .ok (.ireturn, 1) := by decide +kernel
theorem dX5_secondGoesFrom_47 : decode cX5_secondGoesFrom 47 = .ok (.aload_n 0, 1) := by decide +kernel
theorem dX5_secondGoesFrom_48 : decode cX5_secondGoesFrom 48 = .ok (.getfield 15, 3) := by decide +kernel
theorem dX5_secondGoesFrom_51 : decode cX5_secondGoesFrom 51 = .ok (.iload_n 3, 1) := by decide +kernel
theorem dX5_secondGoesFrom_52 : decode cX5_secondGoesFrom 52 = .ok (.iload_n 2, 1) := by decide +kernel
theorem dX5_secondGoesFrom_53 : decode cX5_secondGoesFrom 53 = .ok (.iastore, 1) := by decide +kernel
theorem dX5_secondGoesFrom_54 : decode cX5_secondGoesFrom 54 = .ok (.iinc 3 1, 3) := by decide +kernel
theorem dX5_secondGoesFrom_57 : decode cX5_secondGoesFrom 57 = .ok (.goto (-53), 3) := by decide +kernel
theorem dX5_secondGoesFrom_60 : decode cX5_secondGoesFrom 60 = .ok (.iconst 1, 1) := by decide +kernel
theorem dX5_secondGoesFrom_61 : decode cX5_secondGoesFrom 61 = .ok (.ireturn, 1) := by decide +kernel
theorem dX5_turnedRound_0 : decode cX5_turnedRound 0 = .ok (.iload_n 0, 1) := by decide +kernel
theorem dX5_turnedRound_1 : decode cX5_turnedRound 1 = .ok (.tableswitch 39 1 4 #[31, 33, 35, 37], 31) := by decide +kernel
theorem dX5_turnedRound_32 : decode cX5_turnedRound 32 = .ok (.iconst 3, 1) := by decide +kernel
theorem dX5_turnedRound_33 : decode cX5_turnedRound 33 = .ok (.ireturn, 1) := by decide +kernel
theorem dX5_turnedRound_34 : decode cX5_turnedRound 34 = .ok (.iconst 4, 1) := by decide +kernel
theorem dX5_turnedRound_35 : decode cX5_turnedRound 35 = .ok (.ireturn, 1) := by decide +kernel
theorem dX5_turnedRound_36 : decode cX5_turnedRound 36 = .ok (.iconst 1, 1) := by decide +kernel
theorem dX5_turnedRound_37 : decode cX5_turnedRound 37 = .ok (.ireturn, 1) := by decide +kernel
theorem dX5_turnedRound_38 : decode cX5_turnedRound 38 = .ok (.iconst 2, 1) := by decide +kernel
theorem dX5_turnedRound_39 : decode cX5_turnedRound 39 = .ok (.ireturn, 1) := by decide +kernel
theorem dX5_turnedRound_40 : decode cX5_turnedRound 40 = .ok (.iconst 0, 1) := by decide +kernel
theorem dX5_turnedRound_41 : decode cX5_turnedRound 41 = .ok (.ireturn, 1) := by decide +kernel
theorem dX5_search_0 : decode cX5_search 0 = .ok (.aload_n 0, 1) := by decide +kernel
theorem dX5_search_1 : decode cX5_search 1 = .ok (.getfield 26, 3) := by decide +kernel
theorem dX5_search_4 : decode cX5_search 4 = .ok (.invokevirtual 52, 3) := by decide +kernel
theorem dX5_search_7 : decode cX5_search 7 = .ok (.aload_n 0, 1) := by decide +kernel
theorem dX5_search_8 : decode cX5_search 8 = .ok (.iconst (-1), 1) := by decide +kernel
theorem dX5_search_9 : decode cX5_search 9 = .ok (.putfield 30, 3) := by decide +kernel
theorem dX5_search_12 : decode cX5_search 12 = .ok (.aload_n 0, 1) := by decide +kernel
theorem dX5_search_13 : decode cX5_search 13 = .ok (.iconst 0, 1) := by decide +kernel
theorem dX5_search_14 : decode cX5_search 14 = .ok (.putfield 34, 3) := by decide +kernel
theorem dX5_search_17 : decode cX5_search 17 = .ok (.iconst 0, 1) := by decide +kernel
theorem dX5_search_18 : decode cX5_search 18 = .ok (.istore_n 2, 1) := by decide +kernel
theorem dX5_search_19 : decode cX5_search 19 = .ok (.iload_n 2, 1) := by decide +kernel
theorem dX5_search_20 : decode cX5_search 20 = .ok (.aload_n 0, 1) := by decide +kernel
theorem dX5_search_21 : decode cX5_search 21 = .ok (.getfield 22, 3) := by decide +kernel
theorem dX5_search_24 : decode cX5_search 24 = .ok (.invokevirtual 57, 3) := by decide +kernel
theorem dX5_search_27 : decode cX5_search 27 = .ok (.if_icmp .ge 49, 3) := by decide +kernel
theorem dX5_search_30 : decode cX5_search 30 = .ok (.aload_n 0, 1) := by decide +kernel
theorem dX5_search_31 : decode cX5_search 31 = .ok (.iload_n 2, 1) := by decide +kernel
theorem dX5_search_32 : decode cX5_search 32 = .ok (.invokevirtual 61, 3) := by decide +kernel
theorem dX5_search_35 : decode cX5_search 35 = .ok (.ifCond .eq 35, 3) := by decide +kernel
theorem dX5_search_38 : decode cX5_search 38 = .ok (.aload_n 0, 1) := by decide +kernel
theorem dX5_search_39 : decode cX5_search 39 = .ok (.iload_n 1, 1) := by decide +kernel
theorem dX5_search_40 : decode cX5_search 40 = .ok (.invokevirtual 65, 3) := by decide +kernel
theorem dX5_search_43 : decode cX5_search 43 = .ok (.istore_n 3, 1) := by decide +kernel
theorem dX5_search_44 : decode cX5_search 44 = .ok (.aload_n 0, 1) := by decide +kernel
theorem dX5_search_45 : decode cX5_search 45 = .ok (.getfield 30, 3) := by decide +kernel
theorem dX5_search_48 : decode cX5_search 48 = .ok (.iconst (-1), 1) := by decide +kernel
theorem dX5_search_49 : decode cX5_search 49 = .ok (.if_icmp .eq 11, 3) := by decide +kernel
theorem dX5_search_52 : decode cX5_search 52 = .ok (.iload_n 3, 1) := by decide +kernel
theorem dX5_search_53 : decode cX5_search 53 = .ok (.aload_n 0, 1) := by decide +kernel
theorem dX5_search_54 : decode cX5_search 54 = .ok (.getfield 34, 3) := by decide +kernel
theorem dX5_search_57 : decode cX5_search 57 = .ok (.if_icmp .ge 13, 3) := by decide +kernel
theorem dX5_search_60 : decode cX5_search 60 = .ok (.aload_n 0, 1) := by decide +kernel
theorem dX5_search_61 : decode cX5_search 61 = .ok (.iload_n 2, 1) := by decide +kernel
theorem dX5_search_62 : decode cX5_search 62 = .ok (.putfield 30, 3) := by decide +kernel
theorem dX5_search_65 : decode cX5_search 65 = .ok (.aload_n 0, 1) := by decide +kernel
theorem dX5_search_66 : decode cX5_search 66 = .ok (.iload_n 3, 1) := by decide +kernel
theorem dX5_search_67 : decode cX5_search 67 = .ok (.putfield 34, 3) := by decide +kernel
theorem dX5_search_70 : decode cX5_search 70 = .ok (.iinc 2 1, 3) := by decide +kernel
theorem dX5_search_73 : decode cX5_search 73 = .ok (.goto (-54), 3) := by decide +kernel
theorem dX5_search_76 : decode cX5_search 76 = .ok (.return_, 1) := by decide +kernel
theorem dX5_wetDoorsWithBoth_0 : decode cX5_wetDoorsWithBoth 0 = .ok (.iconst 0, 1) := by decide +kernel
theorem dX5_wetDoorsWithBoth_1 : decode cX5_wetDoorsWithBoth 1 = .ok (.istore_n 2, 1) := by decide +kernel
theorem dX5_wetDoorsWithBoth_2 : decode cX5_wetDoorsWithBoth 2 = .ok (.iconst 0, 1) := by decide +kernel
theorem dX5_wetDoorsWithBoth_3 : decode cX5_wetDoorsWithBoth 3 = .ok (.istore_n 3, 1) := by decide +kernel
theorem dX5_wetDoorsWithBoth_4 : decode cX5_wetDoorsWithBoth 4 = .ok (.iload_n 3, 1) := by decide +kernel
theorem dX5_wetDoorsWithBoth_5 : decode cX5_wetDoorsWithBoth 5 = .ok (.bipush 8, 2) := by decide +kernel
theorem dX5_wetDoorsWithBoth_7 : decode cX5_wetDoorsWithBoth 7 = .ok (.if_icmp .ge 86, 3) := by decide +kernel
theorem dX5_wetDoorsWithBoth_10 : decode cX5_wetDoorsWithBoth 10 = .ok (.aload_n 0, 1) := by decide +kernel
theorem dX5_wetDoorsWithBoth_11 : decode cX5_wetDoorsWithBoth 11 = .ok (.getfield 9, 3) := by decide +kernel
theorem dX5_wetDoorsWithBoth_14 : decode cX5_wetDoorsWithBoth 14 = .ok (.iload_n 3, 1) := by decide +kernel
theorem dX5_wetDoorsWithBoth_15 : decode cX5_wetDoorsWithBoth 15 = .ok (.iaload, 1) := by decide +kernel
theorem dX5_wetDoorsWithBoth_16 : decode cX5_wetDoorsWithBoth 16 = .ok (.istore 4, 2) := by decide +kernel
theorem dX5_wetDoorsWithBoth_18 : decode cX5_wetDoorsWithBoth 18 = .ok (.aload_n 0, 1) := by decide +kernel
theorem dX5_wetDoorsWithBoth_19 : decode cX5_wetDoorsWithBoth 19 = .ok (.getfield 15, 3) := by decide +kernel
theorem dX5_wetDoorsWithBoth_22 : decode cX5_wetDoorsWithBoth 22 = .ok (.iload_n 3, 1) := by decide +kernel
theorem dX5_wetDoorsWithBoth_23 : decode cX5_wetDoorsWithBoth 23 = .ok (.iaload, 1) := by decide +kernel
theorem dX5_wetDoorsWithBoth_24 : decode cX5_wetDoorsWithBoth 24 = .ok (.istore 5, 2) := by decide +kernel
theorem dX5_wetDoorsWithBoth_26 : decode cX5_wetDoorsWithBoth 26 = .ok (.iload_n 1, 1) := by decide +kernel
theorem dX5_wetDoorsWithBoth_27 : decode cX5_wetDoorsWithBoth 27 = .ok (.aload_n 0, 1) := by decide +kernel
theorem dX5_wetDoorsWithBoth_28 : decode cX5_wetDoorsWithBoth 28 = .ok (.getfield 22, 3) := by decide +kernel
theorem dX5_wetDoorsWithBoth_31 : decode cX5_wetDoorsWithBoth 31 = .ok (.iload 4, 2) := by decide +kernel
theorem dX5_wetDoorsWithBoth_33 : decode cX5_wetDoorsWithBoth 33 = .ok (.invokevirtual 68, 3) := by decide +kernel
theorem dX5_wetDoorsWithBoth_36 : decode cX5_wetDoorsWithBoth 36 = .ok (.aload_n 0, 1) := by decide +kernel
theorem dX5_wetDoorsWithBoth_37 : decode cX5_wetDoorsWithBoth 37 = .ok (.getfield 22, 3) := by decide +kernel
theorem dX5_wetDoorsWithBoth_40 : decode cX5_wetDoorsWithBoth 40 = .ok (.iload 5, 2) := by decide +kernel
theorem dX5_wetDoorsWithBoth_42 : decode cX5_wetDoorsWithBoth 42 = .ok (.invokevirtual 68, 3) := by decide +kernel
theorem dX5_wetDoorsWithBoth_45 : decode cX5_wetDoorsWithBoth 45 = .ok (.iadd, 1) := by decide +kernel
theorem dX5_wetDoorsWithBoth_46 : decode cX5_wetDoorsWithBoth 46 = .ok (.imul, 1) := by decide +kernel
theorem dX5_wetDoorsWithBoth_47 : decode cX5_wetDoorsWithBoth 47 = .ok (.istore 6, 2) := by decide +kernel
theorem dX5_wetDoorsWithBoth_49 : decode cX5_wetDoorsWithBoth 49 = .ok (.iload_n 1, 1) := by decide +kernel
theorem dX5_wetDoorsWithBoth_50 : decode cX5_wetDoorsWithBoth 50 = .ok (.aload_n 0, 1) := by decide +kernel
theorem dX5_wetDoorsWithBoth_51 : decode cX5_wetDoorsWithBoth 51 = .ok (.getfield 22, 3) := by decide +kernel
theorem dX5_wetDoorsWithBoth_54 : decode cX5_wetDoorsWithBoth 54 = .ok (.iload 4, 2) := by decide +kernel
theorem dX5_wetDoorsWithBoth_56 : decode cX5_wetDoorsWithBoth 56 = .ok (.invokevirtual 71, 3) := by decide +kernel
theorem dX5_wetDoorsWithBoth_59 : decode cX5_wetDoorsWithBoth 59 = .ok (.aload_n 0, 1) := by decide +kernel
theorem dX5_wetDoorsWithBoth_60 : decode cX5_wetDoorsWithBoth 60 = .ok (.getfield 22, 3) := by decide +kernel
theorem dX5_wetDoorsWithBoth_63 : decode cX5_wetDoorsWithBoth 63 = .ok (.iload 5, 2) := by decide +kernel
theorem dX5_wetDoorsWithBoth_65 : decode cX5_wetDoorsWithBoth 65 = .ok (.invokevirtual 71, 3) := by decide +kernel
theorem dX5_wetDoorsWithBoth_68 : decode cX5_wetDoorsWithBoth 68 = .ok (.iadd, 1) := by decide +kernel
theorem dX5_wetDoorsWithBoth_69 : decode cX5_wetDoorsWithBoth 69 = .ok (.imul, 1) := by decide +kernel
theorem dX5_wetDoorsWithBoth_70 : decode cX5_wetDoorsWithBoth 70 = .ok (.istore 7, 2) := by decide +kernel
theorem dX5_wetDoorsWithBoth_72 : decode cX5_wetDoorsWithBoth 72 = .ok (.iload_n 2, 1) := by decide +kernel
theorem dX5_wetDoorsWithBoth_73 : decode cX5_wetDoorsWithBoth 73 = .ok (.aload_n 0, 1) := by decide +kernel
theorem dX5_wetDoorsWithBoth_74 : decode cX5_wetDoorsWithBoth 74 = .ok (.getfield 26, 3) := by decide +kernel
theorem dX5_wetDoorsWithBoth_77 : decode cX5_wetDoorsWithBoth 77 = .ok (.iload_n 3, 1) := by decide +kernel
theorem dX5_wetDoorsWithBoth_78 : decode cX5_wetDoorsWithBoth 78 = .ok (.iload 6, 2) := by decide +kernel
theorem dX5_wetDoorsWithBoth_80 : decode cX5_wetDoorsWithBoth 80 = .ok (.iload 7, 2) := by decide +kernel
theorem dX5_wetDoorsWithBoth_82 : decode cX5_wetDoorsWithBoth 82 = .ok (.invokevirtual 74, 3) := by decide +kernel
theorem dX5_wetDoorsWithBoth_85 : decode cX5_wetDoorsWithBoth 85 = .ok (.iadd, 1) := by decide +kernel
theorem dX5_wetDoorsWithBoth_86 : decode cX5_wetDoorsWithBoth 86 = .ok (.istore_n 2, 1) := by decide +kernel
theorem dX5_wetDoorsWithBoth_87 : decode cX5_wetDoorsWithBoth 87 = .ok (.iinc 3 1, 3) := by decide +kernel
theorem dX5_wetDoorsWithBoth_90 : decode cX5_wetDoorsWithBoth 90 = .ok (.goto (-86), 3) := by decide +kernel
theorem dX5_wetDoorsWithBoth_93 : decode cX5_wetDoorsWithBoth 93 = .ok (.iload_n 2, 1) := by decide +kernel
theorem dX5_wetDoorsWithBoth_94 : decode cX5_wetDoorsWithBoth 94 = .ok (.ireturn, 1) := by decide +kernel
theorem dX6_init_0 : decode cX6_init 0 = .ok (.aload_n 0, 1) := by decide +kernel
theorem dX6_init_1 : decode cX6_init 1 = .ok (.invokespecial 3, 3) := by decide +kernel
theorem dX6_init_4 : decode cX6_init 4 = .ok (.aload_n 0, 1) := by decide +kernel
theorem dX6_init_5 : decode cX6_init 5 = .ok (.bipush 8, 2) := by decide +kernel
theorem dX6_init_7 : decode cX6_init 7 = .ok (.newarray .int, 2) := by decide +kernel
theorem dX6_init_9 : decode cX6_init 9 = .ok (.putfield 9, 3) := by decide +kernel
theorem dX6_init_12 : decode cX6_init 12 = .ok (.aload_n 0, 1) := by decide +kernel
theorem dX6_init_13 : decode cX6_init 13 = .ok (.aload_n 1, 1) := by decide +kernel
theorem dX6_init_14 : decode cX6_init 14 = .ok (.putfield 15, 3) := by decide +kernel
theorem dX6_init_17 : decode cX6_init 17 = .ok (.aload_n 0, 1) := by decide +kernel
theorem dX6_init_18 : decode cX6_init 18 = .ok (.aload_n 2, 1) := by decide +kernel
theorem dX6_init_19 : decode cX6_init 19 = .ok (.putfield 19, 3) := by decide +kernel
theorem dX6_init_22 : decode cX6_init 22 = .ok (.return_, 1) := by decide +kernel
theorem dX6_placeOf_0 : decode cX6_placeOf 0 = .ok (.aload_n 0, 1) := by decide +kernel
theorem dX6_placeOf_1 : decode cX6_placeOf 1 = .ok (.getfield 19, 3) := by decide +kernel
theorem dX6_placeOf_4 : decode cX6_placeOf 4 = .ok (.iload_n 1, 1) := by decide +kernel
theorem dX6_placeOf_5 : decode cX6_placeOf 5 = .ok (.invokevirtual 23, 3) := by decide +kernel
theorem dX6_placeOf_8 : decode cX6_placeOf 8 = .ok (.ifCond .eq 18, 3) := by decide +kernel
theorem dX6_placeOf_11 : decode cX6_placeOf 11 = .ok (.iload_n 1, 1) := by decide +kernel
theorem dX6_placeOf_12 : decode cX6_placeOf 12 = .ok (.bipush 8, 2) := by decide +kernel
theorem dX6_placeOf_14 : decode cX6_placeOf 14 = .ok (.if_icmp .ge 12, 3) := by decide +kernel
theorem dX6_placeOf_17 : decode cX6_placeOf 17 = .ok (.aload_n 0, 1) := by decide +kernel
theorem dX6_placeOf_18 : decode cX6_placeOf 18 = .ok (.getfield 9, 3) := by decide +kernel
theorem dX6_placeOf_21 : decode cX6_placeOf 21 = .ok (.iload_n 1, 1) := by decide +kernel
theorem dX6_placeOf_22 : decode cX6_placeOf 22 = .ok (.iaload, 1) := by decide +kernel
theorem dX6_placeOf_23 : decode cX6_placeOf 23 = .ok (.goto 4, 3) := by decide +kernel
theorem dX6_placeOf_26 : decode cX6_placeOf 26 = .ok (.iconst (-1), 1) := by decide +kernel
theorem dX6_placeOf_27 : decode cX6_placeOf 27 = .ok (.ireturn, 1) := by decide +kernel
theorem dX6_seed_0 : decode cX6_seed 0 = .ok (.aload_n 0, 1) := by decide +kernel
theorem dX6_seed_1 : decode cX6_seed 1 = .ok (.getfield 29, 3) := by decide +kernel
theorem dX6_seed_4 : decode cX6_seed 4 = .ok (.l2i, 1) := by decide +kernel
theorem dX6_seed_5 : decode cX6_seed 5 = .ok (.ireturn, 1) := by decide +kernel
theorem dX6_standAsIn_0 : decode cX6_standAsIn 0 = .ok (.iconst 0, 1) := by decide +kernel
theorem dX6_standAsIn_1 : decode cX6_standAsIn 1 = .ok (.istore_n 2, 1) := by decide +kernel
theorem dX6_standAsIn_2 : decode cX6_standAsIn 2 = .ok (.iload_n 2, 1) := by decide +kernel
theorem dX6_standAsIn_3 : decode cX6_standAsIn 3 = .ok (.bipush 8, 2) := by decide +kernel
theorem dX6_standAsIn_5 : decode cX6_standAsIn 5 = .ok (.if_icmp .ge 24, 3) := by decide +kernel
theorem dX6_standAsIn_8 : decode cX6_standAsIn 8 = .ok (.aload_n 0, 1) := by decide +kernel
theorem dX6_standAsIn_9 : decode cX6_standAsIn 9 = .ok (.getfield 9, 3) := by decide +kernel
theorem dX6_standAsIn_12 : decode cX6_standAsIn 12 = .ok (.iload_n 2, 1) := by decide +kernel
theorem dX6_standAsIn_13 : decode cX6_standAsIn 13 = .ok (.aload_n 0, 1) := by decide +kernel
theorem dX6_standAsIn_14 : decode cX6_standAsIn 14 = .ok (.getfield 19, 3) := by decide +kernel
theorem dX6_standAsIn_17 : decode cX6_standAsIn 17 = .ok (.iload_n 2, 1) := by decide +kernel
theorem dX6_standAsIn_18 : decode cX6_standAsIn 18 = .ok (.iload_n 1, 1) := by decide +kernel
theorem dX6_standAsIn_19 : decode cX6_standAsIn 19 = .ok (.invokevirtual 33, 3) := by decide +kernel
theorem dX6_standAsIn_22 : decode cX6_standAsIn 22 = .ok (.iastore, 1) := by decide +kernel
theorem dX6_standAsIn_23 : decode cX6_standAsIn 23 = .ok (.iinc 2 1, 3) := by decide +kernel
theorem dX6_standAsIn_26 : decode cX6_standAsIn 26 = .ok (.goto (-24), 3) := by decide +kernel
theorem dX6_standAsIn_29 : decode cX6_standAsIn 29 = .ok (.return_, 1) := by decide +kernel
theorem dX6_isSomeDoorWet_0 : decode cX6_isSomeDoorWet 0 = .ok (.iconst 0, 1) := by decide +kernel
theorem dX6_isSomeDoorWet_1 : decode cX6_isSomeDoorWet 1 = .ok (.istore_n 1, 1) := by decide +kernel
theorem dX6_isSomeDoorWet_2 : decode cX6_isSomeDoorWet 2 = .ok (.iconst 0, 1) := by decide +kernel
theorem dX6_isSomeDoorWet_3 : decode cX6_isSomeDoorWet 3 = .ok (.istore_n 2, 1) := by decide +kernel
theorem dX6_isSomeDoorWet_4 : decode cX6_isSomeDoorWet 4 = .ok (.iconst 0, 1) := by decide +kernel
theorem dX6_isSomeDoorWet_5 : decode cX6_isSomeDoorWet 5 = .ok (.istore_n 3, 1) := by decide +kernel
theorem dX6_isSomeDoorWet_6 : decode cX6_isSomeDoorWet 6 = .ok (.iload_n 3, 1) := by decide +kernel
theorem dX6_isSomeDoorWet_7 : decode cX6_isSomeDoorWet 7 = .ok (.bipush 8, 2) := by decide +kernel
theorem dX6_isSomeDoorWet_9 : decode cX6_isSomeDoorWet 9 = .ok (.if_icmp .ge 59, 3) := by decide +kernel
theorem dX6_isSomeDoorWet_12 : decode cX6_isSomeDoorWet 12 = .ok (.iload_n 1, 1) := by decide +kernel
theorem dX6_isSomeDoorWet_13 : decode cX6_isSomeDoorWet 13 = .ok (.aload_n 0, 1) := by decide +kernel
theorem dX6_isSomeDoorWet_14 : decode cX6_isSomeDoorWet 14 = .ok (.getfield 19, 3) := by decide +kernel
theorem dX6_isSomeDoorWet_17 : decode cX6_isSomeDoorWet 17 = .ok (.iload_n 3, 1) := by decide +kernel
theorem dX6_isSomeDoorWet_18 : decode cX6_isSomeDoorWet 18 = .ok (.invokevirtual 37, 3) := by decide +kernel
theorem dX6_isSomeDoorWet_21 : decode cX6_isSomeDoorWet 21 = .ok (.aload_n 0, 1) := by decide +kernel
theorem dX6_isSomeDoorWet_22 : decode cX6_isSomeDoorWet 22 = .ok (.getfield 15, 3) := by decide +kernel
theorem dX6_isSomeDoorWet_25 : decode cX6_isSomeDoorWet 25 = .ok (.aload_n 0, 1) := by decide +kernel
theorem dX6_isSomeDoorWet_26 : decode cX6_isSomeDoorWet 26 = .ok (.getfield 9, 3) := by decide +kernel
theorem dX6_isSomeDoorWet_29 : decode cX6_isSomeDoorWet 29 = .ok (.iload_n 3, 1) := by decide +kernel
theorem dX6_isSomeDoorWet_30 : decode cX6_isSomeDoorWet 30 = .ok (.iaload, 1) := by decide +kernel
theorem dX6_isSomeDoorWet_31 : decode cX6_isSomeDoorWet 31 = .ok (.invokevirtual 41, 3) := by decide +kernel
theorem dX6_isSomeDoorWet_34 : decode cX6_isSomeDoorWet 34 = .ok (.imul, 1) := by decide +kernel
theorem dX6_isSomeDoorWet_35 : decode cX6_isSomeDoorWet 35 = .ok (.iadd, 1) := by decide +kernel
theorem dX6_isSomeDoorWet_36 : decode cX6_isSomeDoorWet 36 = .ok (.istore_n 1, 1) := by decide +kernel
theorem dX6_isSomeDoorWet_37 : decode cX6_isSomeDoorWet 37 = .ok (.iload_n 2, 1) := by decide +kernel
theorem dX6_isSomeDoorWet_38 : decode cX6_isSomeDoorWet 38 = .ok (.aload_n 0, 1) := by decide +kernel
theorem dX6_isSomeDoorWet_39 : decode cX6_isSomeDoorWet 39 = .ok (.getfield 19, 3) := by decide +kernel
theorem dX6_isSomeDoorWet_42 : decode cX6_isSomeDoorWet 42 = .ok (.iload_n 3, 1) := by decide +kernel
theorem dX6_isSomeDoorWet_43 : decode cX6_isSomeDoorWet 43 = .ok (.invokevirtual 37, 3) := by decide +kernel
theorem dX6_isSomeDoorWet_46 : decode cX6_isSomeDoorWet 46 = .ok (.aload_n 0, 1) := by decide +kernel
theorem dX6_isSomeDoorWet_47 : decode cX6_isSomeDoorWet 47 = .ok (.getfield 15, 3) := by decide +kernel
theorem dX6_isSomeDoorWet_50 : decode cX6_isSomeDoorWet 50 = .ok (.aload_n 0, 1) := by decide +kernel
theorem dX6_isSomeDoorWet_51 : decode cX6_isSomeDoorWet 51 = .ok (.getfield 9, 3) := by decide +kernel
theorem dX6_isSomeDoorWet_54 : decode cX6_isSomeDoorWet 54 = .ok (.iload_n 3, 1) := by decide +kernel
theorem dX6_isSomeDoorWet_55 : decode cX6_isSomeDoorWet 55 = .ok (.iaload, 1) := by decide +kernel
theorem dX6_isSomeDoorWet_56 : decode cX6_isSomeDoorWet 56 = .ok (.invokevirtual 46, 3) := by decide +kernel
theorem dX6_isSomeDoorWet_59 : decode cX6_isSomeDoorWet 59 = .ok (.imul, 1) := by decide +kernel
theorem dX6_isSomeDoorWet_60 : decode cX6_isSomeDoorWet 60 = .ok (.iadd, 1) := by decide +kernel
theorem dX6_isSomeDoorWet_61 : decode cX6_isSomeDoorWet 61 = .ok (.istore_n 2, 1) := by decide +kernel
theorem dX6_isSomeDoorWet_62 : decode cX6_isSomeDoorWet 62 = .ok (.iinc 3 1, 3) := by decide +kernel
theorem dX6_isSomeDoorWet_65 : decode cX6_isSomeDoorWet 65 = .ok (.goto (-59), 3) := by decide +kernel
theorem dX6_isSomeDoorWet_68 : decode cX6_isSomeDoorWet 68 = .ok (.aload_n 0, 1) := by decide +kernel
theorem dX6_isSomeDoorWet_69 : decode cX6_isSomeDoorWet 69 = .ok (.getfield 15, 3) := by decide +kernel
theorem dX6_isSomeDoorWet_72 : decode cX6_isSomeDoorWet 72 = .ok (.iload_n 1, 1) := by decide +kernel
theorem dX6_isSomeDoorWet_73 : decode cX6_isSomeDoorWet 73 = .ok (.iload_n 2, 1) := by decide +kernel
theorem dX6_isSomeDoorWet_74 : decode cX6_isSomeDoorWet 74 = .ok (.invokevirtual 49, 3) := by decide +kernel
theorem dX6_isSomeDoorWet_77 : decode cX6_isSomeDoorWet 77 = .ok (.ifCond .eq 7, 3) := by decide +kernel
theorem dX6_isSomeDoorWet_80 : decode cX6_isSomeDoorWet 80 = .ok (.iconst 1, 1) := by decide +kernel
theorem dX6_isSomeDoorWet_81 : decode cX6_isSomeDoorWet 81 = .ok (.goto 4, 3) := by decide +kernel
theorem dX6_isSomeDoorWet_84 : decode cX6_isSomeDoorWet 84 = .ok (.iconst 0, 1) := by decide +kernel
theorem dX6_isSomeDoorWet_85 : decode cX6_isSomeDoorWet 85 = .ok (.ireturn, 1) := by decide +kernel
theorem dX6_dryMinuteOfStorm_0 : decode cX6_dryMinuteOfStorm 0 = .ok (.aload_n 0, 1) := by decide +kernel
theorem dX6_dryMinuteOfStorm_1 : decode cX6_dryMinuteOfStorm 1 = .ok (.iload_n 1, 1) := by decide +kernel
theorem dX6_dryMinuteOfStorm_2 : decode cX6_dryMinuteOfStorm 2 = .ok (.invokevirtual 52, 3) := by decide +kernel
theorem dX6_dryMinuteOfStorm_5 : decode cX6_dryMinuteOfStorm 5 = .ok (.iconst 0, 1) := by decide +kernel
theorem dX6_dryMinuteOfStorm_6 : decode cX6_dryMinuteOfStorm 6 = .ok (.istore_n 2, 1) := by decide +kernel
theorem dX6_dryMinuteOfStorm_7 : decode cX6_dryMinuteOfStorm 7 = .ok (.iload_n 2, 1) := by decide +kernel
theorem dX6_dryMinuteOfStorm_8 : decode cX6_dryMinuteOfStorm 8 = .ok (.bipush 9, 2) := by decide +kernel
theorem dX6_dryMinuteOfStorm_10 : decode cX6_dryMinuteOfStorm 10 = .ok (.if_icmp .gt 22, 3) := by decide +kernel
theorem dX6_dryMinuteOfStorm_13 : decode cX6_dryMinuteOfStorm 13 = .ok (.aload_n 0, 1) := by decide +kernel
theorem dX6_dryMinuteOfStorm_14 : decode cX6_dryMinuteOfStorm 14 = .ok (.invokevirtual 56, 3) := by decide +kernel
theorem dX6_dryMinuteOfStorm_17 : decode cX6_dryMinuteOfStorm 17 = .ok (.ifCond .ne 5, 3) := by decide +kernel
theorem dX6_dryMinuteOfStorm_20 : decode cX6_dryMinuteOfStorm 20 = .ok (.iload_n 2, 1) := by decide +kernel
theorem dX6_dryMinuteOfStorm_21 : decode cX6_dryMinuteOfStorm 21 = .ok (.ireturn, 1) := by decide +kernel
theorem dX6_dryMinuteOfStorm_22 : decode cX6_dryMinuteOfStorm 22 = .ok (.aload_n 0, 1) := by decide +kernel
theorem dX6_dryMinuteOfStorm_23 : decode cX6_dryMinuteOfStorm 23 = .ok (.invokevirtual 60, 3) := by decide +kernel
theorem dX6_dryMinuteOfStorm_26 : decode cX6_dryMinuteOfStorm 26 = .ok (.iinc 2 1, 3) := by decide +kernel
theorem dX6_dryMinuteOfStorm_29 : decode cX6_dryMinuteOfStorm 29 = .ok (.goto (-22), 3) := by decide +kernel
theorem dX6_dryMinuteOfStorm_32 : decode cX6_dryMinuteOfStorm 32 = .ok (.iconst (-1), 1) := by decide +kernel
theorem dX6_dryMinuteOfStorm_33 : decode cX6_dryMinuteOfStorm 33 = .ok (.ireturn, 1) := by decide +kernel
theorem dX6_peopleGoToMiddle_0 : decode cX6_peopleGoToMiddle 0 = .ok (.iconst 0, 1) := by decide +kernel
theorem dX6_peopleGoToMiddle_1 : decode cX6_peopleGoToMiddle 1 = .ok (.istore_n 1, 1) := by decide +kernel
theorem dX6_peopleGoToMiddle_2 : decode cX6_peopleGoToMiddle 2 = .ok (.iload_n 1, 1) := by decide +kernel
theorem dX6_peopleGoToMiddle_3 : decode cX6_peopleGoToMiddle 3 = .ok (.bipush 8, 2) := by decide +kernel
theorem dX6_peopleGoToMiddle_5 : decode cX6_peopleGoToMiddle 5 = .ok (.if_icmp .ge 40, 3) := by decide +kernel
theorem dX6_peopleGoToMiddle_8 : decode cX6_peopleGoToMiddle 8 = .ok (.aload_n 0, 1) := by decide +kernel
theorem dX6_peopleGoToMiddle_9 : decode cX6_peopleGoToMiddle 9 = .ok (.getfield 19, 3) := by decide +kernel
theorem dX6_peopleGoToMiddle_12 : decode cX6_peopleGoToMiddle 12 = .ok (.iload_n 1, 1) := by decide +kernel
theorem dX6_peopleGoToMiddle_13 : decode cX6_peopleGoToMiddle 13 = .ok (.iconst 3, 1) := by decide +kernel
theorem dX6_peopleGoToMiddle_14 : decode cX6_peopleGoToMiddle 14 = .ok (.invokevirtual 63, 3) := by decide +kernel
theorem dX6_peopleGoToMiddle_17 : decode cX6_peopleGoToMiddle 17 = .ok (.ifCond .eq 22, 3) := by decide +kernel
theorem dX6_peopleGoToMiddle_20 : decode cX6_peopleGoToMiddle 20 = .ok (.aload_n 0, 1) := by decide +kernel
theorem dX6_peopleGoToMiddle_21 : decode cX6_peopleGoToMiddle 21 = .ok (.getfield 9, 3) := by decide +kernel
theorem dX6_peopleGoToMiddle_24 : decode cX6_peopleGoToMiddle 24 = .ok (.iload_n 1, 1) := by decide +kernel
theorem dX6_peopleGoToMiddle_25 : decode cX6_peopleGoToMiddle 25 = .ok (.aload_n 0, 1) := by decide +kernel
theorem dX6_peopleGoToMiddle_26 : decode cX6_peopleGoToMiddle 26 = .ok (.getfield 15, 3) := by decide +kernel
theorem dX6_peopleGoToMiddle_29 : decode cX6_peopleGoToMiddle 29 = .ok (.aload_n 0, 1) := by decide +kernel
theorem dX6_peopleGoToMiddle_30 : decode cX6_peopleGoToMiddle 30 = .ok (.getfield 9, 3) := by decide +kernel
theorem dX6_peopleGoToMiddle_33 : decode cX6_peopleGoToMiddle 33 = .ok (.iload_n 1, 1) := by decide +kernel
theorem dX6_peopleGoToMiddle_34 : decode cX6_peopleGoToMiddle 34 = .ok (.iaload, 1) := by decide +kernel
theorem dX6_peopleGoToMiddle_35 : decode cX6_peopleGoToMiddle 35 = .ok (.invokevirtual 67, 3) := by decide +kernel
theorem dX6_peopleGoToMiddle_38 : decode cX6_peopleGoToMiddle 38 = .ok (.iastore, 1) := by decide +kernel
theorem dX6_peopleGoToMiddle_39 : decode cX6_peopleGoToMiddle 39 = .ok (.iinc 1 1, 3) := by decide +kernel
theorem dX6_peopleGoToMiddle_42 : decode cX6_peopleGoToMiddle 42 = .ok (.goto (-40), 3) := by decide +kernel
theorem dX6_peopleGoToMiddle_45 : decode cX6_peopleGoToMiddle 45 = .ok (.return_, 1) := by decide +kernel
theorem dX6_stray_0 : decode cX6_stray 0 = .ok (.aload_n 0, 1) := by decide +kernel
theorem dX6_stray_1 : decode cX6_stray 1 = .ok (.iload_n 1, 1) := by decide +kernel
theorem dX6_stray_2 : decode cX6_stray 2 = .ok (.invokevirtual 52, 3) := by decide +kernel
theorem dX6_stray_5 : decode cX6_stray 5 = .ok (.aload_n 0, 1) := by decide +kernel
theorem dX6_stray_6 : decode cX6_stray 6 = .ok (.iload_n 3, 1) := by decide +kernel
theorem dX6_stray_7 : decode cX6_stray 7 = .ok (.i2l, 1) := by decide +kernel
theorem dX6_stray_8 : decode cX6_stray 8 = .ok (.putfield 29, 3) := by decide +kernel
theorem dX6_stray_11 : decode cX6_stray 11 = .ok (.iconst 0, 1) := by decide +kernel
theorem dX6_stray_12 : decode cX6_stray 12 = .ok (.istore 4, 2) := by decide +kernel
theorem dX6_stray_14 : decode cX6_stray 14 = .ok (.iconst 0, 1) := by decide +kernel
theorem dX6_stray_15 : decode cX6_stray 15 = .ok (.istore 5, 2) := by decide +kernel
theorem dX6_stray_17 : decode cX6_stray 17 = .ok (.iload 5, 2) := by decide +kernel
theorem dX6_stray_19 : decode cX6_stray 19 = .ok (.iload_n 2, 1) := by decide +kernel
theorem dX6_stray_20 : decode cX6_stray 20 = .ok (.if_icmp .ge 23, 3) := by decide +kernel
theorem dX6_stray_23 : decode cX6_stray 23 = .ok (.aload_n 0, 1) := by decide +kernel
theorem dX6_stray_24 : decode cX6_stray 24 = .ok (.invokevirtual 70, 3) := by decide +kernel
theorem dX6_stray_27 : decode cX6_stray 27 = .ok (.aload_n 0, 1) := by decide +kernel
theorem dX6_stray_28 : decode cX6_stray 28 = .ok (.invokevirtual 56, 3) := by decide +kernel
theorem dX6_stray_31 : decode cX6_stray 31 = .ok (.ifCond .eq 6, 3) := by decide +kernel
theorem dX6_stray_34 : decode cX6_stray 34 = .ok (.iinc 4 1, 3) := by decide +kernel
theorem dX6_stray_37 : decode cX6_stray 37 = .ok (.iinc 5 1, 3) := by decide +kernel
theorem dX6_stray_40 : decode cX6_stray 40 = .ok (.goto (-23), 3) := by decide +kernel
theorem dX6_stray_43 : decode cX6_stray 43 = .ok (.iload 4, 2) := by decide +kernel
theorem dX6_stray_45 : decode cX6_stray 45 = .ok (.ireturn, 1) := by decide +kernel
theorem dX6_cowsGoAstray_0 : decode cX6_cowsGoAstray 0 = .ok (.iconst 0, 1) := by decide +kernel
theorem dX6_cowsGoAstray_1 : decode cX6_cowsGoAstray 1 = .ok (.istore_n 1, 1) := by decide +kernel
theorem dX6_cowsGoAstray_2 : decode cX6_cowsGoAstray 2 = .ok (.iload_n 1, 1) := by decide +kernel
theorem dX6_cowsGoAstray_3 : decode cX6_cowsGoAstray 3 = .ok (.bipush 8, 2) := by decide +kernel
theorem dX6_cowsGoAstray_5 : decode cX6_cowsGoAstray 5 = .ok (.if_icmp .ge 60, 3) := by decide +kernel
theorem dX6_cowsGoAstray_8 : decode cX6_cowsGoAstray 8 = .ok (.aload_n 0, 1) := by decide +kernel
theorem dX6_cowsGoAstray_9 : decode cX6_cowsGoAstray 9 = .ok (.getfield 19, 3) := by decide +kernel
theorem dX6_cowsGoAstray_12 : decode cX6_cowsGoAstray 12 = .ok (.iload_n 1, 1) := by decide +kernel
theorem dX6_cowsGoAstray_13 : decode cX6_cowsGoAstray 13 = .ok (.iconst 2, 1) := by decide +kernel
theorem dX6_cowsGoAstray_14 : decode cX6_cowsGoAstray 14 = .ok (.invokevirtual 63, 3) := by decide +kernel
theorem dX6_cowsGoAstray_17 : decode cX6_cowsGoAstray 17 = .ok (.ifCond .eq 42, 3) := by decide +kernel
theorem dX6_cowsGoAstray_20 : decode cX6_cowsGoAstray 20 = .ok (.aload_n 0, 1) := by decide +kernel
theorem dX6_cowsGoAstray_21 : decode cX6_cowsGoAstray 21 = .ok (.getfield 15, 3) := by decide +kernel
theorem dX6_cowsGoAstray_24 : decode cX6_cowsGoAstray 24 = .ok (.aload_n 0, 1) := by decide +kernel
theorem dX6_cowsGoAstray_25 : decode cX6_cowsGoAstray 25 = .ok (.getfield 9, 3) := by decide +kernel
theorem dX6_cowsGoAstray_28 : decode cX6_cowsGoAstray 28 = .ok (.iload_n 1, 1) := by decide +kernel
theorem dX6_cowsGoAstray_29 : decode cX6_cowsGoAstray 29 = .ok (.iaload, 1) := by decide +kernel
theorem dX6_cowsGoAstray_30 : decode cX6_cowsGoAstray 30 = .ok (.aload_n 0, 1) := by decide +kernel
theorem dX6_cowsGoAstray_31 : decode cX6_cowsGoAstray 31 = .ok (.invokevirtual 73, 3) := by decide +kernel
theorem dX6_cowsGoAstray_34 : decode cX6_cowsGoAstray 34 = .ok (.invokevirtual 77, 3) := by decide +kernel
theorem dX6_cowsGoAstray_37 : decode cX6_cowsGoAstray 37 = .ok (.istore_n 2, 1) := by decide +kernel
theorem dX6_cowsGoAstray_38 : decode cX6_cowsGoAstray 38 = .ok (.aload_n 0, 1) := by decide +kernel
theorem dX6_cowsGoAstray_39 : decode cX6_cowsGoAstray 39 = .ok (.getfield 9, 3) := by decide +kernel
theorem dX6_cowsGoAstray_42 : decode cX6_cowsGoAstray 42 = .ok (.iload_n 1, 1) := by decide +kernel
theorem dX6_cowsGoAstray_43 : decode cX6_cowsGoAstray 43 = .ok (.iload_n 2, 1) := by decide +kernel
theorem dX6_cowsGoAstray_44 : decode cX6_cowsGoAstray 44 = .ok (.iconst (-1), 1) := by decide +kernel
theorem dX6_cowsGoAstray_45 : decode cX6_cowsGoAstray 45 = .ok (.if_icmp .ne 12, 3) := by decide +kernel
theorem dX6_cowsGoAstray_48 : decode cX6_cowsGoAstray 48 = .ok (.aload_n 0, 1) := by decide +kernel
theorem dX6_cowsGoAstray_49 : decode cX6_cowsGoAstray 49 = .ok (.getfield 9, 3) := by decide +kernel
theorem dX6_cowsGoAstray_52 : decode cX6_cowsGoAstray 52 = .ok (.iload_n 1, 1) := by decide +kernel
theorem dX6_cowsGoAstray_53 : decode cX6_cowsGoAstray 53 = .ok (.iaload, 1) := by decide +kernel
theorem dX6_cowsGoAstray_54 : decode cX6_cowsGoAstray 54 = .ok (.goto 4, 3) := by decide +kernel
theorem dX6_cowsGoAstray_57 : decode cX6_cowsGoAstray 57 = .ok (.iload_n 2, 1) := by decide +kernel
theorem dX6_cowsGoAstray_58 : decode cX6_cowsGoAstray 58 = .ok (.iastore, 1) := by decide +kernel
theorem dX6_cowsGoAstray_59 : decode cX6_cowsGoAstray 59 = .ok (.iinc 1 1, 3) := by decide +kernel
theorem dX6_cowsGoAstray_62 : decode cX6_cowsGoAstray 62 = .ok (.goto (-60), 3) := by decide +kernel
theorem dX6_cowsGoAstray_65 : decode cX6_cowsGoAstray 65 = .ok (.return_, 1) := by decide +kernel
theorem dX6_drawOfACow_0 : decode cX6_drawOfACow 0 = .ok (.aload_n 0, 1) := by decide +kernel
theorem dX6_drawOfACow_1 : decode cX6_drawOfACow 1 = .ok (.ldc2_w 80, 3) := by decide +kernel
theorem dX6_drawOfACow_4 : decode cX6_drawOfACow 4 = .ok (.aload_n 0, 1) := by decide +kernel
theorem dX6_drawOfACow_5 : decode cX6_drawOfACow 5 = .ok (.getfield 29, 3) := by decide +kernel
theorem dX6_drawOfACow_8 : decode cX6_drawOfACow 8 = .ok (.lmul, 1) := by decide +kernel
theorem dX6_drawOfACow_9 : decode cX6_drawOfACow 9 = .ok (.ldc2_w 82, 3) := by decide +kernel
theorem dX6_drawOfACow_12 : decode cX6_drawOfACow 12 = .ok (.ladd, 1) := by decide +kernel
theorem dX6_drawOfACow_13 : decode cX6_drawOfACow 13 = .ok (.ldc2_w 84, 3) := by decide +kernel
theorem dX6_drawOfACow_16 : decode cX6_drawOfACow 16 = .ok (.land, 1) := by decide +kernel
theorem dX6_drawOfACow_17 : decode cX6_drawOfACow 17 = .ok (.putfield 29, 3) := by decide +kernel
theorem dX6_drawOfACow_20 : decode cX6_drawOfACow 20 = .ok (.aload_n 0, 1) := by decide +kernel
theorem dX6_drawOfACow_21 : decode cX6_drawOfACow 21 = .ok (.getfield 29, 3) := by decide +kernel
theorem dX6_drawOfACow_24 : decode cX6_drawOfACow 24 = .ok (.ldc2_w 86, 3) := by decide +kernel
theorem dX6_drawOfACow_27 : decode cX6_drawOfACow 27 = .ok (.ldiv, 1) := by decide +kernel
theorem dX6_drawOfACow_28 : decode cX6_drawOfACow 28 = .ok (.ldc2_w 88, 3) := by decide +kernel
theorem dX6_drawOfACow_31 : decode cX6_drawOfACow 31 = .ok (.lrem, 1) := by decide +kernel
theorem dX6_drawOfACow_32 : decode cX6_drawOfACow 32 = .ok (.l2i, 1) := by decide +kernel
theorem dX6_drawOfACow_33 : decode cX6_drawOfACow 33 = .ok (.ireturn, 1) := by decide +kernel
theorem dX7_init_0 : decode cX7_init 0 = .ok (.aload_n 0, 1) := by decide +kernel
theorem dX7_init_1 : decode cX7_init 1 = .ok (.invokespecial 3, 3) := by decide +kernel
theorem dX7_init_4 : decode cX7_init 4 = .ok (.aload_n 0, 1) := by decide +kernel
theorem dX7_init_5 : decode cX7_init 5 = .ok (.iconst 5, 1) := by decide +kernel
theorem dX7_init_6 : decode cX7_init 6 = .ok (.newarray .int, 2) := by decide +kernel
theorem dX7_init_8 : decode cX7_init 8 = .ok (.putfield 11, 3) := by decide +kernel
theorem dX7_init_11 : decode cX7_init 11 = .ok (.aload_n 0, 1) := by decide +kernel
theorem dX7_init_12 : decode cX7_init 12 = .ok (.bipush 30, 2) := by decide +kernel
theorem dX7_init_14 : decode cX7_init 14 = .ok (.newarray .int, 2) := by decide +kernel
theorem dX7_init_16 : decode cX7_init 16 = .ok (.putfield 15, 3) := by decide +kernel
theorem dX7_init_19 : decode cX7_init 19 = .ok (.aload_n 0, 1) := by decide +kernel
theorem dX7_init_20 : decode cX7_init 20 = .ok (.aload_n 1, 1) := by decide +kernel
theorem dX7_init_21 : decode cX7_init 21 = .ok (.putfield 18, 3) := by decide +kernel
theorem dX7_init_24 : decode cX7_init 24 = .ok (.aload_n 0, 1) := by decide +kernel
theorem dX7_init_25 : decode cX7_init 25 = .ok (.aload_n 2, 1) := by decide +kernel
theorem dX7_init_26 : decode cX7_init 26 = .ok (.putfield 22, 3) := by decide +kernel
theorem dX7_init_29 : decode cX7_init 29 = .ok (.aload_n 0, 1) := by decide +kernel
theorem dX7_init_30 : decode cX7_init 30 = .ok (.aload_n 3, 1) := by decide +kernel
theorem dX7_init_31 : decode cX7_init 31 = .ok (.putfield 26, 3) := by decide +kernel
theorem dX7_init_34 : decode cX7_init 34 = .ok (.return_, 1) := by decide +kernel
theorem dX7_found_0 : decode cX7_found 0 = .ok (.iload_n 1, 1) := by decide +kernel
theorem dX7_found_1 : decode cX7_found 1 = .ok (.ifCond .lt 17, 3) := by decide +kernel
theorem dX7_found_4 : decode cX7_found 4 = .ok (.iload_n 1, 1) := by decide +kernel
theorem dX7_found_5 : decode cX7_found 5 = .ok (.iconst 5, 1) := by decide +kernel
theorem dX7_found_6 : decode cX7_found 6 = .ok (.if_icmp .ge 12, 3) := by decide +kernel
theorem dX7_found_9 : decode cX7_found 9 = .ok (.aload_n 0, 1) := by decide +kernel
theorem dX7_found_10 : decode cX7_found 10 = .ok (.getfield 11, 3) := by decide +kernel
theorem dX7_found_13 : decode cX7_found 13 = .ok (.iload_n 1, 1) := by decide +kernel
theorem dX7_found_14 : decode cX7_found 14 = .ok (.iaload, 1) := by decide +kernel
theorem dX7_found_15 : decode cX7_found 15 = .ok (.goto 4, 3) := by decide +kernel
theorem dX7_found_18 : decode cX7_found 18 = .ok (.iconst (-1), 1) := by decide +kernel
theorem dX7_found_19 : decode cX7_found 19 = .ok (.ireturn, 1) := by decide +kernel
theorem dX7_search_0 : decode cX7_search 0 = .ok (.aload_n 0, 1) := by decide +kernel
theorem dX7_search_1 : decode cX7_search 1 = .ok (.getfield 26, 3) := by decide +kernel
theorem dX7_search_4 : decode cX7_search 4 = .ok (.invokevirtual 30, 3) := by decide +kernel
theorem dX7_search_7 : decode cX7_search 7 = .ok (.aload_n 0, 1) := by decide +kernel
theorem dX7_search_8 : decode cX7_search 8 = .ok (.invokevirtual 35, 3) := by decide +kernel
theorem dX7_search_11 : decode cX7_search 11 = .ok (.iconst 0, 1) := by decide +kernel
theorem dX7_search_12 : decode cX7_search 12 = .ok (.istore_n 1, 1) := by decide +kernel
theorem dX7_search_13 : decode cX7_search 13 = .ok (.iload_n 1, 1) := by decide +kernel
theorem dX7_search_14 : decode cX7_search 14 = .ok (.iconst 5, 1) := by decide +kernel
theorem dX7_search_15 : decode cX7_search 15 = .ok (.if_icmp .ge 16, 3) := by decide +kernel
theorem dX7_search_18 : decode cX7_search 18 = .ok (.aload_n 0, 1) := by decide +kernel
theorem dX7_search_19 : decode cX7_search 19 = .ok (.getfield 11, 3) := by decide +kernel
theorem dX7_search_22 : decode cX7_search 22 = .ok (.iload_n 1, 1) := by decide +kernel
theorem dX7_search_23 : decode cX7_search 23 = .ok (.iconst (-1), 1) := by decide +kernel
theorem dX7_search_24 : decode cX7_search 24 = .ok (.iastore, 1) := by decide +kernel
theorem dX7_search_25 : decode cX7_search 25 = .ok (.iinc 1 1, 3) := by decide +kernel
theorem dX7_search_28 : decode cX7_search 28 = .ok (.goto (-15), 3) := by decide +kernel
theorem dX7_search_31 : decode cX7_search 31 = .ok (.iconst 0, 1) := by decide +kernel
theorem dX7_search_32 : decode cX7_search 32 = .ok (.istore_n 1, 1) := by decide +kernel
theorem dX7_search_33 : decode cX7_search 33 = .ok (.iload_n 1, 1) := by decide +kernel
theorem dX7_search_34 : decode cX7_search 34 = .ok (.iconst 2, 1) := by decide +kernel
theorem dX7_search_35 : decode cX7_search 35 = .ok (.if_icmp .gt 29, 3) := by decide +kernel
theorem dX7_search_38 : decode cX7_search 38 = .ok (.aload_n 0, 1) := by decide +kernel
theorem dX7_search_39 : decode cX7_search 39 = .ok (.iload_n 1, 1) := by decide +kernel
theorem dX7_search_40 : decode cX7_search 40 = .ok (.iconst 0, 1) := by decide +kernel
theorem dX7_search_41 : decode cX7_search 41 = .ok (.iconst 0, 1) := by decide +kernel
theorem dX7_search_42 : decode cX7_search 42 = .ok (.iconst 0, 1) := by decide +kernel
theorem dX7_search_43 : decode cX7_search 43 = .ok (.iconst 0, 1) := by decide +kernel
theorem dX7_search_44 : decode cX7_search 44 = .ok (.invokevirtual 38, 3) := by decide +kernel
theorem dX7_search_47 : decode cX7_search 47 = .ok (.ifCond .eq 11, 3) := by decide +kernel
theorem dX7_search_50 : decode cX7_search 50 = .ok (.aload_n 0, 1) := by decide +kernel
theorem dX7_search_51 : decode cX7_search 51 = .ok (.getfield 11, 3) := by decide +kernel
theorem dX7_search_54 : decode cX7_search 54 = .ok (.iconst 0, 1) := by decide +kernel
theorem dX7_search_55 : decode cX7_search 55 = .ok (.iload_n 1, 1) := by decide +kernel
theorem dX7_search_56 : decode cX7_search 56 = .ok (.iastore, 1) := by decide +kernel
theorem dX7_search_57 : decode cX7_search 57 = .ok (.return_, 1) := by decide +kernel
theorem dX7_search_58 : decode cX7_search 58 = .ok (.iinc 1 1, 3) := by decide +kernel
theorem dX7_search_61 : decode cX7_search 61 = .ok (.goto (-28), 3) := by decide +kernel
theorem dX7_search_64 : decode cX7_search 64 = .ok (.return_, 1) := by decide +kernel
theorem dX7_movesKeepDry_0 : decode cX7_movesKeepDry 0 = .ok (.iload_n 2, 1) := by decide +kernel
theorem dX7_movesKeepDry_1 : decode cX7_movesKeepDry 1 = .ok (.iload_n 1, 1) := by decide +kernel
theorem dX7_movesKeepDry_2 : decode cX7_movesKeepDry 2 = .ok (.if_icmp .lt 12, 3) := by decide +kernel
theorem dX7_movesKeepDry_5 : decode cX7_movesKeepDry 5 = .ok (.aload_n 0, 1) := by decide +kernel
theorem dX7_movesKeepDry_6 : decode cX7_movesKeepDry 6 = .ok (.iload 4, 2) := by decide +kernel
theorem dX7_movesKeepDry_8 : decode cX7_movesKeepDry 8 = .ok (.iload 5, 2) := by decide +kernel
theorem dX7_movesKeepDry_10 : decode cX7_movesKeepDry 10 = .ok (.invokevirtual 42, 3) := by decide +kernel
theorem dX7_movesKeepDry_13 : decode cX7_movesKeepDry 13 = .ok (.ireturn, 1) := by decide +kernel
theorem dX7_movesKeepDry_14 : decode cX7_movesKeepDry 14 = .ok (.iload_n 3, 1) := by decide +kernel
theorem dX7_movesKeepDry_15 : decode cX7_movesKeepDry 15 = .ok (.istore 6, 2) := by decide +kernel
theorem dX7_movesKeepDry_17 : decode cX7_movesKeepDry 17 = .ok (.iload 6, 2) := by decide +kernel
theorem dX7_movesKeepDry_19 : decode cX7_movesKeepDry 19 = .ok (.aload_n 0, 1) := by decide +kernel
theorem dX7_movesKeepDry_20 : decode cX7_movesKeepDry 20 = .ok (.getfield 22, 3) := by decide +kernel
theorem dX7_movesKeepDry_23 : decode cX7_movesKeepDry 23 = .ok (.invokevirtual 46, 3) := by decide +kernel
theorem dX7_movesKeepDry_26 : decode cX7_movesKeepDry 26 = .ok (.if_icmp .ge 39, 3) := by decide +kernel
theorem dX7_movesKeepDry_29 : decode cX7_movesKeepDry 29 = .ok (.aload_n 0, 1) := by decide +kernel
theorem dX7_movesKeepDry_30 : decode cX7_movesKeepDry 30 = .ok (.getfield 22, 3) := by decide +kernel
theorem dX7_movesKeepDry_33 : decode cX7_movesKeepDry 33 = .ok (.iload 6, 2) := by decide +kernel
theorem dX7_movesKeepDry_35 : decode cX7_movesKeepDry 35 = .ok (.iconst 1, 1) := by decide +kernel
theorem dX7_movesKeepDry_36 : decode cX7_movesKeepDry 36 = .ok (.invokevirtual 52, 3) := by decide +kernel
theorem dX7_movesKeepDry_39 : decode cX7_movesKeepDry 39 = .ok (.ifCond .eq 20, 3) := by decide +kernel
theorem dX7_movesKeepDry_42 : decode cX7_movesKeepDry 42 = .ok (.aload_n 0, 1) := by decide +kernel
theorem dX7_movesKeepDry_43 : decode cX7_movesKeepDry 43 = .ok (.iload 6, 2) := by decide +kernel
theorem dX7_movesKeepDry_45 : decode cX7_movesKeepDry 45 = .ok (.iload_n 1, 1) := by decide +kernel
theorem dX7_movesKeepDry_46 : decode cX7_movesKeepDry 46 = .ok (.iload_n 2, 1) := by decide +kernel
theorem dX7_movesKeepDry_47 : decode cX7_movesKeepDry 47 = .ok (.iload 4, 2) := by decide +kernel
theorem dX7_movesKeepDry_49 : decode cX7_movesKeepDry 49 = .ok (.iload 5, 2) := by decide +kernel
theorem dX7_movesKeepDry_51 : decode cX7_movesKeepDry 51 = .ok (.invokevirtual 55, 3) := by decide +kernel
theorem dX7_movesKeepDry_54 : decode cX7_movesKeepDry 54 = .ok (.ifCond .eq 5, 3) := by decide +kernel
theorem dX7_movesKeepDry_57 : decode cX7_movesKeepDry 57 = .ok (.iconst 1, 1) := by decide +kernel
theorem dX7_movesKeepDry_58 : decode cX7_movesKeepDry 58 = .ok (.ireturn, 1) := by decide +kernel
theorem dX7_movesKeepDry_59 : decode cX7_movesKeepDry 59 = .ok (.iinc 6 1, 3) := by decide +kernel
theorem dX7_movesKeepDry_62 : decode cX7_movesKeepDry 62 = .ok (.goto (-45), 3) := by decide +kernel
theorem dX7_movesKeepDry_65 : decode cX7_movesKeepDry 65 = .ok (.iconst 0, 1) := by decide +kernel
theorem dX7_movesKeepDry_66 : decode cX7_movesKeepDry 66 = .ok (.ireturn, 1) := by decide +kernel
theorem dX7_moveOfKeepsDry_0 : decode cX7_moveOfKeepsDry 0 = .ok (.aload_n 0, 1) := by decide +kernel
theorem dX7_moveOfKeepsDry_1 : decode cX7_moveOfKeepsDry 1 = .ok (.getfield 22, 3) := by decide +kernel
theorem dX7_moveOfKeepsDry_4 : decode cX7_moveOfKeepsDry 4 = .ok (.iload_n 1, 1) := by decide +kernel
theorem dX7_moveOfKeepsDry_5 : decode cX7_moveOfKeepsDry 5 = .ok (.iconst 0, 1) := by decide +kernel
theorem dX7_moveOfKeepsDry_6 : decode cX7_moveOfKeepsDry 6 = .ok (.invokevirtual 58, 3) := by decide +kernel
theorem dX7_moveOfKeepsDry_9 : decode cX7_moveOfKeepsDry 9 = .ok (.istore 6, 2) := by decide +kernel
theorem dX7_moveOfKeepsDry_11 : decode cX7_moveOfKeepsDry 11 = .ok (.aload_n 0, 1) := by decide +kernel
theorem dX7_moveOfKeepsDry_12 : decode cX7_moveOfKeepsDry 12 = .ok (.getfield 22, 3) := by decide +kernel
theorem dX7_moveOfKeepsDry_15 : decode cX7_moveOfKeepsDry 15 = .ok (.iload_n 1, 1) := by decide +kernel
theorem dX7_moveOfKeepsDry_16 : decode cX7_moveOfKeepsDry 16 = .ok (.invokevirtual 62, 3) := by decide +kernel
theorem dX7_moveOfKeepsDry_19 : decode cX7_moveOfKeepsDry 19 = .ok (.istore 7, 2) := by decide +kernel
theorem dX7_moveOfKeepsDry_21 : decode cX7_moveOfKeepsDry 21 = .ok (.iload 4, 2) := by decide +kernel
theorem dX7_moveOfKeepsDry_23 : decode cX7_moveOfKeepsDry 23 = .ok (.iload 7, 2) := by decide +kernel
theorem dX7_moveOfKeepsDry_25 : decode cX7_moveOfKeepsDry 25 = .ok (.aload_n 0, 1) := by decide +kernel
theorem dX7_moveOfKeepsDry_26 : decode cX7_moveOfKeepsDry 26 = .ok (.getfield 18, 3) := by decide +kernel
theorem dX7_moveOfKeepsDry_29 : decode cX7_moveOfKeepsDry 29 = .ok (.iload 6, 2) := by decide +kernel
theorem dX7_moveOfKeepsDry_31 : decode cX7_moveOfKeepsDry 31 = .ok (.invokevirtual 66, 3) := by decide +kernel
theorem dX7_moveOfKeepsDry_34 : decode cX7_moveOfKeepsDry 34 = .ok (.imul, 1) := by decide +kernel
theorem dX7_moveOfKeepsDry_35 : decode cX7_moveOfKeepsDry 35 = .ok (.isub, 1) := by decide +kernel
theorem dX7_moveOfKeepsDry_36 : decode cX7_moveOfKeepsDry 36 = .ok (.istore 8, 2) := by decide +kernel
theorem dX7_moveOfKeepsDry_38 : decode cX7_moveOfKeepsDry 38 = .ok (.iload 5, 2) := by decide +kernel
theorem dX7_moveOfKeepsDry_40 : decode cX7_moveOfKeepsDry 40 = .ok (.iload 7, 2) := by decide +kernel
theorem dX7_moveOfKeepsDry_42 : decode cX7_moveOfKeepsDry 42 = .ok (.aload_n 0, 1) := by decide +kernel
theorem dX7_moveOfKeepsDry_43 : decode cX7_moveOfKeepsDry 43 = .ok (.getfield 18, 3) := by decide +kernel
theorem dX7_moveOfKeepsDry_46 : decode cX7_moveOfKeepsDry 46 = .ok (.iload 6, 2) := by decide +kernel
theorem dX7_moveOfKeepsDry_48 : decode cX7_moveOfKeepsDry 48 = .ok (.invokevirtual 71, 3) := by decide +kernel
theorem dX7_moveOfKeepsDry_51 : decode cX7_moveOfKeepsDry 51 = .ok (.imul, 1) := by decide +kernel
theorem dX7_moveOfKeepsDry_52 : decode cX7_moveOfKeepsDry 52 = .ok (.isub, 1) := by decide +kernel
theorem dX7_moveOfKeepsDry_53 : decode cX7_moveOfKeepsDry 53 = .ok (.istore 9, 2) := by decide +kernel
theorem dX7_moveOfKeepsDry_55 : decode cX7_moveOfKeepsDry 55 = .ok (.iconst 0, 1) := by decide +kernel
theorem dX7_moveOfKeepsDry_56 : decode cX7_moveOfKeepsDry 56 = .ok (.istore 10, 2) := by decide +kernel
theorem dX7_moveOfKeepsDry_58 : decode cX7_moveOfKeepsDry 58 = .ok (.iload 10, 2) := by decide +kernel
theorem dX7_moveOfKeepsDry_60 : decode cX7_moveOfKeepsDry 60 = .ok (.aload_n 0, 1) := by decide +kernel
theorem dX7_moveOfKeepsDry_61 : decode cX7_moveOfKeepsDry 61 = .ok (.getfield 18, 3) := by decide +kernel
theorem dX7_moveOfKeepsDry_64 : decode cX7_moveOfKeepsDry 64 = .ok (.invokevirtual 74, 3) := by decide +kernel
theorem dX7_moveOfKeepsDry_67 : decode cX7_moveOfKeepsDry 67 = .ok (.if_icmp .ge 70, 3) := by decide +kernel
theorem dX7_moveOfKeepsDry_70 : decode cX7_moveOfKeepsDry 70 = .ok (.iload 10, 2) := by decide +kernel
theorem dX7_moveOfKeepsDry_72 : decode cX7_moveOfKeepsDry 72 = .ok (.iload 6, 2) := by decide +kernel
theorem dX7_moveOfKeepsDry_74 : decode cX7_moveOfKeepsDry 74 = .ok (.if_icmp .eq 57, 3) := by decide +kernel
theorem dX7_moveOfKeepsDry_77 : decode cX7_moveOfKeepsDry 77 = .ok (.aload_n 0, 1) := by decide +kernel
theorem dX7_moveOfKeepsDry_78 : decode cX7_moveOfKeepsDry 78 = .ok (.iload_n 2, 1) := by decide +kernel
theorem dX7_moveOfKeepsDry_79 : decode cX7_moveOfKeepsDry 79 = .ok (.iload_n 3, 1) := by decide +kernel
theorem dX7_moveOfKeepsDry_80 : decode cX7_moveOfKeepsDry 80 = .ok (.iconst 1, 1) := by decide +kernel
theorem dX7_moveOfKeepsDry_81 : decode cX7_moveOfKeepsDry 81 = .ok (.iadd, 1) := by decide +kernel
theorem dX7_moveOfKeepsDry_82 : decode cX7_moveOfKeepsDry 82 = .ok (.iload_n 1, 1) := by decide +kernel
theorem dX7_moveOfKeepsDry_83 : decode cX7_moveOfKeepsDry 83 = .ok (.iconst 1, 1) := by decide +kernel
theorem dX7_moveOfKeepsDry_84 : decode cX7_moveOfKeepsDry 84 = .ok (.iadd, 1) := by decide +kernel
theorem dX7_moveOfKeepsDry_85 : decode cX7_moveOfKeepsDry 85 = .ok (.iload 8, 2) := by decide +kernel
theorem dX7_moveOfKeepsDry_87 : decode cX7_moveOfKeepsDry 87 = .ok (.iload 7, 2) := by decide +kernel
theorem dX7_moveOfKeepsDry_89 : decode cX7_moveOfKeepsDry 89 = .ok (.aload_n 0, 1) := by decide +kernel
theorem dX7_moveOfKeepsDry_90 : decode cX7_moveOfKeepsDry 90 = .ok (.getfield 18, 3) := by decide +kernel
theorem dX7_moveOfKeepsDry_93 : decode cX7_moveOfKeepsDry 93 = .ok (.iload 10, 2) := by decide +kernel
theorem dX7_moveOfKeepsDry_95 : decode cX7_moveOfKeepsDry 95 = .ok (.invokevirtual 66, 3) := by decide +kernel
theorem dX7_moveOfKeepsDry_98 : decode cX7_moveOfKeepsDry 98 = .ok (.imul, 1) := by decide +kernel
theorem dX7_moveOfKeepsDry_99 : decode cX7_moveOfKeepsDry 99 = .ok (.iadd, 1) := by decide +kernel
theorem dX7_moveOfKeepsDry_100 : decode cX7_moveOfKeepsDry 100 = .ok (.iload 9, 2) := by decide +kernel
theorem dX7_moveOfKeepsDry_102 : decode cX7_moveOfKeepsDry 102 = .ok (.iload 7, 2) := by decide +kernel
theorem dX7_moveOfKeepsDry_104 : decode cX7_moveOfKeepsDry 104 = .ok (.aload_n 0, 1) := by decide +kernel
theorem dX7_moveOfKeepsDry_105 : decode cX7_moveOfKeepsDry 105 = .ok (.getfield 18, 3) := by decide +kernel
theorem dX7_moveOfKeepsDry_108 : decode cX7_moveOfKeepsDry 108 = .ok (.iload 10, 2) := by decide +kernel
theorem dX7_moveOfKeepsDry_110 : decode cX7_moveOfKeepsDry 110 = .ok (.invokevirtual 71, 3) := by decide +kernel
theorem dX7_moveOfKeepsDry_113 : decode cX7_moveOfKeepsDry 113 = .ok (.imul, 1) := by decide +kernel
theorem dX7_moveOfKeepsDry_114 : decode cX7_moveOfKeepsDry 114 = .ok (.iadd, 1) := by decide +kernel
theorem dX7_moveOfKeepsDry_115 : decode cX7_moveOfKeepsDry 115 = .ok (.invokevirtual 38, 3) := by decide +kernel
theorem dX7_moveOfKeepsDry_118 : decode cX7_moveOfKeepsDry 118 = .ok (.ifCond .eq 13, 3) := by decide +kernel
theorem dX7_moveOfKeepsDry_121 : decode cX7_moveOfKeepsDry 121 = .ok (.aload_n 0, 1) := by decide +kernel
theorem dX7_moveOfKeepsDry_122 : decode cX7_moveOfKeepsDry 122 = .ok (.iload_n 3, 1) := by decide +kernel
theorem dX7_moveOfKeepsDry_123 : decode cX7_moveOfKeepsDry 123 = .ok (.iload_n 1, 1) := by decide +kernel
theorem dX7_moveOfKeepsDry_124 : decode cX7_moveOfKeepsDry 124 = .ok (.iload 10, 2) := by decide +kernel
theorem dX7_moveOfKeepsDry_126 : decode cX7_moveOfKeepsDry 126 = .ok (.invokevirtual 77, 3) := by decide +kernel
theorem dX7_moveOfKeepsDry_129 : decode cX7_moveOfKeepsDry 129 = .ok (.iconst 1, 1) := by decide +kernel
theorem dX7_moveOfKeepsDry_130 : decode cX7_moveOfKeepsDry 130 = .ok (.ireturn, 1) := by decide +kernel
theorem dX7_moveOfKeepsDry_131 : decode cX7_moveOfKeepsDry 131 = .ok (.iinc 10 1, 3) := by decide +kernel
theorem dX7_moveOfKeepsDry_134 : decode cX7_moveOfKeepsDry 134 = .ok (.goto (-76), 3) := by decide +kernel
theorem dX7_moveOfKeepsDry_137 : decode cX7_moveOfKeepsDry 137 = .ok (.iconst 0, 1) := by decide +kernel
theorem dX7_moveOfKeepsDry_138 : decode cX7_moveOfKeepsDry 138 = .ok (.ireturn, 1) := by decide +kernel
theorem dX7_keepMove_0 : decode cX7_keepMove 0 = .ok (.iconst 1, 1) := by decide +kernel
theorem dX7_keepMove_1 : decode cX7_keepMove 1 = .ok (.iconst 2, 1) := by decide +kernel
theorem dX7_keepMove_2 : decode cX7_keepMove 2 = .ok (.iload_n 1, 1) := by decide +kernel
theorem dX7_keepMove_3 : decode cX7_keepMove 3 = .ok (.imul, 1) := by decide +kernel
theorem dX7_keepMove_4 : decode cX7_keepMove 4 = .ok (.iadd, 1) := by decide +kernel
theorem dX7_keepMove_5 : decode cX7_keepMove 5 = .ok (.istore 4, 2) := by decide +kernel
theorem dX7_keepMove_7 : decode cX7_keepMove 7 = .ok (.iload 4, 2) := by decide +kernel
theorem dX7_keepMove_9 : decode cX7_keepMove 9 = .ok (.iconst 1, 1) := by decide +kernel
theorem dX7_keepMove_10 : decode cX7_keepMove 10 = .ok (.if_icmp .lt 29, 3) := by decide +kernel
theorem dX7_keepMove_13 : decode cX7_keepMove 13 = .ok (.iload 4, 2) := by decide +kernel
theorem dX7_keepMove_15 : decode cX7_keepMove 15 = .ok (.iconst 1, 1) := by decide +kernel
theorem dX7_keepMove_16 : decode cX7_keepMove 16 = .ok (.iadd, 1) := by decide +kernel
theorem dX7_keepMove_17 : decode cX7_keepMove 17 = .ok (.iconst 5, 1) := by decide +kernel
theorem dX7_keepMove_18 : decode cX7_keepMove 18 = .ok (.if_icmp .ge 21, 3) := by decide +kernel
theorem dX7_keepMove_21 : decode cX7_keepMove 21 = .ok (.aload_n 0, 1) := by decide +kernel
theorem dX7_keepMove_22 : decode cX7_keepMove 22 = .ok (.getfield 11, 3) := by decide +kernel
theorem dX7_keepMove_25 : decode cX7_keepMove 25 = .ok (.iload 4, 2) := by decide +kernel
theorem dX7_keepMove_27 : decode cX7_keepMove 27 = .ok (.iload_n 2, 1) := by decide +kernel
theorem dX7_keepMove_28 : decode cX7_keepMove 28 = .ok (.iastore, 1) := by decide +kernel
theorem dX7_keepMove_29 : decode cX7_keepMove 29 = .ok (.aload_n 0, 1) := by decide +kernel
theorem dX7_keepMove_30 : decode cX7_keepMove 30 = .ok (.getfield 11, 3) := by decide +kernel
theorem dX7_keepMove_33 : decode cX7_keepMove 33 = .ok (.iload 4, 2) := by decide +kernel
theorem dX7_keepMove_35 : decode cX7_keepMove 35 = .ok (.iconst 1, 1) := by decide +kernel
theorem dX7_keepMove_36 : decode cX7_keepMove 36 = .ok (.iadd, 1) := by decide +kernel
theorem dX7_keepMove_37 : decode cX7_keepMove 37 = .ok (.iload_n 3, 1) := by decide +kernel
theorem dX7_keepMove_38 : decode cX7_keepMove 38 = .ok (.iastore, 1) := by decide +kernel
theorem dX7_keepMove_39 : decode cX7_keepMove 39 = .ok (.return_, 1) := by decide +kernel
theorem dX7_wetYear_0 : decode cX7_wetYear 0 = .ok (.aload_n 0, 1) := by decide +kernel
theorem dX7_wetYear_1 : decode cX7_wetYear 1 = .ok (.getfield 26, 3) := by decide +kernel
theorem dX7_wetYear_4 : decode cX7_wetYear 4 = .ok (.invokevirtual 30, 3) := by decide +kernel
theorem dX7_wetYear_7 : decode cX7_wetYear 7 = .ok (.aload_n 0, 1) := by decide +kernel
theorem dX7_wetYear_8 : decode cX7_wetYear 8 = .ok (.invokevirtual 35, 3) := by decide +kernel
theorem dX7_wetYear_11 : decode cX7_wetYear 11 = .ok (.iconst 0, 1) := by decide +kernel
theorem dX7_wetYear_12 : decode cX7_wetYear 12 = .ok (.istore_n 1, 1) := by decide +kernel
theorem dX7_wetYear_13 : decode cX7_wetYear 13 = .ok (.iconst 0, 1) := by decide +kernel
theorem dX7_wetYear_14 : decode cX7_wetYear 14 = .ok (.istore_n 2, 1) := by decide +kernel
theorem dX7_wetYear_15 : decode cX7_wetYear 15 = .ok (.iconst 0, 1) := by decide +kernel
theorem dX7_wetYear_16 : decode cX7_wetYear 16 = .ok (.istore_n 3, 1) := by decide +kernel
theorem dX7_wetYear_17 : decode cX7_wetYear 17 = .ok (.iload_n 3, 1) := by decide +kernel
theorem dX7_wetYear_18 : decode cX7_wetYear 18 = .ok (.aload_n 0, 1) := by decide +kernel
theorem dX7_wetYear_19 : decode cX7_wetYear 19 = .ok (.getfield 22, 3) := by decide +kernel
theorem dX7_wetYear_22 : decode cX7_wetYear 22 = .ok (.invokevirtual 46, 3) := by decide +kernel
theorem dX7_wetYear_25 : decode cX7_wetYear 25 = .ok (.if_icmp .ge 59, 3) := by decide +kernel
theorem dX7_wetYear_28 : decode cX7_wetYear 28 = .ok (.aload_n 0, 1) := by decide +kernel
theorem dX7_wetYear_29 : decode cX7_wetYear 29 = .ok (.getfield 22, 3) := by decide +kernel
theorem dX7_wetYear_32 : decode cX7_wetYear 32 = .ok (.iload_n 3, 1) := by decide +kernel
theorem dX7_wetYear_33 : decode cX7_wetYear 33 = .ok (.iconst 1, 1) := by decide +kernel
theorem dX7_wetYear_34 : decode cX7_wetYear 34 = .ok (.invokevirtual 52, 3) := by decide +kernel
theorem dX7_wetYear_37 : decode cX7_wetYear 37 = .ok (.ifCond .eq 41, 3) := by decide +kernel
theorem dX7_wetYear_40 : decode cX7_wetYear 40 = .ok (.iload_n 1, 1) := by decide +kernel
theorem dX7_wetYear_41 : decode cX7_wetYear 41 = .ok (.aload_n 0, 1) := by decide +kernel
theorem dX7_wetYear_42 : decode cX7_wetYear 42 = .ok (.getfield 18, 3) := by decide +kernel
theorem dX7_wetYear_45 : decode cX7_wetYear 45 = .ok (.aload_n 0, 1) := by decide +kernel
theorem dX7_wetYear_46 : decode cX7_wetYear 46 = .ok (.getfield 22, 3) := by decide +kernel
theorem dX7_wetYear_49 : decode cX7_wetYear 49 = .ok (.iload_n 3, 1) := by decide +kernel
theorem dX7_wetYear_50 : decode cX7_wetYear 50 = .ok (.iconst 0, 1) := by decide +kernel
theorem dX7_wetYear_51 : decode cX7_wetYear 51 = .ok (.invokevirtual 58, 3) := by decide +kernel
theorem dX7_wetYear_54 : decode cX7_wetYear 54 = .ok (.invokevirtual 66, 3) := by decide +kernel
theorem dX7_wetYear_57 : decode cX7_wetYear 57 = .ok (.iadd, 1) := by decide +kernel
theorem dX7_wetYear_58 : decode cX7_wetYear 58 = .ok (.istore_n 1, 1) := by decide +kernel
theorem dX7_wetYear_59 : decode cX7_wetYear 59 = .ok (.iload_n 2, 1) := by decide +kernel
theorem dX7_wetYear_60 : decode cX7_wetYear 60 = .ok (.aload_n 0, 1) := by decide +kernel
theorem dX7_wetYear_61 : decode cX7_wetYear 61 = .ok (.getfield 18, 3) := by decide +kernel
theorem dX7_wetYear_64 : decode cX7_wetYear 64 = .ok (.aload_n 0, 1) := by decide +kernel
theorem dX7_wetYear_65 : decode cX7_wetYear 65 = .ok (.getfield 22, 3) := by decide +kernel
theorem dX7_wetYear_68 : decode cX7_wetYear 68 = .ok (.iload_n 3, 1) := by decide +kernel
theorem dX7_wetYear_69 : decode cX7_wetYear 69 = .ok (.iconst 0, 1) := by decide +kernel
theorem dX7_wetYear_70 : decode cX7_wetYear 70 = .ok (.invokevirtual 58, 3) := by decide +kernel
theorem dX7_wetYear_73 : decode cX7_wetYear 73 = .ok (.invokevirtual 71, 3) := by decide +kernel
theorem dX7_wetYear_76 : decode cX7_wetYear 76 = .ok (.iadd, 1) := by decide +kernel
theorem dX7_wetYear_77 : decode cX7_wetYear 77 = .ok (.istore_n 2, 1) := by decide +kernel
theorem dX7_wetYear_78 : decode cX7_wetYear 78 = .ok (.iinc 3 1, 3) := by decide +kernel
theorem dX7_wetYear_81 : decode cX7_wetYear 81 = .ok (.goto (-64), 3) := by decide +kernel
theorem dX7_wetYear_84 : decode cX7_wetYear 84 = .ok (.iconst 0, 1) := by decide +kernel
theorem dX7_wetYear_85 : decode cX7_wetYear 85 = .ok (.istore_n 3, 1) := by decide +kernel
theorem dX7_wetYear_86 : decode cX7_wetYear 86 = .ok (.iload_n 3, 1) := by decide +kernel
theorem dX7_wetYear_87 : decode cX7_wetYear 87 = .ok (.bipush 99, 2) := by decide +kernel
theorem dX7_wetYear_89 : decode cX7_wetYear 89 = .ok (.if_icmp .gt 24, 3) := by decide +kernel
theorem dX7_wetYear_92 : decode cX7_wetYear 92 = .ok (.aload_n 0, 1) := by decide +kernel
theorem dX7_wetYear_93 : decode cX7_wetYear 93 = .ok (.iload_n 3, 1) := by decide +kernel
theorem dX7_wetYear_94 : decode cX7_wetYear 94 = .ok (.iload_n 1, 1) := by decide +kernel
theorem dX7_wetYear_95 : decode cX7_wetYear 95 = .ok (.imul, 1) := by decide +kernel
theorem dX7_wetYear_96 : decode cX7_wetYear 96 = .ok (.iload_n 3, 1) := by decide +kernel
theorem dX7_wetYear_97 : decode cX7_wetYear 97 = .ok (.iload_n 2, 1) := by decide +kernel
theorem dX7_wetYear_98 : decode cX7_wetYear 98 = .ok (.imul, 1) := by decide +kernel
theorem dX7_wetYear_99 : decode cX7_wetYear 99 = .ok (.invokevirtual 42, 3) := by decide +kernel
theorem dX7_wetYear_102 : decode cX7_wetYear 102 = .ok (.ifCond .ne 5, 3) := by decide +kernel
theorem dX7_wetYear_105 : decode cX7_wetYear 105 = .ok (.iload_n 3, 1) := by decide +kernel
theorem dX7_wetYear_106 : decode cX7_wetYear 106 = .ok (.ireturn, 1) := by decide +kernel
theorem dX7_wetYear_107 : decode cX7_wetYear 107 = .ok (.iinc 3 1, 3) := by decide +kernel
theorem dX7_wetYear_110 : decode cX7_wetYear 110 = .ok (.goto (-24), 3) := by decide +kernel
theorem dX7_wetYear_113 : decode cX7_wetYear 113 = .ok (.iconst (-1), 1) := by decide +kernel
theorem dX7_wetYear_114 : decode cX7_wetYear 114 = .ok (.ireturn, 1) := by decide +kernel
theorem dX7_measureRooms_0 : decode cX7_measureRooms 0 = .ok (.aload_n 0, 1) := by decide +kernel
theorem dX7_measureRooms_1 : decode cX7_measureRooms 1 = .ok (.iconst 0, 1) := by decide +kernel
theorem dX7_measureRooms_2 : decode cX7_measureRooms 2 = .ok (.putfield 81, 3) := by decide +kernel
theorem dX7_measureRooms_5 : decode cX7_measureRooms 5 = .ok (.iconst 0, 1) := by decide +kernel
theorem dX7_measureRooms_6 : decode cX7_measureRooms 6 = .ok (.istore_n 1, 1) := by decide +kernel
theorem dX7_measureRooms_7 : decode cX7_measureRooms 7 = .ok (.iload_n 1, 1) := by decide +kernel
theorem dX7_measureRooms_8 : decode cX7_measureRooms 8 = .ok (.bipush 30, 2) := by decide +kernel
theorem dX7_measureRooms_10 : decode cX7_measureRooms 10 = .ok (.if_icmp .ge 46, 3) := by decide +kernel
theorem dX7_measureRooms_13 : decode cX7_measureRooms 13 = .ok (.aload_n 0, 1) := by decide +kernel
theorem dX7_measureRooms_14 : decode cX7_measureRooms 14 = .ok (.getfield 18, 3) := by decide +kernel
theorem dX7_measureRooms_17 : decode cX7_measureRooms 17 = .ok (.iload_n 1, 1) := by decide +kernel
theorem dX7_measureRooms_18 : decode cX7_measureRooms 18 = .ok (.invokevirtual 85, 3) := by decide +kernel
theorem dX7_measureRooms_21 : decode cX7_measureRooms 21 = .ok (.istore_n 2, 1) := by decide +kernel
theorem dX7_measureRooms_22 : decode cX7_measureRooms 22 = .ok (.aload_n 0, 1) := by decide +kernel
theorem dX7_measureRooms_23 : decode cX7_measureRooms 23 = .ok (.getfield 15, 3) := by decide +kernel
theorem dX7_measureRooms_26 : decode cX7_measureRooms 26 = .ok (.iload_n 1, 1) := by decide +kernel
theorem dX7_measureRooms_27 : decode cX7_measureRooms 27 = .ok (.iload_n 2, 1) := by decide +kernel
theorem dX7_measureRooms_28 : decode cX7_measureRooms 28 = .ok (.ifCond .ne 8, 3) := by decide +kernel
theorem dX7_measureRooms_31 : decode cX7_measureRooms 31 = .ok (.ldc 88, 2) := by decide +kernel
theorem dX7_measureRooms_33 : decode cX7_measureRooms 33 = .ok (.goto 16, 3) := by decide +kernel
theorem dX7_measureRooms_36 : decode cX7_measureRooms 36 = .ok (.bipush 50, 2) := by decide +kernel
theorem dX7_measureRooms_38 : decode cX7_measureRooms 38 = .ok (.iload_n 2, 1) := by decide +kernel
theorem dX7_measureRooms_39 : decode cX7_measureRooms 39 = .ok (.imul, 1) := by decide +kernel
theorem dX7_measureRooms_40 : decode cX7_measureRooms 40 = .ok (.aload_n 0, 1) := by decide +kernel
theorem dX7_measureRooms_41 : decode cX7_measureRooms 41 = .ok (.getfield 26, 3) := by decide +kernel
theorem dX7_measureRooms_44 : decode cX7_measureRooms 44 = .ok (.iload_n 1, 1) := by decide +kernel
theorem dX7_measureRooms_45 : decode cX7_measureRooms 45 = .ok (.invokevirtual 89, 3) := by decide +kernel
theorem dX7_measureRooms_48 : decode cX7_measureRooms 48 = .ok (.isub, 1) := by decide +kernel
theorem dX7_measureRooms_49 : decode cX7_measureRooms 49 = .ok (.iastore, 1) := by decide +kernel
theorem dX7_measureRooms_50 : decode cX7_measureRooms 50 = .ok (.iinc 1 1, 3) := by decide +kernel
theorem dX7_measureRooms_53 : decode cX7_measureRooms 53 = .ok (.goto (-46), 3) := by decide +kernel
theorem dX7_measureRooms_56 : decode cX7_measureRooms 56 = .ok (.return_, 1) := by decide +kernel
theorem dX7_isDryWith_0 : decode cX7_isDryWith 0 = .ok (.aload_n 0, 1) := by decide +kernel
theorem dX7_isDryWith_1 : decode cX7_isDryWith 1 = .ok (.aload_n 0, 1) := by decide +kernel
theorem dX7_isDryWith_2 : decode cX7_isDryWith 2 = .ok (.getfield 81, 3) := by decide +kernel
theorem dX7_isDryWith_5 : decode cX7_isDryWith 5 = .ok (.iload_n 1, 1) := by decide +kernel
theorem dX7_isDryWith_6 : decode cX7_isDryWith 6 = .ok (.iload_n 2, 1) := by decide +kernel
theorem dX7_isDryWith_7 : decode cX7_isDryWith 7 = .ok (.invokevirtual 92, 3) := by decide +kernel
theorem dX7_isDryWith_10 : decode cX7_isDryWith 10 = .ok (.ifCond .eq 5, 3) := by decide +kernel
theorem dX7_isDryWith_13 : decode cX7_isDryWith 13 = .ok (.iconst 0, 1) := by decide +kernel
theorem dX7_isDryWith_14 : decode cX7_isDryWith 14 = .ok (.ireturn, 1) := by decide +kernel
theorem dX7_isDryWith_15 : decode cX7_isDryWith 15 = .ok (.iconst 0, 1) := by decide +kernel
theorem dX7_isDryWith_16 : decode cX7_isDryWith 16 = .ok (.istore_n 3, 1) := by decide +kernel
theorem dX7_isDryWith_17 : decode cX7_isDryWith 17 = .ok (.iload_n 3, 1) := by decide +kernel
theorem dX7_isDryWith_18 : decode cX7_isDryWith 18 = .ok (.aload_n 0, 1) := by decide +kernel
theorem dX7_isDryWith_19 : decode cX7_isDryWith 19 = .ok (.getfield 18, 3) := by decide +kernel
theorem dX7_isDryWith_22 : decode cX7_isDryWith 22 = .ok (.invokevirtual 74, 3) := by decide +kernel
theorem dX7_isDryWith_25 : decode cX7_isDryWith 25 = .ok (.if_icmp .ge 26, 3) := by decide +kernel
theorem dX7_isDryWith_28 : decode cX7_isDryWith 28 = .ok (.aload_n 0, 1) := by decide +kernel
theorem dX7_isDryWith_29 : decode cX7_isDryWith 29 = .ok (.iload_n 3, 1) := by decide +kernel
theorem dX7_isDryWith_30 : decode cX7_isDryWith 30 = .ok (.iload_n 1, 1) := by decide +kernel
theorem dX7_isDryWith_31 : decode cX7_isDryWith 31 = .ok (.iload_n 2, 1) := by decide +kernel
theorem dX7_isDryWith_32 : decode cX7_isDryWith 32 = .ok (.invokevirtual 92, 3) := by decide +kernel
theorem dX7_isDryWith_35 : decode cX7_isDryWith 35 = .ok (.ifCond .eq 10, 3) := by decide +kernel
theorem dX7_isDryWith_38 : decode cX7_isDryWith 38 = .ok (.aload_n 0, 1) := by decide +kernel
theorem dX7_isDryWith_39 : decode cX7_isDryWith 39 = .ok (.iload_n 3, 1) := by decide +kernel
theorem dX7_isDryWith_40 : decode cX7_isDryWith 40 = .ok (.putfield 81, 3) := by decide +kernel
theorem dX7_isDryWith_43 : decode cX7_isDryWith 43 = .ok (.iconst 0, 1) := by decide +kernel
theorem dX7_isDryWith_44 : decode cX7_isDryWith 44 = .ok (.ireturn, 1) := by decide +kernel
theorem dX7_isDryWith_45 : decode cX7_isDryWith 45 = .ok (.iinc 3 1, 3) := by decide +kernel
theorem dX7_isDryWith_48 : decode cX7_isDryWith 48 = .ok (.goto (-31), 3) := by decide +kernel
theorem dX7_isDryWith_51 : decode cX7_isDryWith 51 = .ok (.iconst 1, 1) := by decide +kernel
theorem dX7_isDryWith_52 : decode cX7_isDryWith 52 = .ok (.ireturn, 1) := by decide +kernel
theorem dX7_isWetWith_0 : decode cX7_isWetWith 0 = .ok (.aload_n 0, 1) := by decide +kernel
theorem dX7_isWetWith_1 : decode cX7_isWetWith 1 = .ok (.getfield 18, 3) := by decide +kernel
theorem dX7_isWetWith_4 : decode cX7_isWetWith 4 = .ok (.iload_n 1, 1) := by decide +kernel
theorem dX7_isWetWith_5 : decode cX7_isWetWith 5 = .ok (.invokevirtual 96, 3) := by decide +kernel
theorem dX7_isWetWith_8 : decode cX7_isWetWith 8 = .ok (.ifCond .eq 26, 3) := by decide +kernel
theorem dX7_isWetWith_11 : decode cX7_isWetWith 11 = .ok (.aload_n 0, 1) := by decide +kernel
theorem dX7_isWetWith_12 : decode cX7_isWetWith 12 = .ok (.getfield 18, 3) := by decide +kernel
theorem dX7_isWetWith_15 : decode cX7_isWetWith 15 = .ok (.iload_n 1, 1) := by decide +kernel
theorem dX7_isWetWith_16 : decode cX7_isWetWith 16 = .ok (.iload_n 2, 1) := by decide +kernel
theorem dX7_isWetWith_17 : decode cX7_isWetWith 17 = .ok (.iload_n 3, 1) := by decide +kernel
theorem dX7_isWetWith_18 : decode cX7_isWetWith 18 = .ok (.invokevirtual 100, 3) := by decide +kernel
theorem dX7_isWetWith_21 : decode cX7_isWetWith 21 = .ok (.aload_n 0, 1) := by decide +kernel
theorem dX7_isWetWith_22 : decode cX7_isWetWith 22 = .ok (.getfield 15, 3) := by decide +kernel
theorem dX7_isWetWith_25 : decode cX7_isWetWith 25 = .ok (.iload_n 1, 1) := by decide +kernel
theorem dX7_isWetWith_26 : decode cX7_isWetWith 26 = .ok (.iaload, 1) := by decide +kernel
theorem dX7_isWetWith_27 : decode cX7_isWetWith 27 = .ok (.if_icmp .lt 7, 3) := by decide +kernel
theorem dX7_isWetWith_30 : decode cX7_isWetWith 30 = .ok (.iconst 1, 1) := by decide +kernel
theorem dX7_isWetWith_31 : decode cX7_isWetWith 31 = .ok (.goto 4, 3) := by decide +kernel
theorem dX7_isWetWith_34 : decode cX7_isWetWith 34 = .ok (.iconst 0, 1) := by decide +kernel
theorem dX7_isWetWith_35 : decode cX7_isWetWith 35 = .ok (.ireturn, 1) := by decide +kernel
theorem dX8_init_0 : decode cX8_init 0 = .ok (.aload_n 0, 1) := by decide +kernel
theorem dX8_init_1 : decode cX8_init 1 = .ok (.invokespecial 3, 3) := by decide +kernel
theorem dX8_init_4 : decode cX8_init 4 = .ok (.aload_n 0, 1) := by decide +kernel
theorem dX8_init_5 : decode cX8_init 5 = .ok (.bipush 8, 2) := by decide +kernel
theorem dX8_init_7 : decode cX8_init 7 = .ok (.newarray .int, 2) := by decide +kernel
theorem dX8_init_9 : decode cX8_init 9 = .ok (.putfield 9, 3) := by decide +kernel
theorem dX8_init_12 : decode cX8_init 12 = .ok (.aload_n 0, 1) := by decide +kernel
theorem dX8_init_13 : decode cX8_init 13 = .ok (.bipush 8, 2) := by decide +kernel
theorem dX8_init_15 : decode cX8_init 15 = .ok (.newarray .int, 2) := by decide +kernel
theorem dX8_init_17 : decode cX8_init 17 = .ok (.putfield 15, 3) := by decide +kernel
theorem dX8_init_20 : decode cX8_init 20 = .ok (.aload_n 0, 1) := by decide +kernel
theorem dX8_init_21 : decode cX8_init 21 = .ok (.bipush 64, 2) := by decide +kernel
theorem dX8_init_23 : decode cX8_init 23 = .ok (.newarray .int, 2) := by decide +kernel
theorem dX8_init_25 : decode cX8_init 25 = .ok (.putfield 18, 3) := by decide +kernel
theorem dX8_init_28 : decode cX8_init 28 = .ok (.aload_n 0, 1) := by decide +kernel
theorem dX8_init_29 : decode cX8_init 29 = .ok (.bipush 64, 2) := by decide +kernel
theorem dX8_init_31 : decode cX8_init 31 = .ok (.newarray .int, 2) := by decide +kernel
theorem dX8_init_33 : decode cX8_init 33 = .ok (.putfield 21, 3) := by decide +kernel
theorem dX8_init_36 : decode cX8_init 36 = .ok (.aload_n 0, 1) := by decide +kernel
theorem dX8_init_37 : decode cX8_init 37 = .ok (.iconst (-1), 1) := by decide +kernel
theorem dX8_init_38 : decode cX8_init 38 = .ok (.putfield 24, 3) := by decide +kernel
theorem dX8_init_41 : decode cX8_init 41 = .ok (.return_, 1) := by decide +kernel
theorem dX8_clear_0 : decode cX8_clear 0 = .ok (.aload_n 0, 1) := by decide +kernel
theorem dX8_clear_1 : decode cX8_clear 1 = .ok (.iconst 0, 1) := by decide +kernel
theorem dX8_clear_2 : decode cX8_clear 2 = .ok (.putfield 28, 3) := by decide +kernel
theorem dX8_clear_5 : decode cX8_clear 5 = .ok (.aload_n 0, 1) := by decide +kernel
theorem dX8_clear_6 : decode cX8_clear 6 = .ok (.iconst (-1), 1) := by decide +kernel
theorem dX8_clear_7 : decode cX8_clear 7 = .ok (.putfield 24, 3) := by decide +kernel
theorem dX8_clear_10 : decode cX8_clear 10 = .ok (.return_, 1) := by decide +kernel
theorem dX8_size_0 : decode cX8_size 0 = .ok (.aload_n 0, 1) := by decide +kernel
theorem dX8_size_1 : decode cX8_size 1 = .ok (.getfield 28, 3) := by decide +kernel
theorem dX8_size_4 : decode cX8_size 4 = .ok (.ireturn, 1) := by decide +kernel
theorem dX8_has_0 : decode cX8_has 0 = .ok (.iload_n 1, 1) := by decide +kernel
theorem dX8_has_1 : decode cX8_has 1 = .ok (.ifCond .lt 15, 3) := by decide +kernel
theorem dX8_has_4 : decode cX8_has 4 = .ok (.iload_n 1, 1) := by decide +kernel
theorem dX8_has_5 : decode cX8_has 5 = .ok (.aload_n 0, 1) := by decide +kernel
theorem dX8_has_6 : decode cX8_has 6 = .ok (.getfield 28, 3) := by decide +kernel
theorem dX8_has_9 : decode cX8_has 9 = .ok (.if_icmp .ge 7, 3) := by decide +kernel
theorem dX8_has_12 : decode cX8_has 12 = .ok (.iconst 1, 1) := by decide +kernel
theorem dX8_has_13 : decode cX8_has 13 = .ok (.goto 4, 3) := by decide +kernel
theorem dX8_has_16 : decode cX8_has 16 = .ok (.iconst 0, 1) := by decide +kernel
theorem dX8_has_17 : decode cX8_has 17 = .ok (.ireturn, 1) := by decide +kernel
theorem dX8_add_0 : decode cX8_add 0 = .ok (.aload_n 0, 1) := by decide +kernel
theorem dX8_add_1 : decode cX8_add 1 = .ok (.getfield 28, 3) := by decide +kernel
theorem dX8_add_4 : decode cX8_add 4 = .ok (.bipush 8, 2) := by decide +kernel
theorem dX8_add_6 : decode cX8_add 6 = .ok (.if_icmp .lt 6, 3) := by decide +kernel
theorem dX8_add_9 : decode cX8_add 9 = .ok (.bipush (-104), 2) := by decide +kernel
theorem dX8_add_11 : decode cX8_add 11 = .ok (.ireturn, 1) := by decide +kernel
theorem dX8_add_12 : decode cX8_add 12 = .ok (.aload_n 0, 1) := by decide +kernel
theorem dX8_add_13 : decode cX8_add 13 = .ok (.getfield 28, 3) := by decide +kernel
theorem dX8_add_16 : decode cX8_add 16 = .ok (.istore 4, 2) := by decide +kernel
theorem dX8_add_18 : decode cX8_add 18 = .ok (.aload_n 0, 1) := by decide +kernel
theorem dX8_add_19 : decode cX8_add 19 = .ok (.getfield 9, 3) := by decide +kernel
theorem dX8_add_22 : decode cX8_add 22 = .ok (.iload 4, 2) := by decide +kernel
theorem dX8_add_24 : decode cX8_add 24 = .ok (.iload_n 1, 1) := by decide +kernel
theorem dX8_add_25 : decode cX8_add 25 = .ok (.iastore, 1) := by decide +kernel
theorem dX8_add_26 : decode cX8_add 26 = .ok (.aload_n 0, 1) := by decide +kernel
theorem dX8_add_27 : decode cX8_add 27 = .ok (.getfield 15, 3) := by decide +kernel
theorem dX8_add_30 : decode cX8_add 30 = .ok (.iload 4, 2) := by decide +kernel
theorem dX8_add_32 : decode cX8_add 32 = .ok (.iload_n 2, 1) := by decide +kernel
theorem dX8_add_33 : decode cX8_add 33 = .ok (.iastore, 1) := by decide +kernel
theorem dX8_add_34 : decode cX8_add 34 = .ok (.aload_n 0, 1) := by decide +kernel
theorem dX8_add_35 : decode cX8_add 35 = .ok (.dup, 1) := by decide +kernel
theorem dX8_add_36 : decode cX8_add 36 = .ok (.getfield 28, 3) := by decide +kernel
theorem dX8_add_39 : decode cX8_add 39 = .ok (.iconst 1, 1) := by decide +kernel
theorem dX8_add_40 : decode cX8_add 40 = .ok (.iadd, 1) := by decide +kernel
theorem dX8_add_41 : decode cX8_add 41 = .ok (.putfield 28, 3) := by decide +kernel
theorem dX8_add_44 : decode cX8_add 44 = .ok (.aload_n 0, 1) := by decide +kernel
theorem dX8_add_45 : decode cX8_add 45 = .ok (.iload 4, 2) := by decide +kernel
theorem dX8_add_47 : decode cX8_add 47 = .ok (.iload_n 3, 1) := by decide +kernel
theorem dX8_add_48 : decode cX8_add 48 = .ok (.invokevirtual 31, 3) := by decide +kernel
theorem dX8_add_51 : decode cX8_add 51 = .ok (.iload 4, 2) := by decide +kernel
theorem dX8_add_53 : decode cX8_add 53 = .ok (.ireturn, 1) := by decide +kernel
theorem dX8_kind_0 : decode cX8_kind 0 = .ok (.aload_n 0, 1) := by decide +kernel
theorem dX8_kind_1 : decode cX8_kind 1 = .ok (.iload_n 1, 1) := by decide +kernel
theorem dX8_kind_2 : decode cX8_kind 2 = .ok (.invokevirtual 35, 3) := by decide +kernel
theorem dX8_kind_5 : decode cX8_kind 5 = .ok (.ifCond .eq 12, 3) := by decide +kernel
theorem dX8_kind_8 : decode cX8_kind 8 = .ok (.aload_n 0, 1) := by decide +kernel
theorem dX8_kind_9 : decode cX8_kind 9 = .ok (.getfield 9, 3) := by decide +kernel
theorem dX8_kind_12 : decode cX8_kind 12 = .ok (.iload_n 1, 1) := by decide +kernel
theorem dX8_kind_13 : decode cX8_kind 13 = .ok (.iaload, 1) := by decide +kernel
theorem dX8_kind_14 : decode cX8_kind 14 = .ok (.goto 4, 3) := by decide +kernel
theorem dX8_kind_17 : decode cX8_kind 17 = .ok (.iconst (-1), 1) := by decide +kernel
theorem dX8_kind_18 : decode cX8_kind 18 = .ok (.ireturn, 1) := by decide +kernel
theorem dX8_weight_0 : decode cX8_weight 0 = .ok (.aload_n 0, 1) := by decide +kernel
theorem dX8_weight_1 : decode cX8_weight 1 = .ok (.iload_n 1, 1) := by decide +kernel
theorem dX8_weight_2 : decode cX8_weight 2 = .ok (.invokevirtual 35, 3) := by decide +kernel
theorem dX8_weight_5 : decode cX8_weight 5 = .ok (.ifCond .eq 12, 3) := by decide +kernel
theorem dX8_weight_8 : decode cX8_weight 8 = .ok (.aload_n 0, 1) := by decide +kernel
theorem dX8_weight_9 : decode cX8_weight 9 = .ok (.getfield 15, 3) := by decide +kernel
theorem dX8_weight_12 : decode cX8_weight 12 = .ok (.iload_n 1, 1) := by decide +kernel
theorem dX8_weight_13 : decode cX8_weight 13 = .ok (.iaload, 1) := by decide +kernel
theorem dX8_weight_14 : decode cX8_weight 14 = .ok (.goto 4, 3) := by decide +kernel
theorem dX8_weight_17 : decode cX8_weight 17 = .ok (.iconst 0, 1) := by decide +kernel
theorem dX8_weight_18 : decode cX8_weight 18 = .ok (.ireturn, 1) := by decide +kernel
theorem dX8_weighs_0 : decode cX8_weighs 0 = .ok (.aload_n 0, 1) := by decide +kernel
theorem dX8_weighs_1 : decode cX8_weighs 1 = .ok (.iload_n 1, 1) := by decide +kernel
theorem dX8_weighs_2 : decode cX8_weighs 2 = .ok (.invokevirtual 35, 3) := by decide +kernel
theorem dX8_weighs_5 : decode cX8_weighs 5 = .ok (.ifCond .ne 5, 3) := by decide +kernel
theorem dX8_weighs_8 : decode cX8_weighs 8 = .ok (.iconst 0, 1) := by decide +kernel
theorem dX8_weighs_9 : decode cX8_weighs 9 = .ok (.ireturn, 1) := by decide +kernel
theorem dX8_weighs_10 : decode cX8_weighs 10 = .ok (.aload_n 0, 1) := by decide +kernel
theorem dX8_weighs_11 : decode cX8_weighs 11 = .ok (.getfield 9, 3) := by decide +kernel
theorem dX8_weighs_14 : decode cX8_weighs 14 = .ok (.iload_n 1, 1) := by decide +kernel
theorem dX8_weighs_15 : decode cX8_weighs 15 = .ok (.iaload, 1) := by decide +kernel
theorem dX8_weighs_16 : decode cX8_weighs 16 = .ok (.iconst 4, 1) := by decide +kernel
theorem dX8_weighs_17 : decode cX8_weighs 17 = .ok (.if_icmp .ne 14, 3) := by decide +kernel
theorem dX8_weighs_20 : decode cX8_weighs 20 = .ok (.iconst 2, 1) := by decide +kernel
theorem dX8_weighs_21 : decode cX8_weighs 21 = .ok (.aload_n 0, 1) := by decide +kernel
theorem dX8_weighs_22 : decode cX8_weighs 22 = .ok (.getfield 15, 3) := by decide +kernel
theorem dX8_weighs_25 : decode cX8_weighs 25 = .ok (.iload_n 1, 1) := by decide +kernel
theorem dX8_weighs_26 : decode cX8_weighs 26 = .ok (.iaload, 1) := by decide +kernel
theorem dX8_weighs_27 : decode cX8_weighs 27 = .ok (.imul, 1) := by decide +kernel
theorem dX8_weighs_28 : decode cX8_weighs 28 = .ok (.goto 9, 3) := by decide +kernel
theorem dX8_weighs_31 : decode cX8_weighs 31 = .ok (.aload_n 0, 1) := by decide +kernel
theorem dX8_weighs_32 : decode cX8_weighs 32 = .ok (.getfield 15, 3) := by decide +kernel
theorem dX8_weighs_35 : decode cX8_weighs 35 = .ok (.iload_n 1, 1) := by decide +kernel
theorem dX8_weighs_36 : decode cX8_weighs 36 = .ok (.iaload, 1) := by decide +kernel
theorem dX8_weighs_37 : decode cX8_weighs 37 = .ok (.ireturn, 1) := by decide +kernel
theorem dX8_isA_0 : decode cX8_isA 0 = .ok (.aload_n 0, 1) := by decide +kernel
theorem dX8_isA_1 : decode cX8_isA 1 = .ok (.iload_n 1, 1) := by decide +kernel
theorem dX8_isA_2 : decode cX8_isA 2 = .ok (.invokevirtual 39, 3) := by decide +kernel
theorem dX8_isA_5 : decode cX8_isA 5 = .ok (.istore_n 3, 1) := by decide +kernel
theorem dX8_isA_6 : decode cX8_isA 6 = .ok (.iload_n 3, 1) := by decide +kernel
theorem dX8_isA_7 : decode cX8_isA 7 = .ok (.iload_n 2, 1) := by decide +kernel
theorem dX8_isA_8 : decode cX8_isA 8 = .ok (.if_icmp .eq 17, 3) := by decide +kernel
theorem dX8_isA_11 : decode cX8_isA 11 = .ok (.iload_n 2, 1) := by decide +kernel
theorem dX8_isA_12 : decode cX8_isA 12 = .ok (.ifCond .eq 13, 3) := by decide +kernel
theorem dX8_isA_15 : decode cX8_isA 15 = .ok (.iload_n 2, 1) := by decide +kernel
theorem dX8_isA_16 : decode cX8_isA 16 = .ok (.iconst 3, 1) := by decide +kernel
theorem dX8_isA_17 : decode cX8_isA 17 = .ok (.if_icmp .ne 12, 3) := by decide +kernel
theorem dX8_isA_20 : decode cX8_isA 20 = .ok (.iload_n 3, 1) := by decide +kernel
theorem dX8_isA_21 : decode cX8_isA 21 = .ok (.iconst 4, 1) := by decide +kernel
theorem dX8_isA_22 : decode cX8_isA 22 = .ok (.if_icmp .ne 7, 3) := by decide +kernel
theorem dX8_isA_25 : decode cX8_isA 25 = .ok (.iconst 1, 1) := by decide +kernel
theorem dX8_isA_26 : decode cX8_isA 26 = .ok (.goto 4, 3) := by decide +kernel
theorem dX8_isA_29 : decode cX8_isA 29 = .ok (.iconst 0, 1) := by decide +kernel
theorem dX8_isA_30 : decode cX8_isA 30 = .ok (.ireturn, 1) := by decide +kernel
theorem dX8_people_0 : decode cX8_people 0 = .ok (.aload_n 0, 1) := by decide +kernel
theorem dX8_people_1 : decode cX8_people 1 = .ok (.invokevirtual 43, 3) := by decide +kernel
theorem dX8_people_4 : decode cX8_people 4 = .ok (.invokestatic 47, 3) := by decide +kernel
theorem dX8_people_7 : decode cX8_people 7 = .ok (.ireturn, 1) := by decide +kernel
theorem dX8_peopleBits_0 : decode cX8_peopleBits 0 = .ok (.iconst 0, 1) := by decide +kernel
theorem dX8_peopleBits_1 : decode cX8_peopleBits 1 = .ok (.istore_n 1, 1) := by decide +kernel
theorem dX8_peopleBits_2 : decode cX8_peopleBits 2 = .ok (.iconst 0, 1) := by decide +kernel
theorem dX8_peopleBits_3 : decode cX8_peopleBits 3 = .ok (.istore_n 2, 1) := by decide +kernel
theorem dX8_peopleBits_4 : decode cX8_peopleBits 4 = .ok (.iload_n 2, 1) := by decide +kernel
theorem dX8_peopleBits_5 : decode cX8_peopleBits 5 = .ok (.aload_n 0, 1) := by decide +kernel
theorem dX8_peopleBits_6 : decode cX8_peopleBits 6 = .ok (.getfield 28, 3) := by decide +kernel
theorem dX8_peopleBits_9 : decode cX8_peopleBits 9 = .ok (.if_icmp .ge 24, 3) := by decide +kernel
theorem dX8_peopleBits_12 : decode cX8_peopleBits 12 = .ok (.aload_n 0, 1) := by decide +kernel
theorem dX8_peopleBits_13 : decode cX8_peopleBits 13 = .ok (.iload_n 2, 1) := by decide +kernel
theorem dX8_peopleBits_14 : decode cX8_peopleBits 14 = .ok (.iconst 3, 1) := by decide +kernel
theorem dX8_peopleBits_15 : decode cX8_peopleBits 15 = .ok (.invokevirtual 52, 3) := by decide +kernel
theorem dX8_peopleBits_18 : decode cX8_peopleBits 18 = .ok (.ifCond .eq 9, 3) := by decide +kernel
theorem dX8_peopleBits_21 : decode cX8_peopleBits 21 = .ok (.iload_n 1, 1) := by decide +kernel
theorem dX8_peopleBits_22 : decode cX8_peopleBits 22 = .ok (.iconst 1, 1) := by decide +kernel
theorem dX8_peopleBits_23 : decode cX8_peopleBits 23 = .ok (.iload_n 2, 1) := by decide +kernel
theorem dX8_peopleBits_24 : decode cX8_peopleBits 24 = .ok (.ishl, 1) := by decide +kernel
theorem dX8_peopleBits_25 : decode cX8_peopleBits 25 = .ok (.ior, 1) := by decide +kernel
theorem dX8_peopleBits_26 : decode cX8_peopleBits 26 = .ok (.istore_n 1, 1) := by decide +kernel
theorem dX8_peopleBits_27 : decode cX8_peopleBits 27 = .ok (.iinc 2 1, 3) := by decide +kernel
theorem dX8_peopleBits_30 : decode cX8_peopleBits 30 = .ok (.goto (-26), 3) := by decide +kernel
theorem dX8_peopleBits_33 : decode cX8_peopleBits 33 = .ok (.iload_n 1, 1) := by decide +kernel
theorem dX8_peopleBits_34 : decode cX8_peopleBits 34 = .ok (.ireturn, 1) := by decide +kernel
theorem dX8_place_0 : decode cX8_place 0 = .ok (.aload_n 0, 1) := by decide +kernel
theorem dX8_place_1 : decode cX8_place 1 = .ok (.iload_n 1, 1) := by decide +kernel
theorem dX8_place_2 : decode cX8_place 2 = .ok (.invokevirtual 35, 3) := by decide +kernel
theorem dX8_place_5 : decode cX8_place 5 = .ok (.ifCond .eq 24, 3) := by decide +kernel
theorem dX8_place_8 : decode cX8_place 8 = .ok (.iload_n 2, 1) := by decide +kernel
theorem dX8_place_9 : decode cX8_place 9 = .ok (.invokestatic 56, 3) := by decide +kernel
theorem dX8_place_12 : decode cX8_place 12 = .ok (.ifCond .eq 17, 3) := by decide +kernel
theorem dX8_place_15 : decode cX8_place 15 = .ok (.aload_n 0, 1) := by decide +kernel
theorem dX8_place_16 : decode cX8_place 16 = .ok (.getfield 18, 3) := by decide +kernel
theorem dX8_place_19 : decode cX8_place 19 = .ok (.iload_n 1, 1) := by decide +kernel
theorem dX8_place_20 : decode cX8_place 20 = .ok (.bipush 8, 2) := by decide +kernel
theorem dX8_place_22 : decode cX8_place 22 = .ok (.imul, 1) := by decide +kernel
theorem dX8_place_23 : decode cX8_place 23 = .ok (.iload_n 2, 1) := by decide +kernel
theorem dX8_place_24 : decode cX8_place 24 = .ok (.iadd, 1) := by decide +kernel
theorem dX8_place_25 : decode cX8_place 25 = .ok (.iaload, 1) := by decide +kernel
theorem dX8_place_26 : decode cX8_place 26 = .ok (.goto 4, 3) := by decide +kernel
theorem dX8_place_29 : decode cX8_place 29 = .ok (.iconst (-1), 1) := by decide +kernel
theorem dX8_place_30 : decode cX8_place 30 = .ok (.ireturn, 1) := by decide +kernel
theorem dX8_move_0 : decode cX8_move 0 = .ok (.aload_n 0, 1) := by decide +kernel
theorem dX8_move_1 : decode cX8_move 1 = .ok (.iload_n 1, 1) := by decide +kernel
theorem dX8_move_2 : decode cX8_move 2 = .ok (.invokevirtual 35, 3) := by decide +kernel
theorem dX8_move_5 : decode cX8_move 5 = .ok (.ifCond .eq 22, 3) := by decide +kernel
theorem dX8_move_8 : decode cX8_move 8 = .ok (.iload_n 2, 1) := by decide +kernel
theorem dX8_move_9 : decode cX8_move 9 = .ok (.invokestatic 56, 3) := by decide +kernel
theorem dX8_move_12 : decode cX8_move 12 = .ok (.ifCond .eq 15, 3) := by decide +kernel
theorem dX8_move_15 : decode cX8_move 15 = .ok (.aload_n 0, 1) := by decide +kernel
theorem dX8_move_16 : decode cX8_move 16 = .ok (.getfield 18, 3) := by decide +kernel
theorem dX8_move_19 : decode cX8_move 19 = .ok (.iload_n 1, 1) := by decide +kernel
theorem dX8_move_20 : decode cX8_move 20 = .ok (.bipush 8, 2) := by decide +kernel
theorem dX8_move_22 : decode cX8_move 22 = .ok (.imul, 1) := by decide +kernel
theorem dX8_move_23 : decode cX8_move 23 = .ok (.iload_n 2, 1) := by decide +kernel
theorem dX8_move_24 : decode cX8_move 24 = .ok (.iadd, 1) := by decide +kernel
theorem dX8_move_25 : decode cX8_move 25 = .ok (.iload_n 3, 1) := by decide +kernel
theorem dX8_move_26 : decode cX8_move 26 = .ok (.iastore, 1) := by decide +kernel
theorem dX8_move_27 : decode cX8_move 27 = .ok (.return_, 1) := by decide +kernel
theorem dX8_moveAllDay_0 : decode cX8_moveAllDay 0 = .ok (.iconst 0, 1) := by decide +kernel
theorem dX8_moveAllDay_1 : decode cX8_moveAllDay 1 = .ok (.istore_n 3, 1) := by decide +kernel
theorem dX8_moveAllDay_2 : decode cX8_moveAllDay 2 = .ok (.iload_n 3, 1) := by decide +kernel
theorem dX8_moveAllDay_3 : decode cX8_moveAllDay 3 = .ok (.bipush 8, 2) := by decide +kernel
theorem dX8_moveAllDay_5 : decode cX8_moveAllDay 5 = .ok (.if_icmp .ge 16, 3) := by decide +kernel
theorem dX8_moveAllDay_8 : decode cX8_moveAllDay 8 = .ok (.aload_n 0, 1) := by decide +kernel
theorem dX8_moveAllDay_9 : decode cX8_moveAllDay 9 = .ok (.iload_n 1, 1) := by decide +kernel
theorem dX8_moveAllDay_10 : decode cX8_moveAllDay 10 = .ok (.iload_n 3, 1) := by decide +kernel
theorem dX8_moveAllDay_11 : decode cX8_moveAllDay 11 = .ok (.iload_n 2, 1) := by decide +kernel
theorem dX8_moveAllDay_12 : decode cX8_moveAllDay 12 = .ok (.invokevirtual 59, 3) := by decide +kernel
theorem dX8_moveAllDay_15 : decode cX8_moveAllDay 15 = .ok (.iinc 3 1, 3) := by decide +kernel
theorem dX8_moveAllDay_18 : decode cX8_moveAllDay 18 = .ok (.goto (-16), 3) := by decide +kernel
theorem dX8_moveAllDay_21 : decode cX8_moveAllDay 21 = .ok (.return_, 1) := by decide +kernel
theorem dX8_keep_0 : decode cX8_keep 0 = .ok (.aload_n 0, 1) := by decide +kernel
theorem dX8_keep_1 : decode cX8_keep 1 = .ok (.getfield 18, 3) := by decide +kernel
theorem dX8_keep_4 : decode cX8_keep 4 = .ok (.iconst 0, 1) := by decide +kernel
theorem dX8_keep_5 : decode cX8_keep 5 = .ok (.aload_n 0, 1) := by decide +kernel
theorem dX8_keep_6 : decode cX8_keep 6 = .ok (.getfield 21, 3) := by decide +kernel
theorem dX8_keep_9 : decode cX8_keep 9 = .ok (.iconst 0, 1) := by decide +kernel
theorem dX8_keep_10 : decode cX8_keep 10 = .ok (.bipush 64, 2) := by decide +kernel
theorem dX8_keep_12 : decode cX8_keep 12 = .ok (.invokestatic 63, 3) := by decide +kernel
theorem dX8_keep_15 : decode cX8_keep 15 = .ok (.aload_n 0, 1) := by decide +kernel
theorem dX8_keep_16 : decode cX8_keep 16 = .ok (.aload_n 0, 1) := by decide +kernel
theorem dX8_keep_17 : decode cX8_keep 17 = .ok (.getfield 28, 3) := by decide +kernel
theorem dX8_keep_20 : decode cX8_keep 20 = .ok (.putfield 24, 3) := by decide +kernel
theorem dX8_keep_23 : decode cX8_keep 23 = .ok (.return_, 1) := by decide +kernel
theorem dX8_isKept_0 : decode cX8_isKept 0 = .ok (.aload_n 0, 1) := by decide +kernel
theorem dX8_isKept_1 : decode cX8_isKept 1 = .ok (.getfield 24, 3) := by decide +kernel
theorem dX8_isKept_4 : decode cX8_isKept 4 = .ok (.iconst (-1), 1) := by decide +kernel
theorem dX8_isKept_5 : decode cX8_isKept 5 = .ok (.if_icmp .eq 7, 3) := by decide +kernel
theorem dX8_isKept_8 : decode cX8_isKept 8 = .ok (.iconst 1, 1) := by decide +kernel
theorem dX8_isKept_9 : decode cX8_isKept 9 = .ok (.goto 4, 3) := by decide +kernel
theorem dX8_isKept_12 : decode cX8_isKept 12 = .ok (.iconst 0, 1) := by decide +kernel
theorem dX8_isKept_13 : decode cX8_isKept 13 = .ok (.ireturn, 1) := by decide +kernel
theorem dX8_goBack_0 : decode cX8_goBack 0 = .ok (.aload_n 0, 1) := by decide +kernel
theorem dX8_goBack_1 : decode cX8_goBack 1 = .ok (.getfield 21, 3) := by decide +kernel
theorem dX8_goBack_4 : decode cX8_goBack 4 = .ok (.iconst 0, 1) := by decide +kernel
theorem dX8_goBack_5 : decode cX8_goBack 5 = .ok (.aload_n 0, 1) := by decide +kernel
theorem dX8_goBack_6 : decode cX8_goBack 6 = .ok (.getfield 18, 3) := by decide +kernel
theorem dX8_goBack_9 : decode cX8_goBack 9 = .ok (.iconst 0, 1) := by decide +kernel
theorem dX8_goBack_10 : decode cX8_goBack 10 = .ok (.bipush 64, 2) := by decide +kernel
theorem dX8_goBack_12 : decode cX8_goBack 12 = .ok (.invokestatic 63, 3) := by decide +kernel
theorem dX8_goBack_15 : decode cX8_goBack 15 = .ok (.aload_n 0, 1) := by decide +kernel
theorem dX8_goBack_16 : decode cX8_goBack 16 = .ok (.aload_n 0, 1) := by decide +kernel
theorem dX8_goBack_17 : decode cX8_goBack 17 = .ok (.getfield 24, 3) := by decide +kernel
theorem dX8_goBack_20 : decode cX8_goBack 20 = .ok (.putfield 28, 3) := by decide +kernel
theorem dX8_goBack_23 : decode cX8_goBack 23 = .ok (.return_, 1) := by decide +kernel
theorem dX9_init_0 : decode cX9_init 0 = .ok (.aload_n 0, 1) := by decide +kernel
theorem dX9_init_1 : decode cX9_init 1 = .ok (.invokespecial 3, 3) := by decide +kernel
theorem dX9_init_4 : decode cX9_init 4 = .ok (.aload_n 0, 1) := by decide +kernel
theorem dX9_init_5 : decode cX9_init 5 = .ok (.bipush 6, 2) := by decide +kernel
theorem dX9_init_7 : decode cX9_init 7 = .ok (.newarray .int, 2) := by decide +kernel
theorem dX9_init_9 : decode cX9_init 9 = .ok (.putfield 9, 3) := by decide +kernel
theorem dX9_init_12 : decode cX9_init 12 = .ok (.aload_n 0, 1) := by decide +kernel
theorem dX9_init_13 : decode cX9_init 13 = .ok (.bipush 6, 2) := by decide +kernel
theorem dX9_init_15 : decode cX9_init 15 = .ok (.newarray .int, 2) := by decide +kernel
theorem dX9_init_17 : decode cX9_init 17 = .ok (.putfield 15, 3) := by decide +kernel
theorem dX9_init_20 : decode cX9_init 20 = .ok (.aload_n 0, 1) := by decide +kernel
theorem dX9_init_21 : decode cX9_init 21 = .ok (.bipush 6, 2) := by decide +kernel
theorem dX9_init_23 : decode cX9_init 23 = .ok (.newarray .int, 2) := by decide +kernel
theorem dX9_init_25 : decode cX9_init 25 = .ok (.putfield 18, 3) := by decide +kernel
theorem dX9_init_28 : decode cX9_init 28 = .ok (.aload_n 0, 1) := by decide +kernel
theorem dX9_init_29 : decode cX9_init 29 = .ok (.bipush 6, 2) := by decide +kernel
theorem dX9_init_31 : decode cX9_init 31 = .ok (.newarray .int, 2) := by decide +kernel
theorem dX9_init_33 : decode cX9_init 33 = .ok (.putfield 21, 3) := by decide +kernel
theorem dX9_init_36 : decode cX9_init 36 = .ok (.aload_n 0, 1) := by decide +kernel
theorem dX9_init_37 : decode cX9_init 37 = .ok (.aload_n 1, 1) := by decide +kernel
theorem dX9_init_38 : decode cX9_init 38 = .ok (.putfield 24, 3) := by decide +kernel
theorem dX9_init_41 : decode cX9_init 41 = .ok (.aload_n 0, 1) := by decide +kernel
theorem dX9_init_42 : decode cX9_init 42 = .ok (.aload_n 2, 1) := by decide +kernel
theorem dX9_init_43 : decode cX9_init 43 = .ok (.putfield 28, 3) := by decide +kernel
theorem dX9_init_46 : decode cX9_init 46 = .ok (.aload_n 0, 1) := by decide +kernel
theorem dX9_init_47 : decode cX9_init 47 = .ok (.aload_n 3, 1) := by decide +kernel
theorem dX9_init_48 : decode cX9_init 48 = .ok (.putfield 32, 3) := by decide +kernel
theorem dX9_init_51 : decode cX9_init 51 = .ok (.return_, 1) := by decide +kernel
theorem dX9_wetDoors_0 : decode cX9_wetDoors 0 = .ok (.aload_n 0, 1) := by decide +kernel
theorem dX9_wetDoors_1 : decode cX9_wetDoors 1 = .ok (.getfield 36, 3) := by decide +kernel
theorem dX9_wetDoors_4 : decode cX9_wetDoors 4 = .ok (.ireturn, 1) := by decide +kernel
theorem dX9_elsewhere_0 : decode cX9_elsewhere 0 = .ok (.aload_n 0, 1) := by decide +kernel
theorem dX9_elsewhere_1 : decode cX9_elsewhere 1 = .ok (.getfield 40, 3) := by decide +kernel
theorem dX9_elsewhere_4 : decode cX9_elsewhere 4 = .ok (.ireturn, 1) := by decide +kernel
theorem dX9_placeOf_0 : decode cX9_placeOf 0 = .ok (.iconst 0, 1) := by decide +kernel
theorem dX9_placeOf_1 : decode cX9_placeOf 1 = .ok (.istore_n 2, 1) := by decide +kernel
theorem dX9_placeOf_2 : decode cX9_placeOf 2 = .ok (.iload_n 2, 1) := by decide +kernel
theorem dX9_placeOf_3 : decode cX9_placeOf 3 = .ok (.aload_n 0, 1) := by decide +kernel
theorem dX9_placeOf_4 : decode cX9_placeOf 4 = .ok (.getfield 43, 3) := by decide +kernel
theorem dX9_placeOf_7 : decode cX9_placeOf 7 = .ok (.if_icmp .ge 26, 3) := by decide +kernel
theorem dX9_placeOf_10 : decode cX9_placeOf 10 = .ok (.aload_n 0, 1) := by decide +kernel
theorem dX9_placeOf_11 : decode cX9_placeOf 11 = .ok (.getfield 9, 3) := by decide +kernel
theorem dX9_placeOf_14 : decode cX9_placeOf 14 = .ok (.iload_n 2, 1) := by decide +kernel
theorem dX9_placeOf_15 : decode cX9_placeOf 15 = .ok (.iaload, 1) := by decide +kernel
theorem dX9_placeOf_16 : decode cX9_placeOf 16 = .ok (.iload_n 1, 1) := by decide +kernel
theorem dX9_placeOf_17 : decode cX9_placeOf 17 = .ok (.if_icmp .ne 10, 3) := by decide +kernel
theorem dX9_placeOf_20 : decode cX9_placeOf 20 = .ok (.aload_n 0, 1) := by decide +kernel
theorem dX9_placeOf_21 : decode cX9_placeOf 21 = .ok (.getfield 21, 3) := by decide +kernel
theorem dX9_placeOf_24 : decode cX9_placeOf 24 = .ok (.iload_n 2, 1) := by decide +kernel
theorem dX9_placeOf_25 : decode cX9_placeOf 25 = .ok (.iaload, 1) := by decide +kernel
theorem dX9_placeOf_26 : decode cX9_placeOf 26 = .ok (.ireturn, 1) := by decide +kernel
theorem dX9_placeOf_27 : decode cX9_placeOf 27 = .ok (.iinc 2 1, 3) := by decide +kernel
theorem dX9_placeOf_30 : decode cX9_placeOf 30 = .ok (.goto (-28), 3) := by decide +kernel
theorem dX9_placeOf_33 : decode cX9_placeOf 33 = .ok (.iconst (-1), 1) := by decide +kernel
theorem dX9_placeOf_34 : decode cX9_placeOf 34 = .ok (.ireturn, 1) := by decide +kernel
theorem dX9_search_0 : decode cX9_search 0 = .ok (.aload_n 0, 1) := by decide +kernel
theorem dX9_search_1 : decode cX9_search 1 = .ok (.iconst 0, 1) := by decide +kernel
theorem dX9_search_2 : decode cX9_search 2 = .ok (.putfield 43, 3) := by decide +kernel
theorem dX9_search_5 : decode cX9_search 5 = .ok (.aload_n 0, 1) := by decide +kernel
theorem dX9_search_6 : decode cX9_search 6 = .ok (.iconst 0, 1) := by decide +kernel
theorem dX9_search_7 : decode cX9_search 7 = .ok (.putfield 46, 3) := by decide +kernel
theorem dX9_search_10 : decode cX9_search 10 = .ok (.aload_n 0, 1) := by decide +kernel
theorem dX9_search_11 : decode cX9_search 11 = .ok (.getfield 32, 3) := by decide +kernel
theorem dX9_search_14 : decode cX9_search 14 = .ok (.iload_n 1, 1) := by decide +kernel
theorem dX9_search_15 : decode cX9_search 15 = .ok (.invokevirtual 50, 3) := by decide +kernel
theorem dX9_search_18 : decode cX9_search 18 = .ok (.istore_n 2, 1) := by decide +kernel
theorem dX9_search_19 : decode cX9_search 19 = .ok (.aload_n 0, 1) := by decide +kernel
theorem dX9_search_20 : decode cX9_search 20 = .ok (.getfield 32, 3) := by decide +kernel
theorem dX9_search_23 : decode cX9_search 23 = .ok (.iload_n 1, 1) := by decide +kernel
theorem dX9_search_24 : decode cX9_search 24 = .ok (.invokevirtual 56, 3) := by decide +kernel
theorem dX9_search_27 : decode cX9_search 27 = .ok (.istore_n 3, 1) := by decide +kernel
theorem dX9_search_28 : decode cX9_search 28 = .ok (.iconst 0, 1) := by decide +kernel
theorem dX9_search_29 : decode cX9_search 29 = .ok (.istore 4, 2) := by decide +kernel
theorem dX9_search_31 : decode cX9_search 31 = .ok (.iload 4, 2) := by decide +kernel
theorem dX9_search_33 : decode cX9_search 33 = .ok (.aload_n 0, 1) := by decide +kernel
theorem dX9_search_34 : decode cX9_search 34 = .ok (.getfield 28, 3) := by decide +kernel
theorem dX9_search_37 : decode cX9_search 37 = .ok (.invokevirtual 59, 3) := by decide +kernel
theorem dX9_search_40 : decode cX9_search 40 = .ok (.if_icmp .ge 129, 3) := by decide +kernel
theorem dX9_search_43 : decode cX9_search 43 = .ok (.aload_n 0, 1) := by decide +kernel
theorem dX9_search_44 : decode cX9_search 44 = .ok (.getfield 28, 3) := by decide +kernel
theorem dX9_search_47 : decode cX9_search 47 = .ok (.iload 4, 2) := by decide +kernel
theorem dX9_search_49 : decode cX9_search 49 = .ok (.iconst 3, 1) := by decide +kernel
theorem dX9_search_50 : decode cX9_search 50 = .ok (.invokevirtual 64, 3) := by decide +kernel
theorem dX9_search_53 : decode cX9_search 53 = .ok (.ifCond .eq 110, 3) := by decide +kernel
theorem dX9_search_56 : decode cX9_search 56 = .ok (.aload_n 0, 1) := by decide +kernel
theorem dX9_search_57 : decode cX9_search 57 = .ok (.getfield 43, 3) := by decide +kernel
theorem dX9_search_60 : decode cX9_search 60 = .ok (.bipush 6, 2) := by decide +kernel
theorem dX9_search_62 : decode cX9_search 62 = .ok (.if_icmp .ge 101, 3) := by decide +kernel
theorem dX9_search_65 : decode cX9_search 65 = .ok (.aload_n 0, 1) := by decide +kernel
theorem dX9_search_66 : decode cX9_search 66 = .ok (.getfield 9, 3) := by decide +kernel
theorem dX9_search_69 : decode cX9_search 69 = .ok (.aload_n 0, 1) := by decide +kernel
theorem dX9_search_70 : decode cX9_search 70 = .ok (.getfield 43, 3) := by decide +kernel
theorem dX9_search_73 : decode cX9_search 73 = .ok (.iload 4, 2) := by decide +kernel
theorem dX9_search_75 : decode cX9_search 75 = .ok (.iastore, 1) := by decide +kernel
theorem dX9_search_76 : decode cX9_search 76 = .ok (.aload_n 0, 1) := by decide +kernel
theorem dX9_search_77 : decode cX9_search 77 = .ok (.getfield 15, 3) := by decide +kernel
theorem dX9_search_80 : decode cX9_search 80 = .ok (.aload_n 0, 1) := by decide +kernel
theorem dX9_search_81 : decode cX9_search 81 = .ok (.getfield 43, 3) := by decide +kernel
theorem dX9_search_84 : decode cX9_search 84 = .ok (.aload_n 0, 1) := by decide +kernel
theorem dX9_search_85 : decode cX9_search 85 = .ok (.getfield 28, 3) := by decide +kernel
theorem dX9_search_88 : decode cX9_search 88 = .ok (.iload 4, 2) := by decide +kernel
theorem dX9_search_90 : decode cX9_search 90 = .ok (.iload_n 1, 1) := by decide +kernel
theorem dX9_search_91 : decode cX9_search 91 = .ok (.invokevirtual 68, 3) := by decide +kernel
theorem dX9_search_94 : decode cX9_search 94 = .ok (.iastore, 1) := by decide +kernel
theorem dX9_search_95 : decode cX9_search 95 = .ok (.iload_n 2, 1) := by decide +kernel
theorem dX9_search_96 : decode cX9_search 96 = .ok (.aload_n 0, 1) := by decide +kernel
theorem dX9_search_97 : decode cX9_search 97 = .ok (.getfield 28, 3) := by decide +kernel
theorem dX9_search_100 : decode cX9_search 100 = .ok (.iload 4, 2) := by decide +kernel
theorem dX9_search_102 : decode cX9_search 102 = .ok (.invokevirtual 72, 3) := by decide +kernel
theorem dX9_search_105 : decode cX9_search 105 = .ok (.aload_n 0, 1) := by decide +kernel
theorem dX9_search_106 : decode cX9_search 106 = .ok (.getfield 24, 3) := by decide +kernel
theorem dX9_search_109 : decode cX9_search 109 = .ok (.aload_n 0, 1) := by decide +kernel
theorem dX9_search_110 : decode cX9_search 110 = .ok (.getfield 15, 3) := by decide +kernel
theorem dX9_search_113 : decode cX9_search 113 = .ok (.aload_n 0, 1) := by decide +kernel
theorem dX9_search_114 : decode cX9_search 114 = .ok (.getfield 43, 3) := by decide +kernel
theorem dX9_search_117 : decode cX9_search 117 = .ok (.iaload, 1) := by decide +kernel
theorem dX9_search_118 : decode cX9_search 118 = .ok (.invokevirtual 75, 3) := by decide +kernel
theorem dX9_search_121 : decode cX9_search 121 = .ok (.imul, 1) := by decide +kernel
theorem dX9_search_122 : decode cX9_search 122 = .ok (.isub, 1) := by decide +kernel
theorem dX9_search_123 : decode cX9_search 123 = .ok (.istore_n 2, 1) := by decide +kernel
theorem dX9_search_124 : decode cX9_search 124 = .ok (.iload_n 3, 1) := by decide +kernel
theorem dX9_search_125 : decode cX9_search 125 = .ok (.aload_n 0, 1) := by decide +kernel
theorem dX9_search_126 : decode cX9_search 126 = .ok (.getfield 28, 3) := by decide +kernel
theorem dX9_search_129 : decode cX9_search 129 = .ok (.iload 4, 2) := by decide +kernel
theorem dX9_search_131 : decode cX9_search 131 = .ok (.invokevirtual 72, 3) := by decide +kernel
theorem dX9_search_134 : decode cX9_search 134 = .ok (.aload_n 0, 1) := by decide +kernel
theorem dX9_search_135 : decode cX9_search 135 = .ok (.getfield 24, 3) := by decide +kernel
theorem dX9_search_138 : decode cX9_search 138 = .ok (.aload_n 0, 1) := by decide +kernel
theorem dX9_search_139 : decode cX9_search 139 = .ok (.getfield 15, 3) := by decide +kernel
theorem dX9_search_142 : decode cX9_search 142 = .ok (.aload_n 0, 1) := by decide +kernel
theorem dX9_search_143 : decode cX9_search 143 = .ok (.getfield 43, 3) := by decide +kernel
theorem dX9_search_146 : decode cX9_search 146 = .ok (.iaload, 1) := by decide +kernel
theorem dX9_search_147 : decode cX9_search 147 = .ok (.invokevirtual 80, 3) := by decide +kernel
theorem dX9_search_150 : decode cX9_search 150 = .ok (.imul, 1) := by decide +kernel
theorem dX9_search_151 : decode cX9_search 151 = .ok (.isub, 1) := by decide +kernel
theorem dX9_search_152 : decode cX9_search 152 = .ok (.istore_n 3, 1) := by decide +kernel
theorem dX9_search_153 : decode cX9_search 153 = .ok (.aload_n 0, 1) := by decide +kernel
theorem dX9_search_154 : decode cX9_search 154 = .ok (.dup, 1) := by decide +kernel
theorem dX9_search_155 : decode cX9_search 155 = .ok (.getfield 43, 3) := by decide +kernel
theorem dX9_search_158 : decode cX9_search 158 = .ok (.iconst 1, 1) := by decide +kernel
theorem dX9_search_159 : decode cX9_search 159 = .ok (.iadd, 1) := by decide +kernel
theorem dX9_search_160 : decode cX9_search 160 = .ok (.putfield 43, 3) := by decide +kernel
theorem dX9_search_163 : decode cX9_search 163 = .ok (.iinc 4 1, 3) := by decide +kernel
theorem dX9_search_166 : decode cX9_search 166 = .ok (.goto (-135), 3) := by decide +kernel
theorem dX9_search_169 : decode cX9_search 169 = .ok (.aload_n 0, 1) := by decide +kernel
theorem dX9_search_170 : decode cX9_search 170 = .ok (.iconst 0, 1) := by decide +kernel
theorem dX9_search_171 : decode cX9_search 171 = .ok (.iconst 0, 1) := by decide +kernel
theorem dX9_search_172 : decode cX9_search 172 = .ok (.iload_n 2, 1) := by decide +kernel
theorem dX9_search_173 : decode cX9_search 173 = .ok (.iload_n 3, 1) := by decide +kernel
theorem dX9_search_174 : decode cX9_search 174 = .ok (.iconst 0, 1) := by decide +kernel
theorem dX9_search_175 : decode cX9_search 175 = .ok (.invokevirtual 83, 3) := by decide +kernel
theorem dX9_search_178 : decode cX9_search 178 = .ok (.return_, 1) := by decide +kernel
theorem dX9_takeSquares_0 : decode cX9_takeSquares 0 = .ok (.iload_n 1, 1) := by decide +kernel
theorem dX9_takeSquares_1 : decode cX9_takeSquares 1 = .ok (.aload_n 0, 1) := by decide +kernel
theorem dX9_takeSquares_2 : decode cX9_takeSquares 2 = .ok (.getfield 43, 3) := by decide +kernel
theorem dX9_takeSquares_5 : decode cX9_takeSquares 5 = .ok (.if_icmp .ge 9, 3) := by decide +kernel
theorem dX9_takeSquares_8 : decode cX9_takeSquares 8 = .ok (.iload_n 1, 1) := by decide +kernel
theorem dX9_takeSquares_9 : decode cX9_takeSquares 9 = .ok (.bipush 6, 2) := by decide +kernel
theorem dX9_takeSquares_11 : decode cX9_takeSquares 11 = .ok (.if_icmp .lt 13, 3) := by decide +kernel
theorem dX9_takeSquares_14 : decode cX9_takeSquares 14 = .ok (.aload_n 0, 1) := by decide +kernel
theorem dX9_takeSquares_15 : decode cX9_takeSquares 15 = .ok (.iload_n 3, 1) := by decide +kernel
theorem dX9_takeSquares_16 : decode cX9_takeSquares 16 = .ok (.iload 4, 2) := by decide +kernel
theorem dX9_takeSquares_18 : decode cX9_takeSquares 18 = .ok (.iload 5, 2) := by decide +kernel
theorem dX9_takeSquares_20 : decode cX9_takeSquares 20 = .ok (.invokevirtual 87, 3) := by decide +kernel
theorem dX9_takeSquares_23 : decode cX9_takeSquares 23 = .ok (.return_, 1) := by decide +kernel
theorem dX9_takeSquares_24 : decode cX9_takeSquares 24 = .ok (.aload_n 0, 1) := by decide +kernel
theorem dX9_takeSquares_25 : decode cX9_takeSquares 25 = .ok (.getfield 28, 3) := by decide +kernel
theorem dX9_takeSquares_28 : decode cX9_takeSquares 28 = .ok (.aload_n 0, 1) := by decide +kernel
theorem dX9_takeSquares_29 : decode cX9_takeSquares 29 = .ok (.getfield 9, 3) := by decide +kernel
theorem dX9_takeSquares_32 : decode cX9_takeSquares 32 = .ok (.iload_n 1, 1) := by decide +kernel
theorem dX9_takeSquares_33 : decode cX9_takeSquares 33 = .ok (.iaload, 1) := by decide +kernel
theorem dX9_takeSquares_34 : decode cX9_takeSquares 34 = .ok (.invokevirtual 72, 3) := by decide +kernel
theorem dX9_takeSquares_37 : decode cX9_takeSquares 37 = .ok (.istore 6, 2) := by decide +kernel
theorem dX9_takeSquares_39 : decode cX9_takeSquares 39 = .ok (.iconst 0, 1) := by decide +kernel
theorem dX9_takeSquares_40 : decode cX9_takeSquares 40 = .ok (.istore 7, 2) := by decide +kernel
theorem dX9_takeSquares_42 : decode cX9_takeSquares 42 = .ok (.iload 7, 2) := by decide +kernel
theorem dX9_takeSquares_44 : decode cX9_takeSquares 44 = .ok (.aload_n 0, 1) := by decide +kernel
theorem dX9_takeSquares_45 : decode cX9_takeSquares 45 = .ok (.getfield 43, 3) := by decide +kernel
theorem dX9_takeSquares_48 : decode cX9_takeSquares 48 = .ok (.if_icmp .ge 99, 3) := by decide +kernel
theorem dX9_takeSquares_51 : decode cX9_takeSquares 51 = .ok (.iconst 1, 1) := by decide +kernel
theorem dX9_takeSquares_52 : decode cX9_takeSquares 52 = .ok (.iload 7, 2) := by decide +kernel
theorem dX9_takeSquares_54 : decode cX9_takeSquares 54 = .ok (.ishl, 1) := by decide +kernel
theorem dX9_takeSquares_55 : decode cX9_takeSquares 55 = .ok (.istore 8, 2) := by decide +kernel
theorem dX9_takeSquares_57 : decode cX9_takeSquares 57 = .ok (.iload_n 2, 1) := by decide +kernel
theorem dX9_takeSquares_58 : decode cX9_takeSquares 58 = .ok (.iload 8, 2) := by decide +kernel
theorem dX9_takeSquares_60 : decode cX9_takeSquares 60 = .ok (.iand, 1) := by decide +kernel
theorem dX9_takeSquares_61 : decode cX9_takeSquares 61 = .ok (.ifCond .ne 80, 3) := by decide +kernel
theorem dX9_takeSquares_64 : decode cX9_takeSquares 64 = .ok (.aload_n 0, 1) := by decide +kernel
theorem dX9_takeSquares_65 : decode cX9_takeSquares 65 = .ok (.getfield 15, 3) := by decide +kernel
theorem dX9_takeSquares_68 : decode cX9_takeSquares 68 = .ok (.iload 7, 2) := by decide +kernel
theorem dX9_takeSquares_70 : decode cX9_takeSquares 70 = .ok (.iaload, 1) := by decide +kernel
theorem dX9_takeSquares_71 : decode cX9_takeSquares 71 = .ok (.istore 9, 2) := by decide +kernel
theorem dX9_takeSquares_73 : decode cX9_takeSquares 73 = .ok (.aload_n 0, 1) := by decide +kernel
theorem dX9_takeSquares_74 : decode cX9_takeSquares 74 = .ok (.getfield 18, 3) := by decide +kernel
theorem dX9_takeSquares_77 : decode cX9_takeSquares 77 = .ok (.iload_n 1, 1) := by decide +kernel
theorem dX9_takeSquares_78 : decode cX9_takeSquares 78 = .ok (.iload 9, 2) := by decide +kernel
theorem dX9_takeSquares_80 : decode cX9_takeSquares 80 = .ok (.iastore, 1) := by decide +kernel
theorem dX9_takeSquares_81 : decode cX9_takeSquares 81 = .ok (.aload_n 0, 1) := by decide +kernel
theorem dX9_takeSquares_82 : decode cX9_takeSquares 82 = .ok (.iload_n 1, 1) := by decide +kernel
theorem dX9_takeSquares_83 : decode cX9_takeSquares 83 = .ok (.iconst 1, 1) := by decide +kernel
theorem dX9_takeSquares_84 : decode cX9_takeSquares 84 = .ok (.iadd, 1) := by decide +kernel
theorem dX9_takeSquares_85 : decode cX9_takeSquares 85 = .ok (.iload_n 2, 1) := by decide +kernel
theorem dX9_takeSquares_86 : decode cX9_takeSquares 86 = .ok (.iload 8, 2) := by decide +kernel
theorem dX9_takeSquares_88 : decode cX9_takeSquares 88 = .ok (.ior, 1) := by decide +kernel
theorem dX9_takeSquares_89 : decode cX9_takeSquares 89 = .ok (.iload_n 3, 1) := by decide +kernel
theorem dX9_takeSquares_90 : decode cX9_takeSquares 90 = .ok (.iload 6, 2) := by decide +kernel
theorem dX9_takeSquares_92 : decode cX9_takeSquares 92 = .ok (.aload_n 0, 1) := by decide +kernel
theorem dX9_takeSquares_93 : decode cX9_takeSquares 93 = .ok (.getfield 24, 3) := by decide +kernel
theorem dX9_takeSquares_96 : decode cX9_takeSquares 96 = .ok (.iload 9, 2) := by decide +kernel
theorem dX9_takeSquares_98 : decode cX9_takeSquares 98 = .ok (.invokevirtual 75, 3) := by decide +kernel
theorem dX9_takeSquares_101 : decode cX9_takeSquares 101 = .ok (.imul, 1) := by decide +kernel
theorem dX9_takeSquares_102 : decode cX9_takeSquares 102 = .ok (.iadd, 1) := by decide +kernel
theorem dX9_takeSquares_103 : decode cX9_takeSquares 103 = .ok (.iload 4, 2) := by decide +kernel
theorem dX9_takeSquares_105 : decode cX9_takeSquares 105 = .ok (.iload 6, 2) := by decide +kernel
theorem dX9_takeSquares_107 : decode cX9_takeSquares 107 = .ok (.aload_n 0, 1) := by decide +kernel
theorem dX9_takeSquares_108 : decode cX9_takeSquares 108 = .ok (.getfield 24, 3) := by decide +kernel
theorem dX9_takeSquares_111 : decode cX9_takeSquares 111 = .ok (.iload 9, 2) := by decide +kernel
theorem dX9_takeSquares_113 : decode cX9_takeSquares 113 = .ok (.invokevirtual 80, 3) := by decide +kernel
theorem dX9_takeSquares_116 : decode cX9_takeSquares 116 = .ok (.imul, 1) := by decide +kernel
theorem dX9_takeSquares_117 : decode cX9_takeSquares 117 = .ok (.iadd, 1) := by decide +kernel
theorem dX9_takeSquares_118 : decode cX9_takeSquares 118 = .ok (.iload 9, 2) := by decide +kernel
theorem dX9_takeSquares_120 : decode cX9_takeSquares 120 = .ok (.aload_n 0, 1) := by decide +kernel
theorem dX9_takeSquares_121 : decode cX9_takeSquares 121 = .ok (.getfield 15, 3) := by decide +kernel
theorem dX9_takeSquares_124 : decode cX9_takeSquares 124 = .ok (.iload_n 1, 1) := by decide +kernel
theorem dX9_takeSquares_125 : decode cX9_takeSquares 125 = .ok (.iaload, 1) := by decide +kernel
theorem dX9_takeSquares_126 : decode cX9_takeSquares 126 = .ok (.if_icmp .ne 8, 3) := by decide +kernel
theorem dX9_takeSquares_129 : decode cX9_takeSquares 129 = .ok (.iload 5, 2) := by decide +kernel
theorem dX9_takeSquares_131 : decode cX9_takeSquares 131 = .ok (.goto 7, 3) := by decide +kernel
theorem dX9_takeSquares_134 : decode cX9_takeSquares 134 = .ok (.iload 5, 2) := by decide +kernel
theorem dX9_takeSquares_136 : decode cX9_takeSquares 136 = .ok (.iconst 1, 1) := by decide +kernel
theorem dX9_takeSquares_137 : decode cX9_takeSquares 137 = .ok (.iadd, 1) := by decide +kernel
theorem dX9_takeSquares_138 : decode cX9_takeSquares 138 = .ok (.invokevirtual 83, 3) := by decide +kernel
theorem dX9_takeSquares_141 : decode cX9_takeSquares 141 = .ok (.iinc 7 1, 3) := by decide +kernel
theorem dX9_takeSquares_144 : decode cX9_takeSquares 144 = .ok (.goto (-102), 3) := by decide +kernel
theorem dX9_takeSquares_147 : decode cX9_takeSquares 147 = .ok (.return_, 1) := by decide +kernel
theorem dX9_judge_0 : decode cX9_judge 0 = .ok (.aload_n 0, 1) := by decide +kernel
theorem dX9_judge_1 : decode cX9_judge 1 = .ok (.getfield 24, 3) := by decide +kernel
theorem dX9_judge_4 : decode cX9_judge 4 = .ok (.iload_n 1, 1) := by decide +kernel
theorem dX9_judge_5 : decode cX9_judge 5 = .ok (.iload_n 2, 1) := by decide +kernel
theorem dX9_judge_6 : decode cX9_judge 6 = .ok (.invokevirtual 91, 3) := by decide +kernel
theorem dX9_judge_9 : decode cX9_judge 9 = .ok (.istore 4, 2) := by decide +kernel
theorem dX9_judge_11 : decode cX9_judge 11 = .ok (.iload 4, 2) := by decide +kernel
theorem dX9_judge_13 : decode cX9_judge 13 = .ok (.aload_n 0, 1) := by decide +kernel
theorem dX9_judge_14 : decode cX9_judge 14 = .ok (.getfield 36, 3) := by decide +kernel
theorem dX9_judge_17 : decode cX9_judge 17 = .ok (.if_icmp .lt 20, 3) := by decide +kernel
theorem dX9_judge_20 : decode cX9_judge 20 = .ok (.iload 4, 2) := by decide +kernel
theorem dX9_judge_22 : decode cX9_judge 22 = .ok (.aload_n 0, 1) := by decide +kernel
theorem dX9_judge_23 : decode cX9_judge 23 = .ok (.getfield 36, 3) := by decide +kernel
theorem dX9_judge_26 : decode cX9_judge 26 = .ok (.if_icmp .ne 15, 3) := by decide +kernel
theorem dX9_judge_29 : decode cX9_judge 29 = .ok (.iload_n 3, 1) := by decide +kernel
theorem dX9_judge_30 : decode cX9_judge 30 = .ok (.aload_n 0, 1) := by decide +kernel
theorem dX9_judge_31 : decode cX9_judge 31 = .ok (.getfield 40, 3) := by decide +kernel
theorem dX9_judge_34 : decode cX9_judge 34 = .ok (.if_icmp .ge 7, 3) := by decide +kernel
theorem dX9_judge_37 : decode cX9_judge 37 = .ok (.iconst 1, 1) := by decide +kernel
theorem dX9_judge_38 : decode cX9_judge 38 = .ok (.goto 4, 3) := by decide +kernel
theorem dX9_judge_41 : decode cX9_judge 41 = .ok (.iconst 0, 1) := by decide +kernel
theorem dX9_judge_42 : decode cX9_judge 42 = .ok (.istore 5, 2) := by decide +kernel
theorem dX9_judge_44 : decode cX9_judge 44 = .ok (.aload_n 0, 1) := by decide +kernel
theorem dX9_judge_45 : decode cX9_judge 45 = .ok (.getfield 46, 3) := by decide +kernel
theorem dX9_judge_48 : decode cX9_judge 48 = .ok (.ifCond .eq 9, 3) := by decide +kernel
theorem dX9_judge_51 : decode cX9_judge 51 = .ok (.iload 5, 2) := by decide +kernel
theorem dX9_judge_53 : decode cX9_judge 53 = .ok (.ifCond .ne 4, 3) := by decide +kernel
theorem dX9_judge_56 : decode cX9_judge 56 = .ok (.return_, 1) := by decide +kernel
theorem dX9_judge_57 : decode cX9_judge 57 = .ok (.aload_n 0, 1) := by decide +kernel
theorem dX9_judge_58 : decode cX9_judge 58 = .ok (.iconst 1, 1) := by decide +kernel
theorem dX9_judge_59 : decode cX9_judge 59 = .ok (.putfield 46, 3) := by decide +kernel
theorem dX9_judge_62 : decode cX9_judge 62 = .ok (.aload_n 0, 1) := by decide +kernel
theorem dX9_judge_63 : decode cX9_judge 63 = .ok (.iload 4, 2) := by decide +kernel
theorem dX9_judge_65 : decode cX9_judge 65 = .ok (.putfield 36, 3) := by decide +kernel
theorem dX9_judge_68 : decode cX9_judge 68 = .ok (.aload_n 0, 1) := by decide +kernel
theorem dX9_judge_69 : decode cX9_judge 69 = .ok (.iload_n 3, 1) := by decide +kernel
theorem dX9_judge_70 : decode cX9_judge 70 = .ok (.putfield 40, 3) := by decide +kernel
theorem dX9_judge_73 : decode cX9_judge 73 = .ok (.aload_n 0, 1) := by decide +kernel
theorem dX9_judge_74 : decode cX9_judge 74 = .ok (.getfield 18, 3) := by decide +kernel
theorem dX9_judge_77 : decode cX9_judge 77 = .ok (.iconst 0, 1) := by decide +kernel
theorem dX9_judge_78 : decode cX9_judge 78 = .ok (.aload_n 0, 1) := by decide +kernel
theorem dX9_judge_79 : decode cX9_judge 79 = .ok (.getfield 21, 3) := by decide +kernel
theorem dX9_judge_82 : decode cX9_judge 82 = .ok (.iconst 0, 1) := by decide +kernel
theorem dX9_judge_83 : decode cX9_judge 83 = .ok (.bipush 6, 2) := by decide +kernel
theorem dX9_judge_85 : decode cX9_judge 85 = .ok (.invokestatic 94, 3) := by decide +kernel
theorem dX9_judge_88 : decode cX9_judge 88 = .ok (.return_, 1) := by decide +kernel
theorem dJ6_bitCount_0f7a4_0 : decode cJ6_bitCount_0f7a4 0 = .ok (.iload_n 0, 1) := by decide +kernel
theorem dJ6_bitCount_0f7a4_1 : decode cJ6_bitCount_0f7a4 1 = .ok (.iload_n 0, 1) := by decide +kernel
theorem dJ6_bitCount_0f7a4_2 : decode cJ6_bitCount_0f7a4 2 = .ok (.iconst 1, 1) := by decide +kernel
theorem dJ6_bitCount_0f7a4_3 : decode cJ6_bitCount_0f7a4 3 = .ok (.iushr, 1) := by decide +kernel
theorem dJ6_bitCount_0f7a4_4 : decode cJ6_bitCount_0f7a4 4 = .ok (.ldc_w 265, 3) := by decide +kernel
theorem dJ6_bitCount_0f7a4_7 : decode cJ6_bitCount_0f7a4 7 = .ok (.iand, 1) := by decide +kernel
theorem dJ6_bitCount_0f7a4_8 : decode cJ6_bitCount_0f7a4 8 = .ok (.isub, 1) := by decide +kernel
theorem dJ6_bitCount_0f7a4_9 : decode cJ6_bitCount_0f7a4 9 = .ok (.istore_n 0, 1) := by decide +kernel
theorem dJ6_bitCount_0f7a4_10 : decode cJ6_bitCount_0f7a4 10 = .ok (.iload_n 0, 1) := by decide +kernel
theorem dJ6_bitCount_0f7a4_11 : decode cJ6_bitCount_0f7a4 11 = .ok (.ldc_w 266, 3) := by decide +kernel
theorem dJ6_bitCount_0f7a4_14 : decode cJ6_bitCount_0f7a4 14 = .ok (.iand, 1) := by decide +kernel
theorem dJ6_bitCount_0f7a4_15 : decode cJ6_bitCount_0f7a4 15 = .ok (.iload_n 0, 1) := by decide +kernel
theorem dJ6_bitCount_0f7a4_16 : decode cJ6_bitCount_0f7a4 16 = .ok (.iconst 2, 1) := by decide +kernel
theorem dJ6_bitCount_0f7a4_17 : decode cJ6_bitCount_0f7a4 17 = .ok (.iushr, 1) := by decide +kernel
theorem dJ6_bitCount_0f7a4_18 : decode cJ6_bitCount_0f7a4 18 = .ok (.ldc_w 266, 3) := by decide +kernel
theorem dJ6_bitCount_0f7a4_21 : decode cJ6_bitCount_0f7a4 21 = .ok (.iand, 1) := by decide +kernel
theorem dJ6_bitCount_0f7a4_22 : decode cJ6_bitCount_0f7a4 22 = .ok (.iadd, 1) := by decide +kernel
theorem dJ6_bitCount_0f7a4_23 : decode cJ6_bitCount_0f7a4 23 = .ok (.istore_n 0, 1) := by decide +kernel
theorem dJ6_bitCount_0f7a4_24 : decode cJ6_bitCount_0f7a4 24 = .ok (.iload_n 0, 1) := by decide +kernel
theorem dJ6_bitCount_0f7a4_25 : decode cJ6_bitCount_0f7a4 25 = .ok (.iload_n 0, 1) := by decide +kernel
theorem dJ6_bitCount_0f7a4_26 : decode cJ6_bitCount_0f7a4 26 = .ok (.iconst 4, 1) := by decide +kernel
theorem dJ6_bitCount_0f7a4_27 : decode cJ6_bitCount_0f7a4 27 = .ok (.iushr, 1) := by decide +kernel
theorem dJ6_bitCount_0f7a4_28 : decode cJ6_bitCount_0f7a4 28 = .ok (.iadd, 1) := by decide +kernel
theorem dJ6_bitCount_0f7a4_29 : decode cJ6_bitCount_0f7a4 29 = .ok (.ldc_w 267, 3) := by decide +kernel
theorem dJ6_bitCount_0f7a4_32 : decode cJ6_bitCount_0f7a4 32 = .ok (.iand, 1) := by decide +kernel
theorem dJ6_bitCount_0f7a4_33 : decode cJ6_bitCount_0f7a4 33 = .ok (.istore_n 0, 1) := by decide +kernel
theorem dJ6_bitCount_0f7a4_34 : decode cJ6_bitCount_0f7a4 34 = .ok (.iload_n 0, 1) := by decide +kernel
theorem dJ6_bitCount_0f7a4_35 : decode cJ6_bitCount_0f7a4 35 = .ok (.iload_n 0, 1) := by decide +kernel
theorem dJ6_bitCount_0f7a4_36 : decode cJ6_bitCount_0f7a4 36 = .ok (.bipush 8, 2) := by decide +kernel
theorem dJ6_bitCount_0f7a4_38 : decode cJ6_bitCount_0f7a4 38 = .ok (.iushr, 1) := by decide +kernel
theorem dJ6_bitCount_0f7a4_39 : decode cJ6_bitCount_0f7a4 39 = .ok (.iadd, 1) := by decide +kernel
theorem dJ6_bitCount_0f7a4_40 : decode cJ6_bitCount_0f7a4 40 = .ok (.istore_n 0, 1) := by decide +kernel
theorem dJ6_bitCount_0f7a4_41 : decode cJ6_bitCount_0f7a4 41 = .ok (.iload_n 0, 1) := by decide +kernel
theorem dJ6_bitCount_0f7a4_42 : decode cJ6_bitCount_0f7a4 42 = .ok (.iload_n 0, 1) := by decide +kernel
theorem dJ6_bitCount_0f7a4_43 : decode cJ6_bitCount_0f7a4 43 = .ok (.bipush 16, 2) := by decide +kernel
theorem dJ6_bitCount_0f7a4_45 : decode cJ6_bitCount_0f7a4 45 = .ok (.iushr, 1) := by decide +kernel
theorem dJ6_bitCount_0f7a4_46 : decode cJ6_bitCount_0f7a4 46 = .ok (.iadd, 1) := by decide +kernel
theorem dJ6_bitCount_0f7a4_47 : decode cJ6_bitCount_0f7a4 47 = .ok (.istore_n 0, 1) := by decide +kernel
theorem dJ6_bitCount_0f7a4_48 : decode cJ6_bitCount_0f7a4 48 = .ok (.iload_n 0, 1) := by decide +kernel
theorem dJ6_bitCount_0f7a4_49 : decode cJ6_bitCount_0f7a4 49 = .ok (.bipush 63, 2) := by decide +kernel
theorem dJ6_bitCount_0f7a4_51 : decode cJ6_bitCount_0f7a4 51 = .ok (.iand, 1) := by decide +kernel
theorem dJ6_bitCount_0f7a4_52 : decode cJ6_bitCount_0f7a4 52 = .ok (.ireturn, 1) := by decide +kernel
theorem dJ9_max_7cf53_0 : decode cJ9_max_7cf53 0 = .ok (.iload_n 0, 1) := by decide +kernel
theorem dJ9_max_7cf53_1 : decode cJ9_max_7cf53 1 = .ok (.iload_n 1, 1) := by decide +kernel
theorem dJ9_max_7cf53_2 : decode cJ9_max_7cf53 2 = .ok (.if_icmp .lt 7, 3) := by decide +kernel
theorem dJ9_max_7cf53_5 : decode cJ9_max_7cf53 5 = .ok (.iload_n 0, 1) := by decide +kernel
theorem dJ9_max_7cf53_6 : decode cJ9_max_7cf53 6 = .ok (.goto 4, 3) := by decide +kernel
theorem dJ9_max_7cf53_9 : decode cJ9_max_7cf53 9 = .ok (.iload_n 1, 1) := by decide +kernel
theorem dJ9_max_7cf53_10 : decode cJ9_max_7cf53 10 = .ok (.ireturn, 1) := by decide +kernel
end
section
theorem dX11_init_0 : decode cX11_init 0 = .ok (.aload_n 0, 1) := by decide +kernel
theorem dX11_init_1 : decode cX11_init 1 = .ok (.invokespecial 1, 3) := by decide +kernel
theorem dX11_init_4 : decode cX11_init 4 = .ok (.aload_n 0, 1) := by decide +kernel
theorem dX11_init_5 : decode cX11_init 5 = .ok (.bipush 30, 2) := by decide +kernel
theorem dX11_init_7 : decode cX11_init 7 = .ok (.newarray .int, 2) := by decide +kernel
theorem dX11_init_9 : decode cX11_init 9 = .ok (.putfield 7, 3) := by decide +kernel
theorem dX11_init_12 : decode cX11_init 12 = .ok (.aload_n 0, 1) := by decide +kernel
theorem dX11_init_13 : decode cX11_init 13 = .ok (.bipush 8, 2) := by decide +kernel
theorem dX11_init_15 : decode cX11_init 15 = .ok (.newarray .int, 2) := by decide +kernel
theorem dX11_init_17 : decode cX11_init 17 = .ok (.putfield 13, 3) := by decide +kernel
theorem dX11_init_20 : decode cX11_init 20 = .ok (.aload_n 0, 1) := by decide +kernel
theorem dX11_init_21 : decode cX11_init 21 = .ok (.bipush 8, 2) := by decide +kernel
theorem dX11_init_23 : decode cX11_init 23 = .ok (.newarray .int, 2) := by decide +kernel
theorem dX11_init_25 : decode cX11_init 25 = .ok (.putfield 16, 3) := by decide +kernel
theorem dX11_init_28 : decode cX11_init 28 = .ok (.aload_n 0, 1) := by decide +kernel
theorem dX11_init_29 : decode cX11_init 29 = .ok (.bipush 64, 2) := by decide +kernel
theorem dX11_init_31 : decode cX11_init 31 = .ok (.newarray .int, 2) := by decide +kernel
theorem dX11_init_33 : decode cX11_init 33 = .ok (.putfield 19, 3) := by decide +kernel
theorem dX11_init_36 : decode cX11_init 36 = .ok (.aload_n 0, 1) := by decide +kernel
theorem dX11_init_37 : decode cX11_init 37 = .ok (.bipush 40, 2) := by decide +kernel
theorem dX11_init_39 : decode cX11_init 39 = .ok (.newarray .byte, 2) := by decide +kernel
theorem dX11_init_41 : decode cX11_init 41 = .ok (.putfield 22, 3) := by decide +kernel
theorem dX11_init_44 : decode cX11_init 44 = .ok (.aload_n 0, 1) := by decide +kernel
theorem dX11_init_45 : decode cX11_init 45 = .ok (.bipush 30, 2) := by decide +kernel
theorem dX11_init_47 : decode cX11_init 47 = .ok (.newarray .int, 2) := by decide +kernel
theorem dX11_init_49 : decode cX11_init 49 = .ok (.putfield 26, 3) := by decide +kernel
theorem dX11_init_52 : decode cX11_init 52 = .ok (.aload_n 0, 1) := by decide +kernel
theorem dX11_init_53 : decode cX11_init 53 = .ok (.bipush 8, 2) := by decide +kernel
theorem dX11_init_55 : decode cX11_init 55 = .ok (.newarray .int, 2) := by decide +kernel
theorem dX11_init_57 : decode cX11_init 57 = .ok (.putfield 29, 3) := by decide +kernel
theorem dX11_init_60 : decode cX11_init 60 = .ok (.aload_n 0, 1) := by decide +kernel
theorem dX11_init_61 : decode cX11_init 61 = .ok (.bipush 8, 2) := by decide +kernel
theorem dX11_init_63 : decode cX11_init 63 = .ok (.newarray .int, 2) := by decide +kernel
theorem dX11_init_65 : decode cX11_init 65 = .ok (.putfield 32, 3) := by decide +kernel
theorem dX11_init_68 : decode cX11_init 68 = .ok (.aload_n 0, 1) := by decide +kernel
theorem dX11_init_69 : decode cX11_init 69 = .ok (.bipush 8, 2) := by decide +kernel
theorem dX11_init_71 : decode cX11_init 71 = .ok (.newarray .int, 2) := by decide +kernel
theorem dX11_init_73 : decode cX11_init 73 = .ok (.putfield 35, 3) := by decide +kernel
theorem dX11_init_76 : decode cX11_init 76 = .ok (.aload_n 0, 1) := by decide +kernel
theorem dX11_init_77 : decode cX11_init 77 = .ok (.bipush 8, 2) := by decide +kernel
theorem dX11_init_79 : decode cX11_init 79 = .ok (.newarray .int, 2) := by decide +kernel
theorem dX11_init_81 : decode cX11_init 81 = .ok (.putfield 38, 3) := by decide +kernel
theorem dX11_init_84 : decode cX11_init 84 = .ok (.aload_n 0, 1) := by decide +kernel
theorem dX11_init_85 : decode cX11_init 85 = .ok (.bipush 8, 2) := by decide +kernel
theorem dX11_init_87 : decode cX11_init 87 = .ok (.newarray .int, 2) := by decide +kernel
theorem dX11_init_89 : decode cX11_init 89 = .ok (.putfield 41, 3) := by decide +kernel
theorem dX11_init_92 : decode cX11_init 92 = .ok (.aload_n 0, 1) := by decide +kernel
theorem dX11_init_93 : decode cX11_init 93 = .ok (.bipush 8, 2) := by decide +kernel
theorem dX11_init_95 : decode cX11_init 95 = .ok (.newarray .int, 2) := by decide +kernel
theorem dX11_init_97 : decode cX11_init 97 = .ok (.putfield 44, 3) := by decide +kernel
theorem dX11_init_100 : decode cX11_init 100 = .ok (.aload_n 0, 1) := by decide +kernel
theorem dX11_init_101 : decode cX11_init 101 = .ok (.bipush 64, 2) := by decide +kernel
theorem dX11_init_103 : decode cX11_init 103 = .ok (.newarray .int, 2) := by decide +kernel
theorem dX11_init_105 : decode cX11_init 105 = .ok (.putfield 47, 3) := by decide +kernel
theorem dX11_init_108 : decode cX11_init 108 = .ok (.return_, 1) := by decide +kernel
theorem dX11_within_0 : decode cX11_within 0 = .ok (.iload_n 0, 1) := by decide +kernel
theorem dX11_within_1 : decode cX11_within 1 = .ok (.iload_n 1, 1) := by decide +kernel
theorem dX11_within_2 : decode cX11_within 2 = .ok (.if_icmp .lt 12, 3) := by decide +kernel
theorem dX11_within_5 : decode cX11_within 5 = .ok (.iload_n 0, 1) := by decide +kernel
theorem dX11_within_6 : decode cX11_within 6 = .ok (.iload_n 2, 1) := by decide +kernel
theorem dX11_within_7 : decode cX11_within 7 = .ok (.if_icmp .gt 7, 3) := by decide +kernel
theorem dX11_within_10 : decode cX11_within 10 = .ok (.iconst 1, 1) := by decide +kernel
theorem dX11_within_11 : decode cX11_within 11 = .ok (.goto 4, 3) := by decide +kernel
theorem dX11_within_14 : decode cX11_within 14 = .ok (.iconst 0, 1) := by decide +kernel
theorem dX11_within_15 : decode cX11_within 15 = .ok (.ireturn, 1) := by decide +kernel
theorem dX11_has_0 : decode cX11_has 0 = .ok (.iload_n 0, 1) := by decide +kernel
theorem dX11_has_1 : decode cX11_has 1 = .ok (.iload_n 1, 1) := by decide +kernel
theorem dX11_has_2 : decode cX11_has 2 = .ok (.ishr, 1) := by decide +kernel
theorem dX11_has_3 : decode cX11_has 3 = .ok (.iconst 1, 1) := by decide +kernel
theorem dX11_has_4 : decode cX11_has 4 = .ok (.iand, 1) := by decide +kernel
theorem dX11_has_5 : decode cX11_has 5 = .ok (.iconst 1, 1) := by decide +kernel
theorem dX11_has_6 : decode cX11_has 6 = .ok (.if_icmp .ne 7, 3) := by decide +kernel
theorem dX11_has_9 : decode cX11_has 9 = .ok (.iconst 1, 1) := by decide +kernel
theorem dX11_has_10 : decode cX11_has 10 = .ok (.goto 4, 3) := by decide +kernel
theorem dX11_has_13 : decode cX11_has 13 = .ok (.iconst 0, 1) := by decide +kernel
theorem dX11_has_14 : decode cX11_has 14 = .ok (.ireturn, 1) := by decide +kernel
theorem dX11_letters_0 : decode cX11_letters 0 = .ok (.iconst 0, 1) := by decide +kernel
theorem dX11_letters_1 : decode cX11_letters 1 = .ok (.istore_n 3, 1) := by decide +kernel
theorem dX11_letters_2 : decode cX11_letters 2 = .ok (.iconst 0, 1) := by decide +kernel
theorem dX11_letters_3 : decode cX11_letters 3 = .ok (.istore 4, 2) := by decide +kernel
theorem dX11_letters_5 : decode cX11_letters 5 = .ok (.iconst 0, 1) := by decide +kernel
theorem dX11_letters_6 : decode cX11_letters 6 = .ok (.istore 5, 2) := by decide +kernel
theorem dX11_letters_8 : decode cX11_letters 8 = .ok (.iload 5, 2) := by decide +kernel
theorem dX11_letters_10 : decode cX11_letters 10 = .ok (.bipush 8, 2) := by decide +kernel
theorem dX11_letters_12 : decode cX11_letters 12 = .ok (.if_icmp .ge 73, 3) := by decide +kernel
theorem dX11_letters_15 : decode cX11_letters 15 = .ok (.lload_n 1, 1) := by decide +kernel
theorem dX11_letters_16 : decode cX11_letters 16 = .ok (.bipush 8, 2) := by decide +kernel
theorem dX11_letters_18 : decode cX11_letters 18 = .ok (.iload 5, 2) := by decide +kernel
theorem dX11_letters_20 : decode cX11_letters 20 = .ok (.imul, 1) := by decide +kernel
theorem dX11_letters_21 : decode cX11_letters 21 = .ok (.lshr, 1) := by decide +kernel
theorem dX11_letters_22 : decode cX11_letters 22 = .ok (.ldc2_w 50, 3) := by decide +kernel
theorem dX11_letters_25 : decode cX11_letters 25 = .ok (.land, 1) := by decide +kernel
theorem dX11_letters_26 : decode cX11_letters 26 = .ok (.l2i, 1) := by decide +kernel
theorem dX11_letters_27 : decode cX11_letters 27 = .ok (.istore 6, 2) := by decide +kernel
theorem dX11_letters_29 : decode cX11_letters 29 = .ok (.iload 6, 2) := by decide +kernel
theorem dX11_letters_31 : decode cX11_letters 31 = .ok (.bipush 126, 2) := by decide +kernel
theorem dX11_letters_33 : decode cX11_letters 33 = .ok (.if_icmp .gt 13, 3) := by decide +kernel
theorem dX11_letters_36 : decode cX11_letters 36 = .ok (.iload 4, 2) := by decide +kernel
theorem dX11_letters_38 : decode cX11_letters 38 = .ok (.ifCond .eq 11, 3) := by decide +kernel
theorem dX11_letters_41 : decode cX11_letters 41 = .ok (.iload 6, 2) := by decide +kernel
theorem dX11_letters_43 : decode cX11_letters 43 = .ok (.ifCond .eq 6, 3) := by decide +kernel
theorem dX11_letters_46 : decode cX11_letters 46 = .ok (.bipush (-102), 2) := by decide +kernel
theorem dX11_letters_48 : decode cX11_letters 48 = .ok (.ireturn, 1) := by decide +kernel
theorem dX11_letters_49 : decode cX11_letters 49 = .ok (.iload 4, 2) := by decide +kernel
theorem dX11_letters_51 : decode cX11_letters 51 = .ok (.ifCond .ne 8, 3) := by decide +kernel
theorem dX11_letters_54 : decode cX11_letters 54 = .ok (.iload 6, 2) := by decide +kernel
theorem dX11_letters_56 : decode cX11_letters 56 = .ok (.ifCond .ne 7, 3) := by decide +kernel
theorem dX11_letters_59 : decode cX11_letters 59 = .ok (.iconst 1, 1) := by decide +kernel
theorem dX11_letters_60 : decode cX11_letters 60 = .ok (.goto 4, 3) := by decide +kernel
theorem dX11_letters_63 : decode cX11_letters 63 = .ok (.iconst 0, 1) := by decide +kernel
theorem dX11_letters_64 : decode cX11_letters 64 = .ok (.istore 4, 2) := by decide +kernel
theorem dX11_letters_66 : decode cX11_letters 66 = .ok (.iload_n 3, 1) := by decide +kernel
theorem dX11_letters_67 : decode cX11_letters 67 = .ok (.iload 6, 2) := by decide +kernel
theorem dX11_letters_69 : decode cX11_letters 69 = .ok (.ifCond .ne 7, 3) := by decide +kernel
theorem dX11_letters_72 : decode cX11_letters 72 = .ok (.iconst 0, 1) := by decide +kernel
theorem dX11_letters_73 : decode cX11_letters 73 = .ok (.goto 4, 3) := by decide +kernel
theorem dX11_letters_76 : decode cX11_letters 76 = .ok (.iconst 1, 1) := by decide +kernel
theorem dX11_letters_77 : decode cX11_letters 77 = .ok (.iadd, 1) := by decide +kernel
theorem dX11_letters_78 : decode cX11_letters 78 = .ok (.istore_n 3, 1) := by decide +kernel
theorem dX11_letters_79 : decode cX11_letters 79 = .ok (.iinc 5 1, 3) := by decide +kernel
theorem dX11_letters_82 : decode cX11_letters 82 = .ok (.goto (-74), 3) := by decide +kernel
theorem dX11_letters_85 : decode cX11_letters 85 = .ok (.aload_n 0, 1) := by decide +kernel
theorem dX11_letters_86 : decode cX11_letters 86 = .ok (.getfield 52, 3) := by decide +kernel
theorem dX11_letters_89 : decode cX11_letters 89 = .ok (.iload_n 3, 1) := by decide +kernel
theorem dX11_letters_90 : decode cX11_letters 90 = .ok (.iadd, 1) := by decide +kernel
theorem dX11_letters_91 : decode cX11_letters 91 = .ok (.bipush 40, 2) := by decide +kernel
theorem dX11_letters_93 : decode cX11_letters 93 = .ok (.if_icmp .le 6, 3) := by decide +kernel
theorem dX11_letters_96 : decode cX11_letters 96 = .ok (.bipush (-104), 2) := by decide +kernel
theorem dX11_letters_98 : decode cX11_letters 98 = .ok (.ireturn, 1) := by decide +kernel
theorem dX11_letters_99 : decode cX11_letters 99 = .ok (.iconst 0, 1) := by decide +kernel
theorem dX11_letters_100 : decode cX11_letters 100 = .ok (.istore 5, 2) := by decide +kernel
theorem dX11_letters_102 : decode cX11_letters 102 = .ok (.iload 5, 2) := by decide +kernel
theorem dX11_letters_104 : decode cX11_letters 104 = .ok (.iload_n 3, 1) := by decide +kernel
theorem dX11_letters_105 : decode cX11_letters 105 = .ok (.if_icmp .ge 30, 3) := by decide +kernel
theorem dX11_letters_108 : decode cX11_letters 108 = .ok (.aload_n 0, 1) := by decide +kernel
theorem dX11_letters_109 : decode cX11_letters 109 = .ok (.getfield 22, 3) := by decide +kernel
theorem dX11_letters_112 : decode cX11_letters 112 = .ok (.aload_n 0, 1) := by decide +kernel
theorem dX11_letters_113 : decode cX11_letters 113 = .ok (.getfield 52, 3) := by decide +kernel
theorem dX11_letters_116 : decode cX11_letters 116 = .ok (.iload 5, 2) := by decide +kernel
theorem dX11_letters_118 : decode cX11_letters 118 = .ok (.iadd, 1) := by decide +kernel
theorem dX11_letters_119 : decode cX11_letters 119 = .ok (.lload_n 1, 1) := by decide +kernel
theorem dX11_letters_120 : decode cX11_letters 120 = .ok (.bipush 8, 2) := by decide +kernel
theorem dX11_letters_122 : decode cX11_letters 122 = .ok (.iload 5, 2) := by decide +kernel
theorem dX11_letters_124 : decode cX11_letters 124 = .ok (.imul, 1) := by decide +kernel
theorem dX11_letters_125 : decode cX11_letters 125 = .ok (.lshr, 1) := by decide +kernel
theorem dX11_letters_126 : decode cX11_letters 126 = .ok (.l2i, 1) := by decide +kernel
theorem dX11_letters_127 : decode cX11_letters 127 = .ok (.i2b, 1) := by decide +kernel
theorem dX11_letters_128 : decode cX11_letters 128 = .ok (.bastore, 1) := by decide +kernel
theorem dX11_letters_129 : decode cX11_letters 129 = .ok (.iinc 5 1, 3) := by decide +kernel
theorem dX11_letters_132 : decode cX11_letters 132 = .ok (.goto (-30), 3) := by decide +kernel
theorem dX11_letters_135 : decode cX11_letters 135 = .ok (.aload_n 0, 1) := by decide +kernel
theorem dX11_letters_136 : decode cX11_letters 136 = .ok (.dup, 1) := by decide +kernel
theorem dX11_letters_137 : decode cX11_letters 137 = .ok (.getfield 52, 3) := by decide +kernel
theorem dX11_letters_140 : decode cX11_letters 140 = .ok (.iload_n 3, 1) := by decide +kernel
theorem dX11_letters_141 : decode cX11_letters 141 = .ok (.iadd, 1) := by decide +kernel
theorem dX11_letters_142 : decode cX11_letters 142 = .ok (.putfield 52, 3) := by decide +kernel
theorem dX11_letters_145 : decode cX11_letters 145 = .ok (.aload_n 0, 1) := by decide +kernel
theorem dX11_letters_146 : decode cX11_letters 146 = .ok (.getfield 52, 3) := by decide +kernel
theorem dX11_letters_149 : decode cX11_letters 149 = .ok (.ireturn, 1) := by decide +kernel
theorem dX11_blank_0 : decode cX11_blank 0 = .ok (.aload_n 0, 1) := by decide +kernel
theorem dX11_blank_1 : decode cX11_blank 1 = .ok (.getfield 52, 3) := by decide +kernel
theorem dX11_blank_4 : decode cX11_blank 4 = .ok (.istore_n 1, 1) := by decide +kernel
theorem dX11_blank_5 : decode cX11_blank 5 = .ok (.aload_n 0, 1) := by decide +kernel
theorem dX11_blank_6 : decode cX11_blank 6 = .ok (.iconst 0, 1) := by decide +kernel
theorem dX11_blank_7 : decode cX11_blank 7 = .ok (.putfield 52, 3) := by decide +kernel
theorem dX11_blank_10 : decode cX11_blank 10 = .ok (.iload_n 1, 1) := by decide +kernel
theorem dX11_blank_11 : decode cX11_blank 11 = .ok (.ireturn, 1) := by decide +kernel
theorem dX11_readPlan_0 : decode cX11_readPlan 0 = .ok (.aload_n 0, 1) := by decide +kernel
theorem dX11_readPlan_1 : decode cX11_readPlan 1 = .ok (.iconst 0, 1) := by decide +kernel
theorem dX11_readPlan_2 : decode cX11_readPlan 2 = .ok (.putfield 56, 3) := by decide +kernel
theorem dX11_readPlan_5 : decode cX11_readPlan 5 = .ok (.aload_n 0, 1) := by decide +kernel
theorem dX11_readPlan_6 : decode cX11_readPlan 6 = .ok (.iconst 0, 1) := by decide +kernel
theorem dX11_readPlan_7 : decode cX11_readPlan 7 = .ok (.putfield 59, 3) := by decide +kernel
theorem dX11_readPlan_10 : decode cX11_readPlan 10 = .ok (.aload_n 0, 1) := by decide +kernel
theorem dX11_readPlan_11 : decode cX11_readPlan 11 = .ok (.iconst 0, 1) := by decide +kernel
theorem dX11_readPlan_12 : decode cX11_readPlan 12 = .ok (.putfield 62, 3) := by decide +kernel
theorem dX11_readPlan_15 : decode cX11_readPlan 15 = .ok (.iconst 0, 1) := by decide +kernel
theorem dX11_readPlan_16 : decode cX11_readPlan 16 = .ok (.istore_n 1, 1) := by decide +kernel
theorem dX11_readPlan_17 : decode cX11_readPlan 17 = .ok (.iconst 0, 1) := by decide +kernel
theorem dX11_readPlan_18 : decode cX11_readPlan 18 = .ok (.istore_n 2, 1) := by decide +kernel
theorem dX11_readPlan_19 : decode cX11_readPlan 19 = .ok (.iconst 1, 1) := by decide +kernel
theorem dX11_readPlan_20 : decode cX11_readPlan 20 = .ok (.istore_n 3, 1) := by decide +kernel
theorem dX11_readPlan_21 : decode cX11_readPlan 21 = .ok (.iload_n 2, 1) := by decide +kernel
theorem dX11_readPlan_22 : decode cX11_readPlan 22 = .ok (.aload_n 0, 1) := by decide +kernel
theorem dX11_readPlan_23 : decode cX11_readPlan 23 = .ok (.getfield 52, 3) := by decide +kernel
theorem dX11_readPlan_26 : decode cX11_readPlan 26 = .ok (.if_icmp .ge 206, 3) := by decide +kernel
theorem dX11_readPlan_29 : decode cX11_readPlan 29 = .ok (.iload_n 3, 1) := by decide +kernel
theorem dX11_readPlan_30 : decode cX11_readPlan 30 = .ok (.ifCond .eq 202, 3) := by decide +kernel
theorem dX11_readPlan_33 : decode cX11_readPlan 33 = .ok (.aload_n 0, 1) := by decide +kernel
theorem dX11_readPlan_34 : decode cX11_readPlan 34 = .ok (.getfield 22, 3) := by decide +kernel
theorem dX11_readPlan_37 : decode cX11_readPlan 37 = .ok (.iload_n 2, 1) := by decide +kernel
theorem dX11_readPlan_38 : decode cX11_readPlan 38 = .ok (.baload, 1) := by decide +kernel
theorem dX11_readPlan_39 : decode cX11_readPlan 39 = .ok (.istore 4, 2) := by decide +kernel
theorem dX11_readPlan_41 : decode cX11_readPlan 41 = .ok (.aload_n 0, 1) := by decide +kernel
theorem dX11_readPlan_42 : decode cX11_readPlan 42 = .ok (.getfield 56, 3) := by decide +kernel
theorem dX11_readPlan_45 : decode cX11_readPlan 45 = .ok (.ifCond .ne 8, 3) := by decide +kernel
theorem dX11_readPlan_48 : decode cX11_readPlan 48 = .ok (.bipush 6, 2) := by decide +kernel
theorem dX11_readPlan_50 : decode cX11_readPlan 50 = .ok (.goto 7, 3) := by decide +kernel
theorem dX11_readPlan_53 : decode cX11_readPlan 53 = .ok (.aload_n 0, 1) := by decide +kernel
theorem dX11_readPlan_54 : decode cX11_readPlan 54 = .ok (.getfield 59, 3) := by decide +kernel
theorem dX11_readPlan_57 : decode cX11_readPlan 57 = .ok (.istore 5, 2) := by decide +kernel
theorem dX11_readPlan_59 : decode cX11_readPlan 59 = .ok (.aload_n 0, 1) := by decide +kernel
theorem dX11_readPlan_60 : decode cX11_readPlan 60 = .ok (.getfield 56, 3) := by decide +kernel
theorem dX11_readPlan_63 : decode cX11_readPlan 63 = .ok (.ifCond .ne 7, 3) := by decide +kernel
theorem dX11_readPlan_66 : decode cX11_readPlan 66 = .ok (.iconst 2, 1) := by decide +kernel
theorem dX11_readPlan_67 : decode cX11_readPlan 67 = .ok (.goto 7, 3) := by decide +kernel
theorem dX11_readPlan_70 : decode cX11_readPlan 70 = .ok (.aload_n 0, 1) := by decide +kernel
theorem dX11_readPlan_71 : decode cX11_readPlan 71 = .ok (.getfield 59, 3) := by decide +kernel
theorem dX11_readPlan_74 : decode cX11_readPlan 74 = .ok (.istore 6, 2) := by decide +kernel
theorem dX11_readPlan_76 : decode cX11_readPlan 76 = .ok (.iload 4, 2) := by decide +kernel
theorem dX11_readPlan_78 : decode cX11_readPlan 78 = .ok (.bipush 46, 2) := by decide +kernel
theorem dX11_readPlan_80 : decode cX11_readPlan 80 = .ok (.if_icmp .eq 15, 3) := by decide +kernel
theorem dX11_readPlan_83 : decode cX11_readPlan 83 = .ok (.iload 4, 2) := by decide +kernel
theorem dX11_readPlan_85 : decode cX11_readPlan 85 = .ok (.bipush 49, 2) := by decide +kernel
theorem dX11_readPlan_87 : decode cX11_readPlan 87 = .ok (.bipush 57, 2) := by decide +kernel
theorem dX11_readPlan_89 : decode cX11_readPlan 89 = .ok (.invokestatic 65, 3) := by decide +kernel
theorem dX11_readPlan_92 : decode cX11_readPlan 92 = .ok (.ifCond .eq 13, 3) := by decide +kernel
theorem dX11_readPlan_95 : decode cX11_readPlan 95 = .ok (.iload_n 1, 1) := by decide +kernel
theorem dX11_readPlan_96 : decode cX11_readPlan 96 = .ok (.iload 5, 2) := by decide +kernel
theorem dX11_readPlan_98 : decode cX11_readPlan 98 = .ok (.if_icmp .ge 7, 3) := by decide +kernel
theorem dX11_readPlan_101 : decode cX11_readPlan 101 = .ok (.iconst 1, 1) := by decide +kernel
theorem dX11_readPlan_102 : decode cX11_readPlan 102 = .ok (.goto 4, 3) := by decide +kernel
theorem dX11_readPlan_105 : decode cX11_readPlan 105 = .ok (.iconst 0, 1) := by decide +kernel
theorem dX11_readPlan_106 : decode cX11_readPlan 106 = .ok (.istore 7, 2) := by decide +kernel
theorem dX11_readPlan_108 : decode cX11_readPlan 108 = .ok (.iload 4, 2) := by decide +kernel
theorem dX11_readPlan_110 : decode cX11_readPlan 110 = .ok (.bipush 47, 2) := by decide +kernel
theorem dX11_readPlan_112 : decode cX11_readPlan 112 = .ok (.if_icmp .ne 21, 3) := by decide +kernel
theorem dX11_readPlan_115 : decode cX11_readPlan 115 = .ok (.iload_n 1, 1) := by decide +kernel
theorem dX11_readPlan_116 : decode cX11_readPlan 116 = .ok (.iload 6, 2) := by decide +kernel
theorem dX11_readPlan_118 : decode cX11_readPlan 118 = .ok (.if_icmp .lt 15, 3) := by decide +kernel
theorem dX11_readPlan_121 : decode cX11_readPlan 121 = .ok (.aload_n 0, 1) := by decide +kernel
theorem dX11_readPlan_122 : decode cX11_readPlan 122 = .ok (.getfield 56, 3) := by decide +kernel
theorem dX11_readPlan_125 : decode cX11_readPlan 125 = .ok (.iconst 4, 1) := by decide +kernel
theorem dX11_readPlan_126 : decode cX11_readPlan 126 = .ok (.if_icmp .ge 7, 3) := by decide +kernel
theorem dX11_readPlan_129 : decode cX11_readPlan 129 = .ok (.iconst 1, 1) := by decide +kernel
theorem dX11_readPlan_130 : decode cX11_readPlan 130 = .ok (.goto 4, 3) := by decide +kernel
theorem dX11_readPlan_133 : decode cX11_readPlan 133 = .ok (.iconst 0, 1) := by decide +kernel
theorem dX11_readPlan_134 : decode cX11_readPlan 134 = .ok (.istore 8, 2) := by decide +kernel
theorem dX11_readPlan_136 : decode cX11_readPlan 136 = .ok (.iload 7, 2) := by decide +kernel
theorem dX11_readPlan_138 : decode cX11_readPlan 138 = .ok (.ifCond .ne 8, 3) := by decide +kernel
theorem dX11_readPlan_141 : decode cX11_readPlan 141 = .ok (.iload 8, 2) := by decide +kernel
theorem dX11_readPlan_143 : decode cX11_readPlan 143 = .ok (.ifCond .eq 7, 3) := by decide +kernel
theorem dX11_readPlan_146 : decode cX11_readPlan 146 = .ok (.iconst 1, 1) := by decide +kernel
theorem dX11_readPlan_147 : decode cX11_readPlan 147 = .ok (.goto 4, 3) := by decide +kernel
theorem dX11_readPlan_150 : decode cX11_readPlan 150 = .ok (.iconst 0, 1) := by decide +kernel
theorem dX11_readPlan_151 : decode cX11_readPlan 151 = .ok (.istore_n 3, 1) := by decide +kernel
theorem dX11_readPlan_152 : decode cX11_readPlan 152 = .ok (.iload 7, 2) := by decide +kernel
theorem dX11_readPlan_154 : decode cX11_readPlan 154 = .ok (.ifCond .eq 41, 3) := by decide +kernel
theorem dX11_readPlan_157 : decode cX11_readPlan 157 = .ok (.aload_n 0, 1) := by decide +kernel
theorem dX11_readPlan_158 : decode cX11_readPlan 158 = .ok (.getfield 26, 3) := by decide +kernel
theorem dX11_readPlan_161 : decode cX11_readPlan 161 = .ok (.aload_n 0, 1) := by decide +kernel
theorem dX11_readPlan_162 : decode cX11_readPlan 162 = .ok (.getfield 62, 3) := by decide +kernel
theorem dX11_readPlan_165 : decode cX11_readPlan 165 = .ok (.iload 4, 2) := by decide +kernel
theorem dX11_readPlan_167 : decode cX11_readPlan 167 = .ok (.bipush 46, 2) := by decide +kernel
theorem dX11_readPlan_169 : decode cX11_readPlan 169 = .ok (.if_icmp .ne 7, 3) := by decide +kernel
theorem dX11_readPlan_172 : decode cX11_readPlan 172 = .ok (.iconst 0, 1) := by decide +kernel
theorem dX11_readPlan_173 : decode cX11_readPlan 173 = .ok (.goto 8, 3) := by decide +kernel
theorem dX11_readPlan_176 : decode cX11_readPlan 176 = .ok (.iload 4, 2) := by decide +kernel
theorem dX11_readPlan_178 : decode cX11_readPlan 178 = .ok (.bipush 48, 2) := by decide +kernel
theorem dX11_readPlan_180 : decode cX11_readPlan 180 = .ok (.isub, 1) := by decide +kernel
theorem dX11_readPlan_181 : decode cX11_readPlan 181 = .ok (.iastore, 1) := by decide +kernel
theorem dX11_readPlan_182 : decode cX11_readPlan 182 = .ok (.aload_n 0, 1) := by decide +kernel
theorem dX11_readPlan_183 : decode cX11_readPlan 183 = .ok (.dup, 1) := by decide +kernel
theorem dX11_readPlan_184 : decode cX11_readPlan 184 = .ok (.getfield 62, 3) := by decide +kernel
theorem dX11_readPlan_187 : decode cX11_readPlan 187 = .ok (.iconst 1, 1) := by decide +kernel
theorem dX11_readPlan_188 : decode cX11_readPlan 188 = .ok (.iadd, 1) := by decide +kernel
theorem dX11_readPlan_189 : decode cX11_readPlan 189 = .ok (.putfield 62, 3) := by decide +kernel
theorem dX11_readPlan_192 : decode cX11_readPlan 192 = .ok (.iinc 1 1, 3) := by decide +kernel
theorem dX11_readPlan_195 : decode cX11_readPlan 195 = .ok (.iload 8, 2) := by decide +kernel
theorem dX11_readPlan_197 : decode cX11_readPlan 197 = .ok (.ifCond .eq 20, 3) := by decide +kernel
theorem dX11_readPlan_200 : decode cX11_readPlan 200 = .ok (.aload_n 0, 1) := by decide +kernel
theorem dX11_readPlan_201 : decode cX11_readPlan 201 = .ok (.iload_n 1, 1) := by decide +kernel
theorem dX11_readPlan_202 : decode cX11_readPlan 202 = .ok (.putfield 59, 3) := by decide +kernel
theorem dX11_readPlan_205 : decode cX11_readPlan 205 = .ok (.aload_n 0, 1) := by decide +kernel
theorem dX11_readPlan_206 : decode cX11_readPlan 206 = .ok (.dup, 1) := by decide +kernel
theorem dX11_readPlan_207 : decode cX11_readPlan 207 = .ok (.getfield 56, 3) := by decide +kernel
theorem dX11_readPlan_210 : decode cX11_readPlan 210 = .ok (.iconst 1, 1) := by decide +kernel
theorem dX11_readPlan_211 : decode cX11_readPlan 211 = .ok (.iadd, 1) := by decide +kernel
theorem dX11_readPlan_212 : decode cX11_readPlan 212 = .ok (.putfield 56, 3) := by decide +kernel
theorem dX11_readPlan_215 : decode cX11_readPlan 215 = .ok (.iconst 0, 1) := by decide +kernel
theorem dX11_readPlan_216 : decode cX11_readPlan 216 = .ok (.istore_n 1, 1) := by decide +kernel
theorem dX11_readPlan_217 : decode cX11_readPlan 217 = .ok (.iload_n 2, 1) := by decide +kernel
theorem dX11_readPlan_218 : decode cX11_readPlan 218 = .ok (.iload_n 3, 1) := by decide +kernel
theorem dX11_readPlan_219 : decode cX11_readPlan 219 = .ok (.ifCond .eq 7, 3) := by decide +kernel
theorem dX11_readPlan_222 : decode cX11_readPlan 222 = .ok (.iconst 1, 1) := by decide +kernel
theorem dX11_readPlan_223 : decode cX11_readPlan 223 = .ok (.goto 4, 3) := by decide +kernel
theorem dX11_readPlan_226 : decode cX11_readPlan 226 = .ok (.iconst 0, 1) := by decide +kernel
theorem dX11_readPlan_227 : decode cX11_readPlan 227 = .ok (.iadd, 1) := by decide +kernel
theorem dX11_readPlan_228 : decode cX11_readPlan 228 = .ok (.istore_n 2, 1) := by decide +kernel
theorem dX11_readPlan_229 : decode cX11_readPlan 229 = .ok (.goto (-208), 3) := by decide +kernel
theorem dX11_readPlan_232 : decode cX11_readPlan 232 = .ok (.aload_n 0, 1) := by decide +kernel
theorem dX11_readPlan_233 : decode cX11_readPlan 233 = .ok (.iload_n 2, 1) := by decide +kernel
theorem dX11_readPlan_234 : decode cX11_readPlan 234 = .ok (.putfield 69, 3) := by decide +kernel
theorem dX11_readPlan_237 : decode cX11_readPlan 237 = .ok (.aload_n 0, 1) := by decide +kernel
theorem dX11_readPlan_238 : decode cX11_readPlan 238 = .ok (.iload_n 2, 1) := by decide +kernel
theorem dX11_readPlan_239 : decode cX11_readPlan 239 = .ok (.aload_n 0, 1) := by decide +kernel
theorem dX11_readPlan_240 : decode cX11_readPlan 240 = .ok (.getfield 52, 3) := by decide +kernel
theorem dX11_readPlan_243 : decode cX11_readPlan 243 = .ok (.if_icmp .ne 22, 3) := by decide +kernel
theorem dX11_readPlan_246 : decode cX11_readPlan 246 = .ok (.aload_n 0, 1) := by decide +kernel
theorem dX11_readPlan_247 : decode cX11_readPlan 247 = .ok (.getfield 56, 3) := by decide +kernel
theorem dX11_readPlan_250 : decode cX11_readPlan 250 = .ok (.ifCond .le 15, 3) := by decide +kernel
theorem dX11_readPlan_253 : decode cX11_readPlan 253 = .ok (.iload_n 1, 1) := by decide +kernel
theorem dX11_readPlan_254 : decode cX11_readPlan 254 = .ok (.aload_n 0, 1) := by decide +kernel
theorem dX11_readPlan_255 : decode cX11_readPlan 255 = .ok (.getfield 59, 3) := by decide +kernel
theorem dX11_readPlan_258 : decode cX11_readPlan 258 = .ok (.if_icmp .ne 7, 3) := by decide +kernel
theorem dX11_readPlan_261 : decode cX11_readPlan 261 = .ok (.iconst 1, 1) := by decide +kernel
theorem dX11_readPlan_262 : decode cX11_readPlan 262 = .ok (.goto 4, 3) := by decide +kernel
theorem dX11_readPlan_265 : decode cX11_readPlan 265 = .ok (.iconst 0, 1) := by decide +kernel
theorem dX11_readPlan_266 : decode cX11_readPlan 266 = .ok (.putfield 72, 3) := by decide +kernel
theorem dX11_readPlan_269 : decode cX11_readPlan 269 = .ok (.return_, 1) := by decide +kernel
theorem dX11_wayBy_0 : decode cX11_wayBy 0 = .ok (.iload_n 0, 1) := by decide +kernel
theorem dX11_wayBy_1 : decode cX11_wayBy 1 = .ok (.bipush 110, 2) := by decide +kernel
theorem dX11_wayBy_3 : decode cX11_wayBy 3 = .ok (.if_icmp .ne 7, 3) := by decide +kernel
theorem dX11_wayBy_6 : decode cX11_wayBy 6 = .ok (.iconst 0, 1) := by decide +kernel
theorem dX11_wayBy_7 : decode cX11_wayBy 7 = .ok (.goto 34, 3) := by decide +kernel
theorem dX11_wayBy_10 : decode cX11_wayBy 10 = .ok (.iload_n 0, 1) := by decide +kernel
theorem dX11_wayBy_11 : decode cX11_wayBy 11 = .ok (.bipush 101, 2) := by decide +kernel
theorem dX11_wayBy_13 : decode cX11_wayBy 13 = .ok (.if_icmp .ne 7, 3) := by decide +kernel
theorem dX11_wayBy_16 : decode cX11_wayBy 16 = .ok (.iconst 1, 1) := by decide +kernel
theorem dX11_wayBy_17 : decode cX11_wayBy 17 = .ok (.goto 24, 3) := by decide +kernel
theorem dX11_wayBy_20 : decode cX11_wayBy 20 = .ok (.iload_n 0, 1) := by decide +kernel
theorem dX11_wayBy_21 : decode cX11_wayBy 21 = .ok (.bipush 115, 2) := by decide +kernel
theorem dX11_wayBy_23 : decode cX11_wayBy 23 = .ok (.if_icmp .ne 7, 3) := by decide +kernel
theorem dX11_wayBy_26 : decode cX11_wayBy 26 = .ok (.iconst 2, 1) := by decide +kernel
theorem dX11_wayBy_27 : decode cX11_wayBy 27 = .ok (.goto 14, 3) := by decide +kernel
theorem dX11_wayBy_30 : decode cX11_wayBy 30 = .ok (.iload_n 0, 1) := by decide +kernel
theorem dX11_wayBy_31 : decode cX11_wayBy 31 = .ok (.bipush 119, 2) := by decide +kernel
theorem dX11_wayBy_33 : decode cX11_wayBy 33 = .ok (.if_icmp .ne 7, 3) := by decide +kernel
theorem dX11_wayBy_36 : decode cX11_wayBy 36 = .ok (.iconst 3, 1) := by decide +kernel
theorem dX11_wayBy_37 : decode cX11_wayBy 37 = .ok (.goto 4, 3) := by decide +kernel
theorem dX11_wayBy_40 : decode cX11_wayBy 40 = .ok (.iconst (-1), 1) := by decide +kernel
theorem dX11_wayBy_41 : decode cX11_wayBy 41 = .ok (.ireturn, 1) := by decide +kernel
theorem dX11_readWay_0 : decode cX11_readWay 0 = .ok (.iconst 0, 1) := by decide +kernel
theorem dX11_readWay_1 : decode cX11_readWay 1 = .ok (.istore_n 1, 1) := by decide +kernel
theorem dX11_readWay_2 : decode cX11_readWay 2 = .ok (.iload_n 1, 1) := by decide +kernel
theorem dX11_readWay_3 : decode cX11_readWay 3 = .ok (.aload_n 0, 1) := by decide +kernel
theorem dX11_readWay_4 : decode cX11_readWay 4 = .ok (.getfield 52, 3) := by decide +kernel
theorem dX11_readWay_7 : decode cX11_readWay 7 = .ok (.if_icmp .ge 28, 3) := by decide +kernel
theorem dX11_readWay_10 : decode cX11_readWay 10 = .ok (.iload_n 1, 1) := by decide +kernel
theorem dX11_readWay_11 : decode cX11_readWay 11 = .ok (.bipush 7, 2) := by decide +kernel
theorem dX11_readWay_13 : decode cX11_readWay 13 = .ok (.if_icmp .ge 22, 3) := by decide +kernel
theorem dX11_readWay_16 : decode cX11_readWay 16 = .ok (.aload_n 0, 1) := by decide +kernel
theorem dX11_readWay_17 : decode cX11_readWay 17 = .ok (.getfield 22, 3) := by decide +kernel
theorem dX11_readWay_20 : decode cX11_readWay 20 = .ok (.iload_n 1, 1) := by decide +kernel
theorem dX11_readWay_21 : decode cX11_readWay 21 = .ok (.baload, 1) := by decide +kernel
theorem dX11_readWay_22 : decode cX11_readWay 22 = .ok (.invokestatic 76, 3) := by decide +kernel
theorem dX11_readWay_25 : decode cX11_readWay 25 = .ok (.iconst (-1), 1) := by decide +kernel
theorem dX11_readWay_26 : decode cX11_readWay 26 = .ok (.if_icmp .eq 9, 3) := by decide +kernel
theorem dX11_readWay_29 : decode cX11_readWay 29 = .ok (.iinc 1 1, 3) := by decide +kernel
theorem dX11_readWay_32 : decode cX11_readWay 32 = .ok (.goto (-30), 3) := by decide +kernel
theorem dX11_readWay_35 : decode cX11_readWay 35 = .ok (.aload_n 0, 1) := by decide +kernel
theorem dX11_readWay_36 : decode cX11_readWay 36 = .ok (.iload_n 1, 1) := by decide +kernel
theorem dX11_readWay_37 : decode cX11_readWay 37 = .ok (.putfield 69, 3) := by decide +kernel
theorem dX11_readWay_40 : decode cX11_readWay 40 = .ok (.aload_n 0, 1) := by decide +kernel
theorem dX11_readWay_41 : decode cX11_readWay 41 = .ok (.iload_n 1, 1) := by decide +kernel
theorem dX11_readWay_42 : decode cX11_readWay 42 = .ok (.aload_n 0, 1) := by decide +kernel
theorem dX11_readWay_43 : decode cX11_readWay 43 = .ok (.getfield 52, 3) := by decide +kernel
theorem dX11_readWay_46 : decode cX11_readWay 46 = .ok (.if_icmp .ne 11, 3) := by decide +kernel
theorem dX11_readWay_49 : decode cX11_readWay 49 = .ok (.iload_n 1, 1) := by decide +kernel
theorem dX11_readWay_50 : decode cX11_readWay 50 = .ok (.ifCond .le 7, 3) := by decide +kernel
theorem dX11_readWay_53 : decode cX11_readWay 53 = .ok (.iconst 1, 1) := by decide +kernel
theorem dX11_readWay_54 : decode cX11_readWay 54 = .ok (.goto 4, 3) := by decide +kernel
theorem dX11_readWay_57 : decode cX11_readWay 57 = .ok (.iconst 0, 1) := by decide +kernel
theorem dX11_readWay_58 : decode cX11_readWay 58 = .ok (.putfield 72, 3) := by decide +kernel
theorem dX11_readWay_61 : decode cX11_readWay 61 = .ok (.return_, 1) := by decide +kernel
theorem dX11_fault_0 : decode cX11_fault 0 = .ok (.iload_n 1, 1) := by decide +kernel
theorem dX11_fault_1 : decode cX11_fault 1 = .ok (.iconst 0, 1) := by decide +kernel
theorem dX11_fault_2 : decode cX11_fault 2 = .ok (.iconst 1, 1) := by decide +kernel
theorem dX11_fault_3 : decode cX11_fault 3 = .ok (.invokestatic 65, 3) := by decide +kernel
theorem dX11_fault_6 : decode cX11_fault 6 = .ok (.ifCond .ne 6, 3) := by decide +kernel
theorem dX11_fault_9 : decode cX11_fault 9 = .ok (.bipush (-102), 2) := by decide +kernel
theorem dX11_fault_11 : decode cX11_fault 11 = .ok (.ireturn, 1) := by decide +kernel
theorem dX11_fault_12 : decode cX11_fault 12 = .ok (.iload_n 1, 1) := by decide +kernel
theorem dX11_fault_13 : decode cX11_fault 13 = .ok (.ifCond .ne 10, 3) := by decide +kernel
theorem dX11_fault_16 : decode cX11_fault 16 = .ok (.aload_n 0, 1) := by decide +kernel
theorem dX11_fault_17 : decode cX11_fault 17 = .ok (.invokevirtual 80, 3) := by decide +kernel
theorem dX11_fault_20 : decode cX11_fault 20 = .ok (.goto 7, 3) := by decide +kernel
theorem dX11_fault_23 : decode cX11_fault 23 = .ok (.aload_n 0, 1) := by decide +kernel
theorem dX11_fault_24 : decode cX11_fault 24 = .ok (.invokevirtual 83, 3) := by decide +kernel
theorem dX11_fault_27 : decode cX11_fault 27 = .ok (.aload_n 0, 1) := by decide +kernel
theorem dX11_fault_28 : decode cX11_fault 28 = .ok (.getfield 69, 3) := by decide +kernel
theorem dX11_fault_31 : decode cX11_fault 31 = .ok (.ireturn, 1) := by decide +kernel
theorem dX11_plan_0 : decode cX11_plan 0 = .ok (.aload_n 0, 1) := by decide +kernel
theorem dX11_plan_1 : decode cX11_plan 1 = .ok (.invokevirtual 80, 3) := by decide +kernel
theorem dX11_plan_4 : decode cX11_plan 4 = .ok (.aload_n 0, 1) := by decide +kernel
theorem dX11_plan_5 : decode cX11_plan 5 = .ok (.getfield 72, 3) := by decide +kernel
theorem dX11_plan_8 : decode cX11_plan 8 = .ok (.ifCond .ne 6, 3) := by decide +kernel
theorem dX11_plan_11 : decode cX11_plan 11 = .ok (.bipush (-103), 2) := by decide +kernel
theorem dX11_plan_13 : decode cX11_plan 13 = .ok (.ireturn, 1) := by decide +kernel
theorem dX11_plan_14 : decode cX11_plan 14 = .ok (.aload_n 0, 1) := by decide +kernel
theorem dX11_plan_15 : decode cX11_plan 15 = .ok (.aload_n 0, 1) := by decide +kernel
theorem dX11_plan_16 : decode cX11_plan 16 = .ok (.getfield 56, 3) := by decide +kernel
theorem dX11_plan_19 : decode cX11_plan 19 = .ok (.iconst 1, 1) := by decide +kernel
theorem dX11_plan_20 : decode cX11_plan 20 = .ok (.iadd, 1) := by decide +kernel
theorem dX11_plan_21 : decode cX11_plan 21 = .ok (.putfield 86, 3) := by decide +kernel
theorem dX11_plan_24 : decode cX11_plan 24 = .ok (.aload_n 0, 1) := by decide +kernel
theorem dX11_plan_25 : decode cX11_plan 25 = .ok (.aload_n 0, 1) := by decide +kernel
theorem dX11_plan_26 : decode cX11_plan 26 = .ok (.getfield 59, 3) := by decide +kernel
theorem dX11_plan_29 : decode cX11_plan 29 = .ok (.putfield 89, 3) := by decide +kernel
theorem dX11_plan_32 : decode cX11_plan 32 = .ok (.aload_n 0, 1) := by decide +kernel
theorem dX11_plan_33 : decode cX11_plan 33 = .ok (.aload_n 0, 1) := by decide +kernel
theorem dX11_plan_34 : decode cX11_plan 34 = .ok (.getfield 62, 3) := by decide +kernel
theorem dX11_plan_37 : decode cX11_plan 37 = .ok (.putfield 92, 3) := by decide +kernel
theorem dX11_plan_40 : decode cX11_plan 40 = .ok (.iconst 0, 1) := by decide +kernel
theorem dX11_plan_41 : decode cX11_plan 41 = .ok (.istore_n 1, 1) := by decide +kernel
theorem dX11_plan_42 : decode cX11_plan 42 = .ok (.iload_n 1, 1) := by decide +kernel
theorem dX11_plan_43 : decode cX11_plan 43 = .ok (.aload_n 0, 1) := by decide +kernel
theorem dX11_plan_44 : decode cX11_plan 44 = .ok (.getfield 92, 3) := by decide +kernel
theorem dX11_plan_47 : decode cX11_plan 47 = .ok (.if_icmp .ge 21, 3) := by decide +kernel
theorem dX11_plan_50 : decode cX11_plan 50 = .ok (.aload_n 0, 1) := by decide +kernel
theorem dX11_plan_51 : decode cX11_plan 51 = .ok (.getfield 7, 3) := by decide +kernel
theorem dX11_plan_54 : decode cX11_plan 54 = .ok (.iload_n 1, 1) := by decide +kernel
theorem dX11_plan_55 : decode cX11_plan 55 = .ok (.aload_n 0, 1) := by decide +kernel
theorem dX11_plan_56 : decode cX11_plan 56 = .ok (.getfield 26, 3) := by decide +kernel
theorem dX11_plan_59 : decode cX11_plan 59 = .ok (.iload_n 1, 1) := by decide +kernel
theorem dX11_plan_60 : decode cX11_plan 60 = .ok (.iaload, 1) := by decide +kernel
theorem dX11_plan_61 : decode cX11_plan 61 = .ok (.iastore, 1) := by decide +kernel
theorem dX11_plan_62 : decode cX11_plan 62 = .ok (.iinc 1 1, 3) := by decide +kernel
theorem dX11_plan_65 : decode cX11_plan 65 = .ok (.goto (-23), 3) := by decide +kernel
theorem dX11_plan_68 : decode cX11_plan 68 = .ok (.aload_n 0, 1) := by decide +kernel
theorem dX11_plan_69 : decode cX11_plan 69 = .ok (.iconst 0, 1) := by decide +kernel
theorem dX11_plan_70 : decode cX11_plan 70 = .ok (.putfield 95, 3) := by decide +kernel
theorem dX11_plan_73 : decode cX11_plan 73 = .ok (.aload_n 0, 1) := by decide +kernel
theorem dX11_plan_74 : decode cX11_plan 74 = .ok (.dup, 1) := by decide +kernel
theorem dX11_plan_75 : decode cX11_plan 75 = .ok (.getfield 98, 3) := by decide +kernel
theorem dX11_plan_78 : decode cX11_plan 78 = .ok (.iconst 1, 1) := by decide +kernel
theorem dX11_plan_79 : decode cX11_plan 79 = .ok (.iadd, 1) := by decide +kernel
theorem dX11_plan_80 : decode cX11_plan 80 = .ok (.putfield 98, 3) := by decide +kernel
theorem dX11_plan_83 : decode cX11_plan 83 = .ok (.aload_n 0, 1) := by decide +kernel
theorem dX11_plan_84 : decode cX11_plan 84 = .ok (.iconst 0, 1) := by decide +kernel
theorem dX11_plan_85 : decode cX11_plan 85 = .ok (.putfield 52, 3) := by decide +kernel
theorem dX11_plan_88 : decode cX11_plan 88 = .ok (.aload_n 0, 1) := by decide +kernel
theorem dX11_plan_89 : decode cX11_plan 89 = .ok (.getfield 92, 3) := by decide +kernel
theorem dX11_plan_92 : decode cX11_plan 92 = .ok (.ireturn, 1) := by decide +kernel
theorem dX11_isSquare_0 : decode cX11_isSquare 0 = .ok (.iload_n 1, 1) := by decide +kernel
theorem dX11_isSquare_1 : decode cX11_isSquare 1 = .ok (.iconst 0, 1) := by decide +kernel
theorem dX11_isSquare_2 : decode cX11_isSquare 2 = .ok (.aload_n 0, 1) := by decide +kernel
theorem dX11_isSquare_3 : decode cX11_isSquare 3 = .ok (.getfield 92, 3) := by decide +kernel
theorem dX11_isSquare_6 : decode cX11_isSquare 6 = .ok (.iconst 1, 1) := by decide +kernel
theorem dX11_isSquare_7 : decode cX11_isSquare 7 = .ok (.isub, 1) := by decide +kernel
theorem dX11_isSquare_8 : decode cX11_isSquare 8 = .ok (.invokestatic 65, 3) := by decide +kernel
theorem dX11_isSquare_11 : decode cX11_isSquare 11 = .ok (.ireturn, 1) := by decide +kernel
theorem dX11_eastOf_0 : decode cX11_eastOf 0 = .ok (.iconst 2, 1) := by decide +kernel
theorem dX11_eastOf_1 : decode cX11_eastOf 1 = .ok (.iload_n 1, 1) := by decide +kernel
theorem dX11_eastOf_2 : decode cX11_eastOf 2 = .ok (.aload_n 0, 1) := by decide +kernel
theorem dX11_eastOf_3 : decode cX11_eastOf 3 = .ok (.getfield 89, 3) := by decide +kernel
theorem dX11_eastOf_6 : decode cX11_eastOf 6 = .ok (.irem, 1) := by decide +kernel
theorem dX11_eastOf_7 : decode cX11_eastOf 7 = .ok (.imul, 1) := by decide +kernel
theorem dX11_eastOf_8 : decode cX11_eastOf 8 = .ok (.aload_n 0, 1) := by decide +kernel
theorem dX11_eastOf_9 : decode cX11_eastOf 9 = .ok (.getfield 89, 3) := by decide +kernel
theorem dX11_eastOf_12 : decode cX11_eastOf 12 = .ok (.isub, 1) := by decide +kernel
theorem dX11_eastOf_13 : decode cX11_eastOf 13 = .ok (.iconst 1, 1) := by decide +kernel
theorem dX11_eastOf_14 : decode cX11_eastOf 14 = .ok (.iadd, 1) := by decide +kernel
theorem dX11_eastOf_15 : decode cX11_eastOf 15 = .ok (.ireturn, 1) := by decide +kernel
theorem dX11_southOf_0 : decode cX11_southOf 0 = .ok (.iconst 2, 1) := by decide +kernel
theorem dX11_southOf_1 : decode cX11_southOf 1 = .ok (.iload_n 1, 1) := by decide +kernel
theorem dX11_southOf_2 : decode cX11_southOf 2 = .ok (.aload_n 0, 1) := by decide +kernel
theorem dX11_southOf_3 : decode cX11_southOf 3 = .ok (.getfield 89, 3) := by decide +kernel
theorem dX11_southOf_6 : decode cX11_southOf 6 = .ok (.idiv, 1) := by decide +kernel
theorem dX11_southOf_7 : decode cX11_southOf 7 = .ok (.imul, 1) := by decide +kernel
theorem dX11_southOf_8 : decode cX11_southOf 8 = .ok (.aload_n 0, 1) := by decide +kernel
theorem dX11_southOf_9 : decode cX11_southOf 9 = .ok (.getfield 86, 3) := by decide +kernel
theorem dX11_southOf_12 : decode cX11_southOf 12 = .ok (.isub, 1) := by decide +kernel
theorem dX11_southOf_13 : decode cX11_southOf 13 = .ok (.iconst 1, 1) := by decide +kernel
theorem dX11_southOf_14 : decode cX11_southOf 14 = .ok (.iadd, 1) := by decide +kernel
theorem dX11_southOf_15 : decode cX11_southOf 15 = .ok (.ireturn, 1) := by decide +kernel
theorem dX11_square_0 : decode cX11_square 0 = .ok (.aload_n 0, 1) := by decide +kernel
theorem dX11_square_1 : decode cX11_square 1 = .ok (.iload_n 1, 1) := by decide +kernel
theorem dX11_square_2 : decode cX11_square 2 = .ok (.invokevirtual 101, 3) := by decide +kernel
theorem dX11_square_5 : decode cX11_square 5 = .ok (.ifCond .ne 6, 3) := by decide +kernel
theorem dX11_square_8 : decode cX11_square 8 = .ok (.ldc 105, 2) := by decide +kernel
theorem dX11_square_10 : decode cX11_square 10 = .ok (.ireturn, 1) := by decide +kernel
theorem dX11_square_11 : decode cX11_square 11 = .ok (.iload_n 2, 1) := by decide +kernel
theorem dX11_square_12 : decode cX11_square 12 = .ok (.iconst 0, 1) := by decide +kernel
theorem dX11_square_13 : decode cX11_square 13 = .ok (.iconst 2, 1) := by decide +kernel
theorem dX11_square_14 : decode cX11_square 14 = .ok (.invokestatic 65, 3) := by decide +kernel
theorem dX11_square_17 : decode cX11_square 17 = .ok (.ifCond .ne 6, 3) := by decide +kernel
theorem dX11_square_20 : decode cX11_square 20 = .ok (.ldc 106, 2) := by decide +kernel
theorem dX11_square_22 : decode cX11_square 22 = .ok (.ireturn, 1) := by decide +kernel
theorem dX11_square_23 : decode cX11_square 23 = .ok (.iload_n 2, 1) := by decide +kernel
theorem dX11_square_24 : decode cX11_square 24 = .ok (.ifCond .ne 12, 3) := by decide +kernel
theorem dX11_square_27 : decode cX11_square 27 = .ok (.aload_n 0, 1) := by decide +kernel
theorem dX11_square_28 : decode cX11_square 28 = .ok (.getfield 7, 3) := by decide +kernel
theorem dX11_square_31 : decode cX11_square 31 = .ok (.iload_n 1, 1) := by decide +kernel
theorem dX11_square_32 : decode cX11_square 32 = .ok (.iaload, 1) := by decide +kernel
theorem dX11_square_33 : decode cX11_square 33 = .ok (.goto 21, 3) := by decide +kernel
theorem dX11_square_36 : decode cX11_square 36 = .ok (.iload_n 2, 1) := by decide +kernel
theorem dX11_square_37 : decode cX11_square 37 = .ok (.iconst 1, 1) := by decide +kernel
theorem dX11_square_38 : decode cX11_square 38 = .ok (.if_icmp .ne 11, 3) := by decide +kernel
theorem dX11_square_41 : decode cX11_square 41 = .ok (.aload_n 0, 1) := by decide +kernel
theorem dX11_square_42 : decode cX11_square 42 = .ok (.iload_n 1, 1) := by decide +kernel
theorem dX11_square_43 : decode cX11_square 43 = .ok (.invokevirtual 107, 3) := by decide +kernel
theorem dX11_square_46 : decode cX11_square 46 = .ok (.goto 8, 3) := by decide +kernel
theorem dX11_square_49 : decode cX11_square 49 = .ok (.aload_n 0, 1) := by decide +kernel
theorem dX11_square_50 : decode cX11_square 50 = .ok (.iload_n 1, 1) := by decide +kernel
theorem dX11_square_51 : decode cX11_square 51 = .ok (.invokevirtual 110, 3) := by decide +kernel
theorem dX11_square_54 : decode cX11_square 54 = .ok (.ireturn, 1) := by decide +kernel
theorem dX11_isThing_0 : decode cX11_isThing 0 = .ok (.iload_n 1, 1) := by decide +kernel
theorem dX11_isThing_1 : decode cX11_isThing 1 = .ok (.iconst 0, 1) := by decide +kernel
theorem dX11_isThing_2 : decode cX11_isThing 2 = .ok (.aload_n 0, 1) := by decide +kernel
theorem dX11_isThing_3 : decode cX11_isThing 3 = .ok (.getfield 95, 3) := by decide +kernel
theorem dX11_isThing_6 : decode cX11_isThing 6 = .ok (.iconst 1, 1) := by decide +kernel
theorem dX11_isThing_7 : decode cX11_isThing 7 = .ok (.isub, 1) := by decide +kernel
theorem dX11_isThing_8 : decode cX11_isThing 8 = .ok (.invokestatic 65, 3) := by decide +kernel
theorem dX11_isThing_11 : decode cX11_isThing 11 = .ok (.ireturn, 1) := by decide +kernel
theorem dX11_isQuarter_0 : decode cX11_isQuarter 0 = .ok (.iload_n 0, 1) := by decide +kernel
theorem dX11_isQuarter_1 : decode cX11_isQuarter 1 = .ok (.iconst 0, 1) := by decide +kernel
theorem dX11_isQuarter_2 : decode cX11_isQuarter 2 = .ok (.bipush 7, 2) := by decide +kernel
theorem dX11_isQuarter_4 : decode cX11_isQuarter 4 = .ok (.invokestatic 65, 3) := by decide +kernel
theorem dX11_isQuarter_7 : decode cX11_isQuarter 7 = .ok (.ireturn, 1) := by decide +kernel
theorem dX11_isPerson_0 : decode cX11_isPerson 0 = .ok (.aload_n 0, 1) := by decide +kernel
theorem dX11_isPerson_1 : decode cX11_isPerson 1 = .ok (.getfield 13, 3) := by decide +kernel
theorem dX11_isPerson_4 : decode cX11_isPerson 4 = .ok (.iload_n 1, 1) := by decide +kernel
theorem dX11_isPerson_5 : decode cX11_isPerson 5 = .ok (.iaload, 1) := by decide +kernel
theorem dX11_isPerson_6 : decode cX11_isPerson 6 = .ok (.iconst 3, 1) := by decide +kernel
theorem dX11_isPerson_7 : decode cX11_isPerson 7 = .ok (.if_icmp .eq 13, 3) := by decide +kernel
theorem dX11_isPerson_10 : decode cX11_isPerson 10 = .ok (.aload_n 0, 1) := by decide +kernel
theorem dX11_isPerson_11 : decode cX11_isPerson 11 = .ok (.getfield 13, 3) := by decide +kernel
theorem dX11_isPerson_14 : decode cX11_isPerson 14 = .ok (.iload_n 1, 1) := by decide +kernel
theorem dX11_isPerson_15 : decode cX11_isPerson 15 = .ok (.iaload, 1) := by decide +kernel
theorem dX11_isPerson_16 : decode cX11_isPerson 16 = .ok (.iconst 4, 1) := by decide +kernel
theorem dX11_isPerson_17 : decode cX11_isPerson 17 = .ok (.if_icmp .ne 7, 3) := by decide +kernel
theorem dX11_isPerson_20 : decode cX11_isPerson 20 = .ok (.iconst 1, 1) := by decide +kernel
theorem dX11_isPerson_21 : decode cX11_isPerson 21 = .ok (.goto 4, 3) := by decide +kernel
theorem dX11_isPerson_24 : decode cX11_isPerson 24 = .ok (.iconst 0, 1) := by decide +kernel
theorem dX11_isPerson_25 : decode cX11_isPerson 25 = .ok (.ireturn, 1) := by decide +kernel
theorem dX11_thing_0 : decode cX11_thing 0 = .ok (.iload_n 1, 1) := by decide +kernel
theorem dX11_thing_1 : decode cX11_thing 1 = .ok (.iconst 0, 1) := by decide +kernel
theorem dX11_thing_2 : decode cX11_thing 2 = .ok (.iconst 4, 1) := by decide +kernel
theorem dX11_thing_3 : decode cX11_thing 3 = .ok (.invokestatic 65, 3) := by decide +kernel
theorem dX11_thing_6 : decode cX11_thing 6 = .ok (.ifCond .eq 13, 3) := by decide +kernel
theorem dX11_thing_9 : decode cX11_thing 9 = .ok (.iload_n 2, 1) := by decide +kernel
theorem dX11_thing_10 : decode cX11_thing 10 = .ok (.iconst 1, 1) := by decide +kernel
theorem dX11_thing_11 : decode cX11_thing 11 = .ok (.bipush 99, 2) := by decide +kernel
theorem dX11_thing_13 : decode cX11_thing 13 = .ok (.invokestatic 65, 3) := by decide +kernel
theorem dX11_thing_16 : decode cX11_thing 16 = .ok (.ifCond .ne 6, 3) := by decide +kernel
theorem dX11_thing_19 : decode cX11_thing 19 = .ok (.bipush (-102), 2) := by decide +kernel
theorem dX11_thing_21 : decode cX11_thing 21 = .ok (.ireturn, 1) := by decide +kernel
theorem dX11_thing_22 : decode cX11_thing 22 = .ok (.aload_n 0, 1) := by decide +kernel
theorem dX11_thing_23 : decode cX11_thing 23 = .ok (.iload_n 3, 1) := by decide +kernel
theorem dX11_thing_24 : decode cX11_thing 24 = .ok (.invokevirtual 101, 3) := by decide +kernel
theorem dX11_thing_27 : decode cX11_thing 27 = .ok (.ifCond .ne 6, 3) := by decide +kernel
theorem dX11_thing_30 : decode cX11_thing 30 = .ok (.bipush (-101), 2) := by decide +kernel
theorem dX11_thing_32 : decode cX11_thing 32 = .ok (.ireturn, 1) := by decide +kernel
theorem dX11_thing_33 : decode cX11_thing 33 = .ok (.aload_n 0, 1) := by decide +kernel
theorem dX11_thing_34 : decode cX11_thing 34 = .ok (.getfield 95, 3) := by decide +kernel
theorem dX11_thing_37 : decode cX11_thing 37 = .ok (.bipush 8, 2) := by decide +kernel
theorem dX11_thing_39 : decode cX11_thing 39 = .ok (.if_icmp .ne 6, 3) := by decide +kernel
theorem dX11_thing_42 : decode cX11_thing 42 = .ok (.bipush (-104), 2) := by decide +kernel
theorem dX11_thing_44 : decode cX11_thing 44 = .ok (.ireturn, 1) := by decide +kernel
theorem dX11_thing_45 : decode cX11_thing 45 = .ok (.aload_n 0, 1) := by decide +kernel
theorem dX11_thing_46 : decode cX11_thing 46 = .ok (.getfield 13, 3) := by decide +kernel
theorem dX11_thing_49 : decode cX11_thing 49 = .ok (.aload_n 0, 1) := by decide +kernel
theorem dX11_thing_50 : decode cX11_thing 50 = .ok (.getfield 95, 3) := by decide +kernel
theorem dX11_thing_53 : decode cX11_thing 53 = .ok (.iload_n 1, 1) := by decide +kernel
theorem dX11_thing_54 : decode cX11_thing 54 = .ok (.iastore, 1) := by decide +kernel
theorem dX11_thing_55 : decode cX11_thing 55 = .ok (.aload_n 0, 1) := by decide +kernel
theorem dX11_thing_56 : decode cX11_thing 56 = .ok (.getfield 16, 3) := by decide +kernel
theorem dX11_thing_59 : decode cX11_thing 59 = .ok (.aload_n 0, 1) := by decide +kernel
theorem dX11_thing_60 : decode cX11_thing 60 = .ok (.getfield 95, 3) := by decide +kernel
theorem dX11_thing_63 : decode cX11_thing 63 = .ok (.iload_n 2, 1) := by decide +kernel
theorem dX11_thing_64 : decode cX11_thing 64 = .ok (.iastore, 1) := by decide +kernel
theorem dX11_thing_65 : decode cX11_thing 65 = .ok (.iconst 0, 1) := by decide +kernel
theorem dX11_thing_66 : decode cX11_thing 66 = .ok (.istore 4, 2) := by decide +kernel
theorem dX11_thing_68 : decode cX11_thing 68 = .ok (.iload 4, 2) := by decide +kernel
theorem dX11_thing_70 : decode cX11_thing 70 = .ok (.bipush 8, 2) := by decide +kernel
theorem dX11_thing_72 : decode cX11_thing 72 = .ok (.if_icmp .ge 25, 3) := by decide +kernel
theorem dX11_thing_75 : decode cX11_thing 75 = .ok (.aload_n 0, 1) := by decide +kernel
theorem dX11_thing_76 : decode cX11_thing 76 = .ok (.getfield 19, 3) := by decide +kernel
theorem dX11_thing_79 : decode cX11_thing 79 = .ok (.bipush 8, 2) := by decide +kernel
theorem dX11_thing_81 : decode cX11_thing 81 = .ok (.aload_n 0, 1) := by decide +kernel
theorem dX11_thing_82 : decode cX11_thing 82 = .ok (.getfield 95, 3) := by decide +kernel
theorem dX11_thing_85 : decode cX11_thing 85 = .ok (.imul, 1) := by decide +kernel
theorem dX11_thing_86 : decode cX11_thing 86 = .ok (.iload 4, 2) := by decide +kernel
theorem dX11_thing_88 : decode cX11_thing 88 = .ok (.iadd, 1) := by decide +kernel
theorem dX11_thing_89 : decode cX11_thing 89 = .ok (.iload_n 3, 1) := by decide +kernel
theorem dX11_thing_90 : decode cX11_thing 90 = .ok (.iastore, 1) := by decide +kernel
theorem dX11_thing_91 : decode cX11_thing 91 = .ok (.iinc 4 1, 3) := by decide +kernel
theorem dX11_thing_94 : decode cX11_thing 94 = .ok (.goto (-26), 3) := by decide +kernel
theorem dX11_thing_97 : decode cX11_thing 97 = .ok (.aload_n 0, 1) := by decide +kernel
theorem dX11_thing_98 : decode cX11_thing 98 = .ok (.dup, 1) := by decide +kernel
theorem dX11_thing_99 : decode cX11_thing 99 = .ok (.getfield 95, 3) := by decide +kernel
theorem dX11_thing_102 : decode cX11_thing 102 = .ok (.iconst 1, 1) := by decide +kernel
theorem dX11_thing_103 : decode cX11_thing 103 = .ok (.iadd, 1) := by decide +kernel
theorem dX11_thing_104 : decode cX11_thing 104 = .ok (.putfield 95, 3) := by decide +kernel
theorem dX11_thing_107 : decode cX11_thing 107 = .ok (.aload_n 0, 1) := by decide +kernel
theorem dX11_thing_108 : decode cX11_thing 108 = .ok (.getfield 95, 3) := by decide +kernel
theorem dX11_thing_111 : decode cX11_thing 111 = .ok (.iconst 1, 1) := by decide +kernel
theorem dX11_thing_112 : decode cX11_thing 112 = .ok (.isub, 1) := by decide +kernel
theorem dX11_thing_113 : decode cX11_thing 113 = .ok (.ireturn, 1) := by decide +kernel
theorem dX11_weighs_0 : decode cX11_weighs 0 = .ok (.aload_n 0, 1) := by decide +kernel
theorem dX11_weighs_1 : decode cX11_weighs 1 = .ok (.getfield 13, 3) := by decide +kernel
theorem dX11_weighs_4 : decode cX11_weighs 4 = .ok (.iload_n 1, 1) := by decide +kernel
theorem dX11_weighs_5 : decode cX11_weighs 5 = .ok (.iaload, 1) := by decide +kernel
theorem dX11_weighs_6 : decode cX11_weighs 6 = .ok (.iconst 4, 1) := by decide +kernel
theorem dX11_weighs_7 : decode cX11_weighs 7 = .ok (.if_icmp .ne 14, 3) := by decide +kernel
theorem dX11_weighs_10 : decode cX11_weighs 10 = .ok (.iconst 2, 1) := by decide +kernel
theorem dX11_weighs_11 : decode cX11_weighs 11 = .ok (.aload_n 0, 1) := by decide +kernel
theorem dX11_weighs_12 : decode cX11_weighs 12 = .ok (.getfield 16, 3) := by decide +kernel
theorem dX11_weighs_15 : decode cX11_weighs 15 = .ok (.iload_n 1, 1) := by decide +kernel
theorem dX11_weighs_16 : decode cX11_weighs 16 = .ok (.iaload, 1) := by decide +kernel
theorem dX11_weighs_17 : decode cX11_weighs 17 = .ok (.imul, 1) := by decide +kernel
theorem dX11_weighs_18 : decode cX11_weighs 18 = .ok (.goto 9, 3) := by decide +kernel
theorem dX11_weighs_21 : decode cX11_weighs 21 = .ok (.aload_n 0, 1) := by decide +kernel
theorem dX11_weighs_22 : decode cX11_weighs 22 = .ok (.getfield 16, 3) := by decide +kernel
theorem dX11_weighs_25 : decode cX11_weighs 25 = .ok (.iload_n 1, 1) := by decide +kernel
theorem dX11_weighs_26 : decode cX11_weighs 26 = .ok (.iaload, 1) := by decide +kernel
theorem dX11_weighs_27 : decode cX11_weighs 27 = .ok (.ireturn, 1) := by decide +kernel
theorem dX11_about_0 : decode cX11_about 0 = .ok (.aload_n 0, 1) := by decide +kernel
theorem dX11_about_1 : decode cX11_about 1 = .ok (.iload_n 1, 1) := by decide +kernel
theorem dX11_about_2 : decode cX11_about 2 = .ok (.invokevirtual 113, 3) := by decide +kernel
theorem dX11_about_5 : decode cX11_about 5 = .ok (.ifCond .ne 6, 3) := by decide +kernel
theorem dX11_about_8 : decode cX11_about 8 = .ok (.bipush (-101), 2) := by decide +kernel
theorem dX11_about_10 : decode cX11_about 10 = .ok (.ireturn, 1) := by decide +kernel
theorem dX11_about_11 : decode cX11_about 11 = .ok (.iload_n 2, 1) := by decide +kernel
theorem dX11_about_12 : decode cX11_about 12 = .ok (.iconst 0, 1) := by decide +kernel
theorem dX11_about_13 : decode cX11_about 13 = .ok (.iconst 2, 1) := by decide +kernel
theorem dX11_about_14 : decode cX11_about 14 = .ok (.invokestatic 65, 3) := by decide +kernel
theorem dX11_about_17 : decode cX11_about 17 = .ok (.ifCond .ne 17, 3) := by decide +kernel
theorem dX11_about_20 : decode cX11_about 20 = .ok (.iload_n 2, 1) := by decide +kernel
theorem dX11_about_21 : decode cX11_about 21 = .ok (.bipush 10, 2) := by decide +kernel
theorem dX11_about_23 : decode cX11_about 23 = .ok (.bipush 17, 2) := by decide +kernel
theorem dX11_about_25 : decode cX11_about 25 = .ok (.invokestatic 65, 3) := by decide +kernel
theorem dX11_about_28 : decode cX11_about 28 = .ok (.ifCond .ne 6, 3) := by decide +kernel
theorem dX11_about_31 : decode cX11_about 31 = .ok (.bipush (-102), 2) := by decide +kernel
theorem dX11_about_33 : decode cX11_about 33 = .ok (.ireturn, 1) := by decide +kernel
theorem dX11_about_34 : decode cX11_about 34 = .ok (.iload_n 2, 1) := by decide +kernel
theorem dX11_about_35 : decode cX11_about 35 = .ok (.ifCond .ne 12, 3) := by decide +kernel
theorem dX11_about_38 : decode cX11_about 38 = .ok (.aload_n 0, 1) := by decide +kernel
theorem dX11_about_39 : decode cX11_about 39 = .ok (.getfield 13, 3) := by decide +kernel
theorem dX11_about_42 : decode cX11_about 42 = .ok (.iload_n 1, 1) := by decide +kernel
theorem dX11_about_43 : decode cX11_about 43 = .ok (.iaload, 1) := by decide +kernel
theorem dX11_about_44 : decode cX11_about 44 = .ok (.goto 44, 3) := by decide +kernel
theorem dX11_about_47 : decode cX11_about 47 = .ok (.iload_n 2, 1) := by decide +kernel
theorem dX11_about_48 : decode cX11_about 48 = .ok (.iconst 1, 1) := by decide +kernel
theorem dX11_about_49 : decode cX11_about 49 = .ok (.if_icmp .ne 12, 3) := by decide +kernel
theorem dX11_about_52 : decode cX11_about 52 = .ok (.aload_n 0, 1) := by decide +kernel
theorem dX11_about_53 : decode cX11_about 53 = .ok (.getfield 16, 3) := by decide +kernel
theorem dX11_about_56 : decode cX11_about 56 = .ok (.iload_n 1, 1) := by decide +kernel
theorem dX11_about_57 : decode cX11_about 57 = .ok (.iaload, 1) := by decide +kernel
theorem dX11_about_58 : decode cX11_about 58 = .ok (.goto 30, 3) := by decide +kernel
theorem dX11_about_61 : decode cX11_about 61 = .ok (.iload_n 2, 1) := by decide +kernel
theorem dX11_about_62 : decode cX11_about 62 = .ok (.iconst 2, 1) := by decide +kernel
theorem dX11_about_63 : decode cX11_about 63 = .ok (.if_icmp .ne 11, 3) := by decide +kernel
theorem dX11_about_66 : decode cX11_about 66 = .ok (.aload_n 0, 1) := by decide +kernel
theorem dX11_about_67 : decode cX11_about 67 = .ok (.iload_n 1, 1) := by decide +kernel
theorem dX11_about_68 : decode cX11_about 68 = .ok (.invokevirtual 116, 3) := by decide +kernel
theorem dX11_about_71 : decode cX11_about 71 = .ok (.goto 17, 3) := by decide +kernel
theorem dX11_about_74 : decode cX11_about 74 = .ok (.aload_n 0, 1) := by decide +kernel
theorem dX11_about_75 : decode cX11_about 75 = .ok (.getfield 19, 3) := by decide +kernel
theorem dX11_about_78 : decode cX11_about 78 = .ok (.bipush 8, 2) := by decide +kernel
theorem dX11_about_80 : decode cX11_about 80 = .ok (.iload_n 1, 1) := by decide +kernel
theorem dX11_about_81 : decode cX11_about 81 = .ok (.imul, 1) := by decide +kernel
theorem dX11_about_82 : decode cX11_about 82 = .ok (.iload_n 2, 1) := by decide +kernel
theorem dX11_about_83 : decode cX11_about 83 = .ok (.iadd, 1) := by decide +kernel
theorem dX11_about_84 : decode cX11_about 84 = .ok (.bipush 10, 2) := by decide +kernel
theorem dX11_about_86 : decode cX11_about 86 = .ok (.isub, 1) := by decide +kernel
theorem dX11_about_87 : decode cX11_about 87 = .ok (.iaload, 1) := by decide +kernel
theorem dX11_about_88 : decode cX11_about 88 = .ok (.ireturn, 1) := by decide +kernel
theorem dX11_as_0 : decode cX11_as 0 = .ok (.aload_n 0, 1) := by decide +kernel
theorem dX11_as_1 : decode cX11_as 1 = .ok (.iload_n 1, 1) := by decide +kernel
theorem dX11_as_2 : decode cX11_as 2 = .ok (.invokevirtual 113, 3) := by decide +kernel
theorem dX11_as_5 : decode cX11_as 5 = .ok (.ifCond .ne 6, 3) := by decide +kernel
theorem dX11_as_8 : decode cX11_as 8 = .ok (.bipush (-101), 2) := by decide +kernel
theorem dX11_as_10 : decode cX11_as 10 = .ok (.ireturn, 1) := by decide +kernel
theorem dX11_as_11 : decode cX11_as 11 = .ok (.iload_n 2, 1) := by decide +kernel
theorem dX11_as_12 : decode cX11_as 12 = .ok (.iconst 0, 1) := by decide +kernel
theorem dX11_as_13 : decode cX11_as 13 = .ok (.iconst 4, 1) := by decide +kernel
theorem dX11_as_14 : decode cX11_as 14 = .ok (.invokestatic 65, 3) := by decide +kernel
theorem dX11_as_17 : decode cX11_as 17 = .ok (.ifCond .ne 6, 3) := by decide +kernel
theorem dX11_as_20 : decode cX11_as 20 = .ok (.bipush (-102), 2) := by decide +kernel
theorem dX11_as_22 : decode cX11_as 22 = .ok (.ireturn, 1) := by decide +kernel
theorem dX11_as_23 : decode cX11_as 23 = .ok (.aload_n 0, 1) := by decide +kernel
theorem dX11_as_24 : decode cX11_as 24 = .ok (.getfield 13, 3) := by decide +kernel
theorem dX11_as_27 : decode cX11_as 27 = .ok (.iload_n 1, 1) := by decide +kernel
theorem dX11_as_28 : decode cX11_as 28 = .ok (.iaload, 1) := by decide +kernel
theorem dX11_as_29 : decode cX11_as 29 = .ok (.istore_n 3, 1) := by decide +kernel
theorem dX11_as_30 : decode cX11_as 30 = .ok (.iload_n 2, 1) := by decide +kernel
theorem dX11_as_31 : decode cX11_as 31 = .ok (.ifCond .eq 18, 3) := by decide +kernel
theorem dX11_as_34 : decode cX11_as 34 = .ok (.iload_n 3, 1) := by decide +kernel
theorem dX11_as_35 : decode cX11_as 35 = .ok (.iload_n 2, 1) := by decide +kernel
theorem dX11_as_36 : decode cX11_as 36 = .ok (.if_icmp .eq 13, 3) := by decide +kernel
theorem dX11_as_39 : decode cX11_as 39 = .ok (.iload_n 2, 1) := by decide +kernel
theorem dX11_as_40 : decode cX11_as 40 = .ok (.iconst 3, 1) := by decide +kernel
theorem dX11_as_41 : decode cX11_as 41 = .ok (.if_icmp .ne 12, 3) := by decide +kernel
theorem dX11_as_44 : decode cX11_as 44 = .ok (.iload_n 3, 1) := by decide +kernel
theorem dX11_as_45 : decode cX11_as 45 = .ok (.iconst 4, 1) := by decide +kernel
theorem dX11_as_46 : decode cX11_as 46 = .ok (.if_icmp .ne 7, 3) := by decide +kernel
theorem dX11_as_49 : decode cX11_as 49 = .ok (.iload_n 1, 1) := by decide +kernel
theorem dX11_as_50 : decode cX11_as 50 = .ok (.goto 4, 3) := by decide +kernel
theorem dX11_as_53 : decode cX11_as 53 = .ok (.iconst (-1), 1) := by decide +kernel
theorem dX11_as_54 : decode cX11_as 54 = .ok (.ireturn, 1) := by decide +kernel
theorem dX11_stand_0 : decode cX11_stand 0 = .ok (.aload_n 0, 1) := by decide +kernel
theorem dX11_stand_1 : decode cX11_stand 1 = .ok (.iload_n 1, 1) := by decide +kernel
theorem dX11_stand_2 : decode cX11_stand 2 = .ok (.invokevirtual 113, 3) := by decide +kernel
theorem dX11_stand_5 : decode cX11_stand 5 = .ok (.ifCond .eq 18, 3) := by decide +kernel
theorem dX11_stand_8 : decode cX11_stand 8 = .ok (.iload_n 2, 1) := by decide +kernel
theorem dX11_stand_9 : decode cX11_stand 9 = .ok (.invokestatic 119, 3) := by decide +kernel
theorem dX11_stand_12 : decode cX11_stand 12 = .ok (.ifCond .eq 11, 3) := by decide +kernel
theorem dX11_stand_15 : decode cX11_stand 15 = .ok (.aload_n 0, 1) := by decide +kernel
theorem dX11_stand_16 : decode cX11_stand 16 = .ok (.iload_n 3, 1) := by decide +kernel
theorem dX11_stand_17 : decode cX11_stand 17 = .ok (.invokevirtual 101, 3) := by decide +kernel
theorem dX11_stand_20 : decode cX11_stand 20 = .ok (.ifCond .ne 6, 3) := by decide +kernel
theorem dX11_stand_23 : decode cX11_stand 23 = .ok (.bipush (-101), 2) := by decide +kernel
theorem dX11_stand_25 : decode cX11_stand 25 = .ok (.ireturn, 1) := by decide +kernel
theorem dX11_stand_26 : decode cX11_stand 26 = .ok (.aload_n 0, 1) := by decide +kernel
theorem dX11_stand_27 : decode cX11_stand 27 = .ok (.iload_n 1, 1) := by decide +kernel
theorem dX11_stand_28 : decode cX11_stand 28 = .ok (.invokevirtual 122, 3) := by decide +kernel
theorem dX11_stand_31 : decode cX11_stand 31 = .ok (.ifCond .ne 6, 3) := by decide +kernel
theorem dX11_stand_34 : decode cX11_stand 34 = .ok (.bipush (-103), 2) := by decide +kernel
theorem dX11_stand_36 : decode cX11_stand 36 = .ok (.ireturn, 1) := by decide +kernel
theorem dX11_stand_37 : decode cX11_stand 37 = .ok (.aload_n 0, 1) := by decide +kernel
theorem dX11_stand_38 : decode cX11_stand 38 = .ok (.getfield 19, 3) := by decide +kernel
theorem dX11_stand_41 : decode cX11_stand 41 = .ok (.bipush 8, 2) := by decide +kernel
theorem dX11_stand_43 : decode cX11_stand 43 = .ok (.iload_n 1, 1) := by decide +kernel
theorem dX11_stand_44 : decode cX11_stand 44 = .ok (.imul, 1) := by decide +kernel
theorem dX11_stand_45 : decode cX11_stand 45 = .ok (.iload_n 2, 1) := by decide +kernel
theorem dX11_stand_46 : decode cX11_stand 46 = .ok (.iadd, 1) := by decide +kernel
theorem dX11_stand_47 : decode cX11_stand 47 = .ok (.iaload, 1) := by decide +kernel
theorem dX11_stand_48 : decode cX11_stand 48 = .ok (.istore 4, 2) := by decide +kernel
theorem dX11_stand_50 : decode cX11_stand 50 = .ok (.aload_n 0, 1) := by decide +kernel
theorem dX11_stand_51 : decode cX11_stand 51 = .ok (.getfield 19, 3) := by decide +kernel
theorem dX11_stand_54 : decode cX11_stand 54 = .ok (.bipush 8, 2) := by decide +kernel
theorem dX11_stand_56 : decode cX11_stand 56 = .ok (.iload_n 1, 1) := by decide +kernel
theorem dX11_stand_57 : decode cX11_stand 57 = .ok (.imul, 1) := by decide +kernel
theorem dX11_stand_58 : decode cX11_stand 58 = .ok (.iload_n 2, 1) := by decide +kernel
theorem dX11_stand_59 : decode cX11_stand 59 = .ok (.iadd, 1) := by decide +kernel
theorem dX11_stand_60 : decode cX11_stand 60 = .ok (.iload_n 3, 1) := by decide +kernel
theorem dX11_stand_61 : decode cX11_stand 61 = .ok (.iastore, 1) := by decide +kernel
theorem dX11_stand_62 : decode cX11_stand 62 = .ok (.iload 4, 2) := by decide +kernel
theorem dX11_stand_64 : decode cX11_stand 64 = .ok (.ireturn, 1) := by decide +kernel
theorem dX11_putAt_0 : decode cX11_putAt 0 = .ok (.iconst 0, 1) := by decide +kernel
theorem dX11_putAt_1 : decode cX11_putAt 1 = .ok (.istore_n 3, 1) := by decide +kernel
theorem dX11_putAt_2 : decode cX11_putAt 2 = .ok (.iload_n 3, 1) := by decide +kernel
theorem dX11_putAt_3 : decode cX11_putAt 3 = .ok (.bipush 8, 2) := by decide +kernel
theorem dX11_putAt_5 : decode cX11_putAt 5 = .ok (.if_icmp .ge 21, 3) := by decide +kernel
theorem dX11_putAt_8 : decode cX11_putAt 8 = .ok (.aload_n 0, 1) := by decide +kernel
theorem dX11_putAt_9 : decode cX11_putAt 9 = .ok (.getfield 19, 3) := by decide +kernel
theorem dX11_putAt_12 : decode cX11_putAt 12 = .ok (.bipush 8, 2) := by decide +kernel
theorem dX11_putAt_14 : decode cX11_putAt 14 = .ok (.iload_n 1, 1) := by decide +kernel
theorem dX11_putAt_15 : decode cX11_putAt 15 = .ok (.imul, 1) := by decide +kernel
theorem dX11_putAt_16 : decode cX11_putAt 16 = .ok (.iload_n 3, 1) := by decide +kernel
theorem dX11_putAt_17 : decode cX11_putAt 17 = .ok (.iadd, 1) := by decide +kernel
theorem dX11_putAt_18 : decode cX11_putAt 18 = .ok (.iload_n 2, 1) := by decide +kernel
theorem dX11_putAt_19 : decode cX11_putAt 19 = .ok (.iastore, 1) := by decide +kernel
theorem dX11_putAt_20 : decode cX11_putAt 20 = .ok (.iinc 3 1, 3) := by decide +kernel
theorem dX11_putAt_23 : decode cX11_putAt 23 = .ok (.goto (-21), 3) := by decide +kernel
theorem dX11_putAt_26 : decode cX11_putAt 26 = .ok (.return_, 1) := by decide +kernel
theorem dX11_put_0 : decode cX11_put 0 = .ok (.aload_n 0, 1) := by decide +kernel
theorem dX11_put_1 : decode cX11_put 1 = .ok (.iload_n 1, 1) := by decide +kernel
theorem dX11_put_2 : decode cX11_put 2 = .ok (.invokevirtual 113, 3) := by decide +kernel
theorem dX11_put_5 : decode cX11_put 5 = .ok (.ifCond .eq 11, 3) := by decide +kernel
theorem dX11_put_8 : decode cX11_put 8 = .ok (.aload_n 0, 1) := by decide +kernel
theorem dX11_put_9 : decode cX11_put 9 = .ok (.iload_n 2, 1) := by decide +kernel
theorem dX11_put_10 : decode cX11_put 10 = .ok (.invokevirtual 101, 3) := by decide +kernel
theorem dX11_put_13 : decode cX11_put 13 = .ok (.ifCond .ne 6, 3) := by decide +kernel
theorem dX11_put_16 : decode cX11_put 16 = .ok (.bipush (-101), 2) := by decide +kernel
theorem dX11_put_18 : decode cX11_put 18 = .ok (.ireturn, 1) := by decide +kernel
theorem dX11_put_19 : decode cX11_put 19 = .ok (.aload_n 0, 1) := by decide +kernel
theorem dX11_put_20 : decode cX11_put 20 = .ok (.iload_n 1, 1) := by decide +kernel
theorem dX11_put_21 : decode cX11_put 21 = .ok (.invokevirtual 122, 3) := by decide +kernel
theorem dX11_put_24 : decode cX11_put 24 = .ok (.ifCond .eq 6, 3) := by decide +kernel
theorem dX11_put_27 : decode cX11_put 27 = .ok (.bipush (-103), 2) := by decide +kernel
theorem dX11_put_29 : decode cX11_put 29 = .ok (.ireturn, 1) := by decide +kernel
theorem dX11_put_30 : decode cX11_put 30 = .ok (.aload_n 0, 1) := by decide +kernel
theorem dX11_put_31 : decode cX11_put 31 = .ok (.getfield 19, 3) := by decide +kernel
theorem dX11_put_34 : decode cX11_put 34 = .ok (.bipush 8, 2) := by decide +kernel
theorem dX11_put_36 : decode cX11_put 36 = .ok (.iload_n 1, 1) := by decide +kernel
theorem dX11_put_37 : decode cX11_put 37 = .ok (.imul, 1) := by decide +kernel
theorem dX11_put_38 : decode cX11_put 38 = .ok (.iaload, 1) := by decide +kernel
theorem dX11_put_39 : decode cX11_put 39 = .ok (.istore_n 3, 1) := by decide +kernel
theorem dX11_put_40 : decode cX11_put 40 = .ok (.aload_n 0, 1) := by decide +kernel
theorem dX11_put_41 : decode cX11_put 41 = .ok (.iload_n 1, 1) := by decide +kernel
theorem dX11_put_42 : decode cX11_put 42 = .ok (.iload_n 2, 1) := by decide +kernel
theorem dX11_put_43 : decode cX11_put 43 = .ok (.invokevirtual 125, 3) := by decide +kernel
theorem dX11_put_46 : decode cX11_put 46 = .ok (.iload_n 3, 1) := by decide +kernel
theorem dX11_put_47 : decode cX11_put 47 = .ok (.ireturn, 1) := by decide +kernel
theorem dX11_trade_0 : decode cX11_trade 0 = .ok (.aload_n 0, 1) := by decide +kernel
theorem dX11_trade_1 : decode cX11_trade 1 = .ok (.iload_n 1, 1) := by decide +kernel
theorem dX11_trade_2 : decode cX11_trade 2 = .ok (.invokevirtual 113, 3) := by decide +kernel
theorem dX11_trade_5 : decode cX11_trade 5 = .ok (.ifCond .eq 18, 3) := by decide +kernel
theorem dX11_trade_8 : decode cX11_trade 8 = .ok (.aload_n 0, 1) := by decide +kernel
theorem dX11_trade_9 : decode cX11_trade 9 = .ok (.iload_n 2, 1) := by decide +kernel
theorem dX11_trade_10 : decode cX11_trade 10 = .ok (.invokevirtual 113, 3) := by decide +kernel
theorem dX11_trade_13 : decode cX11_trade 13 = .ok (.ifCond .eq 10, 3) := by decide +kernel
theorem dX11_trade_16 : decode cX11_trade 16 = .ok (.iload_n 3, 1) := by decide +kernel
theorem dX11_trade_17 : decode cX11_trade 17 = .ok (.invokestatic 119, 3) := by decide +kernel
theorem dX11_trade_20 : decode cX11_trade 20 = .ok (.ifCond .ne 6, 3) := by decide +kernel
theorem dX11_trade_23 : decode cX11_trade 23 = .ok (.bipush (-101), 2) := by decide +kernel
theorem dX11_trade_25 : decode cX11_trade 25 = .ok (.ireturn, 1) := by decide +kernel
theorem dX11_trade_26 : decode cX11_trade 26 = .ok (.aload_n 0, 1) := by decide +kernel
theorem dX11_trade_27 : decode cX11_trade 27 = .ok (.iload_n 1, 1) := by decide +kernel
theorem dX11_trade_28 : decode cX11_trade 28 = .ok (.invokevirtual 122, 3) := by decide +kernel
theorem dX11_trade_31 : decode cX11_trade 31 = .ok (.ifCond .eq 11, 3) := by decide +kernel
theorem dX11_trade_34 : decode cX11_trade 34 = .ok (.aload_n 0, 1) := by decide +kernel
theorem dX11_trade_35 : decode cX11_trade 35 = .ok (.iload_n 2, 1) := by decide +kernel
theorem dX11_trade_36 : decode cX11_trade 36 = .ok (.invokevirtual 122, 3) := by decide +kernel
theorem dX11_trade_39 : decode cX11_trade 39 = .ok (.ifCond .ne 6, 3) := by decide +kernel
theorem dX11_trade_42 : decode cX11_trade 42 = .ok (.bipush (-103), 2) := by decide +kernel
theorem dX11_trade_44 : decode cX11_trade 44 = .ok (.ireturn, 1) := by decide +kernel
theorem dX11_trade_45 : decode cX11_trade 45 = .ok (.aload_n 0, 1) := by decide +kernel
theorem dX11_trade_46 : decode cX11_trade 46 = .ok (.getfield 19, 3) := by decide +kernel
theorem dX11_trade_49 : decode cX11_trade 49 = .ok (.bipush 8, 2) := by decide +kernel
theorem dX11_trade_51 : decode cX11_trade 51 = .ok (.iload_n 1, 1) := by decide +kernel
theorem dX11_trade_52 : decode cX11_trade 52 = .ok (.imul, 1) := by decide +kernel
theorem dX11_trade_53 : decode cX11_trade 53 = .ok (.iload_n 3, 1) := by decide +kernel
theorem dX11_trade_54 : decode cX11_trade 54 = .ok (.iadd, 1) := by decide +kernel
theorem dX11_trade_55 : decode cX11_trade 55 = .ok (.iaload, 1) := by decide +kernel
theorem dX11_trade_56 : decode cX11_trade 56 = .ok (.istore 4, 2) := by decide +kernel
theorem dX11_trade_58 : decode cX11_trade 58 = .ok (.aload_n 0, 1) := by decide +kernel
theorem dX11_trade_59 : decode cX11_trade 59 = .ok (.getfield 19, 3) := by decide +kernel
theorem dX11_trade_62 : decode cX11_trade 62 = .ok (.bipush 8, 2) := by decide +kernel
theorem dX11_trade_64 : decode cX11_trade 64 = .ok (.iload_n 2, 1) := by decide +kernel
theorem dX11_trade_65 : decode cX11_trade 65 = .ok (.imul, 1) := by decide +kernel
theorem dX11_trade_66 : decode cX11_trade 66 = .ok (.iload_n 3, 1) := by decide +kernel
theorem dX11_trade_67 : decode cX11_trade 67 = .ok (.iadd, 1) := by decide +kernel
theorem dX11_trade_68 : decode cX11_trade 68 = .ok (.iaload, 1) := by decide +kernel
theorem dX11_trade_69 : decode cX11_trade 69 = .ok (.istore 5, 2) := by decide +kernel
theorem dX11_trade_71 : decode cX11_trade 71 = .ok (.aload_n 0, 1) := by decide +kernel
theorem dX11_trade_72 : decode cX11_trade 72 = .ok (.getfield 19, 3) := by decide +kernel
theorem dX11_trade_75 : decode cX11_trade 75 = .ok (.bipush 8, 2) := by decide +kernel
theorem dX11_trade_77 : decode cX11_trade 77 = .ok (.iload_n 1, 1) := by decide +kernel
theorem dX11_trade_78 : decode cX11_trade 78 = .ok (.imul, 1) := by decide +kernel
theorem dX11_trade_79 : decode cX11_trade 79 = .ok (.iload_n 3, 1) := by decide +kernel
theorem dX11_trade_80 : decode cX11_trade 80 = .ok (.iadd, 1) := by decide +kernel
theorem dX11_trade_81 : decode cX11_trade 81 = .ok (.iload 5, 2) := by decide +kernel
theorem dX11_trade_83 : decode cX11_trade 83 = .ok (.iastore, 1) := by decide +kernel
theorem dX11_trade_84 : decode cX11_trade 84 = .ok (.aload_n 0, 1) := by decide +kernel
theorem dX11_trade_85 : decode cX11_trade 85 = .ok (.getfield 19, 3) := by decide +kernel
theorem dX11_trade_88 : decode cX11_trade 88 = .ok (.bipush 8, 2) := by decide +kernel
theorem dX11_trade_90 : decode cX11_trade 90 = .ok (.iload_n 2, 1) := by decide +kernel
theorem dX11_trade_91 : decode cX11_trade 91 = .ok (.imul, 1) := by decide +kernel
theorem dX11_trade_92 : decode cX11_trade 92 = .ok (.iload_n 3, 1) := by decide +kernel
theorem dX11_trade_93 : decode cX11_trade 93 = .ok (.iadd, 1) := by decide +kernel
theorem dX11_trade_94 : decode cX11_trade 94 = .ok (.iload 4, 2) := by decide +kernel
theorem dX11_trade_96 : decode cX11_trade 96 = .ok (.iastore, 1) := by decide +kernel
theorem dX11_trade_97 : decode cX11_trade 97 = .ok (.iload 4, 2) := by decide +kernel
theorem dX11_trade_99 : decode cX11_trade 99 = .ok (.iload 5, 2) := by decide +kernel
theorem dX11_trade_101 : decode cX11_trade 101 = .ok (.if_icmp .ne 7, 3) := by decide +kernel
theorem dX11_trade_104 : decode cX11_trade 104 = .ok (.iconst 0, 1) := by decide +kernel
theorem dX11_trade_105 : decode cX11_trade 105 = .ok (.goto 4, 3) := by decide +kernel
theorem dX11_trade_108 : decode cX11_trade 108 = .ok (.iconst 1, 1) := by decide +kernel
theorem dX11_trade_109 : decode cX11_trade 109 = .ok (.ireturn, 1) := by decide +kernel
theorem dX11_leanOf_0 : decode cX11_leanOf 0 = .ok (.iload_n 2, 1) := by decide +kernel
theorem dX11_leanOf_1 : decode cX11_leanOf 1 = .ok (.ifCond .eq 10, 3) := by decide +kernel
theorem dX11_leanOf_4 : decode cX11_leanOf 4 = .ok (.aload_n 0, 1) := by decide +kernel
theorem dX11_leanOf_5 : decode cX11_leanOf 5 = .ok (.getfield 129, 3) := by decide +kernel
theorem dX11_leanOf_8 : decode cX11_leanOf 8 = .ok (.goto 7, 3) := by decide +kernel
theorem dX11_leanOf_11 : decode cX11_leanOf 11 = .ok (.aload_n 0, 1) := by decide +kernel
theorem dX11_leanOf_12 : decode cX11_leanOf 12 = .ok (.getfield 132, 3) := by decide +kernel
theorem dX11_leanOf_15 : decode cX11_leanOf 15 = .ok (.istore_n 3, 1) := by decide +kernel
theorem dX11_leanOf_16 : decode cX11_leanOf 16 = .ok (.iconst 0, 1) := by decide +kernel
theorem dX11_leanOf_17 : decode cX11_leanOf 17 = .ok (.istore 4, 2) := by decide +kernel
theorem dX11_leanOf_19 : decode cX11_leanOf 19 = .ok (.iload 4, 2) := by decide +kernel
theorem dX11_leanOf_21 : decode cX11_leanOf 21 = .ok (.aload_n 0, 1) := by decide +kernel
theorem dX11_leanOf_22 : decode cX11_leanOf 22 = .ok (.getfield 95, 3) := by decide +kernel
theorem dX11_leanOf_25 : decode cX11_leanOf 25 = .ok (.if_icmp .ge 76, 3) := by decide +kernel
theorem dX11_leanOf_28 : decode cX11_leanOf 28 = .ok (.aload_n 0, 1) := by decide +kernel
theorem dX11_leanOf_29 : decode cX11_leanOf 29 = .ok (.getfield 19, 3) := by decide +kernel
theorem dX11_leanOf_32 : decode cX11_leanOf 32 = .ok (.bipush 8, 2) := by decide +kernel
theorem dX11_leanOf_34 : decode cX11_leanOf 34 = .ok (.iload 4, 2) := by decide +kernel
theorem dX11_leanOf_36 : decode cX11_leanOf 36 = .ok (.imul, 1) := by decide +kernel
theorem dX11_leanOf_37 : decode cX11_leanOf 37 = .ok (.iload_n 1, 1) := by decide +kernel
theorem dX11_leanOf_38 : decode cX11_leanOf 38 = .ok (.iadd, 1) := by decide +kernel
theorem dX11_leanOf_39 : decode cX11_leanOf 39 = .ok (.iaload, 1) := by decide +kernel
theorem dX11_leanOf_40 : decode cX11_leanOf 40 = .ok (.istore 5, 2) := by decide +kernel
theorem dX11_leanOf_42 : decode cX11_leanOf 42 = .ok (.aload_n 0, 1) := by decide +kernel
theorem dX11_leanOf_43 : decode cX11_leanOf 43 = .ok (.iload 4, 2) := by decide +kernel
theorem dX11_leanOf_45 : decode cX11_leanOf 45 = .ok (.invokevirtual 116, 3) := by decide +kernel
theorem dX11_leanOf_48 : decode cX11_leanOf 48 = .ok (.aload_n 0, 1) := by decide +kernel
theorem dX11_leanOf_49 : decode cX11_leanOf 49 = .ok (.getfield 13, 3) := by decide +kernel
theorem dX11_leanOf_52 : decode cX11_leanOf 52 = .ok (.iload 4, 2) := by decide +kernel
theorem dX11_leanOf_54 : decode cX11_leanOf 54 = .ok (.iaload, 1) := by decide +kernel
theorem dX11_leanOf_55 : decode cX11_leanOf 55 = .ok (.iconst 1, 1) := by decide +kernel
theorem dX11_leanOf_56 : decode cX11_leanOf 56 = .ok (.if_icmp .ne 10, 3) := by decide +kernel
theorem dX11_leanOf_59 : decode cX11_leanOf 59 = .ok (.aload_n 0, 1) := by decide +kernel
theorem dX11_leanOf_60 : decode cX11_leanOf 60 = .ok (.getfield 135, 3) := by decide +kernel
theorem dX11_leanOf_63 : decode cX11_leanOf 63 = .ok (.goto 4, 3) := by decide +kernel
theorem dX11_leanOf_66 : decode cX11_leanOf 66 = .ok (.iconst 0, 1) := by decide +kernel
theorem dX11_leanOf_67 : decode cX11_leanOf 67 = .ok (.iadd, 1) := by decide +kernel
theorem dX11_leanOf_68 : decode cX11_leanOf 68 = .ok (.istore 6, 2) := by decide +kernel
theorem dX11_leanOf_70 : decode cX11_leanOf 70 = .ok (.iload_n 3, 1) := by decide +kernel
theorem dX11_leanOf_71 : decode cX11_leanOf 71 = .ok (.iload 6, 2) := by decide +kernel
theorem dX11_leanOf_73 : decode cX11_leanOf 73 = .ok (.iload_n 2, 1) := by decide +kernel
theorem dX11_leanOf_74 : decode cX11_leanOf 74 = .ok (.ifCond .eq 12, 3) := by decide +kernel
theorem dX11_leanOf_77 : decode cX11_leanOf 77 = .ok (.aload_n 0, 1) := by decide +kernel
theorem dX11_leanOf_78 : decode cX11_leanOf 78 = .ok (.iload 5, 2) := by decide +kernel
theorem dX11_leanOf_80 : decode cX11_leanOf 80 = .ok (.invokevirtual 110, 3) := by decide +kernel
theorem dX11_leanOf_83 : decode cX11_leanOf 83 = .ok (.goto 9, 3) := by decide +kernel
theorem dX11_leanOf_86 : decode cX11_leanOf 86 = .ok (.aload_n 0, 1) := by decide +kernel
theorem dX11_leanOf_87 : decode cX11_leanOf 87 = .ok (.iload 5, 2) := by decide +kernel
theorem dX11_leanOf_89 : decode cX11_leanOf 89 = .ok (.invokevirtual 107, 3) := by decide +kernel
theorem dX11_leanOf_92 : decode cX11_leanOf 92 = .ok (.imul, 1) := by decide +kernel
theorem dX11_leanOf_93 : decode cX11_leanOf 93 = .ok (.iadd, 1) := by decide +kernel
theorem dX11_leanOf_94 : decode cX11_leanOf 94 = .ok (.istore_n 3, 1) := by decide +kernel
theorem dX11_leanOf_95 : decode cX11_leanOf 95 = .ok (.iinc 4 1, 3) := by decide +kernel
theorem dX11_leanOf_98 : decode cX11_leanOf 98 = .ok (.goto (-79), 3) := by decide +kernel
theorem dX11_leanOf_101 : decode cX11_leanOf 101 = .ok (.iload_n 3, 1) := by decide +kernel
theorem dX11_leanOf_102 : decode cX11_leanOf 102 = .ok (.ireturn, 1) := by decide +kernel
theorem dX11_leans_0 : decode cX11_leans 0 = .ok (.iload_n 1, 1) := by decide +kernel
theorem dX11_leans_1 : decode cX11_leans 1 = .ok (.invokestatic 119, 3) := by decide +kernel
theorem dX11_leans_4 : decode cX11_leans 4 = .ok (.ifCond .ne 6, 3) := by decide +kernel
theorem dX11_leans_7 : decode cX11_leans 7 = .ok (.ldc 105, 2) := by decide +kernel
theorem dX11_leans_9 : decode cX11_leans 9 = .ok (.ireturn, 1) := by decide +kernel
theorem dX11_leans_10 : decode cX11_leans 10 = .ok (.iload_n 2, 1) := by decide +kernel
theorem dX11_leans_11 : decode cX11_leans 11 = .ok (.iconst 0, 1) := by decide +kernel
theorem dX11_leans_12 : decode cX11_leans 12 = .ok (.iconst 1, 1) := by decide +kernel
theorem dX11_leans_13 : decode cX11_leans 13 = .ok (.invokestatic 65, 3) := by decide +kernel
theorem dX11_leans_16 : decode cX11_leans 16 = .ok (.ifCond .eq 21, 3) := by decide +kernel
theorem dX11_leans_19 : decode cX11_leans 19 = .ok (.aload_n 0, 1) := by decide +kernel
theorem dX11_leans_20 : decode cX11_leans 20 = .ok (.iload_n 1, 1) := by decide +kernel
theorem dX11_leans_21 : decode cX11_leans 21 = .ok (.iload_n 2, 1) := by decide +kernel
theorem dX11_leans_22 : decode cX11_leans 22 = .ok (.iconst 1, 1) := by decide +kernel
theorem dX11_leans_23 : decode cX11_leans 23 = .ok (.if_icmp .ne 7, 3) := by decide +kernel
theorem dX11_leans_26 : decode cX11_leans 26 = .ok (.iconst 1, 1) := by decide +kernel
theorem dX11_leans_27 : decode cX11_leans 27 = .ok (.goto 4, 3) := by decide +kernel
theorem dX11_leans_30 : decode cX11_leans 30 = .ok (.iconst 0, 1) := by decide +kernel
theorem dX11_leans_31 : decode cX11_leans 31 = .ok (.invokevirtual 138, 3) := by decide +kernel
theorem dX11_leans_34 : decode cX11_leans 34 = .ok (.goto 5, 3) := by decide +kernel
theorem dX11_leans_37 : decode cX11_leans 37 = .ok (.ldc 106, 2) := by decide +kernel
theorem dX11_leans_39 : decode cX11_leans 39 = .ok (.ireturn, 1) := by decide +kernel
theorem dX11_dip_0 : decode cX11_dip 0 = .ok (.aload_n 0, 1) := by decide +kernel
theorem dX11_dip_1 : decode cX11_dip 1 = .ok (.iload_n 1, 1) := by decide +kernel
theorem dX11_dip_2 : decode cX11_dip 2 = .ok (.invokevirtual 101, 3) := by decide +kernel
theorem dX11_dip_5 : decode cX11_dip 5 = .ok (.ifCond .eq 10, 3) := by decide +kernel
theorem dX11_dip_8 : decode cX11_dip 8 = .ok (.iload_n 2, 1) := by decide +kernel
theorem dX11_dip_9 : decode cX11_dip 9 = .ok (.invokestatic 119, 3) := by decide +kernel
theorem dX11_dip_12 : decode cX11_dip 12 = .ok (.ifCond .ne 6, 3) := by decide +kernel
theorem dX11_dip_15 : decode cX11_dip 15 = .ok (.ldc 142, 2) := by decide +kernel
theorem dX11_dip_17 : decode cX11_dip 17 = .ok (.ireturn, 1) := by decide +kernel
theorem dX11_dip_18 : decode cX11_dip 18 = .ok (.aload_n 0, 1) := by decide +kernel
theorem dX11_dip_19 : decode cX11_dip 19 = .ok (.iload_n 2, 1) := by decide +kernel
theorem dX11_dip_20 : decode cX11_dip 20 = .ok (.iconst 0, 1) := by decide +kernel
theorem dX11_dip_21 : decode cX11_dip 21 = .ok (.invokevirtual 138, 3) := by decide +kernel
theorem dX11_dip_24 : decode cX11_dip 24 = .ok (.aload_n 0, 1) := by decide +kernel
theorem dX11_dip_25 : decode cX11_dip 25 = .ok (.iload_n 1, 1) := by decide +kernel
theorem dX11_dip_26 : decode cX11_dip 26 = .ok (.invokevirtual 107, 3) := by decide +kernel
theorem dX11_dip_29 : decode cX11_dip 29 = .ok (.imul, 1) := by decide +kernel
theorem dX11_dip_30 : decode cX11_dip 30 = .ok (.aload_n 0, 1) := by decide +kernel
theorem dX11_dip_31 : decode cX11_dip 31 = .ok (.iload_n 2, 1) := by decide +kernel
theorem dX11_dip_32 : decode cX11_dip 32 = .ok (.iconst 1, 1) := by decide +kernel
theorem dX11_dip_33 : decode cX11_dip 33 = .ok (.invokevirtual 138, 3) := by decide +kernel
theorem dX11_dip_36 : decode cX11_dip 36 = .ok (.aload_n 0, 1) := by decide +kernel
theorem dX11_dip_37 : decode cX11_dip 37 = .ok (.iload_n 1, 1) := by decide +kernel
theorem dX11_dip_38 : decode cX11_dip 38 = .ok (.invokevirtual 110, 3) := by decide +kernel
theorem dX11_dip_41 : decode cX11_dip 41 = .ok (.imul, 1) := by decide +kernel
theorem dX11_dip_42 : decode cX11_dip 42 = .ok (.iadd, 1) := by decide +kernel
theorem dX11_dip_43 : decode cX11_dip 43 = .ok (.ireturn, 1) := by decide +kernel
theorem dX11_wetIn_0 : decode cX11_wetIn 0 = .ok (.aload_n 0, 1) := by decide +kernel
theorem dX11_wetIn_1 : decode cX11_wetIn 1 = .ok (.iload_n 1, 1) := by decide +kernel
theorem dX11_wetIn_2 : decode cX11_wetIn 2 = .ok (.iconst 0, 1) := by decide +kernel
theorem dX11_wetIn_3 : decode cX11_wetIn 3 = .ok (.invokevirtual 138, 3) := by decide +kernel
theorem dX11_wetIn_6 : decode cX11_wetIn 6 = .ok (.istore_n 2, 1) := by decide +kernel
theorem dX11_wetIn_7 : decode cX11_wetIn 7 = .ok (.aload_n 0, 1) := by decide +kernel
theorem dX11_wetIn_8 : decode cX11_wetIn 8 = .ok (.iload_n 1, 1) := by decide +kernel
theorem dX11_wetIn_9 : decode cX11_wetIn 9 = .ok (.iconst 1, 1) := by decide +kernel
theorem dX11_wetIn_10 : decode cX11_wetIn 10 = .ok (.invokevirtual 138, 3) := by decide +kernel
theorem dX11_wetIn_13 : decode cX11_wetIn 13 = .ok (.istore_n 3, 1) := by decide +kernel
theorem dX11_wetIn_14 : decode cX11_wetIn 14 = .ok (.iconst 0, 1) := by decide +kernel
theorem dX11_wetIn_15 : decode cX11_wetIn 15 = .ok (.istore 4, 2) := by decide +kernel
theorem dX11_wetIn_17 : decode cX11_wetIn 17 = .ok (.iconst 0, 1) := by decide +kernel
theorem dX11_wetIn_18 : decode cX11_wetIn 18 = .ok (.istore 5, 2) := by decide +kernel
theorem dX11_wetIn_20 : decode cX11_wetIn 20 = .ok (.iload 5, 2) := by decide +kernel
theorem dX11_wetIn_22 : decode cX11_wetIn 22 = .ok (.aload_n 0, 1) := by decide +kernel
theorem dX11_wetIn_23 : decode cX11_wetIn 23 = .ok (.getfield 92, 3) := by decide +kernel
theorem dX11_wetIn_26 : decode cX11_wetIn 26 = .ok (.if_icmp .ge 74, 3) := by decide +kernel
theorem dX11_wetIn_29 : decode cX11_wetIn 29 = .ok (.aload_n 0, 1) := by decide +kernel
theorem dX11_wetIn_30 : decode cX11_wetIn 30 = .ok (.getfield 7, 3) := by decide +kernel
theorem dX11_wetIn_33 : decode cX11_wetIn 33 = .ok (.iload 5, 2) := by decide +kernel
theorem dX11_wetIn_35 : decode cX11_wetIn 35 = .ok (.iaload, 1) := by decide +kernel
theorem dX11_wetIn_36 : decode cX11_wetIn 36 = .ok (.ifCond .le 37, 3) := by decide +kernel
theorem dX11_wetIn_39 : decode cX11_wetIn 39 = .ok (.iload_n 2, 1) := by decide +kernel
theorem dX11_wetIn_40 : decode cX11_wetIn 40 = .ok (.aload_n 0, 1) := by decide +kernel
theorem dX11_wetIn_41 : decode cX11_wetIn 41 = .ok (.iload 5, 2) := by decide +kernel
theorem dX11_wetIn_43 : decode cX11_wetIn 43 = .ok (.invokevirtual 107, 3) := by decide +kernel
theorem dX11_wetIn_46 : decode cX11_wetIn 46 = .ok (.imul, 1) := by decide +kernel
theorem dX11_wetIn_47 : decode cX11_wetIn 47 = .ok (.iload_n 3, 1) := by decide +kernel
theorem dX11_wetIn_48 : decode cX11_wetIn 48 = .ok (.aload_n 0, 1) := by decide +kernel
theorem dX11_wetIn_49 : decode cX11_wetIn 49 = .ok (.iload 5, 2) := by decide +kernel
theorem dX11_wetIn_51 : decode cX11_wetIn 51 = .ok (.invokevirtual 110, 3) := by decide +kernel
theorem dX11_wetIn_54 : decode cX11_wetIn 54 = .ok (.imul, 1) := by decide +kernel
theorem dX11_wetIn_55 : decode cX11_wetIn 55 = .ok (.iadd, 1) := by decide +kernel
theorem dX11_wetIn_56 : decode cX11_wetIn 56 = .ok (.bipush 50, 2) := by decide +kernel
theorem dX11_wetIn_58 : decode cX11_wetIn 58 = .ok (.aload_n 0, 1) := by decide +kernel
theorem dX11_wetIn_59 : decode cX11_wetIn 59 = .ok (.getfield 7, 3) := by decide +kernel
theorem dX11_wetIn_62 : decode cX11_wetIn 62 = .ok (.iload 5, 2) := by decide +kernel
theorem dX11_wetIn_64 : decode cX11_wetIn 64 = .ok (.iaload, 1) := by decide +kernel
theorem dX11_wetIn_65 : decode cX11_wetIn 65 = .ok (.imul, 1) := by decide +kernel
theorem dX11_wetIn_66 : decode cX11_wetIn 66 = .ok (.if_icmp .lt 7, 3) := by decide +kernel
theorem dX11_wetIn_69 : decode cX11_wetIn 69 = .ok (.iconst 1, 1) := by decide +kernel
theorem dX11_wetIn_70 : decode cX11_wetIn 70 = .ok (.goto 4, 3) := by decide +kernel
theorem dX11_wetIn_73 : decode cX11_wetIn 73 = .ok (.iconst 0, 1) := by decide +kernel
theorem dX11_wetIn_74 : decode cX11_wetIn 74 = .ok (.istore 6, 2) := by decide +kernel
theorem dX11_wetIn_76 : decode cX11_wetIn 76 = .ok (.iload 4, 2) := by decide +kernel
theorem dX11_wetIn_78 : decode cX11_wetIn 78 = .ok (.iload 6, 2) := by decide +kernel
theorem dX11_wetIn_80 : decode cX11_wetIn 80 = .ok (.ifCond .eq 10, 3) := by decide +kernel
theorem dX11_wetIn_83 : decode cX11_wetIn 83 = .ok (.iconst 1, 1) := by decide +kernel
theorem dX11_wetIn_84 : decode cX11_wetIn 84 = .ok (.iload 5, 2) := by decide +kernel
theorem dX11_wetIn_86 : decode cX11_wetIn 86 = .ok (.ishl, 1) := by decide +kernel
theorem dX11_wetIn_87 : decode cX11_wetIn 87 = .ok (.goto 4, 3) := by decide +kernel
theorem dX11_wetIn_90 : decode cX11_wetIn 90 = .ok (.iconst 0, 1) := by decide +kernel
theorem dX11_wetIn_91 : decode cX11_wetIn 91 = .ok (.ior, 1) := by decide +kernel
theorem dX11_wetIn_92 : decode cX11_wetIn 92 = .ok (.istore 4, 2) := by decide +kernel
theorem dX11_wetIn_94 : decode cX11_wetIn 94 = .ok (.iinc 5 1, 3) := by decide +kernel
theorem dX11_wetIn_97 : decode cX11_wetIn 97 = .ok (.goto (-77), 3) := by decide +kernel
theorem dX11_wetIn_100 : decode cX11_wetIn 100 = .ok (.iload 4, 2) := by decide +kernel
theorem dX11_wetIn_102 : decode cX11_wetIn 102 = .ok (.ireturn, 1) := by decide +kernel
theorem dX11_size_0 : decode cX11_size 0 = .ok (.iconst 0, 1) := by decide +kernel
theorem dX11_size_1 : decode cX11_size 1 = .ok (.istore_n 1, 1) := by decide +kernel
theorem dX11_size_2 : decode cX11_size 2 = .ok (.iconst 0, 1) := by decide +kernel
theorem dX11_size_3 : decode cX11_size 3 = .ok (.istore_n 2, 1) := by decide +kernel
theorem dX11_size_4 : decode cX11_size 4 = .ok (.iload_n 2, 1) := by decide +kernel
theorem dX11_size_5 : decode cX11_size 5 = .ok (.bipush 30, 2) := by decide +kernel
theorem dX11_size_7 : decode cX11_size 7 = .ok (.if_icmp .ge 17, 3) := by decide +kernel
theorem dX11_size_10 : decode cX11_size 10 = .ok (.iload_n 1, 1) := by decide +kernel
theorem dX11_size_11 : decode cX11_size 11 = .ok (.iload_n 0, 1) := by decide +kernel
theorem dX11_size_12 : decode cX11_size 12 = .ok (.iload_n 2, 1) := by decide +kernel
theorem dX11_size_13 : decode cX11_size 13 = .ok (.ishr, 1) := by decide +kernel
theorem dX11_size_14 : decode cX11_size 14 = .ok (.iconst 1, 1) := by decide +kernel
theorem dX11_size_15 : decode cX11_size 15 = .ok (.iand, 1) := by decide +kernel
theorem dX11_size_16 : decode cX11_size 16 = .ok (.iadd, 1) := by decide +kernel
theorem dX11_size_17 : decode cX11_size 17 = .ok (.istore_n 1, 1) := by decide +kernel
theorem dX11_size_18 : decode cX11_size 18 = .ok (.iinc 2 1, 3) := by decide +kernel
theorem dX11_size_21 : decode cX11_size 21 = .ok (.goto (-17), 3) := by decide +kernel
theorem dX11_size_24 : decode cX11_size 24 = .ok (.iload_n 1, 1) := by decide +kernel
theorem dX11_size_25 : decode cX11_size 25 = .ok (.ireturn, 1) := by decide +kernel
theorem dX11_wet_0 : decode cX11_wet 0 = .ok (.iload_n 1, 1) := by decide +kernel
theorem dX11_wet_1 : decode cX11_wet 1 = .ok (.invokestatic 119, 3) := by decide +kernel
theorem dX11_wet_4 : decode cX11_wet 4 = .ok (.ifCond .eq 11, 3) := by decide +kernel
theorem dX11_wet_7 : decode cX11_wet 7 = .ok (.aload_n 0, 1) := by decide +kernel
theorem dX11_wet_8 : decode cX11_wet 8 = .ok (.iload_n 1, 1) := by decide +kernel
theorem dX11_wet_9 : decode cX11_wet 9 = .ok (.invokevirtual 143, 3) := by decide +kernel
theorem dX11_wet_12 : decode cX11_wet 12 = .ok (.goto 5, 3) := by decide +kernel
theorem dX11_wet_15 : decode cX11_wet 15 = .ok (.bipush (-101), 2) := by decide +kernel
theorem dX11_wet_17 : decode cX11_wet 17 = .ok (.ireturn, 1) := by decide +kernel
theorem dX11_wetAll_0 : decode cX11_wetAll 0 = .ok (.iconst 0, 1) := by decide +kernel
theorem dX11_wetAll_1 : decode cX11_wetAll 1 = .ok (.istore_n 1, 1) := by decide +kernel
theorem dX11_wetAll_2 : decode cX11_wetAll 2 = .ok (.iconst 0, 1) := by decide +kernel
theorem dX11_wetAll_3 : decode cX11_wetAll 3 = .ok (.istore_n 2, 1) := by decide +kernel
theorem dX11_wetAll_4 : decode cX11_wetAll 4 = .ok (.iload_n 2, 1) := by decide +kernel
theorem dX11_wetAll_5 : decode cX11_wetAll 5 = .ok (.bipush 8, 2) := by decide +kernel
theorem dX11_wetAll_7 : decode cX11_wetAll 7 = .ok (.if_icmp .ge 20, 3) := by decide +kernel
theorem dX11_wetAll_10 : decode cX11_wetAll 10 = .ok (.iload_n 1, 1) := by decide +kernel
theorem dX11_wetAll_11 : decode cX11_wetAll 11 = .ok (.aload_n 0, 1) := by decide +kernel
theorem dX11_wetAll_12 : decode cX11_wetAll 12 = .ok (.iload_n 2, 1) := by decide +kernel
theorem dX11_wetAll_13 : decode cX11_wetAll 13 = .ok (.invokevirtual 143, 3) := by decide +kernel
theorem dX11_wetAll_16 : decode cX11_wetAll 16 = .ok (.invokestatic 146, 3) := by decide +kernel
theorem dX11_wetAll_19 : decode cX11_wetAll 19 = .ok (.iadd, 1) := by decide +kernel
theorem dX11_wetAll_20 : decode cX11_wetAll 20 = .ok (.istore_n 1, 1) := by decide +kernel
theorem dX11_wetAll_21 : decode cX11_wetAll 21 = .ok (.iinc 2 1, 3) := by decide +kernel
theorem dX11_wetAll_24 : decode cX11_wetAll 24 = .ok (.goto (-20), 3) := by decide +kernel
theorem dX11_wetAll_27 : decode cX11_wetAll 27 = .ok (.iload_n 1, 1) := by decide +kernel
theorem dX11_wetAll_28 : decode cX11_wetAll 28 = .ok (.ireturn, 1) := by decide +kernel
theorem dX11_peopleMany_0 : decode cX11_peopleMany 0 = .ok (.iconst 0, 1) := by decide +kernel
theorem dX11_peopleMany_1 : decode cX11_peopleMany 1 = .ok (.istore_n 1, 1) := by decide +kernel
theorem dX11_peopleMany_2 : decode cX11_peopleMany 2 = .ok (.iconst 0, 1) := by decide +kernel
theorem dX11_peopleMany_3 : decode cX11_peopleMany 3 = .ok (.istore_n 2, 1) := by decide +kernel
theorem dX11_peopleMany_4 : decode cX11_peopleMany 4 = .ok (.iload_n 2, 1) := by decide +kernel
theorem dX11_peopleMany_5 : decode cX11_peopleMany 5 = .ok (.aload_n 0, 1) := by decide +kernel
theorem dX11_peopleMany_6 : decode cX11_peopleMany 6 = .ok (.getfield 95, 3) := by decide +kernel
theorem dX11_peopleMany_9 : decode cX11_peopleMany 9 = .ok (.if_icmp .ge 25, 3) := by decide +kernel
theorem dX11_peopleMany_12 : decode cX11_peopleMany 12 = .ok (.iload_n 1, 1) := by decide +kernel
theorem dX11_peopleMany_13 : decode cX11_peopleMany 13 = .ok (.aload_n 0, 1) := by decide +kernel
theorem dX11_peopleMany_14 : decode cX11_peopleMany 14 = .ok (.iload_n 2, 1) := by decide +kernel
theorem dX11_peopleMany_15 : decode cX11_peopleMany 15 = .ok (.invokevirtual 122, 3) := by decide +kernel
theorem dX11_peopleMany_18 : decode cX11_peopleMany 18 = .ok (.ifCond .eq 7, 3) := by decide +kernel
theorem dX11_peopleMany_21 : decode cX11_peopleMany 21 = .ok (.iconst 1, 1) := by decide +kernel
theorem dX11_peopleMany_22 : decode cX11_peopleMany 22 = .ok (.goto 4, 3) := by decide +kernel
theorem dX11_peopleMany_25 : decode cX11_peopleMany 25 = .ok (.iconst 0, 1) := by decide +kernel
theorem dX11_peopleMany_26 : decode cX11_peopleMany 26 = .ok (.iadd, 1) := by decide +kernel
theorem dX11_peopleMany_27 : decode cX11_peopleMany 27 = .ok (.istore_n 1, 1) := by decide +kernel
theorem dX11_peopleMany_28 : decode cX11_peopleMany 28 = .ok (.iinc 2 1, 3) := by decide +kernel
theorem dX11_peopleMany_31 : decode cX11_peopleMany 31 = .ok (.goto (-27), 3) := by decide +kernel
theorem dX11_peopleMany_34 : decode cX11_peopleMany 34 = .ok (.iload_n 1, 1) := by decide +kernel
theorem dX11_peopleMany_35 : decode cX11_peopleMany 35 = .ok (.ireturn, 1) := by decide +kernel
theorem dX11_layPeople_0 : decode cX11_layPeople 0 = .ok (.iconst 0, 1) := by decide +kernel
theorem dX11_layPeople_1 : decode cX11_layPeople 1 = .ok (.istore_n 2, 1) := by decide +kernel
theorem dX11_layPeople_2 : decode cX11_layPeople 2 = .ok (.iconst 0, 1) := by decide +kernel
theorem dX11_layPeople_3 : decode cX11_layPeople 3 = .ok (.istore_n 3, 1) := by decide +kernel
theorem dX11_layPeople_4 : decode cX11_layPeople 4 = .ok (.iload_n 3, 1) := by decide +kernel
theorem dX11_layPeople_5 : decode cX11_layPeople 5 = .ok (.aload_n 0, 1) := by decide +kernel
theorem dX11_layPeople_6 : decode cX11_layPeople 6 = .ok (.getfield 95, 3) := by decide +kernel
theorem dX11_layPeople_9 : decode cX11_layPeople 9 = .ok (.if_icmp .ge 51, 3) := by decide +kernel
theorem dX11_layPeople_12 : decode cX11_layPeople 12 = .ok (.aload_n 0, 1) := by decide +kernel
theorem dX11_layPeople_13 : decode cX11_layPeople 13 = .ok (.iload_n 3, 1) := by decide +kernel
theorem dX11_layPeople_14 : decode cX11_layPeople 14 = .ok (.invokevirtual 122, 3) := by decide +kernel
theorem dX11_layPeople_17 : decode cX11_layPeople 17 = .ok (.ifCond .eq 37, 3) := by decide +kernel
theorem dX11_layPeople_20 : decode cX11_layPeople 20 = .ok (.aload_n 0, 1) := by decide +kernel
theorem dX11_layPeople_21 : decode cX11_layPeople 21 = .ok (.getfield 29, 3) := by decide +kernel
theorem dX11_layPeople_24 : decode cX11_layPeople 24 = .ok (.iload_n 2, 1) := by decide +kernel
theorem dX11_layPeople_25 : decode cX11_layPeople 25 = .ok (.iload_n 3, 1) := by decide +kernel
theorem dX11_layPeople_26 : decode cX11_layPeople 26 = .ok (.iastore, 1) := by decide +kernel
theorem dX11_layPeople_27 : decode cX11_layPeople 27 = .ok (.aload_n 0, 1) := by decide +kernel
theorem dX11_layPeople_28 : decode cX11_layPeople 28 = .ok (.getfield 32, 3) := by decide +kernel
theorem dX11_layPeople_31 : decode cX11_layPeople 31 = .ok (.iload_n 2, 1) := by decide +kernel
theorem dX11_layPeople_32 : decode cX11_layPeople 32 = .ok (.aload_n 0, 1) := by decide +kernel
theorem dX11_layPeople_33 : decode cX11_layPeople 33 = .ok (.getfield 19, 3) := by decide +kernel
theorem dX11_layPeople_36 : decode cX11_layPeople 36 = .ok (.bipush 8, 2) := by decide +kernel
theorem dX11_layPeople_38 : decode cX11_layPeople 38 = .ok (.iload_n 3, 1) := by decide +kernel
theorem dX11_layPeople_39 : decode cX11_layPeople 39 = .ok (.imul, 1) := by decide +kernel
theorem dX11_layPeople_40 : decode cX11_layPeople 40 = .ok (.iload_n 1, 1) := by decide +kernel
theorem dX11_layPeople_41 : decode cX11_layPeople 41 = .ok (.iadd, 1) := by decide +kernel
theorem dX11_layPeople_42 : decode cX11_layPeople 42 = .ok (.iaload, 1) := by decide +kernel
theorem dX11_layPeople_43 : decode cX11_layPeople 43 = .ok (.iastore, 1) := by decide +kernel
theorem dX11_layPeople_44 : decode cX11_layPeople 44 = .ok (.aload_n 0, 1) := by decide +kernel
theorem dX11_layPeople_45 : decode cX11_layPeople 45 = .ok (.getfield 35, 3) := by decide +kernel
theorem dX11_layPeople_48 : decode cX11_layPeople 48 = .ok (.iload_n 2, 1) := by decide +kernel
theorem dX11_layPeople_49 : decode cX11_layPeople 49 = .ok (.iload_n 2, 1) := by decide +kernel
theorem dX11_layPeople_50 : decode cX11_layPeople 50 = .ok (.iastore, 1) := by decide +kernel
theorem dX11_layPeople_51 : decode cX11_layPeople 51 = .ok (.iinc 2 1, 3) := by decide +kernel
theorem dX11_layPeople_54 : decode cX11_layPeople 54 = .ok (.iinc 3 1, 3) := by decide +kernel
theorem dX11_layPeople_57 : decode cX11_layPeople 57 = .ok (.goto (-53), 3) := by decide +kernel
theorem dX11_layPeople_60 : decode cX11_layPeople 60 = .ok (.return_, 1) := by decide +kernel
theorem dX11_exchange_0 : decode cX11_exchange 0 = .ok (.aload_n 0, 1) := by decide +kernel
theorem dX11_exchange_1 : decode cX11_exchange 1 = .ok (.getfield 35, 3) := by decide +kernel
theorem dX11_exchange_4 : decode cX11_exchange 4 = .ok (.iload_n 1, 1) := by decide +kernel
theorem dX11_exchange_5 : decode cX11_exchange 5 = .ok (.iaload, 1) := by decide +kernel
theorem dX11_exchange_6 : decode cX11_exchange 6 = .ok (.istore_n 3, 1) := by decide +kernel
theorem dX11_exchange_7 : decode cX11_exchange 7 = .ok (.aload_n 0, 1) := by decide +kernel
theorem dX11_exchange_8 : decode cX11_exchange 8 = .ok (.getfield 35, 3) := by decide +kernel
theorem dX11_exchange_11 : decode cX11_exchange 11 = .ok (.iload_n 1, 1) := by decide +kernel
theorem dX11_exchange_12 : decode cX11_exchange 12 = .ok (.aload_n 0, 1) := by decide +kernel
theorem dX11_exchange_13 : decode cX11_exchange 13 = .ok (.getfield 35, 3) := by decide +kernel
theorem dX11_exchange_16 : decode cX11_exchange 16 = .ok (.iload_n 2, 1) := by decide +kernel
theorem dX11_exchange_17 : decode cX11_exchange 17 = .ok (.iaload, 1) := by decide +kernel
theorem dX11_exchange_18 : decode cX11_exchange 18 = .ok (.iastore, 1) := by decide +kernel
theorem dX11_exchange_19 : decode cX11_exchange 19 = .ok (.aload_n 0, 1) := by decide +kernel
theorem dX11_exchange_20 : decode cX11_exchange 20 = .ok (.getfield 35, 3) := by decide +kernel
theorem dX11_exchange_23 : decode cX11_exchange 23 = .ok (.iload_n 2, 1) := by decide +kernel
theorem dX11_exchange_24 : decode cX11_exchange 24 = .ok (.iload_n 3, 1) := by decide +kernel
theorem dX11_exchange_25 : decode cX11_exchange 25 = .ok (.iastore, 1) := by decide +kernel
theorem dX11_exchange_26 : decode cX11_exchange 26 = .ok (.return_, 1) := by decide +kernel
theorem dX11_nextTakes_0 : decode cX11_nextTakes 0 = .ok (.iload_n 1, 1) := by decide +kernel
theorem dX11_nextTakes_1 : decode cX11_nextTakes 1 = .ok (.iconst 2, 1) := by decide +kernel
theorem dX11_nextTakes_2 : decode cX11_nextTakes 2 = .ok (.isub, 1) := by decide +kernel
theorem dX11_nextTakes_3 : decode cX11_nextTakes 3 = .ok (.istore_n 2, 1) := by decide +kernel
theorem dX11_nextTakes_4 : decode cX11_nextTakes 4 = .ok (.iload_n 2, 1) := by decide +kernel
theorem dX11_nextTakes_5 : decode cX11_nextTakes 5 = .ok (.ifCond .lt 26, 3) := by decide +kernel
theorem dX11_nextTakes_8 : decode cX11_nextTakes 8 = .ok (.aload_n 0, 1) := by decide +kernel
theorem dX11_nextTakes_9 : decode cX11_nextTakes 9 = .ok (.getfield 35, 3) := by decide +kernel
theorem dX11_nextTakes_12 : decode cX11_nextTakes 12 = .ok (.iload_n 2, 1) := by decide +kernel
theorem dX11_nextTakes_13 : decode cX11_nextTakes 13 = .ok (.iaload, 1) := by decide +kernel
theorem dX11_nextTakes_14 : decode cX11_nextTakes 14 = .ok (.aload_n 0, 1) := by decide +kernel
theorem dX11_nextTakes_15 : decode cX11_nextTakes 15 = .ok (.getfield 35, 3) := by decide +kernel
theorem dX11_nextTakes_18 : decode cX11_nextTakes 18 = .ok (.iload_n 2, 1) := by decide +kernel
theorem dX11_nextTakes_19 : decode cX11_nextTakes 19 = .ok (.iconst 1, 1) := by decide +kernel
theorem dX11_nextTakes_20 : decode cX11_nextTakes 20 = .ok (.iadd, 1) := by decide +kernel
theorem dX11_nextTakes_21 : decode cX11_nextTakes 21 = .ok (.iaload, 1) := by decide +kernel
theorem dX11_nextTakes_22 : decode cX11_nextTakes 22 = .ok (.if_icmp .le 9, 3) := by decide +kernel
theorem dX11_nextTakes_25 : decode cX11_nextTakes 25 = .ok (.iinc 2 (-1), 3) := by decide +kernel
theorem dX11_nextTakes_28 : decode cX11_nextTakes 28 = .ok (.goto (-24), 3) := by decide +kernel
theorem dX11_nextTakes_31 : decode cX11_nextTakes 31 = .ok (.iload_n 2, 1) := by decide +kernel
theorem dX11_nextTakes_32 : decode cX11_nextTakes 32 = .ok (.ifCond .ge 5, 3) := by decide +kernel
theorem dX11_nextTakes_35 : decode cX11_nextTakes 35 = .ok (.iconst 0, 1) := by decide +kernel
theorem dX11_nextTakes_36 : decode cX11_nextTakes 36 = .ok (.ireturn, 1) := by decide +kernel
theorem dX11_nextTakes_37 : decode cX11_nextTakes 37 = .ok (.iload_n 1, 1) := by decide +kernel
theorem dX11_nextTakes_38 : decode cX11_nextTakes 38 = .ok (.iconst 1, 1) := by decide +kernel
theorem dX11_nextTakes_39 : decode cX11_nextTakes 39 = .ok (.isub, 1) := by decide +kernel
theorem dX11_nextTakes_40 : decode cX11_nextTakes 40 = .ok (.istore_n 3, 1) := by decide +kernel
theorem dX11_nextTakes_41 : decode cX11_nextTakes 41 = .ok (.aload_n 0, 1) := by decide +kernel
theorem dX11_nextTakes_42 : decode cX11_nextTakes 42 = .ok (.getfield 35, 3) := by decide +kernel
theorem dX11_nextTakes_45 : decode cX11_nextTakes 45 = .ok (.iload_n 3, 1) := by decide +kernel
theorem dX11_nextTakes_46 : decode cX11_nextTakes 46 = .ok (.iaload, 1) := by decide +kernel
theorem dX11_nextTakes_47 : decode cX11_nextTakes 47 = .ok (.aload_n 0, 1) := by decide +kernel
theorem dX11_nextTakes_48 : decode cX11_nextTakes 48 = .ok (.getfield 35, 3) := by decide +kernel
theorem dX11_nextTakes_51 : decode cX11_nextTakes 51 = .ok (.iload_n 2, 1) := by decide +kernel
theorem dX11_nextTakes_52 : decode cX11_nextTakes 52 = .ok (.iaload, 1) := by decide +kernel
theorem dX11_nextTakes_53 : decode cX11_nextTakes 53 = .ok (.if_icmp .ge 9, 3) := by decide +kernel
theorem dX11_nextTakes_56 : decode cX11_nextTakes 56 = .ok (.iinc 3 (-1), 3) := by decide +kernel
theorem dX11_nextTakes_59 : decode cX11_nextTakes 59 = .ok (.goto (-18), 3) := by decide +kernel
theorem dX11_nextTakes_62 : decode cX11_nextTakes 62 = .ok (.aload_n 0, 1) := by decide +kernel
theorem dX11_nextTakes_63 : decode cX11_nextTakes 63 = .ok (.iload_n 2, 1) := by decide +kernel
theorem dX11_nextTakes_64 : decode cX11_nextTakes 64 = .ok (.iload_n 3, 1) := by decide +kernel
theorem dX11_nextTakes_65 : decode cX11_nextTakes 65 = .ok (.invokevirtual 149, 3) := by decide +kernel
theorem dX11_nextTakes_68 : decode cX11_nextTakes 68 = .ok (.iload_n 2, 1) := by decide +kernel
theorem dX11_nextTakes_69 : decode cX11_nextTakes 69 = .ok (.iconst 1, 1) := by decide +kernel
theorem dX11_nextTakes_70 : decode cX11_nextTakes 70 = .ok (.iadd, 1) := by decide +kernel
theorem dX11_nextTakes_71 : decode cX11_nextTakes 71 = .ok (.istore 4, 2) := by decide +kernel
theorem dX11_nextTakes_73 : decode cX11_nextTakes 73 = .ok (.iload 4, 2) := by decide +kernel
theorem dX11_nextTakes_75 : decode cX11_nextTakes 75 = .ok (.iload_n 1, 1) := by decide +kernel
theorem dX11_nextTakes_76 : decode cX11_nextTakes 76 = .ok (.iload 4, 2) := by decide +kernel
theorem dX11_nextTakes_78 : decode cX11_nextTakes 78 = .ok (.isub, 1) := by decide +kernel
theorem dX11_nextTakes_79 : decode cX11_nextTakes 79 = .ok (.iload_n 2, 1) := by decide +kernel
theorem dX11_nextTakes_80 : decode cX11_nextTakes 80 = .ok (.iadd, 1) := by decide +kernel
theorem dX11_nextTakes_81 : decode cX11_nextTakes 81 = .ok (.if_icmp .ge 21, 3) := by decide +kernel
theorem dX11_nextTakes_84 : decode cX11_nextTakes 84 = .ok (.aload_n 0, 1) := by decide +kernel
theorem dX11_nextTakes_85 : decode cX11_nextTakes 85 = .ok (.iload 4, 2) := by decide +kernel
theorem dX11_nextTakes_87 : decode cX11_nextTakes 87 = .ok (.iload_n 1, 1) := by decide +kernel
theorem dX11_nextTakes_88 : decode cX11_nextTakes 88 = .ok (.iload 4, 2) := by decide +kernel
theorem dX11_nextTakes_90 : decode cX11_nextTakes 90 = .ok (.isub, 1) := by decide +kernel
theorem dX11_nextTakes_91 : decode cX11_nextTakes 91 = .ok (.iload_n 2, 1) := by decide +kernel
theorem dX11_nextTakes_92 : decode cX11_nextTakes 92 = .ok (.iadd, 1) := by decide +kernel
theorem dX11_nextTakes_93 : decode cX11_nextTakes 93 = .ok (.invokevirtual 149, 3) := by decide +kernel
theorem dX11_nextTakes_96 : decode cX11_nextTakes 96 = .ok (.iinc 4 1, 3) := by decide +kernel
theorem dX11_nextTakes_99 : decode cX11_nextTakes 99 = .ok (.goto (-26), 3) := by decide +kernel
theorem dX11_nextTakes_102 : decode cX11_nextTakes 102 = .ok (.iconst 1, 1) := by decide +kernel
theorem dX11_nextTakes_103 : decode cX11_nextTakes 103 = .ok (.ireturn, 1) := by decide +kernel
theorem dX11_tryTrade_0 : decode cX11_tryTrade 0 = .ok (.iconst 0, 1) := by decide +kernel
theorem dX11_tryTrade_1 : decode cX11_tryTrade 1 = .ok (.istore_n 3, 1) := by decide +kernel
theorem dX11_tryTrade_2 : decode cX11_tryTrade 2 = .ok (.iconst 0, 1) := by decide +kernel
theorem dX11_tryTrade_3 : decode cX11_tryTrade 3 = .ok (.istore 4, 2) := by decide +kernel
theorem dX11_tryTrade_5 : decode cX11_tryTrade 5 = .ok (.iload 4, 2) := by decide +kernel
theorem dX11_tryTrade_7 : decode cX11_tryTrade 7 = .ok (.iload_n 2, 1) := by decide +kernel
theorem dX11_tryTrade_8 : decode cX11_tryTrade 8 = .ok (.if_icmp .ge 68, 3) := by decide +kernel
theorem dX11_tryTrade_11 : decode cX11_tryTrade 11 = .ok (.aload_n 0, 1) := by decide +kernel
theorem dX11_tryTrade_12 : decode cX11_tryTrade 12 = .ok (.getfield 19, 3) := by decide +kernel
theorem dX11_tryTrade_15 : decode cX11_tryTrade 15 = .ok (.bipush 8, 2) := by decide +kernel
theorem dX11_tryTrade_17 : decode cX11_tryTrade 17 = .ok (.aload_n 0, 1) := by decide +kernel
theorem dX11_tryTrade_18 : decode cX11_tryTrade 18 = .ok (.getfield 29, 3) := by decide +kernel
theorem dX11_tryTrade_21 : decode cX11_tryTrade 21 = .ok (.iload 4, 2) := by decide +kernel
theorem dX11_tryTrade_23 : decode cX11_tryTrade 23 = .ok (.iaload, 1) := by decide +kernel
theorem dX11_tryTrade_24 : decode cX11_tryTrade 24 = .ok (.imul, 1) := by decide +kernel
theorem dX11_tryTrade_25 : decode cX11_tryTrade 25 = .ok (.iload_n 1, 1) := by decide +kernel
theorem dX11_tryTrade_26 : decode cX11_tryTrade 26 = .ok (.iadd, 1) := by decide +kernel
theorem dX11_tryTrade_27 : decode cX11_tryTrade 27 = .ok (.aload_n 0, 1) := by decide +kernel
theorem dX11_tryTrade_28 : decode cX11_tryTrade 28 = .ok (.getfield 32, 3) := by decide +kernel
theorem dX11_tryTrade_31 : decode cX11_tryTrade 31 = .ok (.aload_n 0, 1) := by decide +kernel
theorem dX11_tryTrade_32 : decode cX11_tryTrade 32 = .ok (.getfield 35, 3) := by decide +kernel
theorem dX11_tryTrade_35 : decode cX11_tryTrade 35 = .ok (.iload 4, 2) := by decide +kernel
theorem dX11_tryTrade_37 : decode cX11_tryTrade 37 = .ok (.iaload, 1) := by decide +kernel
theorem dX11_tryTrade_38 : decode cX11_tryTrade 38 = .ok (.iaload, 1) := by decide +kernel
theorem dX11_tryTrade_39 : decode cX11_tryTrade 39 = .ok (.iastore, 1) := by decide +kernel
theorem dX11_tryTrade_40 : decode cX11_tryTrade 40 = .ok (.iload_n 3, 1) := by decide +kernel
theorem dX11_tryTrade_41 : decode cX11_tryTrade 41 = .ok (.aload_n 0, 1) := by decide +kernel
theorem dX11_tryTrade_42 : decode cX11_tryTrade 42 = .ok (.getfield 32, 3) := by decide +kernel
theorem dX11_tryTrade_45 : decode cX11_tryTrade 45 = .ok (.aload_n 0, 1) := by decide +kernel
theorem dX11_tryTrade_46 : decode cX11_tryTrade 46 = .ok (.getfield 35, 3) := by decide +kernel
theorem dX11_tryTrade_49 : decode cX11_tryTrade 49 = .ok (.iload 4, 2) := by decide +kernel
theorem dX11_tryTrade_51 : decode cX11_tryTrade 51 = .ok (.iaload, 1) := by decide +kernel
theorem dX11_tryTrade_52 : decode cX11_tryTrade 52 = .ok (.iaload, 1) := by decide +kernel
theorem dX11_tryTrade_53 : decode cX11_tryTrade 53 = .ok (.aload_n 0, 1) := by decide +kernel
theorem dX11_tryTrade_54 : decode cX11_tryTrade 54 = .ok (.getfield 32, 3) := by decide +kernel
theorem dX11_tryTrade_57 : decode cX11_tryTrade 57 = .ok (.iload 4, 2) := by decide +kernel
theorem dX11_tryTrade_59 : decode cX11_tryTrade 59 = .ok (.iaload, 1) := by decide +kernel
theorem dX11_tryTrade_60 : decode cX11_tryTrade 60 = .ok (.if_icmp .ne 7, 3) := by decide +kernel
theorem dX11_tryTrade_63 : decode cX11_tryTrade 63 = .ok (.iconst 0, 1) := by decide +kernel
theorem dX11_tryTrade_64 : decode cX11_tryTrade 64 = .ok (.goto 4, 3) := by decide +kernel
theorem dX11_tryTrade_67 : decode cX11_tryTrade 67 = .ok (.iconst 1, 1) := by decide +kernel
theorem dX11_tryTrade_68 : decode cX11_tryTrade 68 = .ok (.iadd, 1) := by decide +kernel
theorem dX11_tryTrade_69 : decode cX11_tryTrade 69 = .ok (.istore_n 3, 1) := by decide +kernel
theorem dX11_tryTrade_70 : decode cX11_tryTrade 70 = .ok (.iinc 4 1, 3) := by decide +kernel
theorem dX11_tryTrade_73 : decode cX11_tryTrade 73 = .ok (.goto (-68), 3) := by decide +kernel
theorem dX11_tryTrade_76 : decode cX11_tryTrade 76 = .ok (.aload_n 0, 1) := by decide +kernel
theorem dX11_tryTrade_77 : decode cX11_tryTrade 77 = .ok (.iload_n 1, 1) := by decide +kernel
theorem dX11_tryTrade_78 : decode cX11_tryTrade 78 = .ok (.invokevirtual 143, 3) := by decide +kernel
theorem dX11_tryTrade_81 : decode cX11_tryTrade 81 = .ok (.invokestatic 146, 3) := by decide +kernel
theorem dX11_tryTrade_84 : decode cX11_tryTrade 84 = .ok (.istore 4, 2) := by decide +kernel
theorem dX11_tryTrade_86 : decode cX11_tryTrade 86 = .ok (.iload 4, 2) := by decide +kernel
theorem dX11_tryTrade_88 : decode cX11_tryTrade 88 = .ok (.aload_n 0, 1) := by decide +kernel
theorem dX11_tryTrade_89 : decode cX11_tryTrade 89 = .ok (.getfield 152, 3) := by decide +kernel
theorem dX11_tryTrade_92 : decode cX11_tryTrade 92 = .ok (.if_icmp .lt 20, 3) := by decide +kernel
theorem dX11_tryTrade_95 : decode cX11_tryTrade 95 = .ok (.iload 4, 2) := by decide +kernel
theorem dX11_tryTrade_97 : decode cX11_tryTrade 97 = .ok (.aload_n 0, 1) := by decide +kernel
theorem dX11_tryTrade_98 : decode cX11_tryTrade 98 = .ok (.getfield 152, 3) := by decide +kernel
theorem dX11_tryTrade_101 : decode cX11_tryTrade 101 = .ok (.if_icmp .ne 56, 3) := by decide +kernel
theorem dX11_tryTrade_104 : decode cX11_tryTrade 104 = .ok (.iload_n 3, 1) := by decide +kernel
theorem dX11_tryTrade_105 : decode cX11_tryTrade 105 = .ok (.aload_n 0, 1) := by decide +kernel
theorem dX11_tryTrade_106 : decode cX11_tryTrade 106 = .ok (.getfield 155, 3) := by decide +kernel
theorem dX11_tryTrade_109 : decode cX11_tryTrade 109 = .ok (.if_icmp .ge 48, 3) := by decide +kernel
theorem dX11_tryTrade_112 : decode cX11_tryTrade 112 = .ok (.aload_n 0, 1) := by decide +kernel
theorem dX11_tryTrade_113 : decode cX11_tryTrade 113 = .ok (.iload 4, 2) := by decide +kernel
theorem dX11_tryTrade_115 : decode cX11_tryTrade 115 = .ok (.putfield 152, 3) := by decide +kernel
theorem dX11_tryTrade_118 : decode cX11_tryTrade 118 = .ok (.aload_n 0, 1) := by decide +kernel
theorem dX11_tryTrade_119 : decode cX11_tryTrade 119 = .ok (.iload_n 3, 1) := by decide +kernel
theorem dX11_tryTrade_120 : decode cX11_tryTrade 120 = .ok (.putfield 155, 3) := by decide +kernel
theorem dX11_tryTrade_123 : decode cX11_tryTrade 123 = .ok (.iconst 0, 1) := by decide +kernel
theorem dX11_tryTrade_124 : decode cX11_tryTrade 124 = .ok (.istore 5, 2) := by decide +kernel
theorem dX11_tryTrade_126 : decode cX11_tryTrade 126 = .ok (.iload 5, 2) := by decide +kernel
theorem dX11_tryTrade_128 : decode cX11_tryTrade 128 = .ok (.iload_n 2, 1) := by decide +kernel
theorem dX11_tryTrade_129 : decode cX11_tryTrade 129 = .ok (.if_icmp .ge 28, 3) := by decide +kernel
theorem dX11_tryTrade_132 : decode cX11_tryTrade 132 = .ok (.aload_n 0, 1) := by decide +kernel
theorem dX11_tryTrade_133 : decode cX11_tryTrade 133 = .ok (.getfield 38, 3) := by decide +kernel
theorem dX11_tryTrade_136 : decode cX11_tryTrade 136 = .ok (.iload 5, 2) := by decide +kernel
theorem dX11_tryTrade_138 : decode cX11_tryTrade 138 = .ok (.aload_n 0, 1) := by decide +kernel
theorem dX11_tryTrade_139 : decode cX11_tryTrade 139 = .ok (.getfield 32, 3) := by decide +kernel
theorem dX11_tryTrade_142 : decode cX11_tryTrade 142 = .ok (.aload_n 0, 1) := by decide +kernel
theorem dX11_tryTrade_143 : decode cX11_tryTrade 143 = .ok (.getfield 35, 3) := by decide +kernel
theorem dX11_tryTrade_146 : decode cX11_tryTrade 146 = .ok (.iload 5, 2) := by decide +kernel
theorem dX11_tryTrade_148 : decode cX11_tryTrade 148 = .ok (.iaload, 1) := by decide +kernel
theorem dX11_tryTrade_149 : decode cX11_tryTrade 149 = .ok (.iaload, 1) := by decide +kernel
theorem dX11_tryTrade_150 : decode cX11_tryTrade 150 = .ok (.iastore, 1) := by decide +kernel
theorem dX11_tryTrade_151 : decode cX11_tryTrade 151 = .ok (.iinc 5 1, 3) := by decide +kernel
theorem dX11_tryTrade_154 : decode cX11_tryTrade 154 = .ok (.goto (-28), 3) := by decide +kernel
theorem dX11_tryTrade_157 : decode cX11_tryTrade 157 = .ok (.return_, 1) := by decide +kernel
theorem dX11_tradesNow_0 : decode cX11_tradesNow 0 = .ok (.aload_n 0, 1) := by decide +kernel
theorem dX11_tradesNow_1 : decode cX11_tradesNow 1 = .ok (.invokevirtual 158, 3) := by decide +kernel
theorem dX11_tradesNow_4 : decode cX11_tradesNow 4 = .ok (.istore_n 3, 1) := by decide +kernel
theorem dX11_tradesNow_5 : decode cX11_tradesNow 5 = .ok (.aload_n 0, 1) := by decide +kernel
theorem dX11_tradesNow_6 : decode cX11_tradesNow 6 = .ok (.iload_n 1, 1) := by decide +kernel
theorem dX11_tradesNow_7 : decode cX11_tradesNow 7 = .ok (.invokevirtual 162, 3) := by decide +kernel
theorem dX11_tradesNow_10 : decode cX11_tradesNow 10 = .ok (.aload_n 0, 1) := by decide +kernel
theorem dX11_tradesNow_11 : decode cX11_tradesNow 11 = .ok (.ldc 166, 2) := by decide +kernel
theorem dX11_tradesNow_13 : decode cX11_tradesNow 13 = .ok (.putfield 152, 3) := by decide +kernel
theorem dX11_tradesNow_16 : decode cX11_tradesNow 16 = .ok (.aload_n 0, 1) := by decide +kernel
theorem dX11_tradesNow_17 : decode cX11_tradesNow 17 = .ok (.ldc 166, 2) := by decide +kernel
theorem dX11_tradesNow_19 : decode cX11_tradesNow 19 = .ok (.putfield 155, 3) := by decide +kernel
theorem dX11_tradesNow_22 : decode cX11_tradesNow 22 = .ok (.iconst 1, 1) := by decide +kernel
theorem dX11_tradesNow_23 : decode cX11_tradesNow 23 = .ok (.istore 4, 2) := by decide +kernel
theorem dX11_tradesNow_25 : decode cX11_tradesNow 25 = .ok (.iload 4, 2) := by decide +kernel
theorem dX11_tradesNow_27 : decode cX11_tradesNow 27 = .ok (.ifCond .eq 19, 3) := by decide +kernel
theorem dX11_tradesNow_30 : decode cX11_tradesNow 30 = .ok (.aload_n 0, 1) := by decide +kernel
theorem dX11_tradesNow_31 : decode cX11_tradesNow 31 = .ok (.iload_n 1, 1) := by decide +kernel
theorem dX11_tradesNow_32 : decode cX11_tradesNow 32 = .ok (.iload_n 3, 1) := by decide +kernel
theorem dX11_tradesNow_33 : decode cX11_tradesNow 33 = .ok (.invokevirtual 167, 3) := by decide +kernel
theorem dX11_tradesNow_36 : decode cX11_tradesNow 36 = .ok (.aload_n 0, 1) := by decide +kernel
theorem dX11_tradesNow_37 : decode cX11_tradesNow 37 = .ok (.iload_n 3, 1) := by decide +kernel
theorem dX11_tradesNow_38 : decode cX11_tradesNow 38 = .ok (.invokevirtual 170, 3) := by decide +kernel
theorem dX11_tradesNow_41 : decode cX11_tradesNow 41 = .ok (.istore 4, 2) := by decide +kernel
theorem dX11_tradesNow_43 : decode cX11_tradesNow 43 = .ok (.goto (-18), 3) := by decide +kernel
theorem dX11_tradesNow_46 : decode cX11_tradesNow 46 = .ok (.iconst (-1), 1) := by decide +kernel
theorem dX11_tradesNow_47 : decode cX11_tradesNow 47 = .ok (.istore 5, 2) := by decide +kernel
theorem dX11_tradesNow_49 : decode cX11_tradesNow 49 = .ok (.iconst 0, 1) := by decide +kernel
theorem dX11_tradesNow_50 : decode cX11_tradesNow 50 = .ok (.istore 6, 2) := by decide +kernel
theorem dX11_tradesNow_52 : decode cX11_tradesNow 52 = .ok (.iload 6, 2) := by decide +kernel
theorem dX11_tradesNow_54 : decode cX11_tradesNow 54 = .ok (.iload_n 3, 1) := by decide +kernel
theorem dX11_tradesNow_55 : decode cX11_tradesNow 55 = .ok (.if_icmp .ge 61, 3) := by decide +kernel
theorem dX11_tradesNow_58 : decode cX11_tradesNow 58 = .ok (.aload_n 0, 1) := by decide +kernel
theorem dX11_tradesNow_59 : decode cX11_tradesNow 59 = .ok (.getfield 19, 3) := by decide +kernel
theorem dX11_tradesNow_62 : decode cX11_tradesNow 62 = .ok (.bipush 8, 2) := by decide +kernel
theorem dX11_tradesNow_64 : decode cX11_tradesNow 64 = .ok (.aload_n 0, 1) := by decide +kernel
theorem dX11_tradesNow_65 : decode cX11_tradesNow 65 = .ok (.getfield 29, 3) := by decide +kernel
theorem dX11_tradesNow_68 : decode cX11_tradesNow 68 = .ok (.iload 6, 2) := by decide +kernel
theorem dX11_tradesNow_70 : decode cX11_tradesNow 70 = .ok (.iaload, 1) := by decide +kernel
theorem dX11_tradesNow_71 : decode cX11_tradesNow 71 = .ok (.imul, 1) := by decide +kernel
theorem dX11_tradesNow_72 : decode cX11_tradesNow 72 = .ok (.iload_n 1, 1) := by decide +kernel
theorem dX11_tradesNow_73 : decode cX11_tradesNow 73 = .ok (.iadd, 1) := by decide +kernel
theorem dX11_tradesNow_74 : decode cX11_tradesNow 74 = .ok (.aload_n 0, 1) := by decide +kernel
theorem dX11_tradesNow_75 : decode cX11_tradesNow 75 = .ok (.getfield 32, 3) := by decide +kernel
theorem dX11_tradesNow_78 : decode cX11_tradesNow 78 = .ok (.iload 6, 2) := by decide +kernel
theorem dX11_tradesNow_80 : decode cX11_tradesNow 80 = .ok (.iaload, 1) := by decide +kernel
theorem dX11_tradesNow_81 : decode cX11_tradesNow 81 = .ok (.iastore, 1) := by decide +kernel
theorem dX11_tradesNow_82 : decode cX11_tradesNow 82 = .ok (.aload_n 0, 1) := by decide +kernel
theorem dX11_tradesNow_83 : decode cX11_tradesNow 83 = .ok (.getfield 29, 3) := by decide +kernel
theorem dX11_tradesNow_86 : decode cX11_tradesNow 86 = .ok (.iload 6, 2) := by decide +kernel
theorem dX11_tradesNow_88 : decode cX11_tradesNow 88 = .ok (.iaload, 1) := by decide +kernel
theorem dX11_tradesNow_89 : decode cX11_tradesNow 89 = .ok (.iload_n 2, 1) := by decide +kernel
theorem dX11_tradesNow_90 : decode cX11_tradesNow 90 = .ok (.bipush 10, 2) := by decide +kernel
theorem dX11_tradesNow_92 : decode cX11_tradesNow 92 = .ok (.isub, 1) := by decide +kernel
theorem dX11_tradesNow_93 : decode cX11_tradesNow 93 = .ok (.if_icmp .ne 13, 3) := by decide +kernel
theorem dX11_tradesNow_96 : decode cX11_tradesNow 96 = .ok (.aload_n 0, 1) := by decide +kernel
theorem dX11_tradesNow_97 : decode cX11_tradesNow 97 = .ok (.getfield 38, 3) := by decide +kernel
theorem dX11_tradesNow_100 : decode cX11_tradesNow 100 = .ok (.iload 6, 2) := by decide +kernel
theorem dX11_tradesNow_102 : decode cX11_tradesNow 102 = .ok (.iaload, 1) := by decide +kernel
theorem dX11_tradesNow_103 : decode cX11_tradesNow 103 = .ok (.goto 5, 3) := by decide +kernel
theorem dX11_tradesNow_106 : decode cX11_tradesNow 106 = .ok (.iload 5, 2) := by decide +kernel
theorem dX11_tradesNow_108 : decode cX11_tradesNow 108 = .ok (.istore 5, 2) := by decide +kernel
theorem dX11_tradesNow_110 : decode cX11_tradesNow 110 = .ok (.iinc 6 1, 3) := by decide +kernel
theorem dX11_tradesNow_113 : decode cX11_tradesNow 113 = .ok (.goto (-61), 3) := by decide +kernel
theorem dX11_tradesNow_116 : decode cX11_tradesNow 116 = .ok (.iload_n 2, 1) := by decide +kernel
theorem dX11_tradesNow_117 : decode cX11_tradesNow 117 = .ok (.ifCond .ne 10, 3) := by decide +kernel
theorem dX11_tradesNow_120 : decode cX11_tradesNow 120 = .ok (.aload_n 0, 1) := by decide +kernel
theorem dX11_tradesNow_121 : decode cX11_tradesNow 121 = .ok (.getfield 152, 3) := by decide +kernel
theorem dX11_tradesNow_124 : decode cX11_tradesNow 124 = .ok (.goto 17, 3) := by decide +kernel
theorem dX11_tradesNow_127 : decode cX11_tradesNow 127 = .ok (.iload_n 2, 1) := by decide +kernel
theorem dX11_tradesNow_128 : decode cX11_tradesNow 128 = .ok (.iconst 1, 1) := by decide +kernel
theorem dX11_tradesNow_129 : decode cX11_tradesNow 129 = .ok (.if_icmp .ne 10, 3) := by decide +kernel
theorem dX11_tradesNow_132 : decode cX11_tradesNow 132 = .ok (.aload_n 0, 1) := by decide +kernel
theorem dX11_tradesNow_133 : decode cX11_tradesNow 133 = .ok (.getfield 155, 3) := by decide +kernel
theorem dX11_tradesNow_136 : decode cX11_tradesNow 136 = .ok (.goto 5, 3) := by decide +kernel
theorem dX11_tradesNow_139 : decode cX11_tradesNow 139 = .ok (.iload 5, 2) := by decide +kernel
theorem dX11_tradesNow_141 : decode cX11_tradesNow 141 = .ok (.ireturn, 1) := by decide +kernel
theorem dX11_trades_0 : decode cX11_trades 0 = .ok (.iload_n 1, 1) := by decide +kernel
theorem dX11_trades_1 : decode cX11_trades 1 = .ok (.invokestatic 119, 3) := by decide +kernel
theorem dX11_trades_4 : decode cX11_trades 4 = .ok (.ifCond .ne 6, 3) := by decide +kernel
theorem dX11_trades_7 : decode cX11_trades 7 = .ok (.bipush (-101), 2) := by decide +kernel
theorem dX11_trades_9 : decode cX11_trades 9 = .ok (.ireturn, 1) := by decide +kernel
theorem dX11_trades_10 : decode cX11_trades 10 = .ok (.iload_n 2, 1) := by decide +kernel
theorem dX11_trades_11 : decode cX11_trades 11 = .ok (.iconst 0, 1) := by decide +kernel
theorem dX11_trades_12 : decode cX11_trades 12 = .ok (.iconst 1, 1) := by decide +kernel
theorem dX11_trades_13 : decode cX11_trades 13 = .ok (.invokestatic 65, 3) := by decide +kernel
theorem dX11_trades_16 : decode cX11_trades 16 = .ok (.ifCond .ne 17, 3) := by decide +kernel
theorem dX11_trades_19 : decode cX11_trades 19 = .ok (.iload_n 2, 1) := by decide +kernel
theorem dX11_trades_20 : decode cX11_trades 20 = .ok (.bipush 10, 2) := by decide +kernel
theorem dX11_trades_22 : decode cX11_trades 22 = .ok (.bipush 17, 2) := by decide +kernel
theorem dX11_trades_24 : decode cX11_trades 24 = .ok (.invokestatic 65, 3) := by decide +kernel
theorem dX11_trades_27 : decode cX11_trades 27 = .ok (.ifCond .ne 6, 3) := by decide +kernel
theorem dX11_trades_30 : decode cX11_trades 30 = .ok (.bipush (-102), 2) := by decide +kernel
theorem dX11_trades_32 : decode cX11_trades 32 = .ok (.ireturn, 1) := by decide +kernel
theorem dX11_trades_33 : decode cX11_trades 33 = .ok (.aload_n 0, 1) := by decide +kernel
theorem dX11_trades_34 : decode cX11_trades 34 = .ok (.getfield 92, 3) := by decide +kernel
theorem dX11_trades_37 : decode cX11_trades 37 = .ok (.ifCond .eq 21, 3) := by decide +kernel
theorem dX11_trades_40 : decode cX11_trades 40 = .ok (.aload_n 0, 1) := by decide +kernel
theorem dX11_trades_41 : decode cX11_trades 41 = .ok (.invokevirtual 158, 3) := by decide +kernel
theorem dX11_trades_44 : decode cX11_trades 44 = .ok (.bipush 6, 2) := by decide +kernel
theorem dX11_trades_46 : decode cX11_trades 46 = .ok (.if_icmp .gt 12, 3) := by decide +kernel
theorem dX11_trades_49 : decode cX11_trades 49 = .ok (.aload_n 0, 1) := by decide +kernel
theorem dX11_trades_50 : decode cX11_trades 50 = .ok (.getfield 173, 3) := by decide +kernel
theorem dX11_trades_53 : decode cX11_trades 53 = .ok (.bipush 30, 2) := by decide +kernel
theorem dX11_trades_55 : decode cX11_trades 55 = .ok (.if_icmp .ne 6, 3) := by decide +kernel
theorem dX11_trades_58 : decode cX11_trades 58 = .ok (.bipush (-103), 2) := by decide +kernel
theorem dX11_trades_60 : decode cX11_trades 60 = .ok (.ireturn, 1) := by decide +kernel
theorem dX11_trades_61 : decode cX11_trades 61 = .ok (.aload_n 0, 1) := by decide +kernel
theorem dX11_trades_62 : decode cX11_trades 62 = .ok (.dup, 1) := by decide +kernel
theorem dX11_trades_63 : decode cX11_trades 63 = .ok (.getfield 173, 3) := by decide +kernel
theorem dX11_trades_66 : decode cX11_trades 66 = .ok (.iconst 1, 1) := by decide +kernel
theorem dX11_trades_67 : decode cX11_trades 67 = .ok (.iadd, 1) := by decide +kernel
theorem dX11_trades_68 : decode cX11_trades 68 = .ok (.putfield 173, 3) := by decide +kernel
theorem dX11_trades_71 : decode cX11_trades 71 = .ok (.aload_n 0, 1) := by decide +kernel
theorem dX11_trades_72 : decode cX11_trades 72 = .ok (.iload_n 1, 1) := by decide +kernel
theorem dX11_trades_73 : decode cX11_trades 73 = .ok (.iload_n 2, 1) := by decide +kernel
theorem dX11_trades_74 : decode cX11_trades 74 = .ok (.invokevirtual 176, 3) := by decide +kernel
theorem dX11_trades_77 : decode cX11_trades 77 = .ok (.ireturn, 1) := by decide +kernel
theorem dX11_besideOf_0 : decode cX11_besideOf 0 = .ok (.iload_n 2, 1) := by decide +kernel
theorem dX11_besideOf_1 : decode cX11_besideOf 1 = .ok (.ifCond .ne 22, 3) := by decide +kernel
theorem dX11_besideOf_4 : decode cX11_besideOf 4 = .ok (.iload_n 1, 1) := by decide +kernel
theorem dX11_besideOf_5 : decode cX11_besideOf 5 = .ok (.aload_n 0, 1) := by decide +kernel
theorem dX11_besideOf_6 : decode cX11_besideOf 6 = .ok (.getfield 89, 3) := by decide +kernel
theorem dX11_besideOf_9 : decode cX11_besideOf 9 = .ok (.if_icmp .lt 12, 3) := by decide +kernel
theorem dX11_besideOf_12 : decode cX11_besideOf 12 = .ok (.iload_n 1, 1) := by decide +kernel
theorem dX11_besideOf_13 : decode cX11_besideOf 13 = .ok (.aload_n 0, 1) := by decide +kernel
theorem dX11_besideOf_14 : decode cX11_besideOf 14 = .ok (.getfield 89, 3) := by decide +kernel
theorem dX11_besideOf_17 : decode cX11_besideOf 17 = .ok (.isub, 1) := by decide +kernel
theorem dX11_besideOf_18 : decode cX11_besideOf 18 = .ok (.goto 4, 3) := by decide +kernel
theorem dX11_besideOf_21 : decode cX11_besideOf 21 = .ok (.iconst (-1), 1) := by decide +kernel
theorem dX11_besideOf_22 : decode cX11_besideOf 22 = .ok (.ireturn, 1) := by decide +kernel
theorem dX11_besideOf_23 : decode cX11_besideOf 23 = .ok (.iload_n 2, 1) := by decide +kernel
theorem dX11_besideOf_24 : decode cX11_besideOf 24 = .ok (.iconst 2, 1) := by decide +kernel
theorem dX11_besideOf_25 : decode cX11_besideOf 25 = .ok (.if_icmp .ne 27, 3) := by decide +kernel
theorem dX11_besideOf_28 : decode cX11_besideOf 28 = .ok (.iload_n 1, 1) := by decide +kernel
theorem dX11_besideOf_29 : decode cX11_besideOf 29 = .ok (.aload_n 0, 1) := by decide +kernel
theorem dX11_besideOf_30 : decode cX11_besideOf 30 = .ok (.getfield 89, 3) := by decide +kernel
theorem dX11_besideOf_33 : decode cX11_besideOf 33 = .ok (.iadd, 1) := by decide +kernel
theorem dX11_besideOf_34 : decode cX11_besideOf 34 = .ok (.aload_n 0, 1) := by decide +kernel
theorem dX11_besideOf_35 : decode cX11_besideOf 35 = .ok (.getfield 92, 3) := by decide +kernel
theorem dX11_besideOf_38 : decode cX11_besideOf 38 = .ok (.if_icmp .ge 12, 3) := by decide +kernel
theorem dX11_besideOf_41 : decode cX11_besideOf 41 = .ok (.iload_n 1, 1) := by decide +kernel
theorem dX11_besideOf_42 : decode cX11_besideOf 42 = .ok (.aload_n 0, 1) := by decide +kernel
theorem dX11_besideOf_43 : decode cX11_besideOf 43 = .ok (.getfield 89, 3) := by decide +kernel
theorem dX11_besideOf_46 : decode cX11_besideOf 46 = .ok (.iadd, 1) := by decide +kernel
theorem dX11_besideOf_47 : decode cX11_besideOf 47 = .ok (.goto 4, 3) := by decide +kernel
theorem dX11_besideOf_50 : decode cX11_besideOf 50 = .ok (.iconst (-1), 1) := by decide +kernel
theorem dX11_besideOf_51 : decode cX11_besideOf 51 = .ok (.ireturn, 1) := by decide +kernel
theorem dX11_besideOf_52 : decode cX11_besideOf 52 = .ok (.iload_n 2, 1) := by decide +kernel
theorem dX11_besideOf_53 : decode cX11_besideOf 53 = .ok (.iconst 1, 1) := by decide +kernel
theorem dX11_besideOf_54 : decode cX11_besideOf 54 = .ok (.if_icmp .ne 26, 3) := by decide +kernel
theorem dX11_besideOf_57 : decode cX11_besideOf 57 = .ok (.iload_n 1, 1) := by decide +kernel
theorem dX11_besideOf_58 : decode cX11_besideOf 58 = .ok (.aload_n 0, 1) := by decide +kernel
theorem dX11_besideOf_59 : decode cX11_besideOf 59 = .ok (.getfield 89, 3) := by decide +kernel
theorem dX11_besideOf_62 : decode cX11_besideOf 62 = .ok (.irem, 1) := by decide +kernel
theorem dX11_besideOf_63 : decode cX11_besideOf 63 = .ok (.aload_n 0, 1) := by decide +kernel
theorem dX11_besideOf_64 : decode cX11_besideOf 64 = .ok (.getfield 89, 3) := by decide +kernel
theorem dX11_besideOf_67 : decode cX11_besideOf 67 = .ok (.iconst 1, 1) := by decide +kernel
theorem dX11_besideOf_68 : decode cX11_besideOf 68 = .ok (.isub, 1) := by decide +kernel
theorem dX11_besideOf_69 : decode cX11_besideOf 69 = .ok (.if_icmp .ge 9, 3) := by decide +kernel
theorem dX11_besideOf_72 : decode cX11_besideOf 72 = .ok (.iload_n 1, 1) := by decide +kernel
theorem dX11_besideOf_73 : decode cX11_besideOf 73 = .ok (.iconst 1, 1) := by decide +kernel
theorem dX11_besideOf_74 : decode cX11_besideOf 74 = .ok (.iadd, 1) := by decide +kernel
theorem dX11_besideOf_75 : decode cX11_besideOf 75 = .ok (.goto 4, 3) := by decide +kernel
theorem dX11_besideOf_78 : decode cX11_besideOf 78 = .ok (.iconst (-1), 1) := by decide +kernel
theorem dX11_besideOf_79 : decode cX11_besideOf 79 = .ok (.ireturn, 1) := by decide +kernel
theorem dX11_besideOf_80 : decode cX11_besideOf 80 = .ok (.iload_n 1, 1) := by decide +kernel
theorem dX11_besideOf_81 : decode cX11_besideOf 81 = .ok (.aload_n 0, 1) := by decide +kernel
theorem dX11_besideOf_82 : decode cX11_besideOf 82 = .ok (.getfield 89, 3) := by decide +kernel
theorem dX11_besideOf_85 : decode cX11_besideOf 85 = .ok (.irem, 1) := by decide +kernel
theorem dX11_besideOf_86 : decode cX11_besideOf 86 = .ok (.ifCond .le 9, 3) := by decide +kernel
theorem dX11_besideOf_89 : decode cX11_besideOf 89 = .ok (.iload_n 1, 1) := by decide +kernel
theorem dX11_besideOf_90 : decode cX11_besideOf 90 = .ok (.iconst 1, 1) := by decide +kernel
theorem dX11_besideOf_91 : decode cX11_besideOf 91 = .ok (.isub, 1) := by decide +kernel
theorem dX11_besideOf_92 : decode cX11_besideOf 92 = .ok (.goto 4, 3) := by decide +kernel
theorem dX11_besideOf_95 : decode cX11_besideOf 95 = .ok (.iconst (-1), 1) := by decide +kernel
theorem dX11_besideOf_96 : decode cX11_besideOf 96 = .ok (.ireturn, 1) := by decide +kernel
theorem dX11_layWay_0 : decode cX11_layWay 0 = .ok (.iload_n 1, 1) := by decide +kernel
theorem dX11_layWay_1 : decode cX11_layWay 1 = .ok (.istore 4, 2) := by decide +kernel
theorem dX11_layWay_3 : decode cX11_layWay 3 = .ok (.iconst 0, 1) := by decide +kernel
theorem dX11_layWay_4 : decode cX11_layWay 4 = .ok (.istore 5, 2) := by decide +kernel
theorem dX11_layWay_6 : decode cX11_layWay 6 = .ok (.iload 5, 2) := by decide +kernel
theorem dX11_layWay_8 : decode cX11_layWay 8 = .ok (.bipush 8, 2) := by decide +kernel
theorem dX11_layWay_10 : decode cX11_layWay 10 = .ok (.if_icmp .ge 80, 3) := by decide +kernel
theorem dX11_layWay_13 : decode cX11_layWay 13 = .ok (.iload 5, 2) := by decide +kernel
theorem dX11_layWay_15 : decode cX11_layWay 15 = .ok (.ifCond .le 44, 3) := by decide +kernel
theorem dX11_layWay_18 : decode cX11_layWay 18 = .ok (.iload 5, 2) := by decide +kernel
theorem dX11_layWay_20 : decode cX11_layWay 20 = .ok (.aload_n 0, 1) := by decide +kernel
theorem dX11_layWay_21 : decode cX11_layWay 21 = .ok (.getfield 52, 3) := by decide +kernel
theorem dX11_layWay_24 : decode cX11_layWay 24 = .ok (.if_icmp .gt 35, 3) := by decide +kernel
theorem dX11_layWay_27 : decode cX11_layWay 27 = .ok (.aload_n 0, 1) := by decide +kernel
theorem dX11_layWay_28 : decode cX11_layWay 28 = .ok (.iload 4, 2) := by decide +kernel
theorem dX11_layWay_30 : decode cX11_layWay 30 = .ok (.aload_n 0, 1) := by decide +kernel
theorem dX11_layWay_31 : decode cX11_layWay 31 = .ok (.getfield 22, 3) := by decide +kernel
theorem dX11_layWay_34 : decode cX11_layWay 34 = .ok (.iload 5, 2) := by decide +kernel
theorem dX11_layWay_36 : decode cX11_layWay 36 = .ok (.iconst 1, 1) := by decide +kernel
theorem dX11_layWay_37 : decode cX11_layWay 37 = .ok (.isub, 1) := by decide +kernel
theorem dX11_layWay_38 : decode cX11_layWay 38 = .ok (.baload, 1) := by decide +kernel
theorem dX11_layWay_39 : decode cX11_layWay 39 = .ok (.invokestatic 76, 3) := by decide +kernel
theorem dX11_layWay_42 : decode cX11_layWay 42 = .ok (.iload_n 2, 1) := by decide +kernel
theorem dX11_layWay_43 : decode cX11_layWay 43 = .ok (.iadd, 1) := by decide +kernel
theorem dX11_layWay_44 : decode cX11_layWay 44 = .ok (.iconst 4, 1) := by decide +kernel
theorem dX11_layWay_45 : decode cX11_layWay 45 = .ok (.irem, 1) := by decide +kernel
theorem dX11_layWay_46 : decode cX11_layWay 46 = .ok (.invokevirtual 180, 3) := by decide +kernel
theorem dX11_layWay_49 : decode cX11_layWay 49 = .ok (.istore 4, 2) := by decide +kernel
theorem dX11_layWay_51 : decode cX11_layWay 51 = .ok (.iload 4, 2) := by decide +kernel
theorem dX11_layWay_53 : decode cX11_layWay 53 = .ok (.iconst (-1), 1) := by decide +kernel
theorem dX11_layWay_54 : decode cX11_layWay 54 = .ok (.if_icmp .ne 5, 3) := by decide +kernel
theorem dX11_layWay_57 : decode cX11_layWay 57 = .ok (.iconst 0, 1) := by decide +kernel
theorem dX11_layWay_58 : decode cX11_layWay 58 = .ok (.ireturn, 1) := by decide +kernel
theorem dX11_layWay_59 : decode cX11_layWay 59 = .ok (.iload_n 3, 1) := by decide +kernel
theorem dX11_layWay_60 : decode cX11_layWay 60 = .ok (.ifCond .eq 15, 3) := by decide +kernel
theorem dX11_layWay_63 : decode cX11_layWay 63 = .ok (.aload_n 0, 1) := by decide +kernel
theorem dX11_layWay_64 : decode cX11_layWay 64 = .ok (.getfield 44, 3) := by decide +kernel
theorem dX11_layWay_67 : decode cX11_layWay 67 = .ok (.iload 5, 2) := by decide +kernel
theorem dX11_layWay_69 : decode cX11_layWay 69 = .ok (.iload 4, 2) := by decide +kernel
theorem dX11_layWay_71 : decode cX11_layWay 71 = .ok (.iastore, 1) := by decide +kernel
theorem dX11_layWay_72 : decode cX11_layWay 72 = .ok (.goto 12, 3) := by decide +kernel
theorem dX11_layWay_75 : decode cX11_layWay 75 = .ok (.aload_n 0, 1) := by decide +kernel
theorem dX11_layWay_76 : decode cX11_layWay 76 = .ok (.getfield 41, 3) := by decide +kernel
theorem dX11_layWay_79 : decode cX11_layWay 79 = .ok (.iload 5, 2) := by decide +kernel
theorem dX11_layWay_81 : decode cX11_layWay 81 = .ok (.iload 4, 2) := by decide +kernel
theorem dX11_layWay_83 : decode cX11_layWay 83 = .ok (.iastore, 1) := by decide +kernel
theorem dX11_layWay_84 : decode cX11_layWay 84 = .ok (.iinc 5 1, 3) := by decide +kernel
theorem dX11_layWay_87 : decode cX11_layWay 87 = .ok (.goto (-81), 3) := by decide +kernel
theorem dX11_layWay_90 : decode cX11_layWay 90 = .ok (.iconst 1, 1) := by decide +kernel
theorem dX11_layWay_91 : decode cX11_layWay 91 = .ok (.ireturn, 1) := by decide +kernel
theorem dX11_wetWith_0 : decode cX11_wetWith 0 = .ok (.iconst 0, 1) := by decide +kernel
theorem dX11_wetWith_1 : decode cX11_wetWith 1 = .ok (.istore_n 2, 1) := by decide +kernel
theorem dX11_wetWith_2 : decode cX11_wetWith 2 = .ok (.iconst 0, 1) := by decide +kernel
theorem dX11_wetWith_3 : decode cX11_wetWith 3 = .ok (.istore_n 3, 1) := by decide +kernel
theorem dX11_wetWith_4 : decode cX11_wetWith 4 = .ok (.iload_n 3, 1) := by decide +kernel
theorem dX11_wetWith_5 : decode cX11_wetWith 5 = .ok (.bipush 8, 2) := by decide +kernel
theorem dX11_wetWith_7 : decode cX11_wetWith 7 = .ok (.if_icmp .ge 74, 3) := by decide +kernel
theorem dX11_wetWith_10 : decode cX11_wetWith 10 = .ok (.aload_n 0, 1) := by decide +kernel
theorem dX11_wetWith_11 : decode cX11_wetWith 11 = .ok (.iload_n 1, 1) := by decide +kernel
theorem dX11_wetWith_12 : decode cX11_wetWith 12 = .ok (.aload_n 0, 1) := by decide +kernel
theorem dX11_wetWith_13 : decode cX11_wetWith 13 = .ok (.aload_n 0, 1) := by decide +kernel
theorem dX11_wetWith_14 : decode cX11_wetWith 14 = .ok (.getfield 41, 3) := by decide +kernel
theorem dX11_wetWith_17 : decode cX11_wetWith 17 = .ok (.iload_n 3, 1) := by decide +kernel
theorem dX11_wetWith_18 : decode cX11_wetWith 18 = .ok (.iaload, 1) := by decide +kernel
theorem dX11_wetWith_19 : decode cX11_wetWith 19 = .ok (.invokevirtual 107, 3) := by decide +kernel
theorem dX11_wetWith_22 : decode cX11_wetWith 22 = .ok (.aload_n 0, 1) := by decide +kernel
theorem dX11_wetWith_23 : decode cX11_wetWith 23 = .ok (.aload_n 0, 1) := by decide +kernel
theorem dX11_wetWith_24 : decode cX11_wetWith 24 = .ok (.getfield 44, 3) := by decide +kernel
theorem dX11_wetWith_27 : decode cX11_wetWith 27 = .ok (.iload_n 3, 1) := by decide +kernel
theorem dX11_wetWith_28 : decode cX11_wetWith 28 = .ok (.iaload, 1) := by decide +kernel
theorem dX11_wetWith_29 : decode cX11_wetWith 29 = .ok (.invokevirtual 107, 3) := by decide +kernel
theorem dX11_wetWith_32 : decode cX11_wetWith 32 = .ok (.iadd, 1) := by decide +kernel
theorem dX11_wetWith_33 : decode cX11_wetWith 33 = .ok (.imul, 1) := by decide +kernel
theorem dX11_wetWith_34 : decode cX11_wetWith 34 = .ok (.putfield 132, 3) := by decide +kernel
theorem dX11_wetWith_37 : decode cX11_wetWith 37 = .ok (.aload_n 0, 1) := by decide +kernel
theorem dX11_wetWith_38 : decode cX11_wetWith 38 = .ok (.iload_n 1, 1) := by decide +kernel
theorem dX11_wetWith_39 : decode cX11_wetWith 39 = .ok (.aload_n 0, 1) := by decide +kernel
theorem dX11_wetWith_40 : decode cX11_wetWith 40 = .ok (.aload_n 0, 1) := by decide +kernel
theorem dX11_wetWith_41 : decode cX11_wetWith 41 = .ok (.getfield 41, 3) := by decide +kernel
theorem dX11_wetWith_44 : decode cX11_wetWith 44 = .ok (.iload_n 3, 1) := by decide +kernel
theorem dX11_wetWith_45 : decode cX11_wetWith 45 = .ok (.iaload, 1) := by decide +kernel
theorem dX11_wetWith_46 : decode cX11_wetWith 46 = .ok (.invokevirtual 110, 3) := by decide +kernel
theorem dX11_wetWith_49 : decode cX11_wetWith 49 = .ok (.aload_n 0, 1) := by decide +kernel
theorem dX11_wetWith_50 : decode cX11_wetWith 50 = .ok (.aload_n 0, 1) := by decide +kernel
theorem dX11_wetWith_51 : decode cX11_wetWith 51 = .ok (.getfield 44, 3) := by decide +kernel
theorem dX11_wetWith_54 : decode cX11_wetWith 54 = .ok (.iload_n 3, 1) := by decide +kernel
theorem dX11_wetWith_55 : decode cX11_wetWith 55 = .ok (.iaload, 1) := by decide +kernel
theorem dX11_wetWith_56 : decode cX11_wetWith 56 = .ok (.invokevirtual 110, 3) := by decide +kernel
theorem dX11_wetWith_59 : decode cX11_wetWith 59 = .ok (.iadd, 1) := by decide +kernel
theorem dX11_wetWith_60 : decode cX11_wetWith 60 = .ok (.imul, 1) := by decide +kernel
theorem dX11_wetWith_61 : decode cX11_wetWith 61 = .ok (.putfield 129, 3) := by decide +kernel
theorem dX11_wetWith_64 : decode cX11_wetWith 64 = .ok (.iload_n 2, 1) := by decide +kernel
theorem dX11_wetWith_65 : decode cX11_wetWith 65 = .ok (.aload_n 0, 1) := by decide +kernel
theorem dX11_wetWith_66 : decode cX11_wetWith 66 = .ok (.iload_n 3, 1) := by decide +kernel
theorem dX11_wetWith_67 : decode cX11_wetWith 67 = .ok (.invokevirtual 143, 3) := by decide +kernel
theorem dX11_wetWith_70 : decode cX11_wetWith 70 = .ok (.invokestatic 146, 3) := by decide +kernel
theorem dX11_wetWith_73 : decode cX11_wetWith 73 = .ok (.iadd, 1) := by decide +kernel
theorem dX11_wetWith_74 : decode cX11_wetWith 74 = .ok (.istore_n 2, 1) := by decide +kernel
theorem dX11_wetWith_75 : decode cX11_wetWith 75 = .ok (.iinc 3 1, 3) := by decide +kernel
theorem dX11_wetWith_78 : decode cX11_wetWith 78 = .ok (.goto (-74), 3) := by decide +kernel
theorem dX11_wetWith_81 : decode cX11_wetWith 81 = .ok (.aload_n 0, 1) := by decide +kernel
theorem dX11_wetWith_82 : decode cX11_wetWith 82 = .ok (.iconst 0, 1) := by decide +kernel
theorem dX11_wetWith_83 : decode cX11_wetWith 83 = .ok (.putfield 132, 3) := by decide +kernel
theorem dX11_wetWith_86 : decode cX11_wetWith 86 = .ok (.aload_n 0, 1) := by decide +kernel
theorem dX11_wetWith_87 : decode cX11_wetWith 87 = .ok (.iconst 0, 1) := by decide +kernel
theorem dX11_wetWith_88 : decode cX11_wetWith 88 = .ok (.putfield 129, 3) := by decide +kernel
theorem dX11_wetWith_91 : decode cX11_wetWith 91 = .ok (.iload_n 2, 1) := by decide +kernel
theorem dX11_wetWith_92 : decode cX11_wetWith 92 = .ok (.ireturn, 1) := by decide +kernel
theorem dX11_counter_0 : decode cX11_counter 0 = .ok (.aload_n 0, 1) := by decide +kernel
theorem dX11_counter_1 : decode cX11_counter 1 = .ok (.iload_n 1, 1) := by decide +kernel
theorem dX11_counter_2 : decode cX11_counter 2 = .ok (.invokevirtual 101, 3) := by decide +kernel
theorem dX11_counter_5 : decode cX11_counter 5 = .ok (.ifCond .ne 6, 3) := by decide +kernel
theorem dX11_counter_8 : decode cX11_counter 8 = .ok (.bipush (-101), 2) := by decide +kernel
theorem dX11_counter_10 : decode cX11_counter 10 = .ok (.ireturn, 1) := by decide +kernel
theorem dX11_counter_11 : decode cX11_counter 11 = .ok (.iload_n 2, 1) := by decide +kernel
theorem dX11_counter_12 : decode cX11_counter 12 = .ok (.iconst 1, 1) := by decide +kernel
theorem dX11_counter_13 : decode cX11_counter 13 = .ok (.bipush 99, 2) := by decide +kernel
theorem dX11_counter_15 : decode cX11_counter 15 = .ok (.invokestatic 65, 3) := by decide +kernel
theorem dX11_counter_18 : decode cX11_counter 18 = .ok (.ifCond .eq 12, 3) := by decide +kernel
theorem dX11_counter_21 : decode cX11_counter 21 = .ok (.iload_n 3, 1) := by decide +kernel
theorem dX11_counter_22 : decode cX11_counter 22 = .ok (.iconst 0, 1) := by decide +kernel
theorem dX11_counter_23 : decode cX11_counter 23 = .ok (.iconst 1, 1) := by decide +kernel
theorem dX11_counter_24 : decode cX11_counter 24 = .ok (.invokestatic 65, 3) := by decide +kernel
theorem dX11_counter_27 : decode cX11_counter 27 = .ok (.ifCond .ne 6, 3) := by decide +kernel
theorem dX11_counter_30 : decode cX11_counter 30 = .ok (.bipush (-102), 2) := by decide +kernel
theorem dX11_counter_32 : decode cX11_counter 32 = .ok (.ireturn, 1) := by decide +kernel
theorem dX11_counter_33 : decode cX11_counter 33 = .ok (.aload_n 0, 1) := by decide +kernel
theorem dX11_counter_34 : decode cX11_counter 34 = .ok (.invokevirtual 83, 3) := by decide +kernel
theorem dX11_counter_37 : decode cX11_counter 37 = .ok (.aload_n 0, 1) := by decide +kernel
theorem dX11_counter_38 : decode cX11_counter 38 = .ok (.getfield 72, 3) := by decide +kernel
theorem dX11_counter_41 : decode cX11_counter 41 = .ok (.ifCond .eq 13, 3) := by decide +kernel
theorem dX11_counter_44 : decode cX11_counter 44 = .ok (.aload_n 0, 1) := by decide +kernel
theorem dX11_counter_45 : decode cX11_counter 45 = .ok (.iload_n 1, 1) := by decide +kernel
theorem dX11_counter_46 : decode cX11_counter 46 = .ok (.iconst 0, 1) := by decide +kernel
theorem dX11_counter_47 : decode cX11_counter 47 = .ok (.iconst 0, 1) := by decide +kernel
theorem dX11_counter_48 : decode cX11_counter 48 = .ok (.invokevirtual 183, 3) := by decide +kernel
theorem dX11_counter_51 : decode cX11_counter 51 = .ok (.ifCond .ne 6, 3) := by decide +kernel
theorem dX11_counter_54 : decode cX11_counter 54 = .ok (.bipush (-103), 2) := by decide +kernel
theorem dX11_counter_56 : decode cX11_counter 56 = .ok (.ireturn, 1) := by decide +kernel
theorem dX11_counter_57 : decode cX11_counter 57 = .ok (.iconst (-1), 1) := by decide +kernel
theorem dX11_counter_58 : decode cX11_counter 58 = .ok (.istore 4, 2) := by decide +kernel
theorem dX11_counter_60 : decode cX11_counter 60 = .ok (.ldc 166, 2) := by decide +kernel
theorem dX11_counter_62 : decode cX11_counter 62 = .ok (.istore 5, 2) := by decide +kernel
theorem dX11_counter_64 : decode cX11_counter 64 = .ok (.iconst 0, 1) := by decide +kernel
theorem dX11_counter_65 : decode cX11_counter 65 = .ok (.istore 6, 2) := by decide +kernel
theorem dX11_counter_67 : decode cX11_counter 67 = .ok (.iload 6, 2) := by decide +kernel
theorem dX11_counter_69 : decode cX11_counter 69 = .ok (.aload_n 0, 1) := by decide +kernel
theorem dX11_counter_70 : decode cX11_counter 70 = .ok (.getfield 92, 3) := by decide +kernel
theorem dX11_counter_73 : decode cX11_counter 73 = .ok (.if_icmp .ge 59, 3) := by decide +kernel
theorem dX11_counter_76 : decode cX11_counter 76 = .ok (.aload_n 0, 1) := by decide +kernel
theorem dX11_counter_77 : decode cX11_counter 77 = .ok (.iload 6, 2) := by decide +kernel
theorem dX11_counter_79 : decode cX11_counter 79 = .ok (.iconst 2, 1) := by decide +kernel
theorem dX11_counter_80 : decode cX11_counter 80 = .ok (.iconst 1, 1) := by decide +kernel
theorem dX11_counter_81 : decode cX11_counter 81 = .ok (.invokevirtual 183, 3) := by decide +kernel
theorem dX11_counter_84 : decode cX11_counter 84 = .ok (.ifCond .eq 42, 3) := by decide +kernel
theorem dX11_counter_87 : decode cX11_counter 87 = .ok (.aload_n 0, 1) := by decide +kernel
theorem dX11_counter_88 : decode cX11_counter 88 = .ok (.iload_n 2, 1) := by decide +kernel
theorem dX11_counter_89 : decode cX11_counter 89 = .ok (.invokevirtual 187, 3) := by decide +kernel
theorem dX11_counter_92 : decode cX11_counter 92 = .ok (.istore 7, 2) := by decide +kernel
theorem dX11_counter_94 : decode cX11_counter 94 = .ok (.iload 7, 2) := by decide +kernel
theorem dX11_counter_96 : decode cX11_counter 96 = .ok (.iload 5, 2) := by decide +kernel
theorem dX11_counter_98 : decode cX11_counter 98 = .ok (.if_icmp .ge 8, 3) := by decide +kernel
theorem dX11_counter_101 : decode cX11_counter 101 = .ok (.iload 6, 2) := by decide +kernel
theorem dX11_counter_103 : decode cX11_counter 103 = .ok (.goto 5, 3) := by decide +kernel
theorem dX11_counter_106 : decode cX11_counter 106 = .ok (.iload 4, 2) := by decide +kernel
theorem dX11_counter_108 : decode cX11_counter 108 = .ok (.istore 4, 2) := by decide +kernel
theorem dX11_counter_110 : decode cX11_counter 110 = .ok (.iload 7, 2) := by decide +kernel
theorem dX11_counter_112 : decode cX11_counter 112 = .ok (.iload 5, 2) := by decide +kernel
theorem dX11_counter_114 : decode cX11_counter 114 = .ok (.if_icmp .ge 8, 3) := by decide +kernel
theorem dX11_counter_117 : decode cX11_counter 117 = .ok (.iload 7, 2) := by decide +kernel
theorem dX11_counter_119 : decode cX11_counter 119 = .ok (.goto 5, 3) := by decide +kernel
theorem dX11_counter_122 : decode cX11_counter 122 = .ok (.iload 5, 2) := by decide +kernel
theorem dX11_counter_124 : decode cX11_counter 124 = .ok (.istore 5, 2) := by decide +kernel
theorem dX11_counter_126 : decode cX11_counter 126 = .ok (.iinc 6 1, 3) := by decide +kernel
theorem dX11_counter_129 : decode cX11_counter 129 = .ok (.goto (-62), 3) := by decide +kernel
theorem dX11_counter_132 : decode cX11_counter 132 = .ok (.iload_n 3, 1) := by decide +kernel
theorem dX11_counter_133 : decode cX11_counter 133 = .ok (.ifCond .ne 8, 3) := by decide +kernel
theorem dX11_counter_136 : decode cX11_counter 136 = .ok (.iload 4, 2) := by decide +kernel
theorem dX11_counter_138 : decode cX11_counter 138 = .ok (.goto 5, 3) := by decide +kernel
theorem dX11_counter_141 : decode cX11_counter 141 = .ok (.iload 5, 2) := by decide +kernel
theorem dX11_counter_143 : decode cX11_counter 143 = .ok (.ireturn, 1) := by decide +kernel
theorem dX11_isDry_0 : decode cX11_isDry 0 = .ok (.iconst 1, 1) := by decide +kernel
theorem dX11_isDry_1 : decode cX11_isDry 1 = .ok (.istore_n 1, 1) := by decide +kernel
theorem dX11_isDry_2 : decode cX11_isDry 2 = .ok (.iconst 0, 1) := by decide +kernel
theorem dX11_isDry_3 : decode cX11_isDry 3 = .ok (.istore_n 2, 1) := by decide +kernel
theorem dX11_isDry_4 : decode cX11_isDry 4 = .ok (.iload_n 2, 1) := by decide +kernel
theorem dX11_isDry_5 : decode cX11_isDry 5 = .ok (.bipush 8, 2) := by decide +kernel
theorem dX11_isDry_7 : decode cX11_isDry 7 = .ok (.if_icmp .ge 27, 3) := by decide +kernel
theorem dX11_isDry_10 : decode cX11_isDry 10 = .ok (.iload_n 1, 1) := by decide +kernel
theorem dX11_isDry_11 : decode cX11_isDry 11 = .ok (.ifCond .eq 23, 3) := by decide +kernel
theorem dX11_isDry_14 : decode cX11_isDry 14 = .ok (.aload_n 0, 1) := by decide +kernel
theorem dX11_isDry_15 : decode cX11_isDry 15 = .ok (.iload_n 2, 1) := by decide +kernel
theorem dX11_isDry_16 : decode cX11_isDry 16 = .ok (.invokevirtual 143, 3) := by decide +kernel
theorem dX11_isDry_19 : decode cX11_isDry 19 = .ok (.ifCond .ne 7, 3) := by decide +kernel
theorem dX11_isDry_22 : decode cX11_isDry 22 = .ok (.iconst 1, 1) := by decide +kernel
theorem dX11_isDry_23 : decode cX11_isDry 23 = .ok (.goto 4, 3) := by decide +kernel
theorem dX11_isDry_26 : decode cX11_isDry 26 = .ok (.iconst 0, 1) := by decide +kernel
theorem dX11_isDry_27 : decode cX11_isDry 27 = .ok (.istore_n 1, 1) := by decide +kernel
theorem dX11_isDry_28 : decode cX11_isDry 28 = .ok (.iinc 2 1, 3) := by decide +kernel
theorem dX11_isDry_31 : decode cX11_isDry 31 = .ok (.goto (-27), 3) := by decide +kernel
theorem dX11_isDry_34 : decode cX11_isDry 34 = .ok (.iload_n 1, 1) := by decide +kernel
theorem dX11_isDry_35 : decode cX11_isDry 35 = .ok (.ireturn, 1) := by decide +kernel
theorem dX11_helpsFrom_0 : decode cX11_helpsFrom 0 = .ok (.iload_n 1, 1) := by decide +kernel
theorem dX11_helpsFrom_1 : decode cX11_helpsFrom 1 = .ok (.istore_n 2, 1) := by decide +kernel
theorem dX11_helpsFrom_2 : decode cX11_helpsFrom 2 = .ok (.iload_n 2, 1) := by decide +kernel
theorem dX11_helpsFrom_3 : decode cX11_helpsFrom 3 = .ok (.aload_n 0, 1) := by decide +kernel
theorem dX11_helpsFrom_4 : decode cX11_helpsFrom 4 = .ok (.getfield 95, 3) := by decide +kernel
theorem dX11_helpsFrom_7 : decode cX11_helpsFrom 7 = .ok (.if_icmp .ge 84, 3) := by decide +kernel
theorem dX11_helpsFrom_10 : decode cX11_helpsFrom 10 = .ok (.aload_n 0, 1) := by decide +kernel
theorem dX11_helpsFrom_11 : decode cX11_helpsFrom 11 = .ok (.getfield 19, 3) := by decide +kernel
theorem dX11_helpsFrom_14 : decode cX11_helpsFrom 14 = .ok (.bipush 8, 2) := by decide +kernel
theorem dX11_helpsFrom_16 : decode cX11_helpsFrom 16 = .ok (.iload_n 2, 1) := by decide +kernel
theorem dX11_helpsFrom_17 : decode cX11_helpsFrom 17 = .ok (.imul, 1) := by decide +kernel
theorem dX11_helpsFrom_18 : decode cX11_helpsFrom 18 = .ok (.iaload, 1) := by decide +kernel
theorem dX11_helpsFrom_19 : decode cX11_helpsFrom 19 = .ok (.istore_n 3, 1) := by decide +kernel
theorem dX11_helpsFrom_20 : decode cX11_helpsFrom 20 = .ok (.iconst 0, 1) := by decide +kernel
theorem dX11_helpsFrom_21 : decode cX11_helpsFrom 21 = .ok (.istore 4, 2) := by decide +kernel
theorem dX11_helpsFrom_23 : decode cX11_helpsFrom 23 = .ok (.iload 4, 2) := by decide +kernel
theorem dX11_helpsFrom_25 : decode cX11_helpsFrom 25 = .ok (.aload_n 0, 1) := by decide +kernel
theorem dX11_helpsFrom_26 : decode cX11_helpsFrom 26 = .ok (.getfield 92, 3) := by decide +kernel
theorem dX11_helpsFrom_29 : decode cX11_helpsFrom 29 = .ok (.if_icmp .ge 56, 3) := by decide +kernel
theorem dX11_helpsFrom_32 : decode cX11_helpsFrom 32 = .ok (.aload_n 0, 1) := by decide +kernel
theorem dX11_helpsFrom_33 : decode cX11_helpsFrom 33 = .ok (.getfield 13, 3) := by decide +kernel
theorem dX11_helpsFrom_36 : decode cX11_helpsFrom 36 = .ok (.iload_n 2, 1) := by decide +kernel
theorem dX11_helpsFrom_37 : decode cX11_helpsFrom 37 = .ok (.iaload, 1) := by decide +kernel
theorem dX11_helpsFrom_38 : decode cX11_helpsFrom 38 = .ok (.iconst 1, 1) := by decide +kernel
theorem dX11_helpsFrom_39 : decode cX11_helpsFrom 39 = .ok (.if_icmp .ne 46, 3) := by decide +kernel
theorem dX11_helpsFrom_42 : decode cX11_helpsFrom 42 = .ok (.aload_n 0, 1) := by decide +kernel
theorem dX11_helpsFrom_43 : decode cX11_helpsFrom 43 = .ok (.iload_n 2, 1) := by decide +kernel
theorem dX11_helpsFrom_44 : decode cX11_helpsFrom 44 = .ok (.iload 4, 2) := by decide +kernel
theorem dX11_helpsFrom_46 : decode cX11_helpsFrom 46 = .ok (.invokevirtual 125, 3) := by decide +kernel
theorem dX11_helpsFrom_49 : decode cX11_helpsFrom 49 = .ok (.aload_n 0, 1) := by decide +kernel
theorem dX11_helpsFrom_50 : decode cX11_helpsFrom 50 = .ok (.invokevirtual 190, 3) := by decide +kernel
theorem dX11_helpsFrom_53 : decode cX11_helpsFrom 53 = .ok (.istore 5, 2) := by decide +kernel
theorem dX11_helpsFrom_55 : decode cX11_helpsFrom 55 = .ok (.aload_n 0, 1) := by decide +kernel
theorem dX11_helpsFrom_56 : decode cX11_helpsFrom 56 = .ok (.iload_n 2, 1) := by decide +kernel
theorem dX11_helpsFrom_57 : decode cX11_helpsFrom 57 = .ok (.iload_n 3, 1) := by decide +kernel
theorem dX11_helpsFrom_58 : decode cX11_helpsFrom 58 = .ok (.invokevirtual 125, 3) := by decide +kernel
theorem dX11_helpsFrom_61 : decode cX11_helpsFrom 61 = .ok (.iload 5, 2) := by decide +kernel
theorem dX11_helpsFrom_63 : decode cX11_helpsFrom 63 = .ok (.ifCond .eq 16, 3) := by decide +kernel
theorem dX11_helpsFrom_66 : decode cX11_helpsFrom 66 = .ok (.aload_n 0, 1) := by decide +kernel
theorem dX11_helpsFrom_67 : decode cX11_helpsFrom 67 = .ok (.iload_n 2, 1) := by decide +kernel
theorem dX11_helpsFrom_68 : decode cX11_helpsFrom 68 = .ok (.putfield 194, 3) := by decide +kernel
theorem dX11_helpsFrom_71 : decode cX11_helpsFrom 71 = .ok (.aload_n 0, 1) := by decide +kernel
theorem dX11_helpsFrom_72 : decode cX11_helpsFrom 72 = .ok (.iload 4, 2) := by decide +kernel
theorem dX11_helpsFrom_74 : decode cX11_helpsFrom 74 = .ok (.putfield 197, 3) := by decide +kernel
theorem dX11_helpsFrom_77 : decode cX11_helpsFrom 77 = .ok (.iconst 1, 1) := by decide +kernel
theorem dX11_helpsFrom_78 : decode cX11_helpsFrom 78 = .ok (.ireturn, 1) := by decide +kernel
theorem dX11_helpsFrom_79 : decode cX11_helpsFrom 79 = .ok (.iinc 4 1, 3) := by decide +kernel
theorem dX11_helpsFrom_82 : decode cX11_helpsFrom 82 = .ok (.goto (-59), 3) := by decide +kernel
theorem dX11_helpsFrom_85 : decode cX11_helpsFrom 85 = .ok (.iinc 2 1, 3) := by decide +kernel
theorem dX11_helpsFrom_88 : decode cX11_helpsFrom 88 = .ok (.goto (-86), 3) := by decide +kernel
theorem dX11_helpsFrom_91 : decode cX11_helpsFrom 91 = .ok (.iconst 0, 1) := by decide +kernel
theorem dX11_helpsFrom_92 : decode cX11_helpsFrom 92 = .ok (.ireturn, 1) := by decide +kernel
theorem dX11_helpTwo_0 : decode cX11_helpTwo 0 = .ok (.iconst 0, 1) := by decide +kernel
theorem dX11_helpTwo_1 : decode cX11_helpTwo 1 = .ok (.istore_n 1, 1) := by decide +kernel
theorem dX11_helpTwo_2 : decode cX11_helpTwo 2 = .ok (.iload_n 1, 1) := by decide +kernel
theorem dX11_helpTwo_3 : decode cX11_helpTwo 3 = .ok (.aload_n 0, 1) := by decide +kernel
theorem dX11_helpTwo_4 : decode cX11_helpTwo 4 = .ok (.getfield 95, 3) := by decide +kernel
theorem dX11_helpTwo_7 : decode cX11_helpTwo 7 = .ok (.if_icmp .ge 83, 3) := by decide +kernel
theorem dX11_helpTwo_10 : decode cX11_helpTwo 10 = .ok (.aload_n 0, 1) := by decide +kernel
theorem dX11_helpTwo_11 : decode cX11_helpTwo 11 = .ok (.getfield 19, 3) := by decide +kernel
theorem dX11_helpTwo_14 : decode cX11_helpTwo 14 = .ok (.bipush 8, 2) := by decide +kernel
theorem dX11_helpTwo_16 : decode cX11_helpTwo 16 = .ok (.iload_n 1, 1) := by decide +kernel
theorem dX11_helpTwo_17 : decode cX11_helpTwo 17 = .ok (.imul, 1) := by decide +kernel
theorem dX11_helpTwo_18 : decode cX11_helpTwo 18 = .ok (.iaload, 1) := by decide +kernel
theorem dX11_helpTwo_19 : decode cX11_helpTwo 19 = .ok (.istore_n 2, 1) := by decide +kernel
theorem dX11_helpTwo_20 : decode cX11_helpTwo 20 = .ok (.iconst 0, 1) := by decide +kernel
theorem dX11_helpTwo_21 : decode cX11_helpTwo 21 = .ok (.istore_n 3, 1) := by decide +kernel
theorem dX11_helpTwo_22 : decode cX11_helpTwo 22 = .ok (.iload_n 3, 1) := by decide +kernel
theorem dX11_helpTwo_23 : decode cX11_helpTwo 23 = .ok (.aload_n 0, 1) := by decide +kernel
theorem dX11_helpTwo_24 : decode cX11_helpTwo 24 = .ok (.getfield 92, 3) := by decide +kernel
theorem dX11_helpTwo_27 : decode cX11_helpTwo 27 = .ok (.if_icmp .ge 57, 3) := by decide +kernel
theorem dX11_helpTwo_30 : decode cX11_helpTwo 30 = .ok (.aload_n 0, 1) := by decide +kernel
theorem dX11_helpTwo_31 : decode cX11_helpTwo 31 = .ok (.getfield 13, 3) := by decide +kernel
theorem dX11_helpTwo_34 : decode cX11_helpTwo 34 = .ok (.iload_n 1, 1) := by decide +kernel
theorem dX11_helpTwo_35 : decode cX11_helpTwo 35 = .ok (.iaload, 1) := by decide +kernel
theorem dX11_helpTwo_36 : decode cX11_helpTwo 36 = .ok (.iconst 1, 1) := by decide +kernel
theorem dX11_helpTwo_37 : decode cX11_helpTwo 37 = .ok (.if_icmp .ne 47, 3) := by decide +kernel
theorem dX11_helpTwo_40 : decode cX11_helpTwo 40 = .ok (.aload_n 0, 1) := by decide +kernel
theorem dX11_helpTwo_41 : decode cX11_helpTwo 41 = .ok (.iload_n 1, 1) := by decide +kernel
theorem dX11_helpTwo_42 : decode cX11_helpTwo 42 = .ok (.iload_n 3, 1) := by decide +kernel
theorem dX11_helpTwo_43 : decode cX11_helpTwo 43 = .ok (.invokevirtual 125, 3) := by decide +kernel
theorem dX11_helpTwo_46 : decode cX11_helpTwo 46 = .ok (.aload_n 0, 1) := by decide +kernel
theorem dX11_helpTwo_47 : decode cX11_helpTwo 47 = .ok (.iload_n 1, 1) := by decide +kernel
theorem dX11_helpTwo_48 : decode cX11_helpTwo 48 = .ok (.iconst 1, 1) := by decide +kernel
theorem dX11_helpTwo_49 : decode cX11_helpTwo 49 = .ok (.iadd, 1) := by decide +kernel
theorem dX11_helpTwo_50 : decode cX11_helpTwo 50 = .ok (.invokevirtual 200, 3) := by decide +kernel
theorem dX11_helpTwo_53 : decode cX11_helpTwo 53 = .ok (.istore 4, 2) := by decide +kernel
theorem dX11_helpTwo_55 : decode cX11_helpTwo 55 = .ok (.aload_n 0, 1) := by decide +kernel
theorem dX11_helpTwo_56 : decode cX11_helpTwo 56 = .ok (.iload_n 1, 1) := by decide +kernel
theorem dX11_helpTwo_57 : decode cX11_helpTwo 57 = .ok (.iload_n 2, 1) := by decide +kernel
theorem dX11_helpTwo_58 : decode cX11_helpTwo 58 = .ok (.invokevirtual 125, 3) := by decide +kernel
theorem dX11_helpTwo_61 : decode cX11_helpTwo 61 = .ok (.iload 4, 2) := by decide +kernel
theorem dX11_helpTwo_63 : decode cX11_helpTwo 63 = .ok (.ifCond .eq 15, 3) := by decide +kernel
theorem dX11_helpTwo_66 : decode cX11_helpTwo 66 = .ok (.aload_n 0, 1) := by decide +kernel
theorem dX11_helpTwo_67 : decode cX11_helpTwo 67 = .ok (.iload_n 1, 1) := by decide +kernel
theorem dX11_helpTwo_68 : decode cX11_helpTwo 68 = .ok (.putfield 203, 3) := by decide +kernel
theorem dX11_helpTwo_71 : decode cX11_helpTwo 71 = .ok (.aload_n 0, 1) := by decide +kernel
theorem dX11_helpTwo_72 : decode cX11_helpTwo 72 = .ok (.iload_n 3, 1) := by decide +kernel
theorem dX11_helpTwo_73 : decode cX11_helpTwo 73 = .ok (.putfield 206, 3) := by decide +kernel
theorem dX11_helpTwo_76 : decode cX11_helpTwo 76 = .ok (.iconst 1, 1) := by decide +kernel
theorem dX11_helpTwo_77 : decode cX11_helpTwo 77 = .ok (.ireturn, 1) := by decide +kernel
theorem dX11_helpTwo_78 : decode cX11_helpTwo 78 = .ok (.iinc 3 1, 3) := by decide +kernel
theorem dX11_helpTwo_81 : decode cX11_helpTwo 81 = .ok (.goto (-59), 3) := by decide +kernel
theorem dX11_helpTwo_84 : decode cX11_helpTwo 84 = .ok (.iinc 1 1, 3) := by decide +kernel
theorem dX11_helpTwo_87 : decode cX11_helpTwo 87 = .ok (.goto (-85), 3) := by decide +kernel
theorem dX11_helpTwo_90 : decode cX11_helpTwo 90 = .ok (.iconst 0, 1) := by decide +kernel
theorem dX11_helpTwo_91 : decode cX11_helpTwo 91 = .ok (.ireturn, 1) := by decide +kernel
theorem dX11_stonesNow_0 : decode cX11_stonesNow 0 = .ok (.aload_n 0, 1) := by decide +kernel
theorem dX11_stonesNow_1 : decode cX11_stonesNow 1 = .ok (.iconst (-1), 1) := by decide +kernel
theorem dX11_stonesNow_2 : decode cX11_stonesNow 2 = .ok (.putfield 203, 3) := by decide +kernel
theorem dX11_stonesNow_5 : decode cX11_stonesNow 5 = .ok (.aload_n 0, 1) := by decide +kernel
theorem dX11_stonesNow_6 : decode cX11_stonesNow 6 = .ok (.iconst (-1), 1) := by decide +kernel
theorem dX11_stonesNow_7 : decode cX11_stonesNow 7 = .ok (.putfield 206, 3) := by decide +kernel
theorem dX11_stonesNow_10 : decode cX11_stonesNow 10 = .ok (.aload_n 0, 1) := by decide +kernel
theorem dX11_stonesNow_11 : decode cX11_stonesNow 11 = .ok (.iconst (-1), 1) := by decide +kernel
theorem dX11_stonesNow_12 : decode cX11_stonesNow 12 = .ok (.putfield 194, 3) := by decide +kernel
theorem dX11_stonesNow_15 : decode cX11_stonesNow 15 = .ok (.aload_n 0, 1) := by decide +kernel
theorem dX11_stonesNow_16 : decode cX11_stonesNow 16 = .ok (.iconst (-1), 1) := by decide +kernel
theorem dX11_stonesNow_17 : decode cX11_stonesNow 17 = .ok (.putfield 197, 3) := by decide +kernel
theorem dX11_stonesNow_20 : decode cX11_stonesNow 20 = .ok (.iconst 0, 1) := by decide +kernel
theorem dX11_stonesNow_21 : decode cX11_stonesNow 21 = .ok (.istore_n 2, 1) := by decide +kernel
theorem dX11_stonesNow_22 : decode cX11_stonesNow 22 = .ok (.aload_n 0, 1) := by decide +kernel
theorem dX11_stonesNow_23 : decode cX11_stonesNow 23 = .ok (.invokevirtual 190, 3) := by decide +kernel
theorem dX11_stonesNow_26 : decode cX11_stonesNow 26 = .ok (.ifCond .ne 28, 3) := by decide +kernel
theorem dX11_stonesNow_29 : decode cX11_stonesNow 29 = .ok (.aload_n 0, 1) := by decide +kernel
theorem dX11_stonesNow_30 : decode cX11_stonesNow 30 = .ok (.iconst 0, 1) := by decide +kernel
theorem dX11_stonesNow_31 : decode cX11_stonesNow 31 = .ok (.invokevirtual 200, 3) := by decide +kernel
theorem dX11_stonesNow_34 : decode cX11_stonesNow 34 = .ok (.ifCond .eq 7, 3) := by decide +kernel
theorem dX11_stonesNow_37 : decode cX11_stonesNow 37 = .ok (.iconst 1, 1) := by decide +kernel
theorem dX11_stonesNow_38 : decode cX11_stonesNow 38 = .ok (.goto 15, 3) := by decide +kernel
theorem dX11_stonesNow_41 : decode cX11_stonesNow 41 = .ok (.aload_n 0, 1) := by decide +kernel
theorem dX11_stonesNow_42 : decode cX11_stonesNow 42 = .ok (.invokevirtual 209, 3) := by decide +kernel
theorem dX11_stonesNow_45 : decode cX11_stonesNow 45 = .ok (.ifCond .eq 7, 3) := by decide +kernel
theorem dX11_stonesNow_48 : decode cX11_stonesNow 48 = .ok (.iconst 2, 1) := by decide +kernel
theorem dX11_stonesNow_49 : decode cX11_stonesNow 49 = .ok (.goto 4, 3) := by decide +kernel
theorem dX11_stonesNow_52 : decode cX11_stonesNow 52 = .ok (.iconst (-1), 1) := by decide +kernel
theorem dX11_stonesNow_53 : decode cX11_stonesNow 53 = .ok (.istore_n 2, 1) := by decide +kernel
theorem dX11_stonesNow_54 : decode cX11_stonesNow 54 = .ok (.iload_n 2, 1) := by decide +kernel
theorem dX11_stonesNow_55 : decode cX11_stonesNow 55 = .ok (.iconst 1, 1) := by decide +kernel
theorem dX11_stonesNow_56 : decode cX11_stonesNow 56 = .ok (.if_icmp .ne 29, 3) := by decide +kernel
theorem dX11_stonesNow_59 : decode cX11_stonesNow 59 = .ok (.aload_n 0, 1) := by decide +kernel
theorem dX11_stonesNow_60 : decode cX11_stonesNow 60 = .ok (.aload_n 0, 1) := by decide +kernel
theorem dX11_stonesNow_61 : decode cX11_stonesNow 61 = .ok (.getfield 194, 3) := by decide +kernel
theorem dX11_stonesNow_64 : decode cX11_stonesNow 64 = .ok (.putfield 203, 3) := by decide +kernel
theorem dX11_stonesNow_67 : decode cX11_stonesNow 67 = .ok (.aload_n 0, 1) := by decide +kernel
theorem dX11_stonesNow_68 : decode cX11_stonesNow 68 = .ok (.aload_n 0, 1) := by decide +kernel
theorem dX11_stonesNow_69 : decode cX11_stonesNow 69 = .ok (.getfield 197, 3) := by decide +kernel
theorem dX11_stonesNow_72 : decode cX11_stonesNow 72 = .ok (.putfield 206, 3) := by decide +kernel
theorem dX11_stonesNow_75 : decode cX11_stonesNow 75 = .ok (.aload_n 0, 1) := by decide +kernel
theorem dX11_stonesNow_76 : decode cX11_stonesNow 76 = .ok (.iconst (-1), 1) := by decide +kernel
theorem dX11_stonesNow_77 : decode cX11_stonesNow 77 = .ok (.putfield 194, 3) := by decide +kernel
theorem dX11_stonesNow_80 : decode cX11_stonesNow 80 = .ok (.aload_n 0, 1) := by decide +kernel
theorem dX11_stonesNow_81 : decode cX11_stonesNow 81 = .ok (.iconst (-1), 1) := by decide +kernel
theorem dX11_stonesNow_82 : decode cX11_stonesNow 82 = .ok (.putfield 197, 3) := by decide +kernel
theorem dX11_stonesNow_85 : decode cX11_stonesNow 85 = .ok (.iload_n 1, 1) := by decide +kernel
theorem dX11_stonesNow_86 : decode cX11_stonesNow 86 = .ok (.tableswitch 47 0 3 #[30, 32, 37, 42], 30) := by decide +kernel
theorem dX11_stonesNow_116 : decode cX11_stonesNow 116 = .ok (.iload_n 2, 1) := by decide +kernel
theorem dX11_stonesNow_117 : decode cX11_stonesNow 117 = .ok (.ireturn, 1) := by decide +kernel
theorem dX11_stonesNow_118 : decode cX11_stonesNow 118 = .ok (.aload_n 0, 1) := by decide +kernel
theorem dX11_stonesNow_119 : decode cX11_stonesNow 119 = .ok (.getfield 203, 3) := by decide +kernel
theorem dX11_stonesNow_122 : decode cX11_stonesNow 122 = .ok (.ireturn, 1) := by decide +kernel
theorem dX11_stonesNow_123 : decode cX11_stonesNow 123 = .ok (.aload_n 0, 1) := by decide +kernel
theorem dX11_stonesNow_124 : decode cX11_stonesNow 124 = .ok (.getfield 206, 3) := by decide +kernel
theorem dX11_stonesNow_127 : decode cX11_stonesNow 127 = .ok (.ireturn, 1) := by decide +kernel
theorem dX11_stonesNow_128 : decode cX11_stonesNow 128 = .ok (.aload_n 0, 1) := by decide +kernel
theorem dX11_stonesNow_129 : decode cX11_stonesNow 129 = .ok (.getfield 194, 3) := by decide +kernel
theorem dX11_stonesNow_132 : decode cX11_stonesNow 132 = .ok (.ireturn, 1) := by decide +kernel
theorem dX11_stonesNow_133 : decode cX11_stonesNow 133 = .ok (.aload_n 0, 1) := by decide +kernel
theorem dX11_stonesNow_134 : decode cX11_stonesNow 134 = .ok (.getfield 197, 3) := by decide +kernel
theorem dX11_stonesNow_137 : decode cX11_stonesNow 137 = .ok (.ireturn, 1) := by decide +kernel
theorem dX11_stones_0 : decode cX11_stones 0 = .ok (.iload_n 1, 1) := by decide +kernel
theorem dX11_stones_1 : decode cX11_stones 1 = .ok (.iconst 0, 1) := by decide +kernel
theorem dX11_stones_2 : decode cX11_stones 2 = .ok (.iconst 4, 1) := by decide +kernel
theorem dX11_stones_3 : decode cX11_stones 3 = .ok (.invokestatic 65, 3) := by decide +kernel
theorem dX11_stones_6 : decode cX11_stones 6 = .ok (.ifCond .ne 6, 3) := by decide +kernel
theorem dX11_stones_9 : decode cX11_stones 9 = .ok (.bipush (-102), 2) := by decide +kernel
theorem dX11_stones_11 : decode cX11_stones 11 = .ok (.ireturn, 1) := by decide +kernel
theorem dX11_stones_12 : decode cX11_stones 12 = .ok (.aload_n 0, 1) := by decide +kernel
theorem dX11_stones_13 : decode cX11_stones 13 = .ok (.getfield 92, 3) := by decide +kernel
theorem dX11_stones_16 : decode cX11_stones 16 = .ok (.ifCond .eq 12, 3) := by decide +kernel
theorem dX11_stones_19 : decode cX11_stones 19 = .ok (.aload_n 0, 1) := by decide +kernel
theorem dX11_stones_20 : decode cX11_stones 20 = .ok (.getfield 212, 3) := by decide +kernel
theorem dX11_stones_23 : decode cX11_stones 23 = .ok (.bipush 20, 2) := by decide +kernel
theorem dX11_stones_25 : decode cX11_stones 25 = .ok (.if_icmp .ne 6, 3) := by decide +kernel
theorem dX11_stones_28 : decode cX11_stones 28 = .ok (.bipush (-103), 2) := by decide +kernel
theorem dX11_stones_30 : decode cX11_stones 30 = .ok (.ireturn, 1) := by decide +kernel
theorem dX11_stones_31 : decode cX11_stones 31 = .ok (.aload_n 0, 1) := by decide +kernel
theorem dX11_stones_32 : decode cX11_stones 32 = .ok (.dup, 1) := by decide +kernel
theorem dX11_stones_33 : decode cX11_stones 33 = .ok (.getfield 212, 3) := by decide +kernel
theorem dX11_stones_36 : decode cX11_stones 36 = .ok (.iconst 1, 1) := by decide +kernel
theorem dX11_stones_37 : decode cX11_stones 37 = .ok (.iadd, 1) := by decide +kernel
theorem dX11_stones_38 : decode cX11_stones 38 = .ok (.putfield 212, 3) := by decide +kernel
theorem dX11_stones_41 : decode cX11_stones 41 = .ok (.aload_n 0, 1) := by decide +kernel
theorem dX11_stones_42 : decode cX11_stones 42 = .ok (.iload_n 1, 1) := by decide +kernel
theorem dX11_stones_43 : decode cX11_stones 43 = .ok (.invokevirtual 215, 3) := by decide +kernel
theorem dX11_stones_46 : decode cX11_stones 46 = .ok (.ireturn, 1) := by decide +kernel
theorem dX11_siteNow_0 : decode cX11_siteNow 0 = .ok (.iconst (-1), 1) := by decide +kernel
theorem dX11_siteNow_1 : decode cX11_siteNow 1 = .ok (.istore_n 2, 1) := by decide +kernel
theorem dX11_siteNow_2 : decode cX11_siteNow 2 = .ok (.ldc 166, 2) := by decide +kernel
theorem dX11_siteNow_4 : decode cX11_siteNow 4 = .ok (.istore_n 3, 1) := by decide +kernel
theorem dX11_siteNow_5 : decode cX11_siteNow 5 = .ok (.iconst 0, 1) := by decide +kernel
theorem dX11_siteNow_6 : decode cX11_siteNow 6 = .ok (.istore 4, 2) := by decide +kernel
theorem dX11_siteNow_8 : decode cX11_siteNow 8 = .ok (.iload 4, 2) := by decide +kernel
theorem dX11_siteNow_10 : decode cX11_siteNow 10 = .ok (.aload_n 0, 1) := by decide +kernel
theorem dX11_siteNow_11 : decode cX11_siteNow 11 = .ok (.getfield 92, 3) := by decide +kernel
theorem dX11_siteNow_14 : decode cX11_siteNow 14 = .ok (.if_icmp .ge 65, 3) := by decide +kernel
theorem dX11_siteNow_17 : decode cX11_siteNow 17 = .ok (.aload_n 0, 1) := by decide +kernel
theorem dX11_siteNow_18 : decode cX11_siteNow 18 = .ok (.iload_n 1, 1) := by decide +kernel
theorem dX11_siteNow_19 : decode cX11_siteNow 19 = .ok (.aload_n 0, 1) := by decide +kernel
theorem dX11_siteNow_20 : decode cX11_siteNow 20 = .ok (.iload 4, 2) := by decide +kernel
theorem dX11_siteNow_22 : decode cX11_siteNow 22 = .ok (.invokevirtual 107, 3) := by decide +kernel
theorem dX11_siteNow_25 : decode cX11_siteNow 25 = .ok (.imul, 1) := by decide +kernel
theorem dX11_siteNow_26 : decode cX11_siteNow 26 = .ok (.putfield 132, 3) := by decide +kernel
theorem dX11_siteNow_29 : decode cX11_siteNow 29 = .ok (.aload_n 0, 1) := by decide +kernel
theorem dX11_siteNow_30 : decode cX11_siteNow 30 = .ok (.iload_n 1, 1) := by decide +kernel
theorem dX11_siteNow_31 : decode cX11_siteNow 31 = .ok (.aload_n 0, 1) := by decide +kernel
theorem dX11_siteNow_32 : decode cX11_siteNow 32 = .ok (.iload 4, 2) := by decide +kernel
theorem dX11_siteNow_34 : decode cX11_siteNow 34 = .ok (.invokevirtual 110, 3) := by decide +kernel
theorem dX11_siteNow_37 : decode cX11_siteNow 37 = .ok (.imul, 1) := by decide +kernel
theorem dX11_siteNow_38 : decode cX11_siteNow 38 = .ok (.putfield 129, 3) := by decide +kernel
theorem dX11_siteNow_41 : decode cX11_siteNow 41 = .ok (.aload_n 0, 1) := by decide +kernel
theorem dX11_siteNow_42 : decode cX11_siteNow 42 = .ok (.invokevirtual 218, 3) := by decide +kernel
theorem dX11_siteNow_45 : decode cX11_siteNow 45 = .ok (.istore 5, 2) := by decide +kernel
theorem dX11_siteNow_47 : decode cX11_siteNow 47 = .ok (.iload 5, 2) := by decide +kernel
theorem dX11_siteNow_49 : decode cX11_siteNow 49 = .ok (.iload_n 3, 1) := by decide +kernel
theorem dX11_siteNow_50 : decode cX11_siteNow 50 = .ok (.if_icmp .ge 8, 3) := by decide +kernel
theorem dX11_siteNow_53 : decode cX11_siteNow 53 = .ok (.iload 4, 2) := by decide +kernel
theorem dX11_siteNow_55 : decode cX11_siteNow 55 = .ok (.goto 4, 3) := by decide +kernel
theorem dX11_siteNow_58 : decode cX11_siteNow 58 = .ok (.iload_n 2, 1) := by decide +kernel
theorem dX11_siteNow_59 : decode cX11_siteNow 59 = .ok (.istore_n 2, 1) := by decide +kernel
theorem dX11_siteNow_60 : decode cX11_siteNow 60 = .ok (.iload 5, 2) := by decide +kernel
theorem dX11_siteNow_62 : decode cX11_siteNow 62 = .ok (.iload_n 3, 1) := by decide +kernel
theorem dX11_siteNow_63 : decode cX11_siteNow 63 = .ok (.if_icmp .ge 8, 3) := by decide +kernel
theorem dX11_siteNow_66 : decode cX11_siteNow 66 = .ok (.iload 5, 2) := by decide +kernel
theorem dX11_siteNow_68 : decode cX11_siteNow 68 = .ok (.goto 4, 3) := by decide +kernel
theorem dX11_siteNow_71 : decode cX11_siteNow 71 = .ok (.iload_n 3, 1) := by decide +kernel
theorem dX11_siteNow_72 : decode cX11_siteNow 72 = .ok (.istore_n 3, 1) := by decide +kernel
theorem dX11_siteNow_73 : decode cX11_siteNow 73 = .ok (.iinc 4 1, 3) := by decide +kernel
theorem dX11_siteNow_76 : decode cX11_siteNow 76 = .ok (.goto (-68), 3) := by decide +kernel
theorem dX11_siteNow_79 : decode cX11_siteNow 79 = .ok (.aload_n 0, 1) := by decide +kernel
theorem dX11_siteNow_80 : decode cX11_siteNow 80 = .ok (.iconst 0, 1) := by decide +kernel
theorem dX11_siteNow_81 : decode cX11_siteNow 81 = .ok (.putfield 132, 3) := by decide +kernel
theorem dX11_siteNow_84 : decode cX11_siteNow 84 = .ok (.aload_n 0, 1) := by decide +kernel
theorem dX11_siteNow_85 : decode cX11_siteNow 85 = .ok (.iconst 0, 1) := by decide +kernel
theorem dX11_siteNow_86 : decode cX11_siteNow 86 = .ok (.putfield 129, 3) := by decide +kernel
theorem dX11_siteNow_89 : decode cX11_siteNow 89 = .ok (.iload_n 2, 1) := by decide +kernel
theorem dX11_siteNow_90 : decode cX11_siteNow 90 = .ok (.ireturn, 1) := by decide +kernel
theorem dX11_site_0 : decode cX11_site 0 = .ok (.iload_n 1, 1) := by decide +kernel
theorem dX11_site_1 : decode cX11_site 1 = .ok (.iconst 1, 1) := by decide +kernel
theorem dX11_site_2 : decode cX11_site 2 = .ok (.bipush 99, 2) := by decide +kernel
theorem dX11_site_4 : decode cX11_site 4 = .ok (.invokestatic 65, 3) := by decide +kernel
theorem dX11_site_7 : decode cX11_site 7 = .ok (.ifCond .ne 6, 3) := by decide +kernel
theorem dX11_site_10 : decode cX11_site 10 = .ok (.bipush (-102), 2) := by decide +kernel
theorem dX11_site_12 : decode cX11_site 12 = .ok (.ireturn, 1) := by decide +kernel
theorem dX11_site_13 : decode cX11_site 13 = .ok (.aload_n 0, 1) := by decide +kernel
theorem dX11_site_14 : decode cX11_site 14 = .ok (.getfield 92, 3) := by decide +kernel
theorem dX11_site_17 : decode cX11_site 17 = .ok (.ifCond .ne 8, 3) := by decide +kernel
theorem dX11_site_20 : decode cX11_site 20 = .ok (.bipush (-103), 2) := by decide +kernel
theorem dX11_site_22 : decode cX11_site 22 = .ok (.goto 8, 3) := by decide +kernel
theorem dX11_site_25 : decode cX11_site 25 = .ok (.aload_n 0, 1) := by decide +kernel
theorem dX11_site_26 : decode cX11_site 26 = .ok (.iload_n 1, 1) := by decide +kernel
theorem dX11_site_27 : decode cX11_site 27 = .ok (.invokevirtual 221, 3) := by decide +kernel
theorem dX11_site_30 : decode cX11_site 30 = .ok (.ireturn, 1) := by decide +kernel
theorem dX11_lateNow_0 : decode cX11_lateNow 0 = .ok (.iconst 0, 1) := by decide +kernel
theorem dX11_lateNow_1 : decode cX11_lateNow 1 = .ok (.istore 4, 2) := by decide +kernel
theorem dX11_lateNow_3 : decode cX11_lateNow 3 = .ok (.iconst 0, 1) := by decide +kernel
theorem dX11_lateNow_4 : decode cX11_lateNow 4 = .ok (.istore 5, 2) := by decide +kernel
theorem dX11_lateNow_6 : decode cX11_lateNow 6 = .ok (.iload 5, 2) := by decide +kernel
theorem dX11_lateNow_8 : decode cX11_lateNow 8 = .ok (.aload_n 0, 1) := by decide +kernel
theorem dX11_lateNow_9 : decode cX11_lateNow 9 = .ok (.getfield 95, 3) := by decide +kernel
theorem dX11_lateNow_12 : decode cX11_lateNow 12 = .ok (.if_icmp .ge 50, 3) := by decide +kernel
theorem dX11_lateNow_15 : decode cX11_lateNow 15 = .ok (.aload_n 0, 1) := by decide +kernel
theorem dX11_lateNow_16 : decode cX11_lateNow 16 = .ok (.getfield 32, 3) := by decide +kernel
theorem dX11_lateNow_19 : decode cX11_lateNow 19 = .ok (.iload 5, 2) := by decide +kernel
theorem dX11_lateNow_21 : decode cX11_lateNow 21 = .ok (.aload_n 0, 1) := by decide +kernel
theorem dX11_lateNow_22 : decode cX11_lateNow 22 = .ok (.getfield 19, 3) := by decide +kernel
theorem dX11_lateNow_25 : decode cX11_lateNow 25 = .ok (.bipush 8, 2) := by decide +kernel
theorem dX11_lateNow_27 : decode cX11_lateNow 27 = .ok (.iload 5, 2) := by decide +kernel
theorem dX11_lateNow_29 : decode cX11_lateNow 29 = .ok (.imul, 1) := by decide +kernel
theorem dX11_lateNow_30 : decode cX11_lateNow 30 = .ok (.iload_n 1, 1) := by decide +kernel
theorem dX11_lateNow_31 : decode cX11_lateNow 31 = .ok (.iadd, 1) := by decide +kernel
theorem dX11_lateNow_32 : decode cX11_lateNow 32 = .ok (.iaload, 1) := by decide +kernel
theorem dX11_lateNow_33 : decode cX11_lateNow 33 = .ok (.iastore, 1) := by decide +kernel
theorem dX11_lateNow_34 : decode cX11_lateNow 34 = .ok (.iload 4, 2) := by decide +kernel
theorem dX11_lateNow_36 : decode cX11_lateNow 36 = .ok (.aload_n 0, 1) := by decide +kernel
theorem dX11_lateNow_37 : decode cX11_lateNow 37 = .ok (.iload 5, 2) := by decide +kernel
theorem dX11_lateNow_39 : decode cX11_lateNow 39 = .ok (.invokevirtual 122, 3) := by decide +kernel
theorem dX11_lateNow_42 : decode cX11_lateNow 42 = .ok (.ifCond .eq 10, 3) := by decide +kernel
theorem dX11_lateNow_45 : decode cX11_lateNow 45 = .ok (.iconst 1, 1) := by decide +kernel
theorem dX11_lateNow_46 : decode cX11_lateNow 46 = .ok (.iload 5, 2) := by decide +kernel
theorem dX11_lateNow_48 : decode cX11_lateNow 48 = .ok (.ishl, 1) := by decide +kernel
theorem dX11_lateNow_49 : decode cX11_lateNow 49 = .ok (.goto 4, 3) := by decide +kernel
theorem dX11_lateNow_52 : decode cX11_lateNow 52 = .ok (.iconst 0, 1) := by decide +kernel
theorem dX11_lateNow_53 : decode cX11_lateNow 53 = .ok (.ior, 1) := by decide +kernel
theorem dX11_lateNow_54 : decode cX11_lateNow 54 = .ok (.istore 4, 2) := by decide +kernel
theorem dX11_lateNow_56 : decode cX11_lateNow 56 = .ok (.iinc 5 1, 3) := by decide +kernel
theorem dX11_lateNow_59 : decode cX11_lateNow 59 = .ok (.goto (-53), 3) := by decide +kernel
theorem dX11_lateNow_62 : decode cX11_lateNow 62 = .ok (.iconst 0, 1) := by decide +kernel
theorem dX11_lateNow_63 : decode cX11_lateNow 63 = .ok (.istore 5, 2) := by decide +kernel
theorem dX11_lateNow_65 : decode cX11_lateNow 65 = .ok (.iload 4, 2) := by decide +kernel
theorem dX11_lateNow_67 : decode cX11_lateNow 67 = .ok (.istore 6, 2) := by decide +kernel
theorem dX11_lateNow_69 : decode cX11_lateNow 69 = .ok (.iconst 0, 1) := by decide +kernel
theorem dX11_lateNow_70 : decode cX11_lateNow 70 = .ok (.istore 7, 2) := by decide +kernel
theorem dX11_lateNow_72 : decode cX11_lateNow 72 = .ok (.iconst 0, 1) := by decide +kernel
theorem dX11_lateNow_73 : decode cX11_lateNow 73 = .ok (.istore 8, 2) := by decide +kernel
theorem dX11_lateNow_75 : decode cX11_lateNow 75 = .ok (.iload 8, 2) := by decide +kernel
theorem dX11_lateNow_77 : decode cX11_lateNow 77 = .ok (.iload 4, 2) := by decide +kernel
theorem dX11_lateNow_79 : decode cX11_lateNow 79 = .ok (.if_icmp .gt 148, 3) := by decide +kernel
theorem dX11_lateNow_82 : decode cX11_lateNow 82 = .ok (.iload 8, 2) := by decide +kernel
theorem dX11_lateNow_84 : decode cX11_lateNow 84 = .ok (.iload 4, 2) := by decide +kernel
theorem dX11_lateNow_86 : decode cX11_lateNow 86 = .ok (.iconst (-1), 1) := by decide +kernel
theorem dX11_lateNow_87 : decode cX11_lateNow 87 = .ok (.ixor, 1) := by decide +kernel
theorem dX11_lateNow_88 : decode cX11_lateNow 88 = .ok (.iand, 1) := by decide +kernel
theorem dX11_lateNow_89 : decode cX11_lateNow 89 = .ok (.ifCond .ne 132, 3) := by decide +kernel
theorem dX11_lateNow_92 : decode cX11_lateNow 92 = .ok (.iconst 0, 1) := by decide +kernel
theorem dX11_lateNow_93 : decode cX11_lateNow 93 = .ok (.istore 9, 2) := by decide +kernel
theorem dX11_lateNow_95 : decode cX11_lateNow 95 = .ok (.iload 9, 2) := by decide +kernel
theorem dX11_lateNow_97 : decode cX11_lateNow 97 = .ok (.aload_n 0, 1) := by decide +kernel
theorem dX11_lateNow_98 : decode cX11_lateNow 98 = .ok (.getfield 95, 3) := by decide +kernel
theorem dX11_lateNow_101 : decode cX11_lateNow 101 = .ok (.if_icmp .ge 55, 3) := by decide +kernel
theorem dX11_lateNow_104 : decode cX11_lateNow 104 = .ok (.aload_n 0, 1) := by decide +kernel
theorem dX11_lateNow_105 : decode cX11_lateNow 105 = .ok (.getfield 19, 3) := by decide +kernel
theorem dX11_lateNow_108 : decode cX11_lateNow 108 = .ok (.bipush 8, 2) := by decide +kernel
theorem dX11_lateNow_110 : decode cX11_lateNow 110 = .ok (.iload 9, 2) := by decide +kernel
theorem dX11_lateNow_112 : decode cX11_lateNow 112 = .ok (.imul, 1) := by decide +kernel
theorem dX11_lateNow_113 : decode cX11_lateNow 113 = .ok (.iload_n 1, 1) := by decide +kernel
theorem dX11_lateNow_114 : decode cX11_lateNow 114 = .ok (.iadd, 1) := by decide +kernel
theorem dX11_lateNow_115 : decode cX11_lateNow 115 = .ok (.iload 8, 2) := by decide +kernel
theorem dX11_lateNow_117 : decode cX11_lateNow 117 = .ok (.iload 9, 2) := by decide +kernel
theorem dX11_lateNow_119 : decode cX11_lateNow 119 = .ok (.invokestatic 224, 3) := by decide +kernel
theorem dX11_lateNow_122 : decode cX11_lateNow 122 = .ok (.ifCond .eq 20, 3) := by decide +kernel
theorem dX11_lateNow_125 : decode cX11_lateNow 125 = .ok (.aload_n 0, 1) := by decide +kernel
theorem dX11_lateNow_126 : decode cX11_lateNow 126 = .ok (.getfield 19, 3) := by decide +kernel
theorem dX11_lateNow_129 : decode cX11_lateNow 129 = .ok (.bipush 8, 2) := by decide +kernel
theorem dX11_lateNow_131 : decode cX11_lateNow 131 = .ok (.iload 9, 2) := by decide +kernel
theorem dX11_lateNow_133 : decode cX11_lateNow 133 = .ok (.imul, 1) := by decide +kernel
theorem dX11_lateNow_134 : decode cX11_lateNow 134 = .ok (.iload_n 1, 1) := by decide +kernel
theorem dX11_lateNow_135 : decode cX11_lateNow 135 = .ok (.iadd, 1) := by decide +kernel
theorem dX11_lateNow_136 : decode cX11_lateNow 136 = .ok (.iconst 1, 1) := by decide +kernel
theorem dX11_lateNow_137 : decode cX11_lateNow 137 = .ok (.isub, 1) := by decide +kernel
theorem dX11_lateNow_138 : decode cX11_lateNow 138 = .ok (.iaload, 1) := by decide +kernel
theorem dX11_lateNow_139 : decode cX11_lateNow 139 = .ok (.goto 10, 3) := by decide +kernel
theorem dX11_lateNow_142 : decode cX11_lateNow 142 = .ok (.aload_n 0, 1) := by decide +kernel
theorem dX11_lateNow_143 : decode cX11_lateNow 143 = .ok (.getfield 32, 3) := by decide +kernel
theorem dX11_lateNow_146 : decode cX11_lateNow 146 = .ok (.iload 9, 2) := by decide +kernel
theorem dX11_lateNow_148 : decode cX11_lateNow 148 = .ok (.iaload, 1) := by decide +kernel
theorem dX11_lateNow_149 : decode cX11_lateNow 149 = .ok (.iastore, 1) := by decide +kernel
theorem dX11_lateNow_150 : decode cX11_lateNow 150 = .ok (.iinc 9 1, 3) := by decide +kernel
theorem dX11_lateNow_153 : decode cX11_lateNow 153 = .ok (.goto (-58), 3) := by decide +kernel
theorem dX11_lateNow_156 : decode cX11_lateNow 156 = .ok (.aload_n 0, 1) := by decide +kernel
theorem dX11_lateNow_157 : decode cX11_lateNow 157 = .ok (.iload_n 1, 1) := by decide +kernel
theorem dX11_lateNow_158 : decode cX11_lateNow 158 = .ok (.invokevirtual 143, 3) := by decide +kernel
theorem dX11_lateNow_161 : decode cX11_lateNow 161 = .ok (.iload_n 2, 1) := by decide +kernel
theorem dX11_lateNow_162 : decode cX11_lateNow 162 = .ok (.if_icmp .ne 7, 3) := by decide +kernel
theorem dX11_lateNow_165 : decode cX11_lateNow 165 = .ok (.iconst 1, 1) := by decide +kernel
theorem dX11_lateNow_166 : decode cX11_lateNow 166 = .ok (.goto 4, 3) := by decide +kernel
theorem dX11_lateNow_169 : decode cX11_lateNow 169 = .ok (.iconst 0, 1) := by decide +kernel
theorem dX11_lateNow_170 : decode cX11_lateNow 170 = .ok (.istore 9, 2) := by decide +kernel
theorem dX11_lateNow_172 : decode cX11_lateNow 172 = .ok (.iload 5, 2) := by decide +kernel
theorem dX11_lateNow_174 : decode cX11_lateNow 174 = .ok (.iload 9, 2) := by decide +kernel
theorem dX11_lateNow_176 : decode cX11_lateNow 176 = .ok (.ifCond .eq 7, 3) := by decide +kernel
theorem dX11_lateNow_179 : decode cX11_lateNow 179 = .ok (.iconst 1, 1) := by decide +kernel
theorem dX11_lateNow_180 : decode cX11_lateNow 180 = .ok (.goto 4, 3) := by decide +kernel
theorem dX11_lateNow_183 : decode cX11_lateNow 183 = .ok (.iconst 0, 1) := by decide +kernel
theorem dX11_lateNow_184 : decode cX11_lateNow 184 = .ok (.iadd, 1) := by decide +kernel
theorem dX11_lateNow_185 : decode cX11_lateNow 185 = .ok (.istore 5, 2) := by decide +kernel
theorem dX11_lateNow_187 : decode cX11_lateNow 187 = .ok (.iload 9, 2) := by decide +kernel
theorem dX11_lateNow_189 : decode cX11_lateNow 189 = .ok (.ifCond .eq 11, 3) := by decide +kernel
theorem dX11_lateNow_192 : decode cX11_lateNow 192 = .ok (.iload 6, 2) := by decide +kernel
theorem dX11_lateNow_194 : decode cX11_lateNow 194 = .ok (.iload 8, 2) := by decide +kernel
theorem dX11_lateNow_196 : decode cX11_lateNow 196 = .ok (.iand, 1) := by decide +kernel
theorem dX11_lateNow_197 : decode cX11_lateNow 197 = .ok (.goto 5, 3) := by decide +kernel
theorem dX11_lateNow_200 : decode cX11_lateNow 200 = .ok (.iload 6, 2) := by decide +kernel
theorem dX11_lateNow_202 : decode cX11_lateNow 202 = .ok (.istore 6, 2) := by decide +kernel
theorem dX11_lateNow_204 : decode cX11_lateNow 204 = .ok (.iload 9, 2) := by decide +kernel
theorem dX11_lateNow_206 : decode cX11_lateNow 206 = .ok (.ifCond .eq 11, 3) := by decide +kernel
theorem dX11_lateNow_209 : decode cX11_lateNow 209 = .ok (.iload 7, 2) := by decide +kernel
theorem dX11_lateNow_211 : decode cX11_lateNow 211 = .ok (.iload 8, 2) := by decide +kernel
theorem dX11_lateNow_213 : decode cX11_lateNow 213 = .ok (.ior, 1) := by decide +kernel
theorem dX11_lateNow_214 : decode cX11_lateNow 214 = .ok (.goto 5, 3) := by decide +kernel
theorem dX11_lateNow_217 : decode cX11_lateNow 217 = .ok (.iload 7, 2) := by decide +kernel
theorem dX11_lateNow_219 : decode cX11_lateNow 219 = .ok (.istore 7, 2) := by decide +kernel
theorem dX11_lateNow_221 : decode cX11_lateNow 221 = .ok (.iinc 8 1, 3) := by decide +kernel
theorem dX11_lateNow_224 : decode cX11_lateNow 224 = .ok (.goto (-149), 3) := by decide +kernel
theorem dX11_lateNow_227 : decode cX11_lateNow 227 = .ok (.iconst 0, 1) := by decide +kernel
theorem dX11_lateNow_228 : decode cX11_lateNow 228 = .ok (.istore 8, 2) := by decide +kernel
theorem dX11_lateNow_230 : decode cX11_lateNow 230 = .ok (.iload 8, 2) := by decide +kernel
theorem dX11_lateNow_232 : decode cX11_lateNow 232 = .ok (.aload_n 0, 1) := by decide +kernel
theorem dX11_lateNow_233 : decode cX11_lateNow 233 = .ok (.getfield 95, 3) := by decide +kernel
theorem dX11_lateNow_236 : decode cX11_lateNow 236 = .ok (.if_icmp .ge 28, 3) := by decide +kernel
theorem dX11_lateNow_239 : decode cX11_lateNow 239 = .ok (.aload_n 0, 1) := by decide +kernel
theorem dX11_lateNow_240 : decode cX11_lateNow 240 = .ok (.getfield 19, 3) := by decide +kernel
theorem dX11_lateNow_243 : decode cX11_lateNow 243 = .ok (.bipush 8, 2) := by decide +kernel
theorem dX11_lateNow_245 : decode cX11_lateNow 245 = .ok (.iload 8, 2) := by decide +kernel
theorem dX11_lateNow_247 : decode cX11_lateNow 247 = .ok (.imul, 1) := by decide +kernel
theorem dX11_lateNow_248 : decode cX11_lateNow 248 = .ok (.iload_n 1, 1) := by decide +kernel
theorem dX11_lateNow_249 : decode cX11_lateNow 249 = .ok (.iadd, 1) := by decide +kernel
theorem dX11_lateNow_250 : decode cX11_lateNow 250 = .ok (.aload_n 0, 1) := by decide +kernel
theorem dX11_lateNow_251 : decode cX11_lateNow 251 = .ok (.getfield 32, 3) := by decide +kernel
theorem dX11_lateNow_254 : decode cX11_lateNow 254 = .ok (.iload 8, 2) := by decide +kernel
theorem dX11_lateNow_256 : decode cX11_lateNow 256 = .ok (.iaload, 1) := by decide +kernel
theorem dX11_lateNow_257 : decode cX11_lateNow 257 = .ok (.iastore, 1) := by decide +kernel
theorem dX11_lateNow_258 : decode cX11_lateNow 258 = .ok (.iinc 8 1, 3) := by decide +kernel
theorem dX11_lateNow_261 : decode cX11_lateNow 261 = .ok (.goto (-31), 3) := by decide +kernel
theorem dX11_lateNow_264 : decode cX11_lateNow 264 = .ok (.iload_n 3, 1) := by decide +kernel
theorem dX11_lateNow_265 : decode cX11_lateNow 265 = .ok (.ifCond .ne 8, 3) := by decide +kernel
theorem dX11_lateNow_268 : decode cX11_lateNow 268 = .ok (.iload 5, 2) := by decide +kernel
theorem dX11_lateNow_270 : decode cX11_lateNow 270 = .ok (.goto 24, 3) := by decide +kernel
theorem dX11_lateNow_273 : decode cX11_lateNow 273 = .ok (.iload_n 3, 1) := by decide +kernel
theorem dX11_lateNow_274 : decode cX11_lateNow 274 = .ok (.iconst 2, 1) := by decide +kernel
theorem dX11_lateNow_275 : decode cX11_lateNow 275 = .ok (.if_icmp .ne 8, 3) := by decide +kernel
theorem dX11_lateNow_278 : decode cX11_lateNow 278 = .ok (.iload 7, 2) := by decide +kernel
theorem dX11_lateNow_280 : decode cX11_lateNow 280 = .ok (.goto 14, 3) := by decide +kernel
theorem dX11_lateNow_283 : decode cX11_lateNow 283 = .ok (.iload 5, 2) := by decide +kernel
theorem dX11_lateNow_285 : decode cX11_lateNow 285 = .ok (.ifCond .ne 7, 3) := by decide +kernel
theorem dX11_lateNow_288 : decode cX11_lateNow 288 = .ok (.iconst 0, 1) := by decide +kernel
theorem dX11_lateNow_289 : decode cX11_lateNow 289 = .ok (.goto 5, 3) := by decide +kernel
theorem dX11_lateNow_292 : decode cX11_lateNow 292 = .ok (.iload 6, 2) := by decide +kernel
theorem dX11_lateNow_294 : decode cX11_lateNow 294 = .ok (.ireturn, 1) := by decide +kernel
theorem dX11_late_0 : decode cX11_late 0 = .ok (.iload_n 1, 1) := by decide +kernel
theorem dX11_late_1 : decode cX11_late 1 = .ok (.iconst 1, 1) := by decide +kernel
theorem dX11_late_2 : decode cX11_late 2 = .ok (.bipush 7, 2) := by decide +kernel
theorem dX11_late_4 : decode cX11_late 4 = .ok (.invokestatic 65, 3) := by decide +kernel
theorem dX11_late_7 : decode cX11_late 7 = .ok (.ifCond .ne 6, 3) := by decide +kernel
theorem dX11_late_10 : decode cX11_late 10 = .ok (.bipush (-101), 2) := by decide +kernel
theorem dX11_late_12 : decode cX11_late 12 = .ok (.ireturn, 1) := by decide +kernel
theorem dX11_late_13 : decode cX11_late 13 = .ok (.iload_n 2, 1) := by decide +kernel
theorem dX11_late_14 : decode cX11_late 14 = .ok (.iconst 0, 1) := by decide +kernel
theorem dX11_late_15 : decode cX11_late 15 = .ok (.iconst 1, 1) := by decide +kernel
theorem dX11_late_16 : decode cX11_late 16 = .ok (.aload_n 0, 1) := by decide +kernel
theorem dX11_late_17 : decode cX11_late 17 = .ok (.getfield 92, 3) := by decide +kernel
theorem dX11_late_20 : decode cX11_late 20 = .ok (.ishl, 1) := by decide +kernel
theorem dX11_late_21 : decode cX11_late 21 = .ok (.iconst 1, 1) := by decide +kernel
theorem dX11_late_22 : decode cX11_late 22 = .ok (.isub, 1) := by decide +kernel
theorem dX11_late_23 : decode cX11_late 23 = .ok (.invokestatic 65, 3) := by decide +kernel
theorem dX11_late_26 : decode cX11_late 26 = .ok (.ifCond .eq 12, 3) := by decide +kernel
theorem dX11_late_29 : decode cX11_late 29 = .ok (.iload_n 3, 1) := by decide +kernel
theorem dX11_late_30 : decode cX11_late 30 = .ok (.iconst 0, 1) := by decide +kernel
theorem dX11_late_31 : decode cX11_late 31 = .ok (.iconst 2, 1) := by decide +kernel
theorem dX11_late_32 : decode cX11_late 32 = .ok (.invokestatic 65, 3) := by decide +kernel
theorem dX11_late_35 : decode cX11_late 35 = .ok (.ifCond .ne 6, 3) := by decide +kernel
theorem dX11_late_38 : decode cX11_late 38 = .ok (.bipush (-102), 2) := by decide +kernel
theorem dX11_late_40 : decode cX11_late 40 = .ok (.ireturn, 1) := by decide +kernel
theorem dX11_late_41 : decode cX11_late 41 = .ok (.aload_n 0, 1) := by decide +kernel
theorem dX11_late_42 : decode cX11_late 42 = .ok (.getfield 92, 3) := by decide +kernel
theorem dX11_late_45 : decode cX11_late 45 = .ok (.ifCond .ne 8, 3) := by decide +kernel
theorem dX11_late_48 : decode cX11_late 48 = .ok (.bipush (-103), 2) := by decide +kernel
theorem dX11_late_50 : decode cX11_late 50 = .ok (.goto 10, 3) := by decide +kernel
theorem dX11_late_53 : decode cX11_late 53 = .ok (.aload_n 0, 1) := by decide +kernel
theorem dX11_late_54 : decode cX11_late 54 = .ok (.iload_n 1, 1) := by decide +kernel
theorem dX11_late_55 : decode cX11_late 55 = .ok (.iload_n 2, 1) := by decide +kernel
theorem dX11_late_56 : decode cX11_late 56 = .ok (.iload_n 3, 1) := by decide +kernel
theorem dX11_late_57 : decode cX11_late 57 = .ok (.invokevirtual 228, 3) := by decide +kernel
theorem dX11_late_60 : decode cX11_late 60 = .ok (.ireturn, 1) := by decide +kernel
theorem dX11_toMiddle_0 : decode cX11_toMiddle 0 = .ok (.iload_n 1, 1) := by decide +kernel
theorem dX11_toMiddle_1 : decode cX11_toMiddle 1 = .ok (.aload_n 0, 1) := by decide +kernel
theorem dX11_toMiddle_2 : decode cX11_toMiddle 2 = .ok (.getfield 89, 3) := by decide +kernel
theorem dX11_toMiddle_5 : decode cX11_toMiddle 5 = .ok (.idiv, 1) := by decide +kernel
theorem dX11_toMiddle_6 : decode cX11_toMiddle 6 = .ok (.istore_n 2, 1) := by decide +kernel
theorem dX11_toMiddle_7 : decode cX11_toMiddle 7 = .ok (.iload_n 1, 1) := by decide +kernel
theorem dX11_toMiddle_8 : decode cX11_toMiddle 8 = .ok (.aload_n 0, 1) := by decide +kernel
theorem dX11_toMiddle_9 : decode cX11_toMiddle 9 = .ok (.getfield 89, 3) := by decide +kernel
theorem dX11_toMiddle_12 : decode cX11_toMiddle 12 = .ok (.irem, 1) := by decide +kernel
theorem dX11_toMiddle_13 : decode cX11_toMiddle 13 = .ok (.istore_n 3, 1) := by decide +kernel
theorem dX11_toMiddle_14 : decode cX11_toMiddle 14 = .ok (.iload_n 2, 1) := by decide +kernel
theorem dX11_toMiddle_15 : decode cX11_toMiddle 15 = .ok (.aload_n 0, 1) := by decide +kernel
theorem dX11_toMiddle_16 : decode cX11_toMiddle 16 = .ok (.getfield 86, 3) := by decide +kernel
theorem dX11_toMiddle_19 : decode cX11_toMiddle 19 = .ok (.iconst 2, 1) := by decide +kernel
theorem dX11_toMiddle_20 : decode cX11_toMiddle 20 = .ok (.idiv, 1) := by decide +kernel
theorem dX11_toMiddle_21 : decode cX11_toMiddle 21 = .ok (.if_icmp .eq 29, 3) := by decide +kernel
theorem dX11_toMiddle_24 : decode cX11_toMiddle 24 = .ok (.iload_n 2, 1) := by decide +kernel
theorem dX11_toMiddle_25 : decode cX11_toMiddle 25 = .ok (.aload_n 0, 1) := by decide +kernel
theorem dX11_toMiddle_26 : decode cX11_toMiddle 26 = .ok (.getfield 86, 3) := by decide +kernel
theorem dX11_toMiddle_29 : decode cX11_toMiddle 29 = .ok (.iconst 2, 1) := by decide +kernel
theorem dX11_toMiddle_30 : decode cX11_toMiddle 30 = .ok (.idiv, 1) := by decide +kernel
theorem dX11_toMiddle_31 : decode cX11_toMiddle 31 = .ok (.if_icmp .ge 12, 3) := by decide +kernel
theorem dX11_toMiddle_34 : decode cX11_toMiddle 34 = .ok (.iload_n 1, 1) := by decide +kernel
theorem dX11_toMiddle_35 : decode cX11_toMiddle 35 = .ok (.aload_n 0, 1) := by decide +kernel
theorem dX11_toMiddle_36 : decode cX11_toMiddle 36 = .ok (.getfield 89, 3) := by decide +kernel
theorem dX11_toMiddle_39 : decode cX11_toMiddle 39 = .ok (.iadd, 1) := by decide +kernel
theorem dX11_toMiddle_40 : decode cX11_toMiddle 40 = .ok (.goto 9, 3) := by decide +kernel
theorem dX11_toMiddle_43 : decode cX11_toMiddle 43 = .ok (.iload_n 1, 1) := by decide +kernel
theorem dX11_toMiddle_44 : decode cX11_toMiddle 44 = .ok (.aload_n 0, 1) := by decide +kernel
theorem dX11_toMiddle_45 : decode cX11_toMiddle 45 = .ok (.getfield 89, 3) := by decide +kernel
theorem dX11_toMiddle_48 : decode cX11_toMiddle 48 = .ok (.isub, 1) := by decide +kernel
theorem dX11_toMiddle_49 : decode cX11_toMiddle 49 = .ok (.ireturn, 1) := by decide +kernel
theorem dX11_toMiddle_50 : decode cX11_toMiddle 50 = .ok (.iload_n 3, 1) := by decide +kernel
theorem dX11_toMiddle_51 : decode cX11_toMiddle 51 = .ok (.aload_n 0, 1) := by decide +kernel
theorem dX11_toMiddle_52 : decode cX11_toMiddle 52 = .ok (.getfield 89, 3) := by decide +kernel
theorem dX11_toMiddle_55 : decode cX11_toMiddle 55 = .ok (.iconst 2, 1) := by decide +kernel
theorem dX11_toMiddle_56 : decode cX11_toMiddle 56 = .ok (.idiv, 1) := by decide +kernel
theorem dX11_toMiddle_57 : decode cX11_toMiddle 57 = .ok (.if_icmp .ne 7, 3) := by decide +kernel
theorem dX11_toMiddle_60 : decode cX11_toMiddle 60 = .ok (.iload_n 1, 1) := by decide +kernel
theorem dX11_toMiddle_61 : decode cX11_toMiddle 61 = .ok (.goto 22, 3) := by decide +kernel
theorem dX11_toMiddle_64 : decode cX11_toMiddle 64 = .ok (.iload_n 3, 1) := by decide +kernel
theorem dX11_toMiddle_65 : decode cX11_toMiddle 65 = .ok (.aload_n 0, 1) := by decide +kernel
theorem dX11_toMiddle_66 : decode cX11_toMiddle 66 = .ok (.getfield 89, 3) := by decide +kernel
theorem dX11_toMiddle_69 : decode cX11_toMiddle 69 = .ok (.iconst 2, 1) := by decide +kernel
theorem dX11_toMiddle_70 : decode cX11_toMiddle 70 = .ok (.idiv, 1) := by decide +kernel
theorem dX11_toMiddle_71 : decode cX11_toMiddle 71 = .ok (.if_icmp .ge 9, 3) := by decide +kernel
theorem dX11_toMiddle_74 : decode cX11_toMiddle 74 = .ok (.iload_n 1, 1) := by decide +kernel
theorem dX11_toMiddle_75 : decode cX11_toMiddle 75 = .ok (.iconst 1, 1) := by decide +kernel
theorem dX11_toMiddle_76 : decode cX11_toMiddle 76 = .ok (.iadd, 1) := by decide +kernel
theorem dX11_toMiddle_77 : decode cX11_toMiddle 77 = .ok (.goto 6, 3) := by decide +kernel
theorem dX11_toMiddle_80 : decode cX11_toMiddle 80 = .ok (.iload_n 1, 1) := by decide +kernel
theorem dX11_toMiddle_81 : decode cX11_toMiddle 81 = .ok (.iconst 1, 1) := by decide +kernel
theorem dX11_toMiddle_82 : decode cX11_toMiddle 82 = .ok (.isub, 1) := by decide +kernel
theorem dX11_toMiddle_83 : decode cX11_toMiddle 83 = .ok (.ireturn, 1) := by decide +kernel
theorem dX11_keepStands_0 : decode cX11_keepStands 0 = .ok (.iconst 0, 1) := by decide +kernel
theorem dX11_keepStands_1 : decode cX11_keepStands 1 = .ok (.istore_n 2, 1) := by decide +kernel
theorem dX11_keepStands_2 : decode cX11_keepStands 2 = .ok (.iload_n 2, 1) := by decide +kernel
theorem dX11_keepStands_3 : decode cX11_keepStands 3 = .ok (.aload_n 0, 1) := by decide +kernel
theorem dX11_keepStands_4 : decode cX11_keepStands 4 = .ok (.getfield 95, 3) := by decide +kernel
theorem dX11_keepStands_7 : decode cX11_keepStands 7 = .ok (.if_icmp .ge 26, 3) := by decide +kernel
theorem dX11_keepStands_10 : decode cX11_keepStands 10 = .ok (.aload_n 0, 1) := by decide +kernel
theorem dX11_keepStands_11 : decode cX11_keepStands 11 = .ok (.getfield 32, 3) := by decide +kernel
theorem dX11_keepStands_14 : decode cX11_keepStands 14 = .ok (.iload_n 2, 1) := by decide +kernel
theorem dX11_keepStands_15 : decode cX11_keepStands 15 = .ok (.aload_n 0, 1) := by decide +kernel
theorem dX11_keepStands_16 : decode cX11_keepStands 16 = .ok (.getfield 19, 3) := by decide +kernel
theorem dX11_keepStands_19 : decode cX11_keepStands 19 = .ok (.bipush 8, 2) := by decide +kernel
theorem dX11_keepStands_21 : decode cX11_keepStands 21 = .ok (.iload_n 2, 1) := by decide +kernel
theorem dX11_keepStands_22 : decode cX11_keepStands 22 = .ok (.imul, 1) := by decide +kernel
theorem dX11_keepStands_23 : decode cX11_keepStands 23 = .ok (.iload_n 1, 1) := by decide +kernel
theorem dX11_keepStands_24 : decode cX11_keepStands 24 = .ok (.iadd, 1) := by decide +kernel
theorem dX11_keepStands_25 : decode cX11_keepStands 25 = .ok (.iaload, 1) := by decide +kernel
theorem dX11_keepStands_26 : decode cX11_keepStands 26 = .ok (.iastore, 1) := by decide +kernel
theorem dX11_keepStands_27 : decode cX11_keepStands 27 = .ok (.iinc 2 1, 3) := by decide +kernel
theorem dX11_keepStands_30 : decode cX11_keepStands 30 = .ok (.goto (-28), 3) := by decide +kernel
theorem dX11_keepStands_33 : decode cX11_keepStands 33 = .ok (.return_, 1) := by decide +kernel
theorem dX11_putStands_0 : decode cX11_putStands 0 = .ok (.iconst 0, 1) := by decide +kernel
theorem dX11_putStands_1 : decode cX11_putStands 1 = .ok (.istore_n 2, 1) := by decide +kernel
theorem dX11_putStands_2 : decode cX11_putStands 2 = .ok (.iload_n 2, 1) := by decide +kernel
theorem dX11_putStands_3 : decode cX11_putStands 3 = .ok (.aload_n 0, 1) := by decide +kernel
theorem dX11_putStands_4 : decode cX11_putStands 4 = .ok (.getfield 95, 3) := by decide +kernel
theorem dX11_putStands_7 : decode cX11_putStands 7 = .ok (.if_icmp .ge 26, 3) := by decide +kernel
theorem dX11_putStands_10 : decode cX11_putStands 10 = .ok (.aload_n 0, 1) := by decide +kernel
theorem dX11_putStands_11 : decode cX11_putStands 11 = .ok (.getfield 19, 3) := by decide +kernel
theorem dX11_putStands_14 : decode cX11_putStands 14 = .ok (.bipush 8, 2) := by decide +kernel
theorem dX11_putStands_16 : decode cX11_putStands 16 = .ok (.iload_n 2, 1) := by decide +kernel
theorem dX11_putStands_17 : decode cX11_putStands 17 = .ok (.imul, 1) := by decide +kernel
theorem dX11_putStands_18 : decode cX11_putStands 18 = .ok (.iload_n 1, 1) := by decide +kernel
theorem dX11_putStands_19 : decode cX11_putStands 19 = .ok (.iadd, 1) := by decide +kernel
theorem dX11_putStands_20 : decode cX11_putStands 20 = .ok (.aload_n 0, 1) := by decide +kernel
theorem dX11_putStands_21 : decode cX11_putStands 21 = .ok (.getfield 32, 3) := by decide +kernel
theorem dX11_putStands_24 : decode cX11_putStands 24 = .ok (.iload_n 2, 1) := by decide +kernel
theorem dX11_putStands_25 : decode cX11_putStands 25 = .ok (.iaload, 1) := by decide +kernel
theorem dX11_putStands_26 : decode cX11_putStands 26 = .ok (.iastore, 1) := by decide +kernel
theorem dX11_putStands_27 : decode cX11_putStands 27 = .ok (.iinc 2 1, 3) := by decide +kernel
theorem dX11_putStands_30 : decode cX11_putStands 30 = .ok (.goto (-28), 3) := by decide +kernel
theorem dX11_putStands_33 : decode cX11_putStands 33 = .ok (.return_, 1) := by decide +kernel
theorem dX11_stormNow_0 : decode cX11_stormNow 0 = .ok (.aload_n 0, 1) := by decide +kernel
theorem dX11_stormNow_1 : decode cX11_stormNow 1 = .ok (.iload_n 1, 1) := by decide +kernel
theorem dX11_stormNow_2 : decode cX11_stormNow 2 = .ok (.invokevirtual 232, 3) := by decide +kernel
theorem dX11_stormNow_5 : decode cX11_stormNow 5 = .ok (.iconst (-1), 1) := by decide +kernel
theorem dX11_stormNow_6 : decode cX11_stormNow 6 = .ok (.istore_n 2, 1) := by decide +kernel
theorem dX11_stormNow_7 : decode cX11_stormNow 7 = .ok (.iconst 0, 1) := by decide +kernel
theorem dX11_stormNow_8 : decode cX11_stormNow 8 = .ok (.istore_n 3, 1) := by decide +kernel
theorem dX11_stormNow_9 : decode cX11_stormNow 9 = .ok (.iload_n 3, 1) := by decide +kernel
theorem dX11_stormNow_10 : decode cX11_stormNow 10 = .ok (.bipush 10, 2) := by decide +kernel
theorem dX11_stormNow_12 : decode cX11_stormNow 12 = .ok (.if_icmp .ge 98, 3) := by decide +kernel
theorem dX11_stormNow_15 : decode cX11_stormNow 15 = .ok (.iload_n 2, 1) := by decide +kernel
theorem dX11_stormNow_16 : decode cX11_stormNow 16 = .ok (.iconst (-1), 1) := by decide +kernel
theorem dX11_stormNow_17 : decode cX11_stormNow 17 = .ok (.if_icmp .ne 93, 3) := by decide +kernel
theorem dX11_stormNow_20 : decode cX11_stormNow 20 = .ok (.aload_n 0, 1) := by decide +kernel
theorem dX11_stormNow_21 : decode cX11_stormNow 21 = .ok (.iload_n 1, 1) := by decide +kernel
theorem dX11_stormNow_22 : decode cX11_stormNow 22 = .ok (.invokevirtual 143, 3) := by decide +kernel
theorem dX11_stormNow_25 : decode cX11_stormNow 25 = .ok (.ifCond .ne 7, 3) := by decide +kernel
theorem dX11_stormNow_28 : decode cX11_stormNow 28 = .ok (.iload_n 3, 1) := by decide +kernel
theorem dX11_stormNow_29 : decode cX11_stormNow 29 = .ok (.goto 4, 3) := by decide +kernel
theorem dX11_stormNow_32 : decode cX11_stormNow 32 = .ok (.iconst (-1), 1) := by decide +kernel
theorem dX11_stormNow_33 : decode cX11_stormNow 33 = .ok (.istore_n 2, 1) := by decide +kernel
theorem dX11_stormNow_34 : decode cX11_stormNow 34 = .ok (.iconst 0, 1) := by decide +kernel
theorem dX11_stormNow_35 : decode cX11_stormNow 35 = .ok (.istore 4, 2) := by decide +kernel
theorem dX11_stormNow_37 : decode cX11_stormNow 37 = .ok (.iload 4, 2) := by decide +kernel
theorem dX11_stormNow_39 : decode cX11_stormNow 39 = .ok (.aload_n 0, 1) := by decide +kernel
theorem dX11_stormNow_40 : decode cX11_stormNow 40 = .ok (.getfield 95, 3) := by decide +kernel
theorem dX11_stormNow_43 : decode cX11_stormNow 43 = .ok (.if_icmp .ge 61, 3) := by decide +kernel
theorem dX11_stormNow_46 : decode cX11_stormNow 46 = .ok (.aload_n 0, 1) := by decide +kernel
theorem dX11_stormNow_47 : decode cX11_stormNow 47 = .ok (.getfield 19, 3) := by decide +kernel
theorem dX11_stormNow_50 : decode cX11_stormNow 50 = .ok (.bipush 8, 2) := by decide +kernel
theorem dX11_stormNow_52 : decode cX11_stormNow 52 = .ok (.iload 4, 2) := by decide +kernel
theorem dX11_stormNow_54 : decode cX11_stormNow 54 = .ok (.imul, 1) := by decide +kernel
theorem dX11_stormNow_55 : decode cX11_stormNow 55 = .ok (.iload_n 1, 1) := by decide +kernel
theorem dX11_stormNow_56 : decode cX11_stormNow 56 = .ok (.iadd, 1) := by decide +kernel
theorem dX11_stormNow_57 : decode cX11_stormNow 57 = .ok (.aload_n 0, 1) := by decide +kernel
theorem dX11_stormNow_58 : decode cX11_stormNow 58 = .ok (.iload 4, 2) := by decide +kernel
theorem dX11_stormNow_60 : decode cX11_stormNow 60 = .ok (.invokevirtual 122, 3) := by decide +kernel
theorem dX11_stormNow_63 : decode cX11_stormNow 63 = .ok (.ifCond .eq 22, 3) := by decide +kernel
theorem dX11_stormNow_66 : decode cX11_stormNow 66 = .ok (.aload_n 0, 1) := by decide +kernel
theorem dX11_stormNow_67 : decode cX11_stormNow 67 = .ok (.aload_n 0, 1) := by decide +kernel
theorem dX11_stormNow_68 : decode cX11_stormNow 68 = .ok (.getfield 19, 3) := by decide +kernel
theorem dX11_stormNow_71 : decode cX11_stormNow 71 = .ok (.bipush 8, 2) := by decide +kernel
theorem dX11_stormNow_73 : decode cX11_stormNow 73 = .ok (.iload 4, 2) := by decide +kernel
theorem dX11_stormNow_75 : decode cX11_stormNow 75 = .ok (.imul, 1) := by decide +kernel
theorem dX11_stormNow_76 : decode cX11_stormNow 76 = .ok (.iload_n 1, 1) := by decide +kernel
theorem dX11_stormNow_77 : decode cX11_stormNow 77 = .ok (.iadd, 1) := by decide +kernel
theorem dX11_stormNow_78 : decode cX11_stormNow 78 = .ok (.iaload, 1) := by decide +kernel
theorem dX11_stormNow_79 : decode cX11_stormNow 79 = .ok (.invokevirtual 235, 3) := by decide +kernel
theorem dX11_stormNow_82 : decode cX11_stormNow 82 = .ok (.goto 15, 3) := by decide +kernel
theorem dX11_stormNow_85 : decode cX11_stormNow 85 = .ok (.aload_n 0, 1) := by decide +kernel
theorem dX11_stormNow_86 : decode cX11_stormNow 86 = .ok (.getfield 19, 3) := by decide +kernel
theorem dX11_stormNow_89 : decode cX11_stormNow 89 = .ok (.bipush 8, 2) := by decide +kernel
theorem dX11_stormNow_91 : decode cX11_stormNow 91 = .ok (.iload 4, 2) := by decide +kernel
theorem dX11_stormNow_93 : decode cX11_stormNow 93 = .ok (.imul, 1) := by decide +kernel
theorem dX11_stormNow_94 : decode cX11_stormNow 94 = .ok (.iload_n 1, 1) := by decide +kernel
theorem dX11_stormNow_95 : decode cX11_stormNow 95 = .ok (.iadd, 1) := by decide +kernel
theorem dX11_stormNow_96 : decode cX11_stormNow 96 = .ok (.iaload, 1) := by decide +kernel
theorem dX11_stormNow_97 : decode cX11_stormNow 97 = .ok (.iastore, 1) := by decide +kernel
theorem dX11_stormNow_98 : decode cX11_stormNow 98 = .ok (.iinc 4 1, 3) := by decide +kernel
theorem dX11_stormNow_101 : decode cX11_stormNow 101 = .ok (.goto (-64), 3) := by decide +kernel
theorem dX11_stormNow_104 : decode cX11_stormNow 104 = .ok (.iinc 3 1, 3) := by decide +kernel
theorem dX11_stormNow_107 : decode cX11_stormNow 107 = .ok (.goto (-98), 3) := by decide +kernel
theorem dX11_stormNow_110 : decode cX11_stormNow 110 = .ok (.aload_n 0, 1) := by decide +kernel
theorem dX11_stormNow_111 : decode cX11_stormNow 111 = .ok (.iload_n 1, 1) := by decide +kernel
theorem dX11_stormNow_112 : decode cX11_stormNow 112 = .ok (.invokevirtual 238, 3) := by decide +kernel
theorem dX11_stormNow_115 : decode cX11_stormNow 115 = .ok (.iload_n 2, 1) := by decide +kernel
theorem dX11_stormNow_116 : decode cX11_stormNow 116 = .ok (.ireturn, 1) := by decide +kernel
theorem dX11_storm_0 : decode cX11_storm 0 = .ok (.iload_n 1, 1) := by decide +kernel
theorem dX11_storm_1 : decode cX11_storm 1 = .ok (.invokestatic 119, 3) := by decide +kernel
theorem dX11_storm_4 : decode cX11_storm 4 = .ok (.ifCond .ne 6, 3) := by decide +kernel
theorem dX11_storm_7 : decode cX11_storm 7 = .ok (.bipush (-101), 2) := by decide +kernel
theorem dX11_storm_9 : decode cX11_storm 9 = .ok (.ireturn, 1) := by decide +kernel
theorem dX11_storm_10 : decode cX11_storm 10 = .ok (.aload_n 0, 1) := by decide +kernel
theorem dX11_storm_11 : decode cX11_storm 11 = .ok (.getfield 92, 3) := by decide +kernel
theorem dX11_storm_14 : decode cX11_storm 14 = .ok (.ifCond .ne 8, 3) := by decide +kernel
theorem dX11_storm_17 : decode cX11_storm 17 = .ok (.bipush (-103), 2) := by decide +kernel
theorem dX11_storm_19 : decode cX11_storm 19 = .ok (.goto 8, 3) := by decide +kernel
theorem dX11_storm_22 : decode cX11_storm 22 = .ok (.aload_n 0, 1) := by decide +kernel
theorem dX11_storm_23 : decode cX11_storm 23 = .ok (.iload_n 1, 1) := by decide +kernel
theorem dX11_storm_24 : decode cX11_storm 24 = .ok (.invokevirtual 241, 3) := by decide +kernel
theorem dX11_storm_27 : decode cX11_storm 27 = .ok (.ireturn, 1) := by decide +kernel
theorem dX11_mossNow_0 : decode cX11_mossNow 0 = .ok (.iconst (-1), 1) := by decide +kernel
theorem dX11_mossNow_1 : decode cX11_mossNow 1 = .ok (.istore_n 1, 1) := by decide +kernel
theorem dX11_mossNow_2 : decode cX11_mossNow 2 = .ok (.iconst 0, 1) := by decide +kernel
theorem dX11_mossNow_3 : decode cX11_mossNow 3 = .ok (.istore_n 2, 1) := by decide +kernel
theorem dX11_mossNow_4 : decode cX11_mossNow 4 = .ok (.iload_n 2, 1) := by decide +kernel
theorem dX11_mossNow_5 : decode cX11_mossNow 5 = .ok (.bipush 100, 2) := by decide +kernel
theorem dX11_mossNow_7 : decode cX11_mossNow 7 = .ok (.if_icmp .ge 32, 3) := by decide +kernel
theorem dX11_mossNow_10 : decode cX11_mossNow 10 = .ok (.iload_n 1, 1) := by decide +kernel
theorem dX11_mossNow_11 : decode cX11_mossNow 11 = .ok (.iconst (-1), 1) := by decide +kernel
theorem dX11_mossNow_12 : decode cX11_mossNow 12 = .ok (.if_icmp .ne 27, 3) := by decide +kernel
theorem dX11_mossNow_15 : decode cX11_mossNow 15 = .ok (.aload_n 0, 1) := by decide +kernel
theorem dX11_mossNow_16 : decode cX11_mossNow 16 = .ok (.iload_n 2, 1) := by decide +kernel
theorem dX11_mossNow_17 : decode cX11_mossNow 17 = .ok (.putfield 135, 3) := by decide +kernel
theorem dX11_mossNow_20 : decode cX11_mossNow 20 = .ok (.aload_n 0, 1) := by decide +kernel
theorem dX11_mossNow_21 : decode cX11_mossNow 21 = .ok (.invokevirtual 190, 3) := by decide +kernel
theorem dX11_mossNow_24 : decode cX11_mossNow 24 = .ok (.ifCond .eq 7, 3) := by decide +kernel
theorem dX11_mossNow_27 : decode cX11_mossNow 27 = .ok (.iconst (-1), 1) := by decide +kernel
theorem dX11_mossNow_28 : decode cX11_mossNow 28 = .ok (.goto 4, 3) := by decide +kernel
theorem dX11_mossNow_31 : decode cX11_mossNow 31 = .ok (.iload_n 2, 1) := by decide +kernel
theorem dX11_mossNow_32 : decode cX11_mossNow 32 = .ok (.istore_n 1, 1) := by decide +kernel
theorem dX11_mossNow_33 : decode cX11_mossNow 33 = .ok (.iinc 2 1, 3) := by decide +kernel
theorem dX11_mossNow_36 : decode cX11_mossNow 36 = .ok (.goto (-32), 3) := by decide +kernel
theorem dX11_mossNow_39 : decode cX11_mossNow 39 = .ok (.aload_n 0, 1) := by decide +kernel
theorem dX11_mossNow_40 : decode cX11_mossNow 40 = .ok (.iconst 0, 1) := by decide +kernel
theorem dX11_mossNow_41 : decode cX11_mossNow 41 = .ok (.putfield 135, 3) := by decide +kernel
theorem dX11_mossNow_44 : decode cX11_mossNow 44 = .ok (.iload_n 1, 1) := by decide +kernel
theorem dX11_mossNow_45 : decode cX11_mossNow 45 = .ok (.ireturn, 1) := by decide +kernel
theorem dX11_moss_0 : decode cX11_moss 0 = .ok (.aload_n 0, 1) := by decide +kernel
theorem dX11_moss_1 : decode cX11_moss 1 = .ok (.getfield 92, 3) := by decide +kernel
theorem dX11_moss_4 : decode cX11_moss 4 = .ok (.ifCond .ne 8, 3) := by decide +kernel
theorem dX11_moss_7 : decode cX11_moss 7 = .ok (.bipush (-103), 2) := by decide +kernel
theorem dX11_moss_9 : decode cX11_moss 9 = .ok (.goto 7, 3) := by decide +kernel
theorem dX11_moss_12 : decode cX11_moss 12 = .ok (.aload_n 0, 1) := by decide +kernel
theorem dX11_moss_13 : decode cX11_moss 13 = .ok (.invokevirtual 244, 3) := by decide +kernel
theorem dX11_moss_16 : decode cX11_moss 16 = .ok (.ireturn, 1) := by decide +kernel
theorem dX11_draw_0 : decode cX11_draw 0 = .ok (.aload_n 0, 1) := by decide +kernel
theorem dX11_draw_1 : decode cX11_draw 1 = .ok (.ldc2_w 247, 3) := by decide +kernel
theorem dX11_draw_4 : decode cX11_draw 4 = .ok (.aload_n 0, 1) := by decide +kernel
theorem dX11_draw_5 : decode cX11_draw 5 = .ok (.getfield 249, 3) := by decide +kernel
theorem dX11_draw_8 : decode cX11_draw 8 = .ok (.lmul, 1) := by decide +kernel
theorem dX11_draw_9 : decode cX11_draw 9 = .ok (.ldc2_w 253, 3) := by decide +kernel
theorem dX11_draw_12 : decode cX11_draw 12 = .ok (.ladd, 1) := by decide +kernel
theorem dX11_draw_13 : decode cX11_draw 13 = .ok (.ldc2_w 255, 3) := by decide +kernel
theorem dX11_draw_16 : decode cX11_draw 16 = .ok (.land, 1) := by decide +kernel
theorem dX11_draw_17 : decode cX11_draw 17 = .ok (.putfield 249, 3) := by decide +kernel
theorem dX11_draw_20 : decode cX11_draw 20 = .ok (.aload_n 0, 1) := by decide +kernel
theorem dX11_draw_21 : decode cX11_draw 21 = .ok (.getfield 249, 3) := by decide +kernel
theorem dX11_draw_24 : decode cX11_draw 24 = .ok (.ldc2_w 257, 3) := by decide +kernel
theorem dX11_draw_27 : decode cX11_draw 27 = .ok (.ldiv, 1) := by decide +kernel
theorem dX11_draw_28 : decode cX11_draw 28 = .ok (.iload_n 1, 1) := by decide +kernel
theorem dX11_draw_29 : decode cX11_draw 29 = .ok (.i2l, 1) := by decide +kernel
theorem dX11_draw_30 : decode cX11_draw 30 = .ok (.lrem, 1) := by decide +kernel
theorem dX11_draw_31 : decode cX11_draw 31 = .ok (.l2i, 1) := by decide +kernel
theorem dX11_draw_32 : decode cX11_draw 32 = .ok (.ireturn, 1) := by decide +kernel
theorem dX11_stray_0 : decode cX11_stray 0 = .ok (.iconst 0, 1) := by decide +kernel
theorem dX11_stray_1 : decode cX11_stray 1 = .ok (.istore_n 2, 1) := by decide +kernel
theorem dX11_stray_2 : decode cX11_stray 2 = .ok (.iload_n 2, 1) := by decide +kernel
theorem dX11_stray_3 : decode cX11_stray 3 = .ok (.aload_n 0, 1) := by decide +kernel
theorem dX11_stray_4 : decode cX11_stray 4 = .ok (.getfield 95, 3) := by decide +kernel
theorem dX11_stray_7 : decode cX11_stray 7 = .ok (.if_icmp .ge 86, 3) := by decide +kernel
theorem dX11_stray_10 : decode cX11_stray 10 = .ok (.aload_n 0, 1) := by decide +kernel
theorem dX11_stray_11 : decode cX11_stray 11 = .ok (.getfield 13, 3) := by decide +kernel
theorem dX11_stray_14 : decode cX11_stray 14 = .ok (.iload_n 2, 1) := by decide +kernel
theorem dX11_stray_15 : decode cX11_stray 15 = .ok (.iaload, 1) := by decide +kernel
theorem dX11_stray_16 : decode cX11_stray 16 = .ok (.iconst 2, 1) := by decide +kernel
theorem dX11_stray_17 : decode cX11_stray 17 = .ok (.if_icmp .ne 70, 3) := by decide +kernel
theorem dX11_stray_20 : decode cX11_stray 20 = .ok (.aload_n 0, 1) := by decide +kernel
theorem dX11_stray_21 : decode cX11_stray 21 = .ok (.iconst 5, 1) := by decide +kernel
theorem dX11_stray_22 : decode cX11_stray 22 = .ok (.invokevirtual 259, 3) := by decide +kernel
theorem dX11_stray_25 : decode cX11_stray 25 = .ok (.iconst 1, 1) := by decide +kernel
theorem dX11_stray_26 : decode cX11_stray 26 = .ok (.isub, 1) := by decide +kernel
theorem dX11_stray_27 : decode cX11_stray 27 = .ok (.istore_n 3, 1) := by decide +kernel
theorem dX11_stray_28 : decode cX11_stray 28 = .ok (.iload_n 3, 1) := by decide +kernel
theorem dX11_stray_29 : decode cX11_stray 29 = .ok (.ifCond .ge 7, 3) := by decide +kernel
theorem dX11_stray_32 : decode cX11_stray 32 = .ok (.iconst (-1), 1) := by decide +kernel
theorem dX11_stray_33 : decode cX11_stray 33 = .ok (.goto 19, 3) := by decide +kernel
theorem dX11_stray_36 : decode cX11_stray 36 = .ok (.aload_n 0, 1) := by decide +kernel
theorem dX11_stray_37 : decode cX11_stray 37 = .ok (.aload_n 0, 1) := by decide +kernel
theorem dX11_stray_38 : decode cX11_stray 38 = .ok (.getfield 19, 3) := by decide +kernel
theorem dX11_stray_41 : decode cX11_stray 41 = .ok (.bipush 8, 2) := by decide +kernel
theorem dX11_stray_43 : decode cX11_stray 43 = .ok (.iload_n 2, 1) := by decide +kernel
theorem dX11_stray_44 : decode cX11_stray 44 = .ok (.imul, 1) := by decide +kernel
theorem dX11_stray_45 : decode cX11_stray 45 = .ok (.iload_n 1, 1) := by decide +kernel
theorem dX11_stray_46 : decode cX11_stray 46 = .ok (.iadd, 1) := by decide +kernel
theorem dX11_stray_47 : decode cX11_stray 47 = .ok (.iaload, 1) := by decide +kernel
theorem dX11_stray_48 : decode cX11_stray 48 = .ok (.iload_n 3, 1) := by decide +kernel
theorem dX11_stray_49 : decode cX11_stray 49 = .ok (.invokevirtual 180, 3) := by decide +kernel
theorem dX11_stray_52 : decode cX11_stray 52 = .ok (.istore 4, 2) := by decide +kernel
theorem dX11_stray_54 : decode cX11_stray 54 = .ok (.aload_n 0, 1) := by decide +kernel
theorem dX11_stray_55 : decode cX11_stray 55 = .ok (.getfield 19, 3) := by decide +kernel
theorem dX11_stray_58 : decode cX11_stray 58 = .ok (.bipush 8, 2) := by decide +kernel
theorem dX11_stray_60 : decode cX11_stray 60 = .ok (.iload_n 2, 1) := by decide +kernel
theorem dX11_stray_61 : decode cX11_stray 61 = .ok (.imul, 1) := by decide +kernel
theorem dX11_stray_62 : decode cX11_stray 62 = .ok (.iload_n 1, 1) := by decide +kernel
theorem dX11_stray_63 : decode cX11_stray 63 = .ok (.iadd, 1) := by decide +kernel
theorem dX11_stray_64 : decode cX11_stray 64 = .ok (.iload 4, 2) := by decide +kernel
theorem dX11_stray_66 : decode cX11_stray 66 = .ok (.iconst (-1), 1) := by decide +kernel
theorem dX11_stray_67 : decode cX11_stray 67 = .ok (.if_icmp .ne 17, 3) := by decide +kernel
theorem dX11_stray_70 : decode cX11_stray 70 = .ok (.aload_n 0, 1) := by decide +kernel
theorem dX11_stray_71 : decode cX11_stray 71 = .ok (.getfield 19, 3) := by decide +kernel
theorem dX11_stray_74 : decode cX11_stray 74 = .ok (.bipush 8, 2) := by decide +kernel
theorem dX11_stray_76 : decode cX11_stray 76 = .ok (.iload_n 2, 1) := by decide +kernel
theorem dX11_stray_77 : decode cX11_stray 77 = .ok (.imul, 1) := by decide +kernel
theorem dX11_stray_78 : decode cX11_stray 78 = .ok (.iload_n 1, 1) := by decide +kernel
theorem dX11_stray_79 : decode cX11_stray 79 = .ok (.iadd, 1) := by decide +kernel
theorem dX11_stray_80 : decode cX11_stray 80 = .ok (.iaload, 1) := by decide +kernel
theorem dX11_stray_81 : decode cX11_stray 81 = .ok (.goto 5, 3) := by decide +kernel
theorem dX11_stray_84 : decode cX11_stray 84 = .ok (.iload 4, 2) := by decide +kernel
theorem dX11_stray_86 : decode cX11_stray 86 = .ok (.iastore, 1) := by decide +kernel
theorem dX11_stray_87 : decode cX11_stray 87 = .ok (.iinc 2 1, 3) := by decide +kernel
theorem dX11_stray_90 : decode cX11_stray 90 = .ok (.goto (-88), 3) := by decide +kernel
theorem dX11_stray_93 : decode cX11_stray 93 = .ok (.return_, 1) := by decide +kernel
theorem dX11_cowsNow_0 : decode cX11_cowsNow 0 = .ok (.aload_n 0, 1) := by decide +kernel
theorem dX11_cowsNow_1 : decode cX11_cowsNow 1 = .ok (.iload_n 1, 1) := by decide +kernel
theorem dX11_cowsNow_2 : decode cX11_cowsNow 2 = .ok (.invokevirtual 232, 3) := by decide +kernel
theorem dX11_cowsNow_5 : decode cX11_cowsNow 5 = .ok (.aload_n 0, 1) := by decide +kernel
theorem dX11_cowsNow_6 : decode cX11_cowsNow 6 = .ok (.iload_n 3, 1) := by decide +kernel
theorem dX11_cowsNow_7 : decode cX11_cowsNow 7 = .ok (.i2l, 1) := by decide +kernel
theorem dX11_cowsNow_8 : decode cX11_cowsNow 8 = .ok (.putfield 249, 3) := by decide +kernel
theorem dX11_cowsNow_11 : decode cX11_cowsNow 11 = .ok (.iconst 0, 1) := by decide +kernel
theorem dX11_cowsNow_12 : decode cX11_cowsNow 12 = .ok (.istore 5, 2) := by decide +kernel
theorem dX11_cowsNow_14 : decode cX11_cowsNow 14 = .ok (.iconst 0, 1) := by decide +kernel
theorem dX11_cowsNow_15 : decode cX11_cowsNow 15 = .ok (.istore 6, 2) := by decide +kernel
theorem dX11_cowsNow_17 : decode cX11_cowsNow 17 = .ok (.iload 6, 2) := by decide +kernel
theorem dX11_cowsNow_19 : decode cX11_cowsNow 19 = .ok (.iload_n 2, 1) := by decide +kernel
theorem dX11_cowsNow_20 : decode cX11_cowsNow 20 = .ok (.if_icmp .ge 32, 3) := by decide +kernel
theorem dX11_cowsNow_23 : decode cX11_cowsNow 23 = .ok (.aload_n 0, 1) := by decide +kernel
theorem dX11_cowsNow_24 : decode cX11_cowsNow 24 = .ok (.iload_n 1, 1) := by decide +kernel
theorem dX11_cowsNow_25 : decode cX11_cowsNow 25 = .ok (.invokevirtual 262, 3) := by decide +kernel
theorem dX11_cowsNow_28 : decode cX11_cowsNow 28 = .ok (.iload 5, 2) := by decide +kernel
theorem dX11_cowsNow_30 : decode cX11_cowsNow 30 = .ok (.aload_n 0, 1) := by decide +kernel
theorem dX11_cowsNow_31 : decode cX11_cowsNow 31 = .ok (.iload_n 1, 1) := by decide +kernel
theorem dX11_cowsNow_32 : decode cX11_cowsNow 32 = .ok (.invokevirtual 143, 3) := by decide +kernel
theorem dX11_cowsNow_35 : decode cX11_cowsNow 35 = .ok (.ifCond .ne 7, 3) := by decide +kernel
theorem dX11_cowsNow_38 : decode cX11_cowsNow 38 = .ok (.iconst 0, 1) := by decide +kernel
theorem dX11_cowsNow_39 : decode cX11_cowsNow 39 = .ok (.goto 4, 3) := by decide +kernel
theorem dX11_cowsNow_42 : decode cX11_cowsNow 42 = .ok (.iconst 1, 1) := by decide +kernel
theorem dX11_cowsNow_43 : decode cX11_cowsNow 43 = .ok (.iadd, 1) := by decide +kernel
theorem dX11_cowsNow_44 : decode cX11_cowsNow 44 = .ok (.istore 5, 2) := by decide +kernel
theorem dX11_cowsNow_46 : decode cX11_cowsNow 46 = .ok (.iinc 6 1, 3) := by decide +kernel
theorem dX11_cowsNow_49 : decode cX11_cowsNow 49 = .ok (.goto (-32), 3) := by decide +kernel
theorem dX11_cowsNow_52 : decode cX11_cowsNow 52 = .ok (.iload 4, 2) := by decide +kernel
theorem dX11_cowsNow_54 : decode cX11_cowsNow 54 = .ok (.iconst 1, 1) := by decide +kernel
theorem dX11_cowsNow_55 : decode cX11_cowsNow 55 = .ok (.if_icmp .le 33, 3) := by decide +kernel
theorem dX11_cowsNow_58 : decode cX11_cowsNow 58 = .ok (.aload_n 0, 1) := by decide +kernel
theorem dX11_cowsNow_59 : decode cX11_cowsNow 59 = .ok (.iload 4, 2) := by decide +kernel
theorem dX11_cowsNow_61 : decode cX11_cowsNow 61 = .ok (.bipush 10, 2) := by decide +kernel
theorem dX11_cowsNow_63 : decode cX11_cowsNow 63 = .ok (.isub, 1) := by decide +kernel
theorem dX11_cowsNow_64 : decode cX11_cowsNow 64 = .ok (.invokevirtual 113, 3) := by decide +kernel
theorem dX11_cowsNow_67 : decode cX11_cowsNow 67 = .ok (.ifCond .eq 21, 3) := by decide +kernel
theorem dX11_cowsNow_70 : decode cX11_cowsNow 70 = .ok (.aload_n 0, 1) := by decide +kernel
theorem dX11_cowsNow_71 : decode cX11_cowsNow 71 = .ok (.getfield 19, 3) := by decide +kernel
theorem dX11_cowsNow_74 : decode cX11_cowsNow 74 = .ok (.bipush 8, 2) := by decide +kernel
theorem dX11_cowsNow_76 : decode cX11_cowsNow 76 = .ok (.iload 4, 2) := by decide +kernel
theorem dX11_cowsNow_78 : decode cX11_cowsNow 78 = .ok (.bipush 10, 2) := by decide +kernel
theorem dX11_cowsNow_80 : decode cX11_cowsNow 80 = .ok (.isub, 1) := by decide +kernel
theorem dX11_cowsNow_81 : decode cX11_cowsNow 81 = .ok (.imul, 1) := by decide +kernel
theorem dX11_cowsNow_82 : decode cX11_cowsNow 82 = .ok (.iload_n 1, 1) := by decide +kernel
theorem dX11_cowsNow_83 : decode cX11_cowsNow 83 = .ok (.iadd, 1) := by decide +kernel
theorem dX11_cowsNow_84 : decode cX11_cowsNow 84 = .ok (.iaload, 1) := by decide +kernel
theorem dX11_cowsNow_85 : decode cX11_cowsNow 85 = .ok (.goto 4, 3) := by decide +kernel
theorem dX11_cowsNow_88 : decode cX11_cowsNow 88 = .ok (.iconst (-1), 1) := by decide +kernel
theorem dX11_cowsNow_89 : decode cX11_cowsNow 89 = .ok (.istore 6, 2) := by decide +kernel
theorem dX11_cowsNow_91 : decode cX11_cowsNow 91 = .ok (.aload_n 0, 1) := by decide +kernel
theorem dX11_cowsNow_92 : decode cX11_cowsNow 92 = .ok (.iload_n 1, 1) := by decide +kernel
theorem dX11_cowsNow_93 : decode cX11_cowsNow 93 = .ok (.invokevirtual 238, 3) := by decide +kernel
theorem dX11_cowsNow_96 : decode cX11_cowsNow 96 = .ok (.iload 4, 2) := by decide +kernel
theorem dX11_cowsNow_98 : decode cX11_cowsNow 98 = .ok (.ifCond .ne 8, 3) := by decide +kernel
theorem dX11_cowsNow_101 : decode cX11_cowsNow 101 = .ok (.iload 5, 2) := by decide +kernel
theorem dX11_cowsNow_103 : decode cX11_cowsNow 103 = .ok (.goto 19, 3) := by decide +kernel
theorem dX11_cowsNow_106 : decode cX11_cowsNow 106 = .ok (.iload 4, 2) := by decide +kernel
theorem dX11_cowsNow_108 : decode cX11_cowsNow 108 = .ok (.iconst 1, 1) := by decide +kernel
theorem dX11_cowsNow_109 : decode cX11_cowsNow 109 = .ok (.if_icmp .ne 11, 3) := by decide +kernel
theorem dX11_cowsNow_112 : decode cX11_cowsNow 112 = .ok (.aload_n 0, 1) := by decide +kernel
theorem dX11_cowsNow_113 : decode cX11_cowsNow 113 = .ok (.getfield 249, 3) := by decide +kernel
theorem dX11_cowsNow_116 : decode cX11_cowsNow 116 = .ok (.l2i, 1) := by decide +kernel
theorem dX11_cowsNow_117 : decode cX11_cowsNow 117 = .ok (.goto 5, 3) := by decide +kernel
theorem dX11_cowsNow_120 : decode cX11_cowsNow 120 = .ok (.iload 6, 2) := by decide +kernel
theorem dX11_cowsNow_122 : decode cX11_cowsNow 122 = .ok (.ireturn, 1) := by decide +kernel
theorem dX11_cows_0 : decode cX11_cows 0 = .ok (.iload_n 1, 1) := by decide +kernel
theorem dX11_cows_1 : decode cX11_cows 1 = .ok (.invokestatic 119, 3) := by decide +kernel
theorem dX11_cows_4 : decode cX11_cows 4 = .ok (.ifCond .ne 6, 3) := by decide +kernel
theorem dX11_cows_7 : decode cX11_cows 7 = .ok (.bipush (-101), 2) := by decide +kernel
theorem dX11_cows_9 : decode cX11_cows 9 = .ok (.ireturn, 1) := by decide +kernel
theorem dX11_cows_10 : decode cX11_cows 10 = .ok (.iload_n 2, 1) := by decide +kernel
theorem dX11_cows_11 : decode cX11_cows 11 = .ok (.iconst 1, 1) := by decide +kernel
theorem dX11_cows_12 : decode cX11_cows 12 = .ok (.bipush 60, 2) := by decide +kernel
theorem dX11_cows_14 : decode cX11_cows 14 = .ok (.invokestatic 65, 3) := by decide +kernel
theorem dX11_cows_17 : decode cX11_cows 17 = .ok (.ifCond .eq 29, 3) := by decide +kernel
theorem dX11_cows_20 : decode cX11_cows 20 = .ok (.iload_n 3, 1) := by decide +kernel
theorem dX11_cows_21 : decode cX11_cows 21 = .ok (.ifCond .lt 25, 3) := by decide +kernel
theorem dX11_cows_24 : decode cX11_cows 24 = .ok (.iload 4, 2) := by decide +kernel
theorem dX11_cows_26 : decode cX11_cows 26 = .ok (.iconst 0, 1) := by decide +kernel
theorem dX11_cows_27 : decode cX11_cows 27 = .ok (.iconst 1, 1) := by decide +kernel
theorem dX11_cows_28 : decode cX11_cows 28 = .ok (.invokestatic 65, 3) := by decide +kernel
theorem dX11_cows_31 : decode cX11_cows 31 = .ok (.ifCond .ne 18, 3) := by decide +kernel
theorem dX11_cows_34 : decode cX11_cows 34 = .ok (.iload 4, 2) := by decide +kernel
theorem dX11_cows_36 : decode cX11_cows 36 = .ok (.bipush 10, 2) := by decide +kernel
theorem dX11_cows_38 : decode cX11_cows 38 = .ok (.bipush 17, 2) := by decide +kernel
theorem dX11_cows_40 : decode cX11_cows 40 = .ok (.invokestatic 65, 3) := by decide +kernel
theorem dX11_cows_43 : decode cX11_cows 43 = .ok (.ifCond .ne 6, 3) := by decide +kernel
theorem dX11_cows_46 : decode cX11_cows 46 = .ok (.bipush (-102), 2) := by decide +kernel
theorem dX11_cows_48 : decode cX11_cows 48 = .ok (.ireturn, 1) := by decide +kernel
theorem dX11_cows_49 : decode cX11_cows 49 = .ok (.aload_n 0, 1) := by decide +kernel
theorem dX11_cows_50 : decode cX11_cows 50 = .ok (.getfield 92, 3) := by decide +kernel
theorem dX11_cows_53 : decode cX11_cows 53 = .ok (.ifCond .ne 8, 3) := by decide +kernel
theorem dX11_cows_56 : decode cX11_cows 56 = .ok (.bipush (-103), 2) := by decide +kernel
theorem dX11_cows_58 : decode cX11_cows 58 = .ok (.goto 12, 3) := by decide +kernel
theorem dX11_cows_61 : decode cX11_cows 61 = .ok (.aload_n 0, 1) := by decide +kernel
theorem dX11_cows_62 : decode cX11_cows 62 = .ok (.iload_n 1, 1) := by decide +kernel
theorem dX11_cows_63 : decode cX11_cows 63 = .ok (.iload_n 2, 1) := by decide +kernel
theorem dX11_cows_64 : decode cX11_cows 64 = .ok (.iload_n 3, 1) := by decide +kernel
theorem dX11_cows_65 : decode cX11_cows 65 = .ok (.iload 4, 2) := by decide +kernel
theorem dX11_cows_67 : decode cX11_cows 67 = .ok (.invokevirtual 265, 3) := by decide +kernel
theorem dX11_cows_70 : decode cX11_cows 70 = .ok (.ireturn, 1) := by decide +kernel
theorem dX11_image_0 : decode cX11_image 0 = .ok (.aload_n 0, 1) := by decide +kernel
theorem dX11_image_1 : decode cX11_image 1 = .ok (.getfield 92, 3) := by decide +kernel
theorem dX11_image_4 : decode cX11_image 4 = .ok (.ifCond .ne 6, 3) := by decide +kernel
theorem dX11_image_7 : decode cX11_image 7 = .ok (.bipush (-103), 2) := by decide +kernel
theorem dX11_image_9 : decode cX11_image 9 = .ok (.ireturn, 1) := by decide +kernel
theorem dX11_image_10 : decode cX11_image 10 = .ok (.aload_n 0, 1) := by decide +kernel
theorem dX11_image_11 : decode cX11_image 11 = .ok (.iconst 1, 1) := by decide +kernel
theorem dX11_image_12 : decode cX11_image 12 = .ok (.putfield 269, 3) := by decide +kernel
theorem dX11_image_15 : decode cX11_image 15 = .ok (.aload_n 0, 1) := by decide +kernel
theorem dX11_image_16 : decode cX11_image 16 = .ok (.aload_n 0, 1) := by decide +kernel
theorem dX11_image_17 : decode cX11_image 17 = .ok (.getfield 98, 3) := by decide +kernel
theorem dX11_image_20 : decode cX11_image 20 = .ok (.putfield 272, 3) := by decide +kernel
theorem dX11_image_23 : decode cX11_image 23 = .ok (.aload_n 0, 1) := by decide +kernel
theorem dX11_image_24 : decode cX11_image 24 = .ok (.aload_n 0, 1) := by decide +kernel
theorem dX11_image_25 : decode cX11_image 25 = .ok (.getfield 95, 3) := by decide +kernel
theorem dX11_image_28 : decode cX11_image 28 = .ok (.putfield 275, 3) := by decide +kernel
theorem dX11_image_31 : decode cX11_image 31 = .ok (.iconst 0, 1) := by decide +kernel
theorem dX11_image_32 : decode cX11_image 32 = .ok (.istore_n 1, 1) := by decide +kernel
theorem dX11_image_33 : decode cX11_image 33 = .ok (.iload_n 1, 1) := by decide +kernel
theorem dX11_image_34 : decode cX11_image 34 = .ok (.bipush 64, 2) := by decide +kernel
theorem dX11_image_36 : decode cX11_image 36 = .ok (.if_icmp .ge 21, 3) := by decide +kernel
theorem dX11_image_39 : decode cX11_image 39 = .ok (.aload_n 0, 1) := by decide +kernel
theorem dX11_image_40 : decode cX11_image 40 = .ok (.getfield 47, 3) := by decide +kernel
theorem dX11_image_43 : decode cX11_image 43 = .ok (.iload_n 1, 1) := by decide +kernel
theorem dX11_image_44 : decode cX11_image 44 = .ok (.aload_n 0, 1) := by decide +kernel
theorem dX11_image_45 : decode cX11_image 45 = .ok (.getfield 19, 3) := by decide +kernel
theorem dX11_image_48 : decode cX11_image 48 = .ok (.iload_n 1, 1) := by decide +kernel
theorem dX11_image_49 : decode cX11_image 49 = .ok (.iaload, 1) := by decide +kernel
theorem dX11_image_50 : decode cX11_image 50 = .ok (.iastore, 1) := by decide +kernel
theorem dX11_image_51 : decode cX11_image 51 = .ok (.iinc 1 1, 3) := by decide +kernel
theorem dX11_image_54 : decode cX11_image 54 = .ok (.goto (-21), 3) := by decide +kernel
theorem dX11_image_57 : decode cX11_image 57 = .ok (.aload_n 0, 1) := by decide +kernel
theorem dX11_image_58 : decode cX11_image 58 = .ok (.getfield 95, 3) := by decide +kernel
theorem dX11_image_61 : decode cX11_image 61 = .ok (.ireturn, 1) := by decide +kernel
theorem dX11_restore_0 : decode cX11_restore 0 = .ok (.aload_n 0, 1) := by decide +kernel
theorem dX11_restore_1 : decode cX11_restore 1 = .ok (.getfield 269, 3) := by decide +kernel
theorem dX11_restore_4 : decode cX11_restore 4 = .ok (.ifCond .eq 14, 3) := by decide +kernel
theorem dX11_restore_7 : decode cX11_restore 7 = .ok (.aload_n 0, 1) := by decide +kernel
theorem dX11_restore_8 : decode cX11_restore 8 = .ok (.getfield 272, 3) := by decide +kernel
theorem dX11_restore_11 : decode cX11_restore 11 = .ok (.aload_n 0, 1) := by decide +kernel
theorem dX11_restore_12 : decode cX11_restore 12 = .ok (.getfield 98, 3) := by decide +kernel
theorem dX11_restore_15 : decode cX11_restore 15 = .ok (.if_icmp .eq 6, 3) := by decide +kernel
theorem dX11_restore_18 : decode cX11_restore 18 = .ok (.bipush (-103), 2) := by decide +kernel
theorem dX11_restore_20 : decode cX11_restore 20 = .ok (.ireturn, 1) := by decide +kernel
theorem dX11_restore_21 : decode cX11_restore 21 = .ok (.aload_n 0, 1) := by decide +kernel
theorem dX11_restore_22 : decode cX11_restore 22 = .ok (.aload_n 0, 1) := by decide +kernel
theorem dX11_restore_23 : decode cX11_restore 23 = .ok (.getfield 275, 3) := by decide +kernel
theorem dX11_restore_26 : decode cX11_restore 26 = .ok (.putfield 95, 3) := by decide +kernel
theorem dX11_restore_29 : decode cX11_restore 29 = .ok (.iconst 0, 1) := by decide +kernel
theorem dX11_restore_30 : decode cX11_restore 30 = .ok (.istore_n 1, 1) := by decide +kernel
theorem dX11_restore_31 : decode cX11_restore 31 = .ok (.iload_n 1, 1) := by decide +kernel
theorem dX11_restore_32 : decode cX11_restore 32 = .ok (.bipush 64, 2) := by decide +kernel
theorem dX11_restore_34 : decode cX11_restore 34 = .ok (.if_icmp .ge 21, 3) := by decide +kernel
theorem dX11_restore_37 : decode cX11_restore 37 = .ok (.aload_n 0, 1) := by decide +kernel
theorem dX11_restore_38 : decode cX11_restore 38 = .ok (.getfield 19, 3) := by decide +kernel
theorem dX11_restore_41 : decode cX11_restore 41 = .ok (.iload_n 1, 1) := by decide +kernel
theorem dX11_restore_42 : decode cX11_restore 42 = .ok (.aload_n 0, 1) := by decide +kernel
theorem dX11_restore_43 : decode cX11_restore 43 = .ok (.getfield 47, 3) := by decide +kernel
theorem dX11_restore_46 : decode cX11_restore 46 = .ok (.iload_n 1, 1) := by decide +kernel
theorem dX11_restore_47 : decode cX11_restore 47 = .ok (.iaload, 1) := by decide +kernel
theorem dX11_restore_48 : decode cX11_restore 48 = .ok (.iastore, 1) := by decide +kernel
theorem dX11_restore_49 : decode cX11_restore 49 = .ok (.iinc 1 1, 3) := by decide +kernel
theorem dX11_restore_52 : decode cX11_restore 52 = .ok (.goto (-21), 3) := by decide +kernel
theorem dX11_restore_55 : decode cX11_restore 55 = .ok (.aload_n 0, 1) := by decide +kernel
theorem dX11_restore_56 : decode cX11_restore 56 = .ok (.getfield 95, 3) := by decide +kernel
theorem dX11_restore_59 : decode cX11_restore 59 = .ok (.ireturn, 1) := by decide +kernel
theorem dX11_doorMany_0 : decode cX11_doorMany 0 = .ok (.iconst 0, 1) := by decide +kernel
theorem dX11_doorMany_1 : decode cX11_doorMany 1 = .ok (.istore_n 1, 1) := by decide +kernel
theorem dX11_doorMany_2 : decode cX11_doorMany 2 = .ok (.iconst 0, 1) := by decide +kernel
theorem dX11_doorMany_3 : decode cX11_doorMany 3 = .ok (.istore_n 2, 1) := by decide +kernel
theorem dX11_doorMany_4 : decode cX11_doorMany 4 = .ok (.iload_n 2, 1) := by decide +kernel
theorem dX11_doorMany_5 : decode cX11_doorMany 5 = .ok (.aload_n 0, 1) := by decide +kernel
theorem dX11_doorMany_6 : decode cX11_doorMany 6 = .ok (.getfield 92, 3) := by decide +kernel
theorem dX11_doorMany_9 : decode cX11_doorMany 9 = .ok (.if_icmp .ge 26, 3) := by decide +kernel
theorem dX11_doorMany_12 : decode cX11_doorMany 12 = .ok (.iload_n 1, 1) := by decide +kernel
theorem dX11_doorMany_13 : decode cX11_doorMany 13 = .ok (.aload_n 0, 1) := by decide +kernel
theorem dX11_doorMany_14 : decode cX11_doorMany 14 = .ok (.getfield 7, 3) := by decide +kernel
theorem dX11_doorMany_17 : decode cX11_doorMany 17 = .ok (.iload_n 2, 1) := by decide +kernel
theorem dX11_doorMany_18 : decode cX11_doorMany 18 = .ok (.iaload, 1) := by decide +kernel
theorem dX11_doorMany_19 : decode cX11_doorMany 19 = .ok (.ifCond .le 7, 3) := by decide +kernel
theorem dX11_doorMany_22 : decode cX11_doorMany 22 = .ok (.iconst 1, 1) := by decide +kernel
theorem dX11_doorMany_23 : decode cX11_doorMany 23 = .ok (.goto 4, 3) := by decide +kernel
theorem dX11_doorMany_26 : decode cX11_doorMany 26 = .ok (.iconst 0, 1) := by decide +kernel
theorem dX11_doorMany_27 : decode cX11_doorMany 27 = .ok (.iadd, 1) := by decide +kernel
theorem dX11_doorMany_28 : decode cX11_doorMany 28 = .ok (.istore_n 1, 1) := by decide +kernel
theorem dX11_doorMany_29 : decode cX11_doorMany 29 = .ok (.iinc 2 1, 3) := by decide +kernel
theorem dX11_doorMany_32 : decode cX11_doorMany 32 = .ok (.goto (-28), 3) := by decide +kernel
theorem dX11_doorMany_35 : decode cX11_doorMany 35 = .ok (.iload_n 1, 1) := by decide +kernel
theorem dX11_doorMany_36 : decode cX11_doorMany 36 = .ok (.ireturn, 1) := by decide +kernel
theorem dX11_howMany_0 : decode cX11_howMany 0 = .ok (.iload_n 1, 1) := by decide +kernel
theorem dX11_howMany_1 : decode cX11_howMany 1 = .ok (.tableswitch 87 0 7 #[47, 52, 57, 62, 67, 72, 77, 82], 47) := by decide +kernel
theorem dX11_howMany_48 : decode cX11_howMany 48 = .ok (.aload_n 0, 1) := by decide +kernel
theorem dX11_howMany_49 : decode cX11_howMany 49 = .ok (.getfield 92, 3) := by decide +kernel
theorem dX11_howMany_52 : decode cX11_howMany 52 = .ok (.ireturn, 1) := by decide +kernel
theorem dX11_howMany_53 : decode cX11_howMany 53 = .ok (.aload_n 0, 1) := by decide +kernel
theorem dX11_howMany_54 : decode cX11_howMany 54 = .ok (.invokevirtual 278, 3) := by decide +kernel
theorem dX11_howMany_57 : decode cX11_howMany 57 = .ok (.ireturn, 1) := by decide +kernel
theorem dX11_howMany_58 : decode cX11_howMany 58 = .ok (.aload_n 0, 1) := by decide +kernel
theorem dX11_howMany_59 : decode cX11_howMany 59 = .ok (.getfield 95, 3) := by decide +kernel
theorem dX11_howMany_62 : decode cX11_howMany 62 = .ok (.ireturn, 1) := by decide +kernel
theorem dX11_howMany_63 : decode cX11_howMany 63 = .ok (.aload_n 0, 1) := by decide +kernel
theorem dX11_howMany_64 : decode cX11_howMany 64 = .ok (.invokevirtual 158, 3) := by decide +kernel
theorem dX11_howMany_67 : decode cX11_howMany 67 = .ok (.ireturn, 1) := by decide +kernel
theorem dX11_howMany_68 : decode cX11_howMany 68 = .ok (.aload_n 0, 1) := by decide +kernel
theorem dX11_howMany_69 : decode cX11_howMany 69 = .ok (.getfield 52, 3) := by decide +kernel
theorem dX11_howMany_72 : decode cX11_howMany 72 = .ok (.ireturn, 1) := by decide +kernel
theorem dX11_howMany_73 : decode cX11_howMany 73 = .ok (.aload_n 0, 1) := by decide +kernel
theorem dX11_howMany_74 : decode cX11_howMany 74 = .ok (.getfield 98, 3) := by decide +kernel
theorem dX11_howMany_77 : decode cX11_howMany 77 = .ok (.ireturn, 1) := by decide +kernel
theorem dX11_howMany_78 : decode cX11_howMany 78 = .ok (.aload_n 0, 1) := by decide +kernel
theorem dX11_howMany_79 : decode cX11_howMany 79 = .ok (.getfield 173, 3) := by decide +kernel
theorem dX11_howMany_82 : decode cX11_howMany 82 = .ok (.ireturn, 1) := by decide +kernel
theorem dX11_howMany_83 : decode cX11_howMany 83 = .ok (.aload_n 0, 1) := by decide +kernel
theorem dX11_howMany_84 : decode cX11_howMany 84 = .ok (.getfield 212, 3) := by decide +kernel
theorem dX11_howMany_87 : decode cX11_howMany 87 = .ok (.ireturn, 1) := by decide +kernel
theorem dX11_howMany_88 : decode cX11_howMany 88 = .ok (.bipush (-102), 2) := by decide +kernel
theorem dX11_howMany_90 : decode cX11_howMany 90 = .ok (.ireturn, 1) := by decide +kernel
theorem dX11_count_0 : decode cX11_count 0 = .ok (.aload_n 0, 1) := by decide +kernel
theorem dX11_count_1 : decode cX11_count 1 = .ok (.iload_n 1, 1) := by decide +kernel
theorem dX11_count_2 : decode cX11_count 2 = .ok (.invokevirtual 281, 3) := by decide +kernel
theorem dX11_count_5 : decode cX11_count 5 = .ok (.ireturn, 1) := by decide +kernel
theorem dX11_mix_0 : decode cX11_mix 0 = .ok (.aload_n 0, 1) := by decide +kernel
theorem dX11_mix_1 : decode cX11_mix 1 = .ok (.ldc2_w 284, 3) := by decide +kernel
theorem dX11_mix_4 : decode cX11_mix 4 = .ok (.aload_n 0, 1) := by decide +kernel
theorem dX11_mix_5 : decode cX11_mix 5 = .ok (.getfield 286, 3) := by decide +kernel
theorem dX11_mix_8 : decode cX11_mix 8 = .ok (.lmul, 1) := by decide +kernel
theorem dX11_mix_9 : decode cX11_mix 9 = .ok (.lload_n 1, 1) := by decide +kernel
theorem dX11_mix_10 : decode cX11_mix 10 = .ok (.ladd, 1) := by decide +kernel
theorem dX11_mix_11 : decode cX11_mix 11 = .ok (.putfield 286, 3) := by decide +kernel
theorem dX11_mix_14 : decode cX11_mix 14 = .ok (.return_, 1) := by decide +kernel
theorem dX11_mixThing_0 : decode cX11_mixThing 0 = .ok (.aload_n 0, 1) := by decide +kernel
theorem dX11_mixThing_1 : decode cX11_mixThing 1 = .ok (.aload_n 0, 1) := by decide +kernel
theorem dX11_mixThing_2 : decode cX11_mixThing 2 = .ok (.getfield 13, 3) := by decide +kernel
theorem dX11_mixThing_5 : decode cX11_mixThing 5 = .ok (.iload_n 1, 1) := by decide +kernel
theorem dX11_mixThing_6 : decode cX11_mixThing 6 = .ok (.iaload, 1) := by decide +kernel
theorem dX11_mixThing_7 : decode cX11_mixThing 7 = .ok (.i2l, 1) := by decide +kernel
theorem dX11_mixThing_8 : decode cX11_mixThing 8 = .ok (.invokevirtual 289, 3) := by decide +kernel
theorem dX11_mixThing_11 : decode cX11_mixThing 11 = .ok (.aload_n 0, 1) := by decide +kernel
theorem dX11_mixThing_12 : decode cX11_mixThing 12 = .ok (.aload_n 0, 1) := by decide +kernel
theorem dX11_mixThing_13 : decode cX11_mixThing 13 = .ok (.getfield 16, 3) := by decide +kernel
theorem dX11_mixThing_16 : decode cX11_mixThing 16 = .ok (.iload_n 1, 1) := by decide +kernel
theorem dX11_mixThing_17 : decode cX11_mixThing 17 = .ok (.iaload, 1) := by decide +kernel
theorem dX11_mixThing_18 : decode cX11_mixThing 18 = .ok (.i2l, 1) := by decide +kernel
theorem dX11_mixThing_19 : decode cX11_mixThing 19 = .ok (.invokevirtual 289, 3) := by decide +kernel
theorem dX11_mixThing_22 : decode cX11_mixThing 22 = .ok (.aload_n 0, 1) := by decide +kernel
theorem dX11_mixThing_23 : decode cX11_mixThing 23 = .ok (.aload_n 0, 1) := by decide +kernel
theorem dX11_mixThing_24 : decode cX11_mixThing 24 = .ok (.iload_n 1, 1) := by decide +kernel
theorem dX11_mixThing_25 : decode cX11_mixThing 25 = .ok (.invokevirtual 116, 3) := by decide +kernel
theorem dX11_mixThing_28 : decode cX11_mixThing 28 = .ok (.i2l, 1) := by decide +kernel
theorem dX11_mixThing_29 : decode cX11_mixThing 29 = .ok (.invokevirtual 289, 3) := by decide +kernel
theorem dX11_mixThing_32 : decode cX11_mixThing 32 = .ok (.iconst 0, 1) := by decide +kernel
theorem dX11_mixThing_33 : decode cX11_mixThing 33 = .ok (.istore_n 2, 1) := by decide +kernel
theorem dX11_mixThing_34 : decode cX11_mixThing 34 = .ok (.iload_n 2, 1) := by decide +kernel
theorem dX11_mixThing_35 : decode cX11_mixThing 35 = .ok (.bipush 8, 2) := by decide +kernel
theorem dX11_mixThing_37 : decode cX11_mixThing 37 = .ok (.if_icmp .ge 25, 3) := by decide +kernel
theorem dX11_mixThing_40 : decode cX11_mixThing 40 = .ok (.aload_n 0, 1) := by decide +kernel
theorem dX11_mixThing_41 : decode cX11_mixThing 41 = .ok (.aload_n 0, 1) := by decide +kernel
theorem dX11_mixThing_42 : decode cX11_mixThing 42 = .ok (.getfield 19, 3) := by decide +kernel
theorem dX11_mixThing_45 : decode cX11_mixThing 45 = .ok (.bipush 8, 2) := by decide +kernel
theorem dX11_mixThing_47 : decode cX11_mixThing 47 = .ok (.iload_n 1, 1) := by decide +kernel
theorem dX11_mixThing_48 : decode cX11_mixThing 48 = .ok (.imul, 1) := by decide +kernel
theorem dX11_mixThing_49 : decode cX11_mixThing 49 = .ok (.iload_n 2, 1) := by decide +kernel
theorem dX11_mixThing_50 : decode cX11_mixThing 50 = .ok (.iadd, 1) := by decide +kernel
theorem dX11_mixThing_51 : decode cX11_mixThing 51 = .ok (.iaload, 1) := by decide +kernel
theorem dX11_mixThing_52 : decode cX11_mixThing 52 = .ok (.i2l, 1) := by decide +kernel
theorem dX11_mixThing_53 : decode cX11_mixThing 53 = .ok (.invokevirtual 289, 3) := by decide +kernel
theorem dX11_mixThing_56 : decode cX11_mixThing 56 = .ok (.iinc 2 1, 3) := by decide +kernel
theorem dX11_mixThing_59 : decode cX11_mixThing 59 = .ok (.goto (-25), 3) := by decide +kernel
theorem dX11_mixThing_62 : decode cX11_mixThing 62 = .ok (.return_, 1) := by decide +kernel
theorem dX11_digest_0 : decode cX11_digest 0 = .ok (.aload_n 0, 1) := by decide +kernel
theorem dX11_digest_1 : decode cX11_digest 1 = .ok (.ldc2_w 293, 3) := by decide +kernel
theorem dX11_digest_4 : decode cX11_digest 4 = .ok (.putfield 286, 3) := by decide +kernel
theorem dX11_digest_7 : decode cX11_digest 7 = .ok (.iconst 0, 1) := by decide +kernel
theorem dX11_digest_8 : decode cX11_digest 8 = .ok (.istore_n 1, 1) := by decide +kernel
theorem dX11_digest_9 : decode cX11_digest 9 = .ok (.iload_n 1, 1) := by decide +kernel
theorem dX11_digest_10 : decode cX11_digest 10 = .ok (.aload_n 0, 1) := by decide +kernel
theorem dX11_digest_11 : decode cX11_digest 11 = .ok (.getfield 92, 3) := by decide +kernel
theorem dX11_digest_14 : decode cX11_digest 14 = .ok (.if_icmp .ge 20, 3) := by decide +kernel
theorem dX11_digest_17 : decode cX11_digest 17 = .ok (.aload_n 0, 1) := by decide +kernel
theorem dX11_digest_18 : decode cX11_digest 18 = .ok (.aload_n 0, 1) := by decide +kernel
theorem dX11_digest_19 : decode cX11_digest 19 = .ok (.getfield 7, 3) := by decide +kernel
theorem dX11_digest_22 : decode cX11_digest 22 = .ok (.iload_n 1, 1) := by decide +kernel
theorem dX11_digest_23 : decode cX11_digest 23 = .ok (.iaload, 1) := by decide +kernel
theorem dX11_digest_24 : decode cX11_digest 24 = .ok (.i2l, 1) := by decide +kernel
theorem dX11_digest_25 : decode cX11_digest 25 = .ok (.invokevirtual 289, 3) := by decide +kernel
theorem dX11_digest_28 : decode cX11_digest 28 = .ok (.iinc 1 1, 3) := by decide +kernel
theorem dX11_digest_31 : decode cX11_digest 31 = .ok (.goto (-22), 3) := by decide +kernel
theorem dX11_digest_34 : decode cX11_digest 34 = .ok (.iconst 0, 1) := by decide +kernel
theorem dX11_digest_35 : decode cX11_digest 35 = .ok (.istore_n 1, 1) := by decide +kernel
theorem dX11_digest_36 : decode cX11_digest 36 = .ok (.iload_n 1, 1) := by decide +kernel
theorem dX11_digest_37 : decode cX11_digest 37 = .ok (.aload_n 0, 1) := by decide +kernel
theorem dX11_digest_38 : decode cX11_digest 38 = .ok (.getfield 95, 3) := by decide +kernel
theorem dX11_digest_41 : decode cX11_digest 41 = .ok (.if_icmp .ge 14, 3) := by decide +kernel
theorem dX11_digest_44 : decode cX11_digest 44 = .ok (.aload_n 0, 1) := by decide +kernel
theorem dX11_digest_45 : decode cX11_digest 45 = .ok (.iload_n 1, 1) := by decide +kernel
theorem dX11_digest_46 : decode cX11_digest 46 = .ok (.invokevirtual 295, 3) := by decide +kernel
theorem dX11_digest_49 : decode cX11_digest 49 = .ok (.iinc 1 1, 3) := by decide +kernel
theorem dX11_digest_52 : decode cX11_digest 52 = .ok (.goto (-16), 3) := by decide +kernel
theorem dX11_digest_55 : decode cX11_digest 55 = .ok (.iconst 0, 1) := by decide +kernel
theorem dX11_digest_56 : decode cX11_digest 56 = .ok (.istore_n 1, 1) := by decide +kernel
theorem dX11_digest_57 : decode cX11_digest 57 = .ok (.iload_n 1, 1) := by decide +kernel
theorem dX11_digest_58 : decode cX11_digest 58 = .ok (.bipush 8, 2) := by decide +kernel
theorem dX11_digest_60 : decode cX11_digest 60 = .ok (.if_icmp .ge 41, 3) := by decide +kernel
theorem dX11_digest_63 : decode cX11_digest 63 = .ok (.aload_n 0, 1) := by decide +kernel
theorem dX11_digest_64 : decode cX11_digest 64 = .ok (.aload_n 0, 1) := by decide +kernel
theorem dX11_digest_65 : decode cX11_digest 65 = .ok (.iload_n 1, 1) := by decide +kernel
theorem dX11_digest_66 : decode cX11_digest 66 = .ok (.iconst 0, 1) := by decide +kernel
theorem dX11_digest_67 : decode cX11_digest 67 = .ok (.invokevirtual 138, 3) := by decide +kernel
theorem dX11_digest_70 : decode cX11_digest 70 = .ok (.i2l, 1) := by decide +kernel
theorem dX11_digest_71 : decode cX11_digest 71 = .ok (.invokevirtual 289, 3) := by decide +kernel
theorem dX11_digest_74 : decode cX11_digest 74 = .ok (.aload_n 0, 1) := by decide +kernel
theorem dX11_digest_75 : decode cX11_digest 75 = .ok (.aload_n 0, 1) := by decide +kernel
theorem dX11_digest_76 : decode cX11_digest 76 = .ok (.iload_n 1, 1) := by decide +kernel
theorem dX11_digest_77 : decode cX11_digest 77 = .ok (.iconst 1, 1) := by decide +kernel
theorem dX11_digest_78 : decode cX11_digest 78 = .ok (.invokevirtual 138, 3) := by decide +kernel
theorem dX11_digest_81 : decode cX11_digest 81 = .ok (.i2l, 1) := by decide +kernel
theorem dX11_digest_82 : decode cX11_digest 82 = .ok (.invokevirtual 289, 3) := by decide +kernel
theorem dX11_digest_85 : decode cX11_digest 85 = .ok (.aload_n 0, 1) := by decide +kernel
theorem dX11_digest_86 : decode cX11_digest 86 = .ok (.aload_n 0, 1) := by decide +kernel
theorem dX11_digest_87 : decode cX11_digest 87 = .ok (.iload_n 1, 1) := by decide +kernel
theorem dX11_digest_88 : decode cX11_digest 88 = .ok (.invokevirtual 143, 3) := by decide +kernel
theorem dX11_digest_91 : decode cX11_digest 91 = .ok (.i2l, 1) := by decide +kernel
theorem dX11_digest_92 : decode cX11_digest 92 = .ok (.invokevirtual 289, 3) := by decide +kernel
theorem dX11_digest_95 : decode cX11_digest 95 = .ok (.iinc 1 1, 3) := by decide +kernel
theorem dX11_digest_98 : decode cX11_digest 98 = .ok (.goto (-41), 3) := by decide +kernel
theorem dX11_digest_101 : decode cX11_digest 101 = .ok (.aload_n 0, 1) := by decide +kernel
theorem dX11_digest_102 : decode cX11_digest 102 = .ok (.getfield 92, 3) := by decide +kernel
theorem dX11_digest_105 : decode cX11_digest 105 = .ok (.ifCond .le 64, 3) := by decide +kernel
theorem dX11_digest_108 : decode cX11_digest 108 = .ok (.aload_n 0, 1) := by decide +kernel
theorem dX11_digest_109 : decode cX11_digest 109 = .ok (.aload_n 0, 1) := by decide +kernel
theorem dX11_digest_110 : decode cX11_digest 110 = .ok (.bipush 10, 2) := by decide +kernel
theorem dX11_digest_112 : decode cX11_digest 112 = .ok (.invokevirtual 221, 3) := by decide +kernel
theorem dX11_digest_115 : decode cX11_digest 115 = .ok (.i2l, 1) := by decide +kernel
theorem dX11_digest_116 : decode cX11_digest 116 = .ok (.invokevirtual 289, 3) := by decide +kernel
theorem dX11_digest_119 : decode cX11_digest 119 = .ok (.aload_n 0, 1) := by decide +kernel
theorem dX11_digest_120 : decode cX11_digest 120 = .ok (.aload_n 0, 1) := by decide +kernel
theorem dX11_digest_121 : decode cX11_digest 121 = .ok (.invokevirtual 244, 3) := by decide +kernel
theorem dX11_digest_124 : decode cX11_digest 124 = .ok (.i2l, 1) := by decide +kernel
theorem dX11_digest_125 : decode cX11_digest 125 = .ok (.invokevirtual 289, 3) := by decide +kernel
theorem dX11_digest_128 : decode cX11_digest 128 = .ok (.aload_n 0, 1) := by decide +kernel
theorem dX11_digest_129 : decode cX11_digest 129 = .ok (.iconst 4, 1) := by decide +kernel
theorem dX11_digest_130 : decode cX11_digest 130 = .ok (.invokevirtual 143, 3) := by decide +kernel
theorem dX11_digest_133 : decode cX11_digest 133 = .ok (.istore_n 1, 1) := by decide +kernel
theorem dX11_digest_134 : decode cX11_digest 134 = .ok (.iconst 0, 1) := by decide +kernel
theorem dX11_digest_135 : decode cX11_digest 135 = .ok (.istore_n 2, 1) := by decide +kernel
theorem dX11_digest_136 : decode cX11_digest 136 = .ok (.iload_n 2, 1) := by decide +kernel
theorem dX11_digest_137 : decode cX11_digest 137 = .ok (.iconst 3, 1) := by decide +kernel
theorem dX11_digest_138 : decode cX11_digest 138 = .ok (.if_icmp .ge 21, 3) := by decide +kernel
theorem dX11_digest_141 : decode cX11_digest 141 = .ok (.aload_n 0, 1) := by decide +kernel
theorem dX11_digest_142 : decode cX11_digest 142 = .ok (.aload_n 0, 1) := by decide +kernel
theorem dX11_digest_143 : decode cX11_digest 143 = .ok (.iconst 4, 1) := by decide +kernel
theorem dX11_digest_144 : decode cX11_digest 144 = .ok (.iload_n 1, 1) := by decide +kernel
theorem dX11_digest_145 : decode cX11_digest 145 = .ok (.iload_n 2, 1) := by decide +kernel
theorem dX11_digest_146 : decode cX11_digest 146 = .ok (.invokevirtual 228, 3) := by decide +kernel
theorem dX11_digest_149 : decode cX11_digest 149 = .ok (.i2l, 1) := by decide +kernel
theorem dX11_digest_150 : decode cX11_digest 150 = .ok (.invokevirtual 289, 3) := by decide +kernel
theorem dX11_digest_153 : decode cX11_digest 153 = .ok (.iinc 2 1, 3) := by decide +kernel
theorem dX11_digest_156 : decode cX11_digest 156 = .ok (.goto (-20), 3) := by decide +kernel
theorem dX11_digest_159 : decode cX11_digest 159 = .ok (.aload_n 0, 1) := by decide +kernel
theorem dX11_digest_160 : decode cX11_digest 160 = .ok (.aload_n 0, 1) := by decide +kernel
theorem dX11_digest_161 : decode cX11_digest 161 = .ok (.iconst 4, 1) := by decide +kernel
theorem dX11_digest_162 : decode cX11_digest 162 = .ok (.invokevirtual 241, 3) := by decide +kernel
theorem dX11_digest_165 : decode cX11_digest 165 = .ok (.i2l, 1) := by decide +kernel
theorem dX11_digest_166 : decode cX11_digest 166 = .ok (.invokevirtual 289, 3) := by decide +kernel
theorem dX11_digest_169 : decode cX11_digest 169 = .ok (.iconst 0, 1) := by decide +kernel
theorem dX11_digest_170 : decode cX11_digest 170 = .ok (.istore_n 1, 1) := by decide +kernel
theorem dX11_digest_171 : decode cX11_digest 171 = .ok (.iload_n 1, 1) := by decide +kernel
theorem dX11_digest_172 : decode cX11_digest 172 = .ok (.aload_n 0, 1) := by decide +kernel
theorem dX11_digest_173 : decode cX11_digest 173 = .ok (.getfield 52, 3) := by decide +kernel
theorem dX11_digest_176 : decode cX11_digest 176 = .ok (.if_icmp .ge 20, 3) := by decide +kernel
theorem dX11_digest_179 : decode cX11_digest 179 = .ok (.aload_n 0, 1) := by decide +kernel
theorem dX11_digest_180 : decode cX11_digest 180 = .ok (.aload_n 0, 1) := by decide +kernel
theorem dX11_digest_181 : decode cX11_digest 181 = .ok (.getfield 22, 3) := by decide +kernel
theorem dX11_digest_184 : decode cX11_digest 184 = .ok (.iload_n 1, 1) := by decide +kernel
theorem dX11_digest_185 : decode cX11_digest 185 = .ok (.baload, 1) := by decide +kernel
theorem dX11_digest_186 : decode cX11_digest 186 = .ok (.i2l, 1) := by decide +kernel
theorem dX11_digest_187 : decode cX11_digest 187 = .ok (.invokevirtual 289, 3) := by decide +kernel
theorem dX11_digest_190 : decode cX11_digest 190 = .ok (.iinc 1 1, 3) := by decide +kernel
theorem dX11_digest_193 : decode cX11_digest 193 = .ok (.goto (-22), 3) := by decide +kernel
theorem dX11_digest_196 : decode cX11_digest 196 = .ok (.iconst 0, 1) := by decide +kernel
theorem dX11_digest_197 : decode cX11_digest 197 = .ok (.istore_n 1, 1) := by decide +kernel
theorem dX11_digest_198 : decode cX11_digest 198 = .ok (.iload_n 1, 1) := by decide +kernel
theorem dX11_digest_199 : decode cX11_digest 199 = .ok (.bipush 8, 2) := by decide +kernel
theorem dX11_digest_201 : decode cX11_digest 201 = .ok (.if_icmp .ge 19, 3) := by decide +kernel
theorem dX11_digest_204 : decode cX11_digest 204 = .ok (.aload_n 0, 1) := by decide +kernel
theorem dX11_digest_205 : decode cX11_digest 205 = .ok (.aload_n 0, 1) := by decide +kernel
theorem dX11_digest_206 : decode cX11_digest 206 = .ok (.iload_n 1, 1) := by decide +kernel
theorem dX11_digest_207 : decode cX11_digest 207 = .ok (.invokevirtual 281, 3) := by decide +kernel
theorem dX11_digest_210 : decode cX11_digest 210 = .ok (.i2l, 1) := by decide +kernel
theorem dX11_digest_211 : decode cX11_digest 211 = .ok (.invokevirtual 289, 3) := by decide +kernel
theorem dX11_digest_214 : decode cX11_digest 214 = .ok (.iinc 1 1, 3) := by decide +kernel
theorem dX11_digest_217 : decode cX11_digest 217 = .ok (.goto (-19), 3) := by decide +kernel
theorem dX11_digest_220 : decode cX11_digest 220 = .ok (.aload_n 0, 1) := by decide +kernel
theorem dX11_digest_221 : decode cX11_digest 221 = .ok (.getfield 286, 3) := by decide +kernel
theorem dX11_digest_224 : decode cX11_digest 224 = .ok (.lreturn, 1) := by decide +kernel
end
section
theorem dX10_init_0 : decode cX10_init 0 = .ok (.aload_n 0, 1) := by decide +kernel
theorem dX10_init_1 : decode cX10_init 1 = .ok (.invokespecial 1, 3) := by decide +kernel
theorem dX10_init_4 : decode cX10_init 4 = .ok (.aload_n 0, 1) := by decide +kernel
theorem dX10_init_5 : decode cX10_init 5 = .ok (.new 7, 3) := by decide +kernel
theorem dX10_init_8 : decode cX10_init 8 = .ok (.dup, 1) := by decide +kernel
theorem dX10_init_9 : decode cX10_init 9 = .ok (.invokespecial 9, 3) := by decide +kernel
theorem dX10_init_12 : decode cX10_init 12 = .ok (.putfield 10, 3) := by decide +kernel
theorem dX10_init_15 : decode cX10_init 15 = .ok (.aload_n 0, 1) := by decide +kernel
theorem dX10_init_16 : decode cX10_init 16 = .ok (.new 16, 3) := by decide +kernel
theorem dX10_init_19 : decode cX10_init 19 = .ok (.dup, 1) := by decide +kernel
theorem dX10_init_20 : decode cX10_init 20 = .ok (.invokespecial 18, 3) := by decide +kernel
theorem dX10_init_23 : decode cX10_init 23 = .ok (.putfield 19, 3) := by decide +kernel
theorem dX10_init_26 : decode cX10_init 26 = .ok (.aload_n 0, 1) := by decide +kernel
theorem dX10_init_27 : decode cX10_init 27 = .ok (.new 23, 3) := by decide +kernel
theorem dX10_init_30 : decode cX10_init 30 = .ok (.dup, 1) := by decide +kernel
theorem dX10_init_31 : decode cX10_init 31 = .ok (.invokespecial 25, 3) := by decide +kernel
theorem dX10_init_34 : decode cX10_init 34 = .ok (.putfield 26, 3) := by decide +kernel
theorem dX10_init_37 : decode cX10_init 37 = .ok (.aload_n 0, 1) := by decide +kernel
theorem dX10_init_38 : decode cX10_init 38 = .ok (.new 30, 3) := by decide +kernel
theorem dX10_init_41 : decode cX10_init 41 = .ok (.dup, 1) := by decide +kernel
theorem dX10_init_42 : decode cX10_init 42 = .ok (.invokespecial 32, 3) := by decide +kernel
theorem dX10_init_45 : decode cX10_init 45 = .ok (.putfield 33, 3) := by decide +kernel
theorem dX10_init_48 : decode cX10_init 48 = .ok (.aload_n 0, 1) := by decide +kernel
theorem dX10_init_49 : decode cX10_init 49 = .ok (.new 37, 3) := by decide +kernel
theorem dX10_init_52 : decode cX10_init 52 = .ok (.dup, 1) := by decide +kernel
theorem dX10_init_53 : decode cX10_init 53 = .ok (.aload_n 0, 1) := by decide +kernel
theorem dX10_init_54 : decode cX10_init 54 = .ok (.getfield 26, 3) := by decide +kernel
theorem dX10_init_57 : decode cX10_init 57 = .ok (.aload_n 0, 1) := by decide +kernel
theorem dX10_init_58 : decode cX10_init 58 = .ok (.getfield 33, 3) := by decide +kernel
theorem dX10_init_61 : decode cX10_init 61 = .ok (.invokespecial 39, 3) := by decide +kernel
theorem dX10_init_64 : decode cX10_init 64 = .ok (.putfield 42, 3) := by decide +kernel
theorem dX10_init_67 : decode cX10_init 67 = .ok (.aload_n 0, 1) := by decide +kernel
theorem dX10_init_68 : decode cX10_init 68 = .ok (.new 46, 3) := by decide +kernel
theorem dX10_init_71 : decode cX10_init 71 = .ok (.dup, 1) := by decide +kernel
theorem dX10_init_72 : decode cX10_init 72 = .ok (.aload_n 0, 1) := by decide +kernel
theorem dX10_init_73 : decode cX10_init 73 = .ok (.getfield 10, 3) := by decide +kernel
theorem dX10_init_76 : decode cX10_init 76 = .ok (.aload_n 0, 1) := by decide +kernel
theorem dX10_init_77 : decode cX10_init 77 = .ok (.getfield 26, 3) := by decide +kernel
theorem dX10_init_80 : decode cX10_init 80 = .ok (.aload_n 0, 1) := by decide +kernel
theorem dX10_init_81 : decode cX10_init 81 = .ok (.getfield 42, 3) := by decide +kernel
theorem dX10_init_84 : decode cX10_init 84 = .ok (.invokespecial 48, 3) := by decide +kernel
theorem dX10_init_87 : decode cX10_init 87 = .ok (.putfield 51, 3) := by decide +kernel
theorem dX10_init_90 : decode cX10_init 90 = .ok (.aload_n 0, 1) := by decide +kernel
theorem dX10_init_91 : decode cX10_init 91 = .ok (.new 55, 3) := by decide +kernel
theorem dX10_init_94 : decode cX10_init 94 = .ok (.dup, 1) := by decide +kernel
theorem dX10_init_95 : decode cX10_init 95 = .ok (.aload_n 0, 1) := by decide +kernel
theorem dX10_init_96 : decode cX10_init 96 = .ok (.getfield 26, 3) := by decide +kernel
theorem dX10_init_99 : decode cX10_init 99 = .ok (.aload_n 0, 1) := by decide +kernel
theorem dX10_init_100 : decode cX10_init 100 = .ok (.getfield 33, 3) := by decide +kernel
theorem dX10_init_103 : decode cX10_init 103 = .ok (.aload_n 0, 1) := by decide +kernel
theorem dX10_init_104 : decode cX10_init 104 = .ok (.getfield 42, 3) := by decide +kernel
theorem dX10_init_107 : decode cX10_init 107 = .ok (.invokespecial 57, 3) := by decide +kernel
theorem dX10_init_110 : decode cX10_init 110 = .ok (.putfield 60, 3) := by decide +kernel
theorem dX10_init_113 : decode cX10_init 113 = .ok (.aload_n 0, 1) := by decide +kernel
theorem dX10_init_114 : decode cX10_init 114 = .ok (.new 64, 3) := by decide +kernel
theorem dX10_init_117 : decode cX10_init 117 = .ok (.dup, 1) := by decide +kernel
theorem dX10_init_118 : decode cX10_init 118 = .ok (.aload_n 0, 1) := by decide +kernel
theorem dX10_init_119 : decode cX10_init 119 = .ok (.getfield 26, 3) := by decide +kernel
theorem dX10_init_122 : decode cX10_init 122 = .ok (.aload_n 0, 1) := by decide +kernel
theorem dX10_init_123 : decode cX10_init 123 = .ok (.getfield 33, 3) := by decide +kernel
theorem dX10_init_126 : decode cX10_init 126 = .ok (.aload_n 0, 1) := by decide +kernel
theorem dX10_init_127 : decode cX10_init 127 = .ok (.getfield 42, 3) := by decide +kernel
theorem dX10_init_130 : decode cX10_init 130 = .ok (.invokespecial 66, 3) := by decide +kernel
theorem dX10_init_133 : decode cX10_init 133 = .ok (.putfield 67, 3) := by decide +kernel
theorem dX10_init_136 : decode cX10_init 136 = .ok (.aload_n 0, 1) := by decide +kernel
theorem dX10_init_137 : decode cX10_init 137 = .ok (.new 71, 3) := by decide +kernel
theorem dX10_init_140 : decode cX10_init 140 = .ok (.dup, 1) := by decide +kernel
theorem dX10_init_141 : decode cX10_init 141 = .ok (.aload_n 0, 1) := by decide +kernel
theorem dX10_init_142 : decode cX10_init 142 = .ok (.getfield 26, 3) := by decide +kernel
theorem dX10_init_145 : decode cX10_init 145 = .ok (.aload_n 0, 1) := by decide +kernel
theorem dX10_init_146 : decode cX10_init 146 = .ok (.getfield 33, 3) := by decide +kernel
theorem dX10_init_149 : decode cX10_init 149 = .ok (.aload_n 0, 1) := by decide +kernel
theorem dX10_init_150 : decode cX10_init 150 = .ok (.getfield 42, 3) := by decide +kernel
theorem dX10_init_153 : decode cX10_init 153 = .ok (.invokespecial 73, 3) := by decide +kernel
theorem dX10_init_156 : decode cX10_init 156 = .ok (.putfield 74, 3) := by decide +kernel
theorem dX10_init_159 : decode cX10_init 159 = .ok (.aload_n 0, 1) := by decide +kernel
theorem dX10_init_160 : decode cX10_init 160 = .ok (.new 78, 3) := by decide +kernel
theorem dX10_init_163 : decode cX10_init 163 = .ok (.dup, 1) := by decide +kernel
theorem dX10_init_164 : decode cX10_init 164 = .ok (.aload_n 0, 1) := by decide +kernel
theorem dX10_init_165 : decode cX10_init 165 = .ok (.getfield 26, 3) := by decide +kernel
theorem dX10_init_168 : decode cX10_init 168 = .ok (.aload_n 0, 1) := by decide +kernel
theorem dX10_init_169 : decode cX10_init 169 = .ok (.getfield 33, 3) := by decide +kernel
theorem dX10_init_172 : decode cX10_init 172 = .ok (.invokespecial 80, 3) := by decide +kernel
theorem dX10_init_175 : decode cX10_init 175 = .ok (.putfield 81, 3) := by decide +kernel
theorem dX10_init_178 : decode cX10_init 178 = .ok (.return_, 1) := by decide +kernel
theorem dX10_letters_0 : decode cX10_letters 0 = .ok (.aload_n 0, 1) := by decide +kernel
theorem dX10_letters_1 : decode cX10_letters 1 = .ok (.getfield 10, 3) := by decide +kernel
theorem dX10_letters_4 : decode cX10_letters 4 = .ok (.lload_n 1, 1) := by decide +kernel
theorem dX10_letters_5 : decode cX10_letters 5 = .ok (.invokevirtual 85, 3) := by decide +kernel
theorem dX10_letters_8 : decode cX10_letters 8 = .ok (.ireturn, 1) := by decide +kernel
theorem dX10_blank_0 : decode cX10_blank 0 = .ok (.aload_n 0, 1) := by decide +kernel
theorem dX10_blank_1 : decode cX10_blank 1 = .ok (.getfield 10, 3) := by decide +kernel
theorem dX10_blank_4 : decode cX10_blank 4 = .ok (.invokevirtual 89, 3) := by decide +kernel
theorem dX10_blank_7 : decode cX10_blank 7 = .ok (.istore_n 1, 1) := by decide +kernel
theorem dX10_blank_8 : decode cX10_blank 8 = .ok (.aload_n 0, 1) := by decide +kernel
theorem dX10_blank_9 : decode cX10_blank 9 = .ok (.getfield 10, 3) := by decide +kernel
theorem dX10_blank_12 : decode cX10_blank 12 = .ok (.invokevirtual 93, 3) := by decide +kernel
theorem dX10_blank_15 : decode cX10_blank 15 = .ok (.iload_n 1, 1) := by decide +kernel
theorem dX10_blank_16 : decode cX10_blank 16 = .ok (.ireturn, 1) := by decide +kernel
theorem dX10_fault_0 : decode cX10_fault 0 = .ok (.iload_n 1, 1) := by decide +kernel
theorem dX10_fault_1 : decode cX10_fault 1 = .ok (.ifCond .ne 15, 3) := by decide +kernel
theorem dX10_fault_4 : decode cX10_fault 4 = .ok (.aload_n 0, 1) := by decide +kernel
theorem dX10_fault_5 : decode cX10_fault 5 = .ok (.getfield 19, 3) := by decide +kernel
theorem dX10_fault_8 : decode cX10_fault 8 = .ok (.aload_n 0, 1) := by decide +kernel
theorem dX10_fault_9 : decode cX10_fault 9 = .ok (.getfield 10, 3) := by decide +kernel
theorem dX10_fault_12 : decode cX10_fault 12 = .ok (.invokevirtual 96, 3) := by decide +kernel
theorem dX10_fault_15 : decode cX10_fault 15 = .ok (.ireturn, 1) := by decide +kernel
theorem dX10_fault_16 : decode cX10_fault 16 = .ok (.iload_n 1, 1) := by decide +kernel
theorem dX10_fault_17 : decode cX10_fault 17 = .ok (.iconst 1, 1) := by decide +kernel
theorem dX10_fault_18 : decode cX10_fault 18 = .ok (.if_icmp .ne 13, 3) := by decide +kernel
theorem dX10_fault_21 : decode cX10_fault 21 = .ok (.aload_n 0, 1) := by decide +kernel
theorem dX10_fault_22 : decode cX10_fault 22 = .ok (.getfield 10, 3) := by decide +kernel
theorem dX10_fault_25 : decode cX10_fault 25 = .ok (.invokevirtual 100, 3) := by decide +kernel
theorem dX10_fault_28 : decode cX10_fault 28 = .ok (.goto 5, 3) := by decide +kernel
theorem dX10_fault_31 : decode cX10_fault 31 = .ok (.bipush (-102), 2) := by decide +kernel
theorem dX10_fault_33 : decode cX10_fault 33 = .ok (.ireturn, 1) := by decide +kernel
theorem dX10_plan_0 : decode cX10_plan 0 = .ok (.aload_n 0, 1) := by decide +kernel
theorem dX10_plan_1 : decode cX10_plan 1 = .ok (.getfield 19, 3) := by decide +kernel
theorem dX10_plan_4 : decode cX10_plan 4 = .ok (.aload_n 0, 1) := by decide +kernel
theorem dX10_plan_5 : decode cX10_plan 5 = .ok (.getfield 10, 3) := by decide +kernel
theorem dX10_plan_8 : decode cX10_plan 8 = .ok (.invokevirtual 103, 3) := by decide +kernel
theorem dX10_plan_11 : decode cX10_plan 11 = .ok (.ifCond .ne 6, 3) := by decide +kernel
theorem dX10_plan_14 : decode cX10_plan 14 = .ok (.bipush (-103), 2) := by decide +kernel
theorem dX10_plan_16 : decode cX10_plan 16 = .ok (.ireturn, 1) := by decide +kernel
theorem dX10_plan_17 : decode cX10_plan 17 = .ok (.aload_n 0, 1) := by decide +kernel
theorem dX10_plan_18 : decode cX10_plan 18 = .ok (.getfield 26, 3) := by decide +kernel
theorem dX10_plan_21 : decode cX10_plan 21 = .ok (.aload_n 0, 1) := by decide +kernel
theorem dX10_plan_22 : decode cX10_plan 22 = .ok (.getfield 10, 3) := by decide +kernel
theorem dX10_plan_25 : decode cX10_plan 25 = .ok (.aload_n 0, 1) := by decide +kernel
theorem dX10_plan_26 : decode cX10_plan 26 = .ok (.getfield 19, 3) := by decide +kernel
theorem dX10_plan_29 : decode cX10_plan 29 = .ok (.invokevirtual 107, 3) := by decide +kernel
theorem dX10_plan_32 : decode cX10_plan 32 = .ok (.aload_n 0, 1) := by decide +kernel
theorem dX10_plan_33 : decode cX10_plan 33 = .ok (.getfield 19, 3) := by decide +kernel
theorem dX10_plan_36 : decode cX10_plan 36 = .ok (.invokevirtual 110, 3) := by decide +kernel
theorem dX10_plan_39 : decode cX10_plan 39 = .ok (.invokevirtual 113, 3) := by decide +kernel
theorem dX10_plan_42 : decode cX10_plan 42 = .ok (.aload_n 0, 1) := by decide +kernel
theorem dX10_plan_43 : decode cX10_plan 43 = .ok (.getfield 33, 3) := by decide +kernel
theorem dX10_plan_46 : decode cX10_plan 46 = .ok (.invokevirtual 117, 3) := by decide +kernel
theorem dX10_plan_49 : decode cX10_plan 49 = .ok (.aload_n 0, 1) := by decide +kernel
theorem dX10_plan_50 : decode cX10_plan 50 = .ok (.getfield 10, 3) := by decide +kernel
theorem dX10_plan_53 : decode cX10_plan 53 = .ok (.invokevirtual 93, 3) := by decide +kernel
theorem dX10_plan_56 : decode cX10_plan 56 = .ok (.aload_n 0, 1) := by decide +kernel
theorem dX10_plan_57 : decode cX10_plan 57 = .ok (.dup, 1) := by decide +kernel
theorem dX10_plan_58 : decode cX10_plan 58 = .ok (.getfield 118, 3) := by decide +kernel
theorem dX10_plan_61 : decode cX10_plan 61 = .ok (.iconst 1, 1) := by decide +kernel
theorem dX10_plan_62 : decode cX10_plan 62 = .ok (.iadd, 1) := by decide +kernel
theorem dX10_plan_63 : decode cX10_plan 63 = .ok (.putfield 118, 3) := by decide +kernel
theorem dX10_plan_66 : decode cX10_plan 66 = .ok (.aload_n 0, 1) := by decide +kernel
theorem dX10_plan_67 : decode cX10_plan 67 = .ok (.getfield 26, 3) := by decide +kernel
theorem dX10_plan_70 : decode cX10_plan 70 = .ok (.invokevirtual 122, 3) := by decide +kernel
theorem dX10_plan_73 : decode cX10_plan 73 = .ok (.ireturn, 1) := by decide +kernel
theorem dX10_square_0 : decode cX10_square 0 = .ok (.aload_n 0, 1) := by decide +kernel
theorem dX10_square_1 : decode cX10_square 1 = .ok (.getfield 26, 3) := by decide +kernel
theorem dX10_square_4 : decode cX10_square 4 = .ok (.iload_n 1, 1) := by decide +kernel
theorem dX10_square_5 : decode cX10_square 5 = .ok (.invokevirtual 125, 3) := by decide +kernel
theorem dX10_square_8 : decode cX10_square 8 = .ok (.ifCond .ne 6, 3) := by decide +kernel
theorem dX10_square_11 : decode cX10_square 11 = .ok (.ldc 129, 2) := by decide +kernel
theorem dX10_square_13 : decode cX10_square 13 = .ok (.ireturn, 1) := by decide +kernel
theorem dX10_square_14 : decode cX10_square 14 = .ok (.iload_n 2, 1) := by decide +kernel
theorem dX10_square_15 : decode cX10_square 15 = .ok (.tableswitch 52 0 2 #[25, 34, 43], 25) := by decide +kernel
theorem dX10_square_40 : decode cX10_square 40 = .ok (.aload_n 0, 1) := by decide +kernel
theorem dX10_square_41 : decode cX10_square 41 = .ok (.getfield 26, 3) := by decide +kernel
theorem dX10_square_44 : decode cX10_square 44 = .ok (.iload_n 1, 1) := by decide +kernel
theorem dX10_square_45 : decode cX10_square 45 = .ok (.invokevirtual 130, 3) := by decide +kernel
theorem dX10_square_48 : decode cX10_square 48 = .ok (.ireturn, 1) := by decide +kernel
theorem dX10_square_49 : decode cX10_square 49 = .ok (.aload_n 0, 1) := by decide +kernel
theorem dX10_square_50 : decode cX10_square 50 = .ok (.getfield 26, 3) := by decide +kernel
theorem dX10_square_53 : decode cX10_square 53 = .ok (.iload_n 1, 1) := by decide +kernel
theorem dX10_square_54 : decode cX10_square 54 = .ok (.invokevirtual 134, 3) := by decide +kernel
theorem dX10_square_57 : decode cX10_square 57 = .ok (.ireturn, 1) := by decide +kernel
theorem dX10_square_58 : decode cX10_square 58 = .ok (.aload_n 0, 1) := by decide +kernel
theorem dX10_square_59 : decode cX10_square 59 = .ok (.getfield 26, 3) := by decide +kernel
theorem dX10_square_62 : decode cX10_square 62 = .ok (.iload_n 1, 1) := by decide +kernel
theorem dX10_square_63 : decode cX10_square 63 = .ok (.invokevirtual 137, 3) := by decide +kernel
theorem dX10_square_66 : decode cX10_square 66 = .ok (.ireturn, 1) := by decide +kernel
theorem dX10_square_67 : decode cX10_square 67 = .ok (.ldc 140, 2) := by decide +kernel
theorem dX10_square_69 : decode cX10_square 69 = .ok (.ireturn, 1) := by decide +kernel
theorem dX10_thing_0 : decode cX10_thing 0 = .ok (.iload_n 1, 1) := by decide +kernel
theorem dX10_thing_1 : decode cX10_thing 1 = .ok (.invokestatic 141, 3) := by decide +kernel
theorem dX10_thing_4 : decode cX10_thing 4 = .ok (.ifCond .eq 10, 3) := by decide +kernel
theorem dX10_thing_7 : decode cX10_thing 7 = .ok (.iload_n 2, 1) := by decide +kernel
theorem dX10_thing_8 : decode cX10_thing 8 = .ok (.invokestatic 144, 3) := by decide +kernel
theorem dX10_thing_11 : decode cX10_thing 11 = .ok (.ifCond .ne 6, 3) := by decide +kernel
theorem dX10_thing_14 : decode cX10_thing 14 = .ok (.bipush (-102), 2) := by decide +kernel
theorem dX10_thing_16 : decode cX10_thing 16 = .ok (.ireturn, 1) := by decide +kernel
theorem dX10_thing_17 : decode cX10_thing 17 = .ok (.aload_n 0, 1) := by decide +kernel
theorem dX10_thing_18 : decode cX10_thing 18 = .ok (.getfield 26, 3) := by decide +kernel
theorem dX10_thing_21 : decode cX10_thing 21 = .ok (.iload_n 3, 1) := by decide +kernel
theorem dX10_thing_22 : decode cX10_thing 22 = .ok (.invokevirtual 125, 3) := by decide +kernel
theorem dX10_thing_25 : decode cX10_thing 25 = .ok (.ifCond .ne 6, 3) := by decide +kernel
theorem dX10_thing_28 : decode cX10_thing 28 = .ok (.bipush (-101), 2) := by decide +kernel
theorem dX10_thing_30 : decode cX10_thing 30 = .ok (.ireturn, 1) := by decide +kernel
theorem dX10_thing_31 : decode cX10_thing 31 = .ok (.aload_n 0, 1) := by decide +kernel
theorem dX10_thing_32 : decode cX10_thing 32 = .ok (.getfield 33, 3) := by decide +kernel
theorem dX10_thing_35 : decode cX10_thing 35 = .ok (.iload_n 1, 1) := by decide +kernel
theorem dX10_thing_36 : decode cX10_thing 36 = .ok (.iload_n 2, 1) := by decide +kernel
theorem dX10_thing_37 : decode cX10_thing 37 = .ok (.iload_n 3, 1) := by decide +kernel
theorem dX10_thing_38 : decode cX10_thing 38 = .ok (.invokevirtual 147, 3) := by decide +kernel
theorem dX10_thing_41 : decode cX10_thing 41 = .ok (.ireturn, 1) := by decide +kernel
theorem dX10_about_0 : decode cX10_about 0 = .ok (.aload_n 0, 1) := by decide +kernel
theorem dX10_about_1 : decode cX10_about 1 = .ok (.getfield 33, 3) := by decide +kernel
theorem dX10_about_4 : decode cX10_about 4 = .ok (.iload_n 1, 1) := by decide +kernel
theorem dX10_about_5 : decode cX10_about 5 = .ok (.invokevirtual 150, 3) := by decide +kernel
theorem dX10_about_8 : decode cX10_about 8 = .ok (.ifCond .ne 6, 3) := by decide +kernel
theorem dX10_about_11 : decode cX10_about 11 = .ok (.bipush (-101), 2) := by decide +kernel
theorem dX10_about_13 : decode cX10_about 13 = .ok (.ireturn, 1) := by decide +kernel
theorem dX10_about_14 : decode cX10_about 14 = .ok (.iload_n 2, 1) := by decide +kernel
theorem dX10_about_15 : decode cX10_about 15 = .ok (.invokestatic 151, 3) := by decide +kernel
theorem dX10_about_18 : decode cX10_about 18 = .ok (.ifCond .eq 16, 3) := by decide +kernel
theorem dX10_about_21 : decode cX10_about 21 = .ok (.aload_n 0, 1) := by decide +kernel
theorem dX10_about_22 : decode cX10_about 22 = .ok (.getfield 33, 3) := by decide +kernel
theorem dX10_about_25 : decode cX10_about 25 = .ok (.iload_n 1, 1) := by decide +kernel
theorem dX10_about_26 : decode cX10_about 26 = .ok (.iload_n 2, 1) := by decide +kernel
theorem dX10_about_27 : decode cX10_about 27 = .ok (.bipush 10, 2) := by decide +kernel
theorem dX10_about_29 : decode cX10_about 29 = .ok (.isub, 1) := by decide +kernel
theorem dX10_about_30 : decode cX10_about 30 = .ok (.invokevirtual 154, 3) := by decide +kernel
theorem dX10_about_33 : decode cX10_about 33 = .ok (.ireturn, 1) := by decide +kernel
theorem dX10_about_34 : decode cX10_about 34 = .ok (.iload_n 2, 1) := by decide +kernel
theorem dX10_about_35 : decode cX10_about 35 = .ok (.tableswitch 52 0 2 #[25, 34, 43], 25) := by decide +kernel
theorem dX10_about_60 : decode cX10_about 60 = .ok (.aload_n 0, 1) := by decide +kernel
theorem dX10_about_61 : decode cX10_about 61 = .ok (.getfield 33, 3) := by decide +kernel
theorem dX10_about_64 : decode cX10_about 64 = .ok (.iload_n 1, 1) := by decide +kernel
theorem dX10_about_65 : decode cX10_about 65 = .ok (.invokevirtual 158, 3) := by decide +kernel
theorem dX10_about_68 : decode cX10_about 68 = .ok (.ireturn, 1) := by decide +kernel
theorem dX10_about_69 : decode cX10_about 69 = .ok (.aload_n 0, 1) := by decide +kernel
theorem dX10_about_70 : decode cX10_about 70 = .ok (.getfield 33, 3) := by decide +kernel
theorem dX10_about_73 : decode cX10_about 73 = .ok (.iload_n 1, 1) := by decide +kernel
theorem dX10_about_74 : decode cX10_about 74 = .ok (.invokevirtual 161, 3) := by decide +kernel
theorem dX10_about_77 : decode cX10_about 77 = .ok (.ireturn, 1) := by decide +kernel
theorem dX10_about_78 : decode cX10_about 78 = .ok (.aload_n 0, 1) := by decide +kernel
theorem dX10_about_79 : decode cX10_about 79 = .ok (.getfield 33, 3) := by decide +kernel
theorem dX10_about_82 : decode cX10_about 82 = .ok (.iload_n 1, 1) := by decide +kernel
theorem dX10_about_83 : decode cX10_about 83 = .ok (.invokevirtual 164, 3) := by decide +kernel
theorem dX10_about_86 : decode cX10_about 86 = .ok (.ireturn, 1) := by decide +kernel
theorem dX10_about_87 : decode cX10_about 87 = .ok (.bipush (-102), 2) := by decide +kernel
theorem dX10_about_89 : decode cX10_about 89 = .ok (.ireturn, 1) := by decide +kernel
theorem dX10_as_0 : decode cX10_as 0 = .ok (.aload_n 0, 1) := by decide +kernel
theorem dX10_as_1 : decode cX10_as 1 = .ok (.getfield 33, 3) := by decide +kernel
theorem dX10_as_4 : decode cX10_as 4 = .ok (.iload_n 1, 1) := by decide +kernel
theorem dX10_as_5 : decode cX10_as 5 = .ok (.invokevirtual 150, 3) := by decide +kernel
theorem dX10_as_8 : decode cX10_as 8 = .ok (.ifCond .ne 6, 3) := by decide +kernel
theorem dX10_as_11 : decode cX10_as 11 = .ok (.bipush (-101), 2) := by decide +kernel
theorem dX10_as_13 : decode cX10_as 13 = .ok (.ireturn, 1) := by decide +kernel
theorem dX10_as_14 : decode cX10_as 14 = .ok (.iload_n 2, 1) := by decide +kernel
theorem dX10_as_15 : decode cX10_as 15 = .ok (.invokestatic 141, 3) := by decide +kernel
theorem dX10_as_18 : decode cX10_as 18 = .ok (.ifCond .ne 6, 3) := by decide +kernel
theorem dX10_as_21 : decode cX10_as 21 = .ok (.bipush (-102), 2) := by decide +kernel
theorem dX10_as_23 : decode cX10_as 23 = .ok (.ireturn, 1) := by decide +kernel
theorem dX10_as_24 : decode cX10_as 24 = .ok (.aload_n 0, 1) := by decide +kernel
theorem dX10_as_25 : decode cX10_as 25 = .ok (.getfield 33, 3) := by decide +kernel
theorem dX10_as_28 : decode cX10_as 28 = .ok (.iload_n 1, 1) := by decide +kernel
theorem dX10_as_29 : decode cX10_as 29 = .ok (.iload_n 2, 1) := by decide +kernel
theorem dX10_as_30 : decode cX10_as 30 = .ok (.invokevirtual 167, 3) := by decide +kernel
theorem dX10_as_33 : decode cX10_as 33 = .ok (.ifCond .eq 7, 3) := by decide +kernel
theorem dX10_as_36 : decode cX10_as 36 = .ok (.iload_n 1, 1) := by decide +kernel
theorem dX10_as_37 : decode cX10_as 37 = .ok (.goto 4, 3) := by decide +kernel
theorem dX10_as_40 : decode cX10_as 40 = .ok (.iconst (-1), 1) := by decide +kernel
theorem dX10_as_41 : decode cX10_as 41 = .ok (.ireturn, 1) := by decide +kernel
theorem dX10_stand_0 : decode cX10_stand 0 = .ok (.aload_n 0, 1) := by decide +kernel
theorem dX10_stand_1 : decode cX10_stand 1 = .ok (.getfield 33, 3) := by decide +kernel
theorem dX10_stand_4 : decode cX10_stand 4 = .ok (.iload_n 1, 1) := by decide +kernel
theorem dX10_stand_5 : decode cX10_stand 5 = .ok (.invokevirtual 150, 3) := by decide +kernel
theorem dX10_stand_8 : decode cX10_stand 8 = .ok (.ifCond .eq 21, 3) := by decide +kernel
theorem dX10_stand_11 : decode cX10_stand 11 = .ok (.iload_n 2, 1) := by decide +kernel
theorem dX10_stand_12 : decode cX10_stand 12 = .ok (.invokestatic 171, 3) := by decide +kernel
theorem dX10_stand_15 : decode cX10_stand 15 = .ok (.ifCond .eq 14, 3) := by decide +kernel
theorem dX10_stand_18 : decode cX10_stand 18 = .ok (.aload_n 0, 1) := by decide +kernel
theorem dX10_stand_19 : decode cX10_stand 19 = .ok (.getfield 26, 3) := by decide +kernel
theorem dX10_stand_22 : decode cX10_stand 22 = .ok (.iload_n 3, 1) := by decide +kernel
theorem dX10_stand_23 : decode cX10_stand 23 = .ok (.invokevirtual 125, 3) := by decide +kernel
theorem dX10_stand_26 : decode cX10_stand 26 = .ok (.ifCond .ne 6, 3) := by decide +kernel
theorem dX10_stand_29 : decode cX10_stand 29 = .ok (.bipush (-101), 2) := by decide +kernel
theorem dX10_stand_31 : decode cX10_stand 31 = .ok (.ireturn, 1) := by decide +kernel
theorem dX10_stand_32 : decode cX10_stand 32 = .ok (.aload_n 0, 1) := by decide +kernel
theorem dX10_stand_33 : decode cX10_stand 33 = .ok (.getfield 33, 3) := by decide +kernel
theorem dX10_stand_36 : decode cX10_stand 36 = .ok (.iload_n 1, 1) := by decide +kernel
theorem dX10_stand_37 : decode cX10_stand 37 = .ok (.iconst 3, 1) := by decide +kernel
theorem dX10_stand_38 : decode cX10_stand 38 = .ok (.invokevirtual 167, 3) := by decide +kernel
theorem dX10_stand_41 : decode cX10_stand 41 = .ok (.ifCond .ne 6, 3) := by decide +kernel
theorem dX10_stand_44 : decode cX10_stand 44 = .ok (.bipush (-103), 2) := by decide +kernel
theorem dX10_stand_46 : decode cX10_stand 46 = .ok (.ireturn, 1) := by decide +kernel
theorem dX10_stand_47 : decode cX10_stand 47 = .ok (.aload_n 0, 1) := by decide +kernel
theorem dX10_stand_48 : decode cX10_stand 48 = .ok (.getfield 33, 3) := by decide +kernel
theorem dX10_stand_51 : decode cX10_stand 51 = .ok (.iload_n 1, 1) := by decide +kernel
theorem dX10_stand_52 : decode cX10_stand 52 = .ok (.iload_n 2, 1) := by decide +kernel
theorem dX10_stand_53 : decode cX10_stand 53 = .ok (.invokevirtual 154, 3) := by decide +kernel
theorem dX10_stand_56 : decode cX10_stand 56 = .ok (.istore 4, 2) := by decide +kernel
theorem dX10_stand_58 : decode cX10_stand 58 = .ok (.aload_n 0, 1) := by decide +kernel
theorem dX10_stand_59 : decode cX10_stand 59 = .ok (.getfield 33, 3) := by decide +kernel
theorem dX10_stand_62 : decode cX10_stand 62 = .ok (.iload_n 1, 1) := by decide +kernel
theorem dX10_stand_63 : decode cX10_stand 63 = .ok (.iload_n 2, 1) := by decide +kernel
theorem dX10_stand_64 : decode cX10_stand 64 = .ok (.iload_n 3, 1) := by decide +kernel
theorem dX10_stand_65 : decode cX10_stand 65 = .ok (.invokevirtual 174, 3) := by decide +kernel
theorem dX10_stand_68 : decode cX10_stand 68 = .ok (.iload 4, 2) := by decide +kernel
theorem dX10_stand_70 : decode cX10_stand 70 = .ok (.ireturn, 1) := by decide +kernel
theorem dX10_put_0 : decode cX10_put 0 = .ok (.aload_n 0, 1) := by decide +kernel
theorem dX10_put_1 : decode cX10_put 1 = .ok (.getfield 33, 3) := by decide +kernel
theorem dX10_put_4 : decode cX10_put 4 = .ok (.iload_n 1, 1) := by decide +kernel
theorem dX10_put_5 : decode cX10_put 5 = .ok (.invokevirtual 150, 3) := by decide +kernel
theorem dX10_put_8 : decode cX10_put 8 = .ok (.ifCond .eq 14, 3) := by decide +kernel
theorem dX10_put_11 : decode cX10_put 11 = .ok (.aload_n 0, 1) := by decide +kernel
theorem dX10_put_12 : decode cX10_put 12 = .ok (.getfield 26, 3) := by decide +kernel
theorem dX10_put_15 : decode cX10_put 15 = .ok (.iload_n 2, 1) := by decide +kernel
theorem dX10_put_16 : decode cX10_put 16 = .ok (.invokevirtual 125, 3) := by decide +kernel
theorem dX10_put_19 : decode cX10_put 19 = .ok (.ifCond .ne 6, 3) := by decide +kernel
theorem dX10_put_22 : decode cX10_put 22 = .ok (.bipush (-101), 2) := by decide +kernel
theorem dX10_put_24 : decode cX10_put 24 = .ok (.ireturn, 1) := by decide +kernel
theorem dX10_put_25 : decode cX10_put 25 = .ok (.aload_n 0, 1) := by decide +kernel
theorem dX10_put_26 : decode cX10_put 26 = .ok (.getfield 33, 3) := by decide +kernel
theorem dX10_put_29 : decode cX10_put 29 = .ok (.iload_n 1, 1) := by decide +kernel
theorem dX10_put_30 : decode cX10_put 30 = .ok (.iconst 3, 1) := by decide +kernel
theorem dX10_put_31 : decode cX10_put 31 = .ok (.invokevirtual 167, 3) := by decide +kernel
theorem dX10_put_34 : decode cX10_put 34 = .ok (.ifCond .eq 6, 3) := by decide +kernel
theorem dX10_put_37 : decode cX10_put 37 = .ok (.bipush (-103), 2) := by decide +kernel
theorem dX10_put_39 : decode cX10_put 39 = .ok (.ireturn, 1) := by decide +kernel
theorem dX10_put_40 : decode cX10_put 40 = .ok (.aload_n 0, 1) := by decide +kernel
theorem dX10_put_41 : decode cX10_put 41 = .ok (.getfield 33, 3) := by decide +kernel
theorem dX10_put_44 : decode cX10_put 44 = .ok (.iload_n 1, 1) := by decide +kernel
theorem dX10_put_45 : decode cX10_put 45 = .ok (.iconst 0, 1) := by decide +kernel
theorem dX10_put_46 : decode cX10_put 46 = .ok (.invokevirtual 154, 3) := by decide +kernel
theorem dX10_put_49 : decode cX10_put 49 = .ok (.istore_n 3, 1) := by decide +kernel
theorem dX10_put_50 : decode cX10_put 50 = .ok (.aload_n 0, 1) := by decide +kernel
theorem dX10_put_51 : decode cX10_put 51 = .ok (.getfield 33, 3) := by decide +kernel
theorem dX10_put_54 : decode cX10_put 54 = .ok (.iload_n 1, 1) := by decide +kernel
theorem dX10_put_55 : decode cX10_put 55 = .ok (.iload_n 2, 1) := by decide +kernel
theorem dX10_put_56 : decode cX10_put 56 = .ok (.invokevirtual 178, 3) := by decide +kernel
theorem dX10_put_59 : decode cX10_put 59 = .ok (.iload_n 3, 1) := by decide +kernel
theorem dX10_put_60 : decode cX10_put 60 = .ok (.ireturn, 1) := by decide +kernel
theorem dX10_trade_0 : decode cX10_trade 0 = .ok (.aload_n 0, 1) := by decide +kernel
theorem dX10_trade_1 : decode cX10_trade 1 = .ok (.getfield 33, 3) := by decide +kernel
theorem dX10_trade_4 : decode cX10_trade 4 = .ok (.iload_n 1, 1) := by decide +kernel
theorem dX10_trade_5 : decode cX10_trade 5 = .ok (.invokevirtual 150, 3) := by decide +kernel
theorem dX10_trade_8 : decode cX10_trade 8 = .ok (.ifCond .eq 21, 3) := by decide +kernel
theorem dX10_trade_11 : decode cX10_trade 11 = .ok (.aload_n 0, 1) := by decide +kernel
theorem dX10_trade_12 : decode cX10_trade 12 = .ok (.getfield 33, 3) := by decide +kernel
theorem dX10_trade_15 : decode cX10_trade 15 = .ok (.iload_n 2, 1) := by decide +kernel
theorem dX10_trade_16 : decode cX10_trade 16 = .ok (.invokevirtual 150, 3) := by decide +kernel
theorem dX10_trade_19 : decode cX10_trade 19 = .ok (.ifCond .eq 10, 3) := by decide +kernel
theorem dX10_trade_22 : decode cX10_trade 22 = .ok (.iload_n 3, 1) := by decide +kernel
theorem dX10_trade_23 : decode cX10_trade 23 = .ok (.invokestatic 171, 3) := by decide +kernel
theorem dX10_trade_26 : decode cX10_trade 26 = .ok (.ifCond .ne 6, 3) := by decide +kernel
theorem dX10_trade_29 : decode cX10_trade 29 = .ok (.bipush (-101), 2) := by decide +kernel
theorem dX10_trade_31 : decode cX10_trade 31 = .ok (.ireturn, 1) := by decide +kernel
theorem dX10_trade_32 : decode cX10_trade 32 = .ok (.aload_n 0, 1) := by decide +kernel
theorem dX10_trade_33 : decode cX10_trade 33 = .ok (.getfield 33, 3) := by decide +kernel
theorem dX10_trade_36 : decode cX10_trade 36 = .ok (.iload_n 1, 1) := by decide +kernel
theorem dX10_trade_37 : decode cX10_trade 37 = .ok (.iconst 3, 1) := by decide +kernel
theorem dX10_trade_38 : decode cX10_trade 38 = .ok (.invokevirtual 167, 3) := by decide +kernel
theorem dX10_trade_41 : decode cX10_trade 41 = .ok (.ifCond .eq 15, 3) := by decide +kernel
theorem dX10_trade_44 : decode cX10_trade 44 = .ok (.aload_n 0, 1) := by decide +kernel
theorem dX10_trade_45 : decode cX10_trade 45 = .ok (.getfield 33, 3) := by decide +kernel
theorem dX10_trade_48 : decode cX10_trade 48 = .ok (.iload_n 2, 1) := by decide +kernel
theorem dX10_trade_49 : decode cX10_trade 49 = .ok (.iconst 3, 1) := by decide +kernel
theorem dX10_trade_50 : decode cX10_trade 50 = .ok (.invokevirtual 167, 3) := by decide +kernel
theorem dX10_trade_53 : decode cX10_trade 53 = .ok (.ifCond .ne 6, 3) := by decide +kernel
theorem dX10_trade_56 : decode cX10_trade 56 = .ok (.bipush (-103), 2) := by decide +kernel
theorem dX10_trade_58 : decode cX10_trade 58 = .ok (.ireturn, 1) := by decide +kernel
theorem dX10_trade_59 : decode cX10_trade 59 = .ok (.aload_n 0, 1) := by decide +kernel
theorem dX10_trade_60 : decode cX10_trade 60 = .ok (.getfield 33, 3) := by decide +kernel
theorem dX10_trade_63 : decode cX10_trade 63 = .ok (.iload_n 1, 1) := by decide +kernel
theorem dX10_trade_64 : decode cX10_trade 64 = .ok (.iload_n 3, 1) := by decide +kernel
theorem dX10_trade_65 : decode cX10_trade 65 = .ok (.invokevirtual 154, 3) := by decide +kernel
theorem dX10_trade_68 : decode cX10_trade 68 = .ok (.istore 4, 2) := by decide +kernel
theorem dX10_trade_70 : decode cX10_trade 70 = .ok (.aload_n 0, 1) := by decide +kernel
theorem dX10_trade_71 : decode cX10_trade 71 = .ok (.getfield 33, 3) := by decide +kernel
theorem dX10_trade_74 : decode cX10_trade 74 = .ok (.iload_n 2, 1) := by decide +kernel
theorem dX10_trade_75 : decode cX10_trade 75 = .ok (.iload_n 3, 1) := by decide +kernel
theorem dX10_trade_76 : decode cX10_trade 76 = .ok (.invokevirtual 154, 3) := by decide +kernel
theorem dX10_trade_79 : decode cX10_trade 79 = .ok (.istore 5, 2) := by decide +kernel
theorem dX10_trade_81 : decode cX10_trade 81 = .ok (.aload_n 0, 1) := by decide +kernel
theorem dX10_trade_82 : decode cX10_trade 82 = .ok (.getfield 33, 3) := by decide +kernel
theorem dX10_trade_85 : decode cX10_trade 85 = .ok (.iload_n 1, 1) := by decide +kernel
theorem dX10_trade_86 : decode cX10_trade 86 = .ok (.iload_n 3, 1) := by decide +kernel
theorem dX10_trade_87 : decode cX10_trade 87 = .ok (.iload 5, 2) := by decide +kernel
theorem dX10_trade_89 : decode cX10_trade 89 = .ok (.invokevirtual 174, 3) := by decide +kernel
theorem dX10_trade_92 : decode cX10_trade 92 = .ok (.aload_n 0, 1) := by decide +kernel
theorem dX10_trade_93 : decode cX10_trade 93 = .ok (.getfield 33, 3) := by decide +kernel
theorem dX10_trade_96 : decode cX10_trade 96 = .ok (.iload_n 2, 1) := by decide +kernel
theorem dX10_trade_97 : decode cX10_trade 97 = .ok (.iload_n 3, 1) := by decide +kernel
theorem dX10_trade_98 : decode cX10_trade 98 = .ok (.iload 4, 2) := by decide +kernel
theorem dX10_trade_100 : decode cX10_trade 100 = .ok (.invokevirtual 174, 3) := by decide +kernel
theorem dX10_trade_103 : decode cX10_trade 103 = .ok (.iload 4, 2) := by decide +kernel
theorem dX10_trade_105 : decode cX10_trade 105 = .ok (.iload 5, 2) := by decide +kernel
theorem dX10_trade_107 : decode cX10_trade 107 = .ok (.if_icmp .ne 7, 3) := by decide +kernel
theorem dX10_trade_110 : decode cX10_trade 110 = .ok (.iconst 0, 1) := by decide +kernel
theorem dX10_trade_111 : decode cX10_trade 111 = .ok (.goto 4, 3) := by decide +kernel
theorem dX10_trade_114 : decode cX10_trade 114 = .ok (.iconst 1, 1) := by decide +kernel
theorem dX10_trade_115 : decode cX10_trade 115 = .ok (.ireturn, 1) := by decide +kernel
theorem dX10_leans_0 : decode cX10_leans 0 = .ok (.iload_n 1, 1) := by decide +kernel
theorem dX10_leans_1 : decode cX10_leans 1 = .ok (.invokestatic 171, 3) := by decide +kernel
theorem dX10_leans_4 : decode cX10_leans 4 = .ok (.ifCond .ne 6, 3) := by decide +kernel
theorem dX10_leans_7 : decode cX10_leans 7 = .ok (.ldc 129, 2) := by decide +kernel
theorem dX10_leans_9 : decode cX10_leans 9 = .ok (.ireturn, 1) := by decide +kernel
theorem dX10_leans_10 : decode cX10_leans 10 = .ok (.iload_n 2, 1) := by decide +kernel
theorem dX10_leans_11 : decode cX10_leans 11 = .ok (.ifCond .ne 12, 3) := by decide +kernel
theorem dX10_leans_14 : decode cX10_leans 14 = .ok (.aload_n 0, 1) := by decide +kernel
theorem dX10_leans_15 : decode cX10_leans 15 = .ok (.getfield 42, 3) := by decide +kernel
theorem dX10_leans_18 : decode cX10_leans 18 = .ok (.iload_n 1, 1) := by decide +kernel
theorem dX10_leans_19 : decode cX10_leans 19 = .ok (.invokevirtual 182, 3) := by decide +kernel
theorem dX10_leans_22 : decode cX10_leans 22 = .ok (.ireturn, 1) := by decide +kernel
theorem dX10_leans_23 : decode cX10_leans 23 = .ok (.iload_n 2, 1) := by decide +kernel
theorem dX10_leans_24 : decode cX10_leans 24 = .ok (.iconst 1, 1) := by decide +kernel
theorem dX10_leans_25 : decode cX10_leans 25 = .ok (.if_icmp .ne 14, 3) := by decide +kernel
theorem dX10_leans_28 : decode cX10_leans 28 = .ok (.aload_n 0, 1) := by decide +kernel
theorem dX10_leans_29 : decode cX10_leans 29 = .ok (.getfield 42, 3) := by decide +kernel
theorem dX10_leans_32 : decode cX10_leans 32 = .ok (.iload_n 1, 1) := by decide +kernel
theorem dX10_leans_33 : decode cX10_leans 33 = .ok (.invokevirtual 185, 3) := by decide +kernel
theorem dX10_leans_36 : decode cX10_leans 36 = .ok (.goto 5, 3) := by decide +kernel
theorem dX10_leans_39 : decode cX10_leans 39 = .ok (.ldc 140, 2) := by decide +kernel
theorem dX10_leans_41 : decode cX10_leans 41 = .ok (.ireturn, 1) := by decide +kernel
theorem dX10_dip_0 : decode cX10_dip 0 = .ok (.aload_n 0, 1) := by decide +kernel
theorem dX10_dip_1 : decode cX10_dip 1 = .ok (.getfield 26, 3) := by decide +kernel
theorem dX10_dip_4 : decode cX10_dip 4 = .ok (.iload_n 1, 1) := by decide +kernel
theorem dX10_dip_5 : decode cX10_dip 5 = .ok (.invokevirtual 125, 3) := by decide +kernel
theorem dX10_dip_8 : decode cX10_dip 8 = .ok (.ifCond .eq 10, 3) := by decide +kernel
theorem dX10_dip_11 : decode cX10_dip 11 = .ok (.iload_n 2, 1) := by decide +kernel
theorem dX10_dip_12 : decode cX10_dip 12 = .ok (.invokestatic 171, 3) := by decide +kernel
theorem dX10_dip_15 : decode cX10_dip 15 = .ok (.ifCond .ne 6, 3) := by decide +kernel
theorem dX10_dip_18 : decode cX10_dip 18 = .ok (.ldc 188, 2) := by decide +kernel
theorem dX10_dip_20 : decode cX10_dip 20 = .ok (.ireturn, 1) := by decide +kernel
theorem dX10_dip_21 : decode cX10_dip 21 = .ok (.aload_n 0, 1) := by decide +kernel
theorem dX10_dip_22 : decode cX10_dip 22 = .ok (.getfield 26, 3) := by decide +kernel
theorem dX10_dip_25 : decode cX10_dip 25 = .ok (.iload_n 1, 1) := by decide +kernel
theorem dX10_dip_26 : decode cX10_dip 26 = .ok (.aload_n 0, 1) := by decide +kernel
theorem dX10_dip_27 : decode cX10_dip 27 = .ok (.getfield 42, 3) := by decide +kernel
theorem dX10_dip_30 : decode cX10_dip 30 = .ok (.iload_n 2, 1) := by decide +kernel
theorem dX10_dip_31 : decode cX10_dip 31 = .ok (.invokevirtual 182, 3) := by decide +kernel
theorem dX10_dip_34 : decode cX10_dip 34 = .ok (.aload_n 0, 1) := by decide +kernel
theorem dX10_dip_35 : decode cX10_dip 35 = .ok (.getfield 42, 3) := by decide +kernel
theorem dX10_dip_38 : decode cX10_dip 38 = .ok (.iload_n 2, 1) := by decide +kernel
theorem dX10_dip_39 : decode cX10_dip 39 = .ok (.invokevirtual 185, 3) := by decide +kernel
theorem dX10_dip_42 : decode cX10_dip 42 = .ok (.invokevirtual 189, 3) := by decide +kernel
theorem dX10_dip_45 : decode cX10_dip 45 = .ok (.ireturn, 1) := by decide +kernel
theorem dX10_wet_0 : decode cX10_wet 0 = .ok (.iload_n 1, 1) := by decide +kernel
theorem dX10_wet_1 : decode cX10_wet 1 = .ok (.invokestatic 171, 3) := by decide +kernel
theorem dX10_wet_4 : decode cX10_wet 4 = .ok (.ifCond .eq 14, 3) := by decide +kernel
theorem dX10_wet_7 : decode cX10_wet 7 = .ok (.aload_n 0, 1) := by decide +kernel
theorem dX10_wet_8 : decode cX10_wet 8 = .ok (.getfield 42, 3) := by decide +kernel
theorem dX10_wet_11 : decode cX10_wet 11 = .ok (.iload_n 1, 1) := by decide +kernel
theorem dX10_wet_12 : decode cX10_wet 12 = .ok (.invokevirtual 192, 3) := by decide +kernel
theorem dX10_wet_15 : decode cX10_wet 15 = .ok (.goto 5, 3) := by decide +kernel
theorem dX10_wet_18 : decode cX10_wet 18 = .ok (.bipush (-101), 2) := by decide +kernel
theorem dX10_wet_20 : decode cX10_wet 20 = .ok (.ireturn, 1) := by decide +kernel
theorem dX10_trades_0 : decode cX10_trades 0 = .ok (.iload_n 1, 1) := by decide +kernel
theorem dX10_trades_1 : decode cX10_trades 1 = .ok (.invokestatic 171, 3) := by decide +kernel
theorem dX10_trades_4 : decode cX10_trades 4 = .ok (.ifCond .ne 6, 3) := by decide +kernel
theorem dX10_trades_7 : decode cX10_trades 7 = .ok (.bipush (-101), 2) := by decide +kernel
theorem dX10_trades_9 : decode cX10_trades 9 = .ok (.ireturn, 1) := by decide +kernel
theorem dX10_trades_10 : decode cX10_trades 10 = .ok (.iload_n 2, 1) := by decide +kernel
theorem dX10_trades_11 : decode cX10_trades 11 = .ok (.ifCond .eq 18, 3) := by decide +kernel
theorem dX10_trades_14 : decode cX10_trades 14 = .ok (.iload_n 2, 1) := by decide +kernel
theorem dX10_trades_15 : decode cX10_trades 15 = .ok (.iconst 1, 1) := by decide +kernel
theorem dX10_trades_16 : decode cX10_trades 16 = .ok (.if_icmp .eq 13, 3) := by decide +kernel
theorem dX10_trades_19 : decode cX10_trades 19 = .ok (.iload_n 2, 1) := by decide +kernel
theorem dX10_trades_20 : decode cX10_trades 20 = .ok (.invokestatic 151, 3) := by decide +kernel
theorem dX10_trades_23 : decode cX10_trades 23 = .ok (.ifCond .ne 6, 3) := by decide +kernel
theorem dX10_trades_26 : decode cX10_trades 26 = .ok (.bipush (-102), 2) := by decide +kernel
theorem dX10_trades_28 : decode cX10_trades 28 = .ok (.ireturn, 1) := by decide +kernel
theorem dX10_trades_29 : decode cX10_trades 29 = .ok (.aload_n 0, 1) := by decide +kernel
theorem dX10_trades_30 : decode cX10_trades 30 = .ok (.getfield 26, 3) := by decide +kernel
theorem dX10_trades_33 : decode cX10_trades 33 = .ok (.invokevirtual 195, 3) := by decide +kernel
theorem dX10_trades_36 : decode cX10_trades 36 = .ok (.ifCond .eq 24, 3) := by decide +kernel
theorem dX10_trades_39 : decode cX10_trades 39 = .ok (.aload_n 0, 1) := by decide +kernel
theorem dX10_trades_40 : decode cX10_trades 40 = .ok (.getfield 33, 3) := by decide +kernel
theorem dX10_trades_43 : decode cX10_trades 43 = .ok (.invokevirtual 199, 3) := by decide +kernel
theorem dX10_trades_46 : decode cX10_trades 46 = .ok (.bipush 6, 2) := by decide +kernel
theorem dX10_trades_48 : decode cX10_trades 48 = .ok (.if_icmp .gt 12, 3) := by decide +kernel
theorem dX10_trades_51 : decode cX10_trades 51 = .ok (.aload_n 0, 1) := by decide +kernel
theorem dX10_trades_52 : decode cX10_trades 52 = .ok (.getfield 202, 3) := by decide +kernel
theorem dX10_trades_55 : decode cX10_trades 55 = .ok (.bipush 30, 2) := by decide +kernel
theorem dX10_trades_57 : decode cX10_trades 57 = .ok (.if_icmp .lt 6, 3) := by decide +kernel
theorem dX10_trades_60 : decode cX10_trades 60 = .ok (.bipush (-103), 2) := by decide +kernel
theorem dX10_trades_62 : decode cX10_trades 62 = .ok (.ireturn, 1) := by decide +kernel
theorem dX10_trades_63 : decode cX10_trades 63 = .ok (.aload_n 0, 1) := by decide +kernel
theorem dX10_trades_64 : decode cX10_trades 64 = .ok (.dup, 1) := by decide +kernel
theorem dX10_trades_65 : decode cX10_trades 65 = .ok (.getfield 202, 3) := by decide +kernel
theorem dX10_trades_68 : decode cX10_trades 68 = .ok (.iconst 1, 1) := by decide +kernel
theorem dX10_trades_69 : decode cX10_trades 69 = .ok (.iadd, 1) := by decide +kernel
theorem dX10_trades_70 : decode cX10_trades 70 = .ok (.putfield 202, 3) := by decide +kernel
theorem dX10_trades_73 : decode cX10_trades 73 = .ok (.aload_n 0, 1) := by decide +kernel
theorem dX10_trades_74 : decode cX10_trades 74 = .ok (.getfield 60, 3) := by decide +kernel
theorem dX10_trades_77 : decode cX10_trades 77 = .ok (.iload_n 1, 1) := by decide +kernel
theorem dX10_trades_78 : decode cX10_trades 78 = .ok (.invokevirtual 205, 3) := by decide +kernel
theorem dX10_trades_81 : decode cX10_trades 81 = .ok (.iload_n 2, 1) := by decide +kernel
theorem dX10_trades_82 : decode cX10_trades 82 = .ok (.ifCond .ne 11, 3) := by decide +kernel
theorem dX10_trades_85 : decode cX10_trades 85 = .ok (.aload_n 0, 1) := by decide +kernel
theorem dX10_trades_86 : decode cX10_trades 86 = .ok (.getfield 60, 3) := by decide +kernel
theorem dX10_trades_89 : decode cX10_trades 89 = .ok (.invokevirtual 209, 3) := by decide +kernel
theorem dX10_trades_92 : decode cX10_trades 92 = .ok (.ireturn, 1) := by decide +kernel
theorem dX10_trades_93 : decode cX10_trades 93 = .ok (.iload_n 2, 1) := by decide +kernel
theorem dX10_trades_94 : decode cX10_trades 94 = .ok (.iconst 1, 1) := by decide +kernel
theorem dX10_trades_95 : decode cX10_trades 95 = .ok (.if_icmp .ne 13, 3) := by decide +kernel
theorem dX10_trades_98 : decode cX10_trades 98 = .ok (.aload_n 0, 1) := by decide +kernel
theorem dX10_trades_99 : decode cX10_trades 99 = .ok (.getfield 60, 3) := by decide +kernel
theorem dX10_trades_102 : decode cX10_trades 102 = .ok (.invokevirtual 212, 3) := by decide +kernel
theorem dX10_trades_105 : decode cX10_trades 105 = .ok (.goto 14, 3) := by decide +kernel
theorem dX10_trades_108 : decode cX10_trades 108 = .ok (.aload_n 0, 1) := by decide +kernel
theorem dX10_trades_109 : decode cX10_trades 109 = .ok (.getfield 60, 3) := by decide +kernel
theorem dX10_trades_112 : decode cX10_trades 112 = .ok (.iload_n 2, 1) := by decide +kernel
theorem dX10_trades_113 : decode cX10_trades 113 = .ok (.bipush 10, 2) := by decide +kernel
theorem dX10_trades_115 : decode cX10_trades 115 = .ok (.isub, 1) := by decide +kernel
theorem dX10_trades_116 : decode cX10_trades 116 = .ok (.invokevirtual 215, 3) := by decide +kernel
theorem dX10_trades_119 : decode cX10_trades 119 = .ok (.ireturn, 1) := by decide +kernel
theorem dX10_counter_0 : decode cX10_counter 0 = .ok (.aload_n 0, 1) := by decide +kernel
theorem dX10_counter_1 : decode cX10_counter 1 = .ok (.getfield 26, 3) := by decide +kernel
theorem dX10_counter_4 : decode cX10_counter 4 = .ok (.iload_n 1, 1) := by decide +kernel
theorem dX10_counter_5 : decode cX10_counter 5 = .ok (.invokevirtual 125, 3) := by decide +kernel
theorem dX10_counter_8 : decode cX10_counter 8 = .ok (.ifCond .ne 6, 3) := by decide +kernel
theorem dX10_counter_11 : decode cX10_counter 11 = .ok (.bipush (-101), 2) := by decide +kernel
theorem dX10_counter_13 : decode cX10_counter 13 = .ok (.ireturn, 1) := by decide +kernel
theorem dX10_counter_14 : decode cX10_counter 14 = .ok (.iload_n 2, 1) := by decide +kernel
theorem dX10_counter_15 : decode cX10_counter 15 = .ok (.invokestatic 144, 3) := by decide +kernel
theorem dX10_counter_18 : decode cX10_counter 18 = .ok (.ifCond .eq 12, 3) := by decide +kernel
theorem dX10_counter_21 : decode cX10_counter 21 = .ok (.iload_n 3, 1) := by decide +kernel
theorem dX10_counter_22 : decode cX10_counter 22 = .ok (.ifCond .eq 11, 3) := by decide +kernel
theorem dX10_counter_25 : decode cX10_counter 25 = .ok (.iload_n 3, 1) := by decide +kernel
theorem dX10_counter_26 : decode cX10_counter 26 = .ok (.iconst 1, 1) := by decide +kernel
theorem dX10_counter_27 : decode cX10_counter 27 = .ok (.if_icmp .eq 6, 3) := by decide +kernel
theorem dX10_counter_30 : decode cX10_counter 30 = .ok (.bipush (-102), 2) := by decide +kernel
theorem dX10_counter_32 : decode cX10_counter 32 = .ok (.ireturn, 1) := by decide +kernel
theorem dX10_counter_33 : decode cX10_counter 33 = .ok (.aload_n 0, 1) := by decide +kernel
theorem dX10_counter_34 : decode cX10_counter 34 = .ok (.getfield 10, 3) := by decide +kernel
theorem dX10_counter_37 : decode cX10_counter 37 = .ok (.invokevirtual 218, 3) := by decide +kernel
theorem dX10_counter_40 : decode cX10_counter 40 = .ok (.ifCond .eq 14, 3) := by decide +kernel
theorem dX10_counter_43 : decode cX10_counter 43 = .ok (.aload_n 0, 1) := by decide +kernel
theorem dX10_counter_44 : decode cX10_counter 44 = .ok (.getfield 51, 3) := by decide +kernel
theorem dX10_counter_47 : decode cX10_counter 47 = .ok (.iload_n 1, 1) := by decide +kernel
theorem dX10_counter_48 : decode cX10_counter 48 = .ok (.invokevirtual 221, 3) := by decide +kernel
theorem dX10_counter_51 : decode cX10_counter 51 = .ok (.ifCond .ne 6, 3) := by decide +kernel
theorem dX10_counter_54 : decode cX10_counter 54 = .ok (.bipush (-103), 2) := by decide +kernel
theorem dX10_counter_56 : decode cX10_counter 56 = .ok (.ireturn, 1) := by decide +kernel
theorem dX10_counter_57 : decode cX10_counter 57 = .ok (.aload_n 0, 1) := by decide +kernel
theorem dX10_counter_58 : decode cX10_counter 58 = .ok (.getfield 51, 3) := by decide +kernel
theorem dX10_counter_61 : decode cX10_counter 61 = .ok (.iload_n 2, 1) := by decide +kernel
theorem dX10_counter_62 : decode cX10_counter 62 = .ok (.invokevirtual 224, 3) := by decide +kernel
theorem dX10_counter_65 : decode cX10_counter 65 = .ok (.iload_n 3, 1) := by decide +kernel
theorem dX10_counter_66 : decode cX10_counter 66 = .ok (.ifCond .ne 13, 3) := by decide +kernel
theorem dX10_counter_69 : decode cX10_counter 69 = .ok (.aload_n 0, 1) := by decide +kernel
theorem dX10_counter_70 : decode cX10_counter 70 = .ok (.getfield 51, 3) := by decide +kernel
theorem dX10_counter_73 : decode cX10_counter 73 = .ok (.invokevirtual 225, 3) := by decide +kernel
theorem dX10_counter_76 : decode cX10_counter 76 = .ok (.goto 10, 3) := by decide +kernel
theorem dX10_counter_79 : decode cX10_counter 79 = .ok (.aload_n 0, 1) := by decide +kernel
theorem dX10_counter_80 : decode cX10_counter 80 = .ok (.getfield 51, 3) := by decide +kernel
theorem dX10_counter_83 : decode cX10_counter 83 = .ok (.invokevirtual 228, 3) := by decide +kernel
theorem dX10_counter_86 : decode cX10_counter 86 = .ok (.ireturn, 1) := by decide +kernel
theorem dX10_stones_0 : decode cX10_stones 0 = .ok (.iload_n 1, 1) := by decide +kernel
theorem dX10_stones_1 : decode cX10_stones 1 = .ok (.ifCond .lt 8, 3) := by decide +kernel
theorem dX10_stones_4 : decode cX10_stones 4 = .ok (.iload_n 1, 1) := by decide +kernel
theorem dX10_stones_5 : decode cX10_stones 5 = .ok (.iconst 5, 1) := by decide +kernel
theorem dX10_stones_6 : decode cX10_stones 6 = .ok (.if_icmp .lt 6, 3) := by decide +kernel
theorem dX10_stones_9 : decode cX10_stones 9 = .ok (.bipush (-102), 2) := by decide +kernel
theorem dX10_stones_11 : decode cX10_stones 11 = .ok (.ireturn, 1) := by decide +kernel
theorem dX10_stones_12 : decode cX10_stones 12 = .ok (.aload_n 0, 1) := by decide +kernel
theorem dX10_stones_13 : decode cX10_stones 13 = .ok (.getfield 26, 3) := by decide +kernel
theorem dX10_stones_16 : decode cX10_stones 16 = .ok (.invokevirtual 195, 3) := by decide +kernel
theorem dX10_stones_19 : decode cX10_stones 19 = .ok (.ifCond .eq 12, 3) := by decide +kernel
theorem dX10_stones_22 : decode cX10_stones 22 = .ok (.aload_n 0, 1) := by decide +kernel
theorem dX10_stones_23 : decode cX10_stones 23 = .ok (.getfield 229, 3) := by decide +kernel
theorem dX10_stones_26 : decode cX10_stones 26 = .ok (.bipush 20, 2) := by decide +kernel
theorem dX10_stones_28 : decode cX10_stones 28 = .ok (.if_icmp .lt 6, 3) := by decide +kernel
theorem dX10_stones_31 : decode cX10_stones 31 = .ok (.bipush (-103), 2) := by decide +kernel
theorem dX10_stones_33 : decode cX10_stones 33 = .ok (.ireturn, 1) := by decide +kernel
theorem dX10_stones_34 : decode cX10_stones 34 = .ok (.aload_n 0, 1) := by decide +kernel
theorem dX10_stones_35 : decode cX10_stones 35 = .ok (.dup, 1) := by decide +kernel
theorem dX10_stones_36 : decode cX10_stones 36 = .ok (.getfield 229, 3) := by decide +kernel
theorem dX10_stones_39 : decode cX10_stones 39 = .ok (.iconst 1, 1) := by decide +kernel
theorem dX10_stones_40 : decode cX10_stones 40 = .ok (.iadd, 1) := by decide +kernel
theorem dX10_stones_41 : decode cX10_stones 41 = .ok (.putfield 229, 3) := by decide +kernel
theorem dX10_stones_44 : decode cX10_stones 44 = .ok (.aload_n 0, 1) := by decide +kernel
theorem dX10_stones_45 : decode cX10_stones 45 = .ok (.getfield 67, 3) := by decide +kernel
theorem dX10_stones_48 : decode cX10_stones 48 = .ok (.invokevirtual 232, 3) := by decide +kernel
theorem dX10_stones_51 : decode cX10_stones 51 = .ok (.aload_n 0, 1) := by decide +kernel
theorem dX10_stones_52 : decode cX10_stones 52 = .ok (.getfield 67, 3) := by decide +kernel
theorem dX10_stones_55 : decode cX10_stones 55 = .ok (.iload_n 1, 1) := by decide +kernel
theorem dX10_stones_56 : decode cX10_stones 56 = .ok (.invokevirtual 234, 3) := by decide +kernel
theorem dX10_stones_59 : decode cX10_stones 59 = .ok (.ireturn, 1) := by decide +kernel
theorem dX10_site_0 : decode cX10_site 0 = .ok (.iload_n 1, 1) := by decide +kernel
theorem dX10_site_1 : decode cX10_site 1 = .ok (.invokestatic 144, 3) := by decide +kernel
theorem dX10_site_4 : decode cX10_site 4 = .ok (.ifCond .ne 6, 3) := by decide +kernel
theorem dX10_site_7 : decode cX10_site 7 = .ok (.bipush (-102), 2) := by decide +kernel
theorem dX10_site_9 : decode cX10_site 9 = .ok (.ireturn, 1) := by decide +kernel
theorem dX10_site_10 : decode cX10_site 10 = .ok (.aload_n 0, 1) := by decide +kernel
theorem dX10_site_11 : decode cX10_site 11 = .ok (.getfield 26, 3) := by decide +kernel
theorem dX10_site_14 : decode cX10_site 14 = .ok (.invokevirtual 195, 3) := by decide +kernel
theorem dX10_site_17 : decode cX10_site 17 = .ok (.ifCond .eq 14, 3) := by decide +kernel
theorem dX10_site_20 : decode cX10_site 20 = .ok (.aload_n 0, 1) := by decide +kernel
theorem dX10_site_21 : decode cX10_site 21 = .ok (.getfield 42, 3) := by decide +kernel
theorem dX10_site_24 : decode cX10_site 24 = .ok (.iload_n 1, 1) := by decide +kernel
theorem dX10_site_25 : decode cX10_site 25 = .ok (.invokevirtual 237, 3) := by decide +kernel
theorem dX10_site_28 : decode cX10_site 28 = .ok (.goto 5, 3) := by decide +kernel
theorem dX10_site_31 : decode cX10_site 31 = .ok (.bipush (-103), 2) := by decide +kernel
theorem dX10_site_33 : decode cX10_site 33 = .ok (.ireturn, 1) := by decide +kernel
theorem dX10_late_0 : decode cX10_late 0 = .ok (.iload_n 1, 1) := by decide +kernel
theorem dX10_late_1 : decode cX10_late 1 = .ok (.invokestatic 171, 3) := by decide +kernel
theorem dX10_late_4 : decode cX10_late 4 = .ok (.ifCond .eq 7, 3) := by decide +kernel
theorem dX10_late_7 : decode cX10_late 7 = .ok (.iload_n 1, 1) := by decide +kernel
theorem dX10_late_8 : decode cX10_late 8 = .ok (.ifCond .ne 6, 3) := by decide +kernel
theorem dX10_late_11 : decode cX10_late 11 = .ok (.bipush (-101), 2) := by decide +kernel
theorem dX10_late_13 : decode cX10_late 13 = .ok (.ireturn, 1) := by decide +kernel
theorem dX10_late_14 : decode cX10_late 14 = .ok (.aload_n 0, 1) := by decide +kernel
theorem dX10_late_15 : decode cX10_late 15 = .ok (.getfield 26, 3) := by decide +kernel
theorem dX10_late_18 : decode cX10_late 18 = .ok (.iload_n 2, 1) := by decide +kernel
theorem dX10_late_19 : decode cX10_late 19 = .ok (.invokevirtual 240, 3) := by decide +kernel
theorem dX10_late_22 : decode cX10_late 22 = .ok (.ifCond .eq 12, 3) := by decide +kernel
theorem dX10_late_25 : decode cX10_late 25 = .ok (.iload_n 3, 1) := by decide +kernel
theorem dX10_late_26 : decode cX10_late 26 = .ok (.ifCond .lt 8, 3) := by decide +kernel
theorem dX10_late_29 : decode cX10_late 29 = .ok (.iload_n 3, 1) := by decide +kernel
theorem dX10_late_30 : decode cX10_late 30 = .ok (.iconst 3, 1) := by decide +kernel
theorem dX10_late_31 : decode cX10_late 31 = .ok (.if_icmp .lt 6, 3) := by decide +kernel
theorem dX10_late_34 : decode cX10_late 34 = .ok (.bipush (-102), 2) := by decide +kernel
theorem dX10_late_36 : decode cX10_late 36 = .ok (.ireturn, 1) := by decide +kernel
theorem dX10_late_37 : decode cX10_late 37 = .ok (.aload_n 0, 1) := by decide +kernel
theorem dX10_late_38 : decode cX10_late 38 = .ok (.getfield 26, 3) := by decide +kernel
theorem dX10_late_41 : decode cX10_late 41 = .ok (.invokevirtual 195, 3) := by decide +kernel
theorem dX10_late_44 : decode cX10_late 44 = .ok (.ifCond .ne 6, 3) := by decide +kernel
theorem dX10_late_47 : decode cX10_late 47 = .ok (.bipush (-103), 2) := by decide +kernel
theorem dX10_late_49 : decode cX10_late 49 = .ok (.ireturn, 1) := by decide +kernel
theorem dX10_late_50 : decode cX10_late 50 = .ok (.aload_n 0, 1) := by decide +kernel
theorem dX10_late_51 : decode cX10_late 51 = .ok (.getfield 74, 3) := by decide +kernel
theorem dX10_late_54 : decode cX10_late 54 = .ok (.iload_n 1, 1) := by decide +kernel
theorem dX10_late_55 : decode cX10_late 55 = .ok (.iload_n 2, 1) := by decide +kernel
theorem dX10_late_56 : decode cX10_late 56 = .ok (.invokevirtual 243, 3) := by decide +kernel
theorem dX10_late_59 : decode cX10_late 59 = .ok (.aload_n 0, 1) := by decide +kernel
theorem dX10_late_60 : decode cX10_late 60 = .ok (.getfield 74, 3) := by decide +kernel
theorem dX10_late_63 : decode cX10_late 63 = .ok (.iload_n 3, 1) := by decide +kernel
theorem dX10_late_64 : decode cX10_late 64 = .ok (.invokevirtual 245, 3) := by decide +kernel
theorem dX10_late_67 : decode cX10_late 67 = .ok (.ireturn, 1) := by decide +kernel
theorem dX10_storm_0 : decode cX10_storm 0 = .ok (.iload_n 1, 1) := by decide +kernel
theorem dX10_storm_1 : decode cX10_storm 1 = .ok (.invokestatic 171, 3) := by decide +kernel
theorem dX10_storm_4 : decode cX10_storm 4 = .ok (.ifCond .ne 6, 3) := by decide +kernel
theorem dX10_storm_7 : decode cX10_storm 7 = .ok (.bipush (-101), 2) := by decide +kernel
theorem dX10_storm_9 : decode cX10_storm 9 = .ok (.ireturn, 1) := by decide +kernel
theorem dX10_storm_10 : decode cX10_storm 10 = .ok (.aload_n 0, 1) := by decide +kernel
theorem dX10_storm_11 : decode cX10_storm 11 = .ok (.getfield 26, 3) := by decide +kernel
theorem dX10_storm_14 : decode cX10_storm 14 = .ok (.invokevirtual 195, 3) := by decide +kernel
theorem dX10_storm_17 : decode cX10_storm 17 = .ok (.ifCond .eq 14, 3) := by decide +kernel
theorem dX10_storm_20 : decode cX10_storm 20 = .ok (.aload_n 0, 1) := by decide +kernel
theorem dX10_storm_21 : decode cX10_storm 21 = .ok (.getfield 81, 3) := by decide +kernel
theorem dX10_storm_24 : decode cX10_storm 24 = .ok (.iload_n 1, 1) := by decide +kernel
theorem dX10_storm_25 : decode cX10_storm 25 = .ok (.invokevirtual 246, 3) := by decide +kernel
theorem dX10_storm_28 : decode cX10_storm 28 = .ok (.goto 5, 3) := by decide +kernel
theorem dX10_storm_31 : decode cX10_storm 31 = .ok (.bipush (-103), 2) := by decide +kernel
theorem dX10_storm_33 : decode cX10_storm 33 = .ok (.ireturn, 1) := by decide +kernel
theorem dX10_moss_0 : decode cX10_moss 0 = .ok (.aload_n 0, 1) := by decide +kernel
theorem dX10_moss_1 : decode cX10_moss 1 = .ok (.getfield 26, 3) := by decide +kernel
theorem dX10_moss_4 : decode cX10_moss 4 = .ok (.invokevirtual 195, 3) := by decide +kernel
theorem dX10_moss_7 : decode cX10_moss 7 = .ok (.ifCond .eq 13, 3) := by decide +kernel
theorem dX10_moss_10 : decode cX10_moss 10 = .ok (.aload_n 0, 1) := by decide +kernel
theorem dX10_moss_11 : decode cX10_moss 11 = .ok (.getfield 67, 3) := by decide +kernel
theorem dX10_moss_14 : decode cX10_moss 14 = .ok (.invokevirtual 249, 3) := by decide +kernel
theorem dX10_moss_17 : decode cX10_moss 17 = .ok (.goto 5, 3) := by decide +kernel
theorem dX10_moss_20 : decode cX10_moss 20 = .ok (.bipush (-103), 2) := by decide +kernel
theorem dX10_moss_22 : decode cX10_moss 22 = .ok (.ireturn, 1) := by decide +kernel
theorem dX10_cows_0 : decode cX10_cows 0 = .ok (.iload_n 1, 1) := by decide +kernel
theorem dX10_cows_1 : decode cX10_cows 1 = .ok (.invokestatic 171, 3) := by decide +kernel
theorem dX10_cows_4 : decode cX10_cows 4 = .ok (.ifCond .ne 6, 3) := by decide +kernel
theorem dX10_cows_7 : decode cX10_cows 7 = .ok (.bipush (-101), 2) := by decide +kernel
theorem dX10_cows_9 : decode cX10_cows 9 = .ok (.ireturn, 1) := by decide +kernel
theorem dX10_cows_10 : decode cX10_cows 10 = .ok (.iload_n 2, 1) := by decide +kernel
theorem dX10_cows_11 : decode cX10_cows 11 = .ok (.iconst 1, 1) := by decide +kernel
theorem dX10_cows_12 : decode cX10_cows 12 = .ok (.if_icmp .lt 13, 3) := by decide +kernel
theorem dX10_cows_15 : decode cX10_cows 15 = .ok (.iload_n 2, 1) := by decide +kernel
theorem dX10_cows_16 : decode cX10_cows 16 = .ok (.bipush 60, 2) := by decide +kernel
theorem dX10_cows_18 : decode cX10_cows 18 = .ok (.if_icmp .gt 7, 3) := by decide +kernel
theorem dX10_cows_21 : decode cX10_cows 21 = .ok (.iload_n 3, 1) := by decide +kernel
theorem dX10_cows_22 : decode cX10_cows 22 = .ok (.ifCond .ge 6, 3) := by decide +kernel
theorem dX10_cows_25 : decode cX10_cows 25 = .ok (.bipush (-102), 2) := by decide +kernel
theorem dX10_cows_27 : decode cX10_cows 27 = .ok (.ireturn, 1) := by decide +kernel
theorem dX10_cows_28 : decode cX10_cows 28 = .ok (.iload 4, 2) := by decide +kernel
theorem dX10_cows_30 : decode cX10_cows 30 = .ok (.ifCond .eq 20, 3) := by decide +kernel
theorem dX10_cows_33 : decode cX10_cows 33 = .ok (.iload 4, 2) := by decide +kernel
theorem dX10_cows_35 : decode cX10_cows 35 = .ok (.iconst 1, 1) := by decide +kernel
theorem dX10_cows_36 : decode cX10_cows 36 = .ok (.if_icmp .eq 14, 3) := by decide +kernel
theorem dX10_cows_39 : decode cX10_cows 39 = .ok (.iload 4, 2) := by decide +kernel
theorem dX10_cows_41 : decode cX10_cows 41 = .ok (.invokestatic 151, 3) := by decide +kernel
theorem dX10_cows_44 : decode cX10_cows 44 = .ok (.ifCond .ne 6, 3) := by decide +kernel
theorem dX10_cows_47 : decode cX10_cows 47 = .ok (.bipush (-102), 2) := by decide +kernel
theorem dX10_cows_49 : decode cX10_cows 49 = .ok (.ireturn, 1) := by decide +kernel
theorem dX10_cows_50 : decode cX10_cows 50 = .ok (.aload_n 0, 1) := by decide +kernel
theorem dX10_cows_51 : decode cX10_cows 51 = .ok (.getfield 26, 3) := by decide +kernel
theorem dX10_cows_54 : decode cX10_cows 54 = .ok (.invokevirtual 195, 3) := by decide +kernel
theorem dX10_cows_57 : decode cX10_cows 57 = .ok (.ifCond .ne 6, 3) := by decide +kernel
theorem dX10_cows_60 : decode cX10_cows 60 = .ok (.bipush (-103), 2) := by decide +kernel
theorem dX10_cows_62 : decode cX10_cows 62 = .ok (.ireturn, 1) := by decide +kernel
theorem dX10_cows_63 : decode cX10_cows 63 = .ok (.aload_n 0, 1) := by decide +kernel
theorem dX10_cows_64 : decode cX10_cows 64 = .ok (.getfield 81, 3) := by decide +kernel
theorem dX10_cows_67 : decode cX10_cows 67 = .ok (.iload_n 1, 1) := by decide +kernel
theorem dX10_cows_68 : decode cX10_cows 68 = .ok (.iload_n 2, 1) := by decide +kernel
theorem dX10_cows_69 : decode cX10_cows 69 = .ok (.iload_n 3, 1) := by decide +kernel
theorem dX10_cows_70 : decode cX10_cows 70 = .ok (.invokevirtual 252, 3) := by decide +kernel
theorem dX10_cows_73 : decode cX10_cows 73 = .ok (.istore 5, 2) := by decide +kernel
theorem dX10_cows_75 : decode cX10_cows 75 = .ok (.iload 4, 2) := by decide +kernel
theorem dX10_cows_77 : decode cX10_cows 77 = .ok (.ifCond .ne 6, 3) := by decide +kernel
theorem dX10_cows_80 : decode cX10_cows 80 = .ok (.iload 5, 2) := by decide +kernel
theorem dX10_cows_82 : decode cX10_cows 82 = .ok (.ireturn, 1) := by decide +kernel
theorem dX10_cows_83 : decode cX10_cows 83 = .ok (.iload 4, 2) := by decide +kernel
theorem dX10_cows_85 : decode cX10_cows 85 = .ok (.iconst 1, 1) := by decide +kernel
theorem dX10_cows_86 : decode cX10_cows 86 = .ok (.if_icmp .ne 13, 3) := by decide +kernel
theorem dX10_cows_89 : decode cX10_cows 89 = .ok (.aload_n 0, 1) := by decide +kernel
theorem dX10_cows_90 : decode cX10_cows 90 = .ok (.getfield 81, 3) := by decide +kernel
theorem dX10_cows_93 : decode cX10_cows 93 = .ok (.invokevirtual 255, 3) := by decide +kernel
theorem dX10_cows_96 : decode cX10_cows 96 = .ok (.goto 15, 3) := by decide +kernel
theorem dX10_cows_99 : decode cX10_cows 99 = .ok (.aload_n 0, 1) := by decide +kernel
theorem dX10_cows_100 : decode cX10_cows 100 = .ok (.getfield 81, 3) := by decide +kernel
theorem dX10_cows_103 : decode cX10_cows 103 = .ok (.iload 4, 2) := by decide +kernel
theorem dX10_cows_105 : decode cX10_cows 105 = .ok (.bipush 10, 2) := by decide +kernel
theorem dX10_cows_107 : decode cX10_cows 107 = .ok (.isub, 1) := by decide +kernel
theorem dX10_cows_108 : decode cX10_cows 108 = .ok (.invokevirtual 258, 3) := by decide +kernel
theorem dX10_cows_111 : decode cX10_cows 111 = .ok (.ireturn, 1) := by decide +kernel
theorem dX10_image_0 : decode cX10_image 0 = .ok (.aload_n 0, 1) := by decide +kernel
theorem dX10_image_1 : decode cX10_image 1 = .ok (.getfield 26, 3) := by decide +kernel
theorem dX10_image_4 : decode cX10_image 4 = .ok (.invokevirtual 195, 3) := by decide +kernel
theorem dX10_image_7 : decode cX10_image 7 = .ok (.ifCond .ne 6, 3) := by decide +kernel
theorem dX10_image_10 : decode cX10_image 10 = .ok (.bipush (-103), 2) := by decide +kernel
theorem dX10_image_12 : decode cX10_image 12 = .ok (.ireturn, 1) := by decide +kernel
theorem dX10_image_13 : decode cX10_image 13 = .ok (.aload_n 0, 1) := by decide +kernel
theorem dX10_image_14 : decode cX10_image 14 = .ok (.getfield 33, 3) := by decide +kernel
theorem dX10_image_17 : decode cX10_image 17 = .ok (.invokevirtual 259, 3) := by decide +kernel
theorem dX10_image_20 : decode cX10_image 20 = .ok (.aload_n 0, 1) := by decide +kernel
theorem dX10_image_21 : decode cX10_image 21 = .ok (.getfield 33, 3) := by decide +kernel
theorem dX10_image_24 : decode cX10_image 24 = .ok (.invokevirtual 262, 3) := by decide +kernel
theorem dX10_image_27 : decode cX10_image 27 = .ok (.ireturn, 1) := by decide +kernel
theorem dX10_restore_0 : decode cX10_restore 0 = .ok (.aload_n 0, 1) := by decide +kernel
theorem dX10_restore_1 : decode cX10_restore 1 = .ok (.getfield 33, 3) := by decide +kernel
theorem dX10_restore_4 : decode cX10_restore 4 = .ok (.invokevirtual 265, 3) := by decide +kernel
theorem dX10_restore_7 : decode cX10_restore 7 = .ok (.ifCond .ne 6, 3) := by decide +kernel
theorem dX10_restore_10 : decode cX10_restore 10 = .ok (.bipush (-103), 2) := by decide +kernel
theorem dX10_restore_12 : decode cX10_restore 12 = .ok (.ireturn, 1) := by decide +kernel
theorem dX10_restore_13 : decode cX10_restore 13 = .ok (.aload_n 0, 1) := by decide +kernel
theorem dX10_restore_14 : decode cX10_restore 14 = .ok (.getfield 33, 3) := by decide +kernel
theorem dX10_restore_17 : decode cX10_restore 17 = .ok (.invokevirtual 268, 3) := by decide +kernel
theorem dX10_restore_20 : decode cX10_restore 20 = .ok (.aload_n 0, 1) := by decide +kernel
theorem dX10_restore_21 : decode cX10_restore 21 = .ok (.getfield 33, 3) := by decide +kernel
theorem dX10_restore_24 : decode cX10_restore 24 = .ok (.invokevirtual 262, 3) := by decide +kernel
theorem dX10_restore_27 : decode cX10_restore 27 = .ok (.ireturn, 1) := by decide +kernel
theorem dX10_count_0 : decode cX10_count 0 = .ok (.iload_n 1, 1) := by decide +kernel
theorem dX10_count_1 : decode cX10_count 1 = .ok (.tableswitch 102 0 7 #[47, 55, 63, 71, 79, 87, 92, 97], 47) := by decide +kernel
theorem dX10_count_48 : decode cX10_count 48 = .ok (.aload_n 0, 1) := by decide +kernel
theorem dX10_count_49 : decode cX10_count 49 = .ok (.getfield 26, 3) := by decide +kernel
theorem dX10_count_52 : decode cX10_count 52 = .ok (.invokevirtual 122, 3) := by decide +kernel
theorem dX10_count_55 : decode cX10_count 55 = .ok (.ireturn, 1) := by decide +kernel
theorem dX10_count_56 : decode cX10_count 56 = .ok (.aload_n 0, 1) := by decide +kernel
theorem dX10_count_57 : decode cX10_count 57 = .ok (.getfield 26, 3) := by decide +kernel
theorem dX10_count_60 : decode cX10_count 60 = .ok (.invokevirtual 271, 3) := by decide +kernel
theorem dX10_count_63 : decode cX10_count 63 = .ok (.ireturn, 1) := by decide +kernel
theorem dX10_count_64 : decode cX10_count 64 = .ok (.aload_n 0, 1) := by decide +kernel
theorem dX10_count_65 : decode cX10_count 65 = .ok (.getfield 33, 3) := by decide +kernel
theorem dX10_count_68 : decode cX10_count 68 = .ok (.invokevirtual 262, 3) := by decide +kernel
theorem dX10_count_71 : decode cX10_count 71 = .ok (.ireturn, 1) := by decide +kernel
theorem dX10_count_72 : decode cX10_count 72 = .ok (.aload_n 0, 1) := by decide +kernel
theorem dX10_count_73 : decode cX10_count 73 = .ok (.getfield 33, 3) := by decide +kernel
theorem dX10_count_76 : decode cX10_count 76 = .ok (.invokevirtual 199, 3) := by decide +kernel
theorem dX10_count_79 : decode cX10_count 79 = .ok (.ireturn, 1) := by decide +kernel
theorem dX10_count_80 : decode cX10_count 80 = .ok (.aload_n 0, 1) := by decide +kernel
theorem dX10_count_81 : decode cX10_count 81 = .ok (.getfield 10, 3) := by decide +kernel
theorem dX10_count_84 : decode cX10_count 84 = .ok (.invokevirtual 89, 3) := by decide +kernel
theorem dX10_count_87 : decode cX10_count 87 = .ok (.ireturn, 1) := by decide +kernel
theorem dX10_count_88 : decode cX10_count 88 = .ok (.aload_n 0, 1) := by decide +kernel
theorem dX10_count_89 : decode cX10_count 89 = .ok (.getfield 118, 3) := by decide +kernel
theorem dX10_count_92 : decode cX10_count 92 = .ok (.ireturn, 1) := by decide +kernel
theorem dX10_count_93 : decode cX10_count 93 = .ok (.aload_n 0, 1) := by decide +kernel
theorem dX10_count_94 : decode cX10_count 94 = .ok (.getfield 202, 3) := by decide +kernel
theorem dX10_count_97 : decode cX10_count 97 = .ok (.ireturn, 1) := by decide +kernel
theorem dX10_count_98 : decode cX10_count 98 = .ok (.aload_n 0, 1) := by decide +kernel
theorem dX10_count_99 : decode cX10_count 99 = .ok (.getfield 229, 3) := by decide +kernel
theorem dX10_count_102 : decode cX10_count 102 = .ok (.ireturn, 1) := by decide +kernel
theorem dX10_count_103 : decode cX10_count 103 = .ok (.bipush (-102), 2) := by decide +kernel
theorem dX10_count_105 : decode cX10_count 105 = .ok (.ireturn, 1) := by decide +kernel
theorem dX10_digest_0 : decode cX10_digest 0 = .ok (.ldc2_w 274, 3) := by decide +kernel
theorem dX10_digest_3 : decode cX10_digest 3 = .ok (.lstore_n 1, 1) := by decide +kernel
theorem dX10_digest_4 : decode cX10_digest 4 = .ok (.iconst 0, 1) := by decide +kernel
theorem dX10_digest_5 : decode cX10_digest 5 = .ok (.istore_n 3, 1) := by decide +kernel
theorem dX10_digest_6 : decode cX10_digest 6 = .ok (.iload_n 3, 1) := by decide +kernel
theorem dX10_digest_7 : decode cX10_digest 7 = .ok (.aload_n 0, 1) := by decide +kernel
theorem dX10_digest_8 : decode cX10_digest 8 = .ok (.getfield 26, 3) := by decide +kernel
theorem dX10_digest_11 : decode cX10_digest 11 = .ok (.invokevirtual 122, 3) := by decide +kernel
theorem dX10_digest_14 : decode cX10_digest 14 = .ok (.if_icmp .ge 22, 3) := by decide +kernel
theorem dX10_digest_17 : decode cX10_digest 17 = .ok (.lload_n 1, 1) := by decide +kernel
theorem dX10_digest_18 : decode cX10_digest 18 = .ok (.aload_n 0, 1) := by decide +kernel
theorem dX10_digest_19 : decode cX10_digest 19 = .ok (.getfield 26, 3) := by decide +kernel
theorem dX10_digest_22 : decode cX10_digest 22 = .ok (.iload_n 3, 1) := by decide +kernel
theorem dX10_digest_23 : decode cX10_digest 23 = .ok (.invokevirtual 130, 3) := by decide +kernel
theorem dX10_digest_26 : decode cX10_digest 26 = .ok (.invokestatic 276, 3) := by decide +kernel
theorem dX10_digest_29 : decode cX10_digest 29 = .ok (.lstore_n 1, 1) := by decide +kernel
theorem dX10_digest_30 : decode cX10_digest 30 = .ok (.iinc 3 1, 3) := by decide +kernel
theorem dX10_digest_33 : decode cX10_digest 33 = .ok (.goto (-27), 3) := by decide +kernel
theorem dX10_digest_36 : decode cX10_digest 36 = .ok (.iconst 0, 1) := by decide +kernel
theorem dX10_digest_37 : decode cX10_digest 37 = .ok (.istore_n 3, 1) := by decide +kernel
theorem dX10_digest_38 : decode cX10_digest 38 = .ok (.iload_n 3, 1) := by decide +kernel
theorem dX10_digest_39 : decode cX10_digest 39 = .ok (.aload_n 0, 1) := by decide +kernel
theorem dX10_digest_40 : decode cX10_digest 40 = .ok (.getfield 33, 3) := by decide +kernel
theorem dX10_digest_43 : decode cX10_digest 43 = .ok (.invokevirtual 262, 3) := by decide +kernel
theorem dX10_digest_46 : decode cX10_digest 46 = .ok (.if_icmp .ge 16, 3) := by decide +kernel
theorem dX10_digest_49 : decode cX10_digest 49 = .ok (.aload_n 0, 1) := by decide +kernel
theorem dX10_digest_50 : decode cX10_digest 50 = .ok (.lload_n 1, 1) := by decide +kernel
theorem dX10_digest_51 : decode cX10_digest 51 = .ok (.iload_n 3, 1) := by decide +kernel
theorem dX10_digest_52 : decode cX10_digest 52 = .ok (.invokevirtual 280, 3) := by decide +kernel
theorem dX10_digest_55 : decode cX10_digest 55 = .ok (.lstore_n 1, 1) := by decide +kernel
theorem dX10_digest_56 : decode cX10_digest 56 = .ok (.iinc 3 1, 3) := by decide +kernel
theorem dX10_digest_59 : decode cX10_digest 59 = .ok (.goto (-21), 3) := by decide +kernel
theorem dX10_digest_62 : decode cX10_digest 62 = .ok (.iconst 0, 1) := by decide +kernel
theorem dX10_digest_63 : decode cX10_digest 63 = .ok (.istore_n 3, 1) := by decide +kernel
theorem dX10_digest_64 : decode cX10_digest 64 = .ok (.iload_n 3, 1) := by decide +kernel
theorem dX10_digest_65 : decode cX10_digest 65 = .ok (.bipush 8, 2) := by decide +kernel
theorem dX10_digest_67 : decode cX10_digest 67 = .ok (.if_icmp .ge 48, 3) := by decide +kernel
theorem dX10_digest_70 : decode cX10_digest 70 = .ok (.lload_n 1, 1) := by decide +kernel
theorem dX10_digest_71 : decode cX10_digest 71 = .ok (.aload_n 0, 1) := by decide +kernel
theorem dX10_digest_72 : decode cX10_digest 72 = .ok (.getfield 42, 3) := by decide +kernel
theorem dX10_digest_75 : decode cX10_digest 75 = .ok (.iload_n 3, 1) := by decide +kernel
theorem dX10_digest_76 : decode cX10_digest 76 = .ok (.invokevirtual 182, 3) := by decide +kernel
theorem dX10_digest_79 : decode cX10_digest 79 = .ok (.invokestatic 276, 3) := by decide +kernel
theorem dX10_digest_82 : decode cX10_digest 82 = .ok (.lstore_n 1, 1) := by decide +kernel
theorem dX10_digest_83 : decode cX10_digest 83 = .ok (.lload_n 1, 1) := by decide +kernel
theorem dX10_digest_84 : decode cX10_digest 84 = .ok (.aload_n 0, 1) := by decide +kernel
theorem dX10_digest_85 : decode cX10_digest 85 = .ok (.getfield 42, 3) := by decide +kernel
theorem dX10_digest_88 : decode cX10_digest 88 = .ok (.iload_n 3, 1) := by decide +kernel
theorem dX10_digest_89 : decode cX10_digest 89 = .ok (.invokevirtual 185, 3) := by decide +kernel
theorem dX10_digest_92 : decode cX10_digest 92 = .ok (.invokestatic 276, 3) := by decide +kernel
theorem dX10_digest_95 : decode cX10_digest 95 = .ok (.lstore_n 1, 1) := by decide +kernel
theorem dX10_digest_96 : decode cX10_digest 96 = .ok (.lload_n 1, 1) := by decide +kernel
theorem dX10_digest_97 : decode cX10_digest 97 = .ok (.aload_n 0, 1) := by decide +kernel
theorem dX10_digest_98 : decode cX10_digest 98 = .ok (.getfield 42, 3) := by decide +kernel
theorem dX10_digest_101 : decode cX10_digest 101 = .ok (.iload_n 3, 1) := by decide +kernel
theorem dX10_digest_102 : decode cX10_digest 102 = .ok (.invokevirtual 192, 3) := by decide +kernel
theorem dX10_digest_105 : decode cX10_digest 105 = .ok (.invokestatic 276, 3) := by decide +kernel
theorem dX10_digest_108 : decode cX10_digest 108 = .ok (.lstore_n 1, 1) := by decide +kernel
theorem dX10_digest_109 : decode cX10_digest 109 = .ok (.iinc 3 1, 3) := by decide +kernel
theorem dX10_digest_112 : decode cX10_digest 112 = .ok (.goto (-48), 3) := by decide +kernel
theorem dX10_digest_115 : decode cX10_digest 115 = .ok (.aload_n 0, 1) := by decide +kernel
theorem dX10_digest_116 : decode cX10_digest 116 = .ok (.getfield 26, 3) := by decide +kernel
theorem dX10_digest_119 : decode cX10_digest 119 = .ok (.invokevirtual 195, 3) := by decide +kernel
theorem dX10_digest_122 : decode cX10_digest 122 = .ok (.ifCond .eq 9, 3) := by decide +kernel
theorem dX10_digest_125 : decode cX10_digest 125 = .ok (.aload_n 0, 1) := by decide +kernel
theorem dX10_digest_126 : decode cX10_digest 126 = .ok (.lload_n 1, 1) := by decide +kernel
theorem dX10_digest_127 : decode cX10_digest 127 = .ok (.invokevirtual 283, 3) := by decide +kernel
theorem dX10_digest_130 : decode cX10_digest 130 = .ok (.lstore_n 1, 1) := by decide +kernel
theorem dX10_digest_131 : decode cX10_digest 131 = .ok (.iconst 0, 1) := by decide +kernel
theorem dX10_digest_132 : decode cX10_digest 132 = .ok (.istore_n 3, 1) := by decide +kernel
theorem dX10_digest_133 : decode cX10_digest 133 = .ok (.iload_n 3, 1) := by decide +kernel
theorem dX10_digest_134 : decode cX10_digest 134 = .ok (.aload_n 0, 1) := by decide +kernel
theorem dX10_digest_135 : decode cX10_digest 135 = .ok (.getfield 10, 3) := by decide +kernel
theorem dX10_digest_138 : decode cX10_digest 138 = .ok (.invokevirtual 89, 3) := by decide +kernel
theorem dX10_digest_141 : decode cX10_digest 141 = .ok (.if_icmp .ge 22, 3) := by decide +kernel
theorem dX10_digest_144 : decode cX10_digest 144 = .ok (.lload_n 1, 1) := by decide +kernel
theorem dX10_digest_145 : decode cX10_digest 145 = .ok (.aload_n 0, 1) := by decide +kernel
theorem dX10_digest_146 : decode cX10_digest 146 = .ok (.getfield 10, 3) := by decide +kernel
theorem dX10_digest_149 : decode cX10_digest 149 = .ok (.iload_n 3, 1) := by decide +kernel
theorem dX10_digest_150 : decode cX10_digest 150 = .ok (.invokevirtual 287, 3) := by decide +kernel
theorem dX10_digest_153 : decode cX10_digest 153 = .ok (.invokestatic 276, 3) := by decide +kernel
theorem dX10_digest_156 : decode cX10_digest 156 = .ok (.lstore_n 1, 1) := by decide +kernel
theorem dX10_digest_157 : decode cX10_digest 157 = .ok (.iinc 3 1, 3) := by decide +kernel
theorem dX10_digest_160 : decode cX10_digest 160 = .ok (.goto (-27), 3) := by decide +kernel
theorem dX10_digest_163 : decode cX10_digest 163 = .ok (.iconst 0, 1) := by decide +kernel
theorem dX10_digest_164 : decode cX10_digest 164 = .ok (.istore_n 3, 1) := by decide +kernel
theorem dX10_digest_165 : decode cX10_digest 165 = .ok (.iload_n 3, 1) := by decide +kernel
theorem dX10_digest_166 : decode cX10_digest 166 = .ok (.bipush 8, 2) := by decide +kernel
theorem dX10_digest_168 : decode cX10_digest 168 = .ok (.if_icmp .ge 19, 3) := by decide +kernel
theorem dX10_digest_171 : decode cX10_digest 171 = .ok (.lload_n 1, 1) := by decide +kernel
theorem dX10_digest_172 : decode cX10_digest 172 = .ok (.aload_n 0, 1) := by decide +kernel
theorem dX10_digest_173 : decode cX10_digest 173 = .ok (.iload_n 3, 1) := by decide +kernel
theorem dX10_digest_174 : decode cX10_digest 174 = .ok (.invokevirtual 290, 3) := by decide +kernel
theorem dX10_digest_177 : decode cX10_digest 177 = .ok (.invokestatic 276, 3) := by decide +kernel
theorem dX10_digest_180 : decode cX10_digest 180 = .ok (.lstore_n 1, 1) := by decide +kernel
theorem dX10_digest_181 : decode cX10_digest 181 = .ok (.iinc 3 1, 3) := by decide +kernel
theorem dX10_digest_184 : decode cX10_digest 184 = .ok (.goto (-19), 3) := by decide +kernel
theorem dX10_digest_187 : decode cX10_digest 187 = .ok (.lload_n 1, 1) := by decide +kernel
theorem dX10_digest_188 : decode cX10_digest 188 = .ok (.lreturn, 1) := by decide +kernel
theorem dX10_digested_0 : decode cX10_digested 0 = .ok (.ldc2_w 293, 3) := by decide +kernel
theorem dX10_digested_3 : decode cX10_digested 3 = .ok (.lload_n 0, 1) := by decide +kernel
theorem dX10_digested_4 : decode cX10_digested 4 = .ok (.lmul, 1) := by decide +kernel
theorem dX10_digested_5 : decode cX10_digested 5 = .ok (.iload_n 2, 1) := by decide +kernel
theorem dX10_digested_6 : decode cX10_digested 6 = .ok (.i2l, 1) := by decide +kernel
theorem dX10_digested_7 : decode cX10_digested 7 = .ok (.ladd, 1) := by decide +kernel
theorem dX10_digested_8 : decode cX10_digested 8 = .ok (.lreturn, 1) := by decide +kernel
theorem dX10_digestedThing_0 : decode cX10_digestedThing 0 = .ok (.lload_n 1, 1) := by decide +kernel
theorem dX10_digestedThing_1 : decode cX10_digestedThing 1 = .ok (.aload_n 0, 1) := by decide +kernel
theorem dX10_digestedThing_2 : decode cX10_digestedThing 2 = .ok (.getfield 33, 3) := by decide +kernel
theorem dX10_digestedThing_5 : decode cX10_digestedThing 5 = .ok (.iload_n 3, 1) := by decide +kernel
theorem dX10_digestedThing_6 : decode cX10_digestedThing 6 = .ok (.invokevirtual 158, 3) := by decide +kernel
theorem dX10_digestedThing_9 : decode cX10_digestedThing 9 = .ok (.invokestatic 276, 3) := by decide +kernel
theorem dX10_digestedThing_12 : decode cX10_digestedThing 12 = .ok (.lstore 4, 2) := by decide +kernel
theorem dX10_digestedThing_14 : decode cX10_digestedThing 14 = .ok (.lload 4, 2) := by decide +kernel
theorem dX10_digestedThing_16 : decode cX10_digestedThing 16 = .ok (.aload_n 0, 1) := by decide +kernel
theorem dX10_digestedThing_17 : decode cX10_digestedThing 17 = .ok (.getfield 33, 3) := by decide +kernel
theorem dX10_digestedThing_20 : decode cX10_digestedThing 20 = .ok (.iload_n 3, 1) := by decide +kernel
theorem dX10_digestedThing_21 : decode cX10_digestedThing 21 = .ok (.invokevirtual 161, 3) := by decide +kernel
theorem dX10_digestedThing_24 : decode cX10_digestedThing 24 = .ok (.invokestatic 276, 3) := by decide +kernel
theorem dX10_digestedThing_27 : decode cX10_digestedThing 27 = .ok (.lstore 4, 2) := by decide +kernel
theorem dX10_digestedThing_29 : decode cX10_digestedThing 29 = .ok (.lload 4, 2) := by decide +kernel
theorem dX10_digestedThing_31 : decode cX10_digestedThing 31 = .ok (.aload_n 0, 1) := by decide +kernel
theorem dX10_digestedThing_32 : decode cX10_digestedThing 32 = .ok (.getfield 33, 3) := by decide +kernel
theorem dX10_digestedThing_35 : decode cX10_digestedThing 35 = .ok (.iload_n 3, 1) := by decide +kernel
theorem dX10_digestedThing_36 : decode cX10_digestedThing 36 = .ok (.invokevirtual 164, 3) := by decide +kernel
theorem dX10_digestedThing_39 : decode cX10_digestedThing 39 = .ok (.invokestatic 276, 3) := by decide +kernel
theorem dX10_digestedThing_42 : decode cX10_digestedThing 42 = .ok (.lstore 4, 2) := by decide +kernel
theorem dX10_digestedThing_44 : decode cX10_digestedThing 44 = .ok (.iconst 0, 1) := by decide +kernel
theorem dX10_digestedThing_45 : decode cX10_digestedThing 45 = .ok (.istore 6, 2) := by decide +kernel
theorem dX10_digestedThing_47 : decode cX10_digestedThing 47 = .ok (.iload 6, 2) := by decide +kernel
theorem dX10_digestedThing_49 : decode cX10_digestedThing 49 = .ok (.bipush 8, 2) := by decide +kernel
theorem dX10_digestedThing_51 : decode cX10_digestedThing 51 = .ok (.if_icmp .ge 26, 3) := by decide +kernel
theorem dX10_digestedThing_54 : decode cX10_digestedThing 54 = .ok (.lload 4, 2) := by decide +kernel
theorem dX10_digestedThing_56 : decode cX10_digestedThing 56 = .ok (.aload_n 0, 1) := by decide +kernel
theorem dX10_digestedThing_57 : decode cX10_digestedThing 57 = .ok (.getfield 33, 3) := by decide +kernel
theorem dX10_digestedThing_60 : decode cX10_digestedThing 60 = .ok (.iload_n 3, 1) := by decide +kernel
theorem dX10_digestedThing_61 : decode cX10_digestedThing 61 = .ok (.iload 6, 2) := by decide +kernel
theorem dX10_digestedThing_63 : decode cX10_digestedThing 63 = .ok (.invokevirtual 154, 3) := by decide +kernel
theorem dX10_digestedThing_66 : decode cX10_digestedThing 66 = .ok (.invokestatic 276, 3) := by decide +kernel
theorem dX10_digestedThing_69 : decode cX10_digestedThing 69 = .ok (.lstore 4, 2) := by decide +kernel
theorem dX10_digestedThing_71 : decode cX10_digestedThing 71 = .ok (.iinc 6 1, 3) := by decide +kernel
theorem dX10_digestedThing_74 : decode cX10_digestedThing 74 = .ok (.goto (-27), 3) := by decide +kernel
theorem dX10_digestedThing_77 : decode cX10_digestedThing 77 = .ok (.lload 4, 2) := by decide +kernel
theorem dX10_digestedThing_79 : decode cX10_digestedThing 79 = .ok (.lreturn, 1) := by decide +kernel
theorem dX10_digestedFindings_0 : decode cX10_digestedFindings 0 = .ok (.lload_n 1, 1) := by decide +kernel
theorem dX10_digestedFindings_1 : decode cX10_digestedFindings 1 = .ok (.aload_n 0, 1) := by decide +kernel
theorem dX10_digestedFindings_2 : decode cX10_digestedFindings 2 = .ok (.getfield 42, 3) := by decide +kernel
theorem dX10_digestedFindings_5 : decode cX10_digestedFindings 5 = .ok (.bipush 10, 2) := by decide +kernel
theorem dX10_digestedFindings_7 : decode cX10_digestedFindings 7 = .ok (.invokevirtual 237, 3) := by decide +kernel
theorem dX10_digestedFindings_10 : decode cX10_digestedFindings 10 = .ok (.invokestatic 276, 3) := by decide +kernel
theorem dX10_digestedFindings_13 : decode cX10_digestedFindings 13 = .ok (.lstore_n 3, 1) := by decide +kernel
theorem dX10_digestedFindings_14 : decode cX10_digestedFindings 14 = .ok (.lload_n 3, 1) := by decide +kernel
theorem dX10_digestedFindings_15 : decode cX10_digestedFindings 15 = .ok (.aload_n 0, 1) := by decide +kernel
theorem dX10_digestedFindings_16 : decode cX10_digestedFindings 16 = .ok (.getfield 67, 3) := by decide +kernel
theorem dX10_digestedFindings_19 : decode cX10_digestedFindings 19 = .ok (.invokevirtual 249, 3) := by decide +kernel
theorem dX10_digestedFindings_22 : decode cX10_digestedFindings 22 = .ok (.invokestatic 276, 3) := by decide +kernel
theorem dX10_digestedFindings_25 : decode cX10_digestedFindings 25 = .ok (.lstore_n 3, 1) := by decide +kernel
theorem dX10_digestedFindings_26 : decode cX10_digestedFindings 26 = .ok (.aload_n 0, 1) := by decide +kernel
theorem dX10_digestedFindings_27 : decode cX10_digestedFindings 27 = .ok (.getfield 74, 3) := by decide +kernel
theorem dX10_digestedFindings_30 : decode cX10_digestedFindings 30 = .ok (.iconst 4, 1) := by decide +kernel
theorem dX10_digestedFindings_31 : decode cX10_digestedFindings 31 = .ok (.aload_n 0, 1) := by decide +kernel
theorem dX10_digestedFindings_32 : decode cX10_digestedFindings 32 = .ok (.getfield 42, 3) := by decide +kernel
theorem dX10_digestedFindings_35 : decode cX10_digestedFindings 35 = .ok (.iconst 4, 1) := by decide +kernel
theorem dX10_digestedFindings_36 : decode cX10_digestedFindings 36 = .ok (.invokevirtual 192, 3) := by decide +kernel
theorem dX10_digestedFindings_39 : decode cX10_digestedFindings 39 = .ok (.invokevirtual 243, 3) := by decide +kernel
theorem dX10_digestedFindings_42 : decode cX10_digestedFindings 42 = .ok (.iconst 0, 1) := by decide +kernel
theorem dX10_digestedFindings_43 : decode cX10_digestedFindings 43 = .ok (.istore 5, 2) := by decide +kernel
theorem dX10_digestedFindings_45 : decode cX10_digestedFindings 45 = .ok (.iload 5, 2) := by decide +kernel
theorem dX10_digestedFindings_47 : decode cX10_digestedFindings 47 = .ok (.iconst 3, 1) := by decide +kernel
theorem dX10_digestedFindings_48 : decode cX10_digestedFindings 48 = .ok (.if_icmp .ge 23, 3) := by decide +kernel
theorem dX10_digestedFindings_51 : decode cX10_digestedFindings 51 = .ok (.lload_n 3, 1) := by decide +kernel
theorem dX10_digestedFindings_52 : decode cX10_digestedFindings 52 = .ok (.aload_n 0, 1) := by decide +kernel
theorem dX10_digestedFindings_53 : decode cX10_digestedFindings 53 = .ok (.getfield 74, 3) := by decide +kernel
theorem dX10_digestedFindings_56 : decode cX10_digestedFindings 56 = .ok (.iload 5, 2) := by decide +kernel
theorem dX10_digestedFindings_58 : decode cX10_digestedFindings 58 = .ok (.invokevirtual 245, 3) := by decide +kernel
theorem dX10_digestedFindings_61 : decode cX10_digestedFindings 61 = .ok (.invokestatic 276, 3) := by decide +kernel
theorem dX10_digestedFindings_64 : decode cX10_digestedFindings 64 = .ok (.lstore_n 3, 1) := by decide +kernel
theorem dX10_digestedFindings_65 : decode cX10_digestedFindings 65 = .ok (.iinc 5 1, 3) := by decide +kernel
theorem dX10_digestedFindings_68 : decode cX10_digestedFindings 68 = .ok (.goto (-23), 3) := by decide +kernel
theorem dX10_digestedFindings_71 : decode cX10_digestedFindings 71 = .ok (.lload_n 3, 1) := by decide +kernel
theorem dX10_digestedFindings_72 : decode cX10_digestedFindings 72 = .ok (.aload_n 0, 1) := by decide +kernel
theorem dX10_digestedFindings_73 : decode cX10_digestedFindings 73 = .ok (.getfield 81, 3) := by decide +kernel
theorem dX10_digestedFindings_76 : decode cX10_digestedFindings 76 = .ok (.iconst 4, 1) := by decide +kernel
theorem dX10_digestedFindings_77 : decode cX10_digestedFindings 77 = .ok (.invokevirtual 246, 3) := by decide +kernel
theorem dX10_digestedFindings_80 : decode cX10_digestedFindings 80 = .ok (.invokestatic 276, 3) := by decide +kernel
theorem dX10_digestedFindings_83 : decode cX10_digestedFindings 83 = .ok (.lreturn, 1) := by decide +kernel
theorem dX10_isQuarter_0 : decode cX10_isQuarter 0 = .ok (.iload_n 0, 1) := by decide +kernel
theorem dX10_isQuarter_1 : decode cX10_isQuarter 1 = .ok (.ifCond .lt 13, 3) := by decide +kernel
theorem dX10_isQuarter_4 : decode cX10_isQuarter 4 = .ok (.iload_n 0, 1) := by decide +kernel
theorem dX10_isQuarter_5 : decode cX10_isQuarter 5 = .ok (.bipush 8, 2) := by decide +kernel
theorem dX10_isQuarter_7 : decode cX10_isQuarter 7 = .ok (.if_icmp .ge 7, 3) := by decide +kernel
theorem dX10_isQuarter_10 : decode cX10_isQuarter 10 = .ok (.iconst 1, 1) := by decide +kernel
theorem dX10_isQuarter_11 : decode cX10_isQuarter 11 = .ok (.goto 4, 3) := by decide +kernel
theorem dX10_isQuarter_14 : decode cX10_isQuarter 14 = .ok (.iconst 0, 1) := by decide +kernel
theorem dX10_isQuarter_15 : decode cX10_isQuarter 15 = .ok (.ireturn, 1) := by decide +kernel
theorem dX10_isKind_0 : decode cX10_isKind 0 = .ok (.iload_n 0, 1) := by decide +kernel
theorem dX10_isKind_1 : decode cX10_isKind 1 = .ok (.ifCond .lt 12, 3) := by decide +kernel
theorem dX10_isKind_4 : decode cX10_isKind 4 = .ok (.iload_n 0, 1) := by decide +kernel
theorem dX10_isKind_5 : decode cX10_isKind 5 = .ok (.iconst 4, 1) := by decide +kernel
theorem dX10_isKind_6 : decode cX10_isKind 6 = .ok (.if_icmp .gt 7, 3) := by decide +kernel
theorem dX10_isKind_9 : decode cX10_isKind 9 = .ok (.iconst 1, 1) := by decide +kernel
theorem dX10_isKind_10 : decode cX10_isKind 10 = .ok (.goto 4, 3) := by decide +kernel
theorem dX10_isKind_13 : decode cX10_isKind 13 = .ok (.iconst 0, 1) := by decide +kernel
theorem dX10_isKind_14 : decode cX10_isKind 14 = .ok (.ireturn, 1) := by decide +kernel
theorem dX10_isWeight_0 : decode cX10_isWeight 0 = .ok (.iload_n 0, 1) := by decide +kernel
theorem dX10_isWeight_1 : decode cX10_isWeight 1 = .ok (.iconst 1, 1) := by decide +kernel
theorem dX10_isWeight_2 : decode cX10_isWeight 2 = .ok (.if_icmp .lt 13, 3) := by decide +kernel
theorem dX10_isWeight_5 : decode cX10_isWeight 5 = .ok (.iload_n 0, 1) := by decide +kernel
theorem dX10_isWeight_6 : decode cX10_isWeight 6 = .ok (.bipush 99, 2) := by decide +kernel
theorem dX10_isWeight_8 : decode cX10_isWeight 8 = .ok (.if_icmp .gt 7, 3) := by decide +kernel
theorem dX10_isWeight_11 : decode cX10_isWeight 11 = .ok (.iconst 1, 1) := by decide +kernel
theorem dX10_isWeight_12 : decode cX10_isWeight 12 = .ok (.goto 4, 3) := by decide +kernel
theorem dX10_isWeight_15 : decode cX10_isWeight 15 = .ok (.iconst 0, 1) := by decide +kernel
theorem dX10_isWeight_16 : decode cX10_isWeight 16 = .ok (.ireturn, 1) := by decide +kernel
theorem dX10_asksPlace_0 : decode cX10_asksPlace 0 = .ok (.iload_n 0, 1) := by decide +kernel
theorem dX10_asksPlace_1 : decode cX10_asksPlace 1 = .ok (.bipush 10, 2) := by decide +kernel
theorem dX10_asksPlace_3 : decode cX10_asksPlace 3 = .ok (.if_icmp .lt 13, 3) := by decide +kernel
theorem dX10_asksPlace_6 : decode cX10_asksPlace 6 = .ok (.iload_n 0, 1) := by decide +kernel
theorem dX10_asksPlace_7 : decode cX10_asksPlace 7 = .ok (.bipush 17, 2) := by decide +kernel
theorem dX10_asksPlace_9 : decode cX10_asksPlace 9 = .ok (.if_icmp .gt 7, 3) := by decide +kernel
theorem dX10_asksPlace_12 : decode cX10_asksPlace 12 = .ok (.iconst 1, 1) := by decide +kernel
theorem dX10_asksPlace_13 : decode cX10_asksPlace 13 = .ok (.goto 4, 3) := by decide +kernel
theorem dX10_asksPlace_16 : decode cX10_asksPlace 16 = .ok (.iconst 0, 1) := by decide +kernel
theorem dX10_asksPlace_17 : decode cX10_asksPlace 17 = .ok (.ireturn, 1) := by decide +kernel
theorem dL_law_0 : decode cL_law 0 = .ok (.new 7, 3) := by decide +kernel
theorem dL_law_3 : decode cL_law 3 = .ok (.dup, 1) := by decide +kernel
theorem dL_law_4 : decode cL_law 4 = .ok (.invokespecial 9, 3) := by decide +kernel
theorem dL_law_7 : decode cL_law 7 = .ok (.astore_n 1, 1) := by decide +kernel
theorem dL_law_8 : decode cL_law 8 = .ok (.new 10, 3) := by decide +kernel
theorem dL_law_11 : decode cL_law 11 = .ok (.dup, 1) := by decide +kernel
theorem dL_law_12 : decode cL_law 12 = .ok (.invokespecial 12, 3) := by decide +kernel
theorem dL_law_15 : decode cL_law 15 = .ok (.astore_n 2, 1) := by decide +kernel
theorem dL_law_16 : decode cL_law 16 = .ok (.iconst 0, 1) := by decide +kernel
theorem dL_law_17 : decode cL_law 17 = .ok (.istore_n 3, 1) := by decide +kernel
theorem dL_law_18 : decode cL_law 18 = .ok (.iload_n 3, 1) := by decide +kernel
theorem dL_law_19 : decode cL_law 19 = .ok (.aload_n 0, 1) := by decide +kernel
theorem dL_law_20 : decode cL_law 20 = .ok (.arraylength, 1) := by decide +kernel
theorem dL_law_21 : decode cL_law 21 = .ok (.iconst 5, 1) := by decide +kernel
theorem dL_law_22 : decode cL_law 22 = .ok (.isub, 1) := by decide +kernel
theorem dL_law_23 : decode cL_law 23 = .ok (.if_icmp .gt 904, 3) := by decide +kernel
theorem dL_law_26 : decode cL_law 26 = .ok (.aload_n 0, 1) := by decide +kernel
theorem dL_law_27 : decode cL_law 27 = .ok (.iload_n 3, 1) := by decide +kernel
theorem dL_law_28 : decode cL_law 28 = .ok (.iaload, 1) := by decide +kernel
theorem dL_law_29 : decode cL_law 29 = .ok (.bipush 31, 2) := by decide +kernel
theorem dL_law_31 : decode cL_law 31 = .ok (.iand, 1) := by decide +kernel
theorem dL_law_32 : decode cL_law 32 = .ok (.tableswitch 889 0 25 #[120, 173, 186, 209, 222, 255, 298, 331, 364, 407, 440, 483, 516, 549, 572, 605, 648, 671, 694, 737, 760, 773, 826, 839, 852, 875], 120) := by decide +kernel
theorem dL_law_152 : decode cL_law 152 = .ok (.aload_n 1, 1) := by decide +kernel
theorem dL_law_153 : decode cL_law 153 = .ok (.aload_n 0, 1) := by decide +kernel
theorem dL_law_154 : decode cL_law 154 = .ok (.iload_n 3, 1) := by decide +kernel
theorem dL_law_155 : decode cL_law 155 = .ok (.iconst 1, 1) := by decide +kernel
theorem dL_law_156 : decode cL_law 156 = .ok (.iadd, 1) := by decide +kernel
theorem dL_law_157 : decode cL_law 157 = .ok (.iaload, 1) := by decide +kernel
theorem dL_law_158 : decode cL_law 158 = .ok (.i2l, 1) := by decide +kernel
theorem dL_law_159 : decode cL_law 159 = .ok (.bipush 32, 2) := by decide +kernel
theorem dL_law_161 : decode cL_law 161 = .ok (.lshl, 1) := by decide +kernel
theorem dL_law_162 : decode cL_law 162 = .ok (.aload_n 0, 1) := by decide +kernel
theorem dL_law_163 : decode cL_law 163 = .ok (.iload_n 3, 1) := by decide +kernel
theorem dL_law_164 : decode cL_law 164 = .ok (.iconst 2, 1) := by decide +kernel
theorem dL_law_165 : decode cL_law 165 = .ok (.iadd, 1) := by decide +kernel
theorem dL_law_166 : decode cL_law 166 = .ok (.iaload, 1) := by decide +kernel
theorem dL_law_167 : decode cL_law 167 = .ok (.i2l, 1) := by decide +kernel
theorem dL_law_168 : decode cL_law 168 = .ok (.ldc2_w 13, 3) := by decide +kernel
theorem dL_law_171 : decode cL_law 171 = .ok (.land, 1) := by decide +kernel
theorem dL_law_172 : decode cL_law 172 = .ok (.lor, 1) := by decide +kernel
theorem dL_law_173 : decode cL_law 173 = .ok (.invokevirtual 15, 3) := by decide +kernel
theorem dL_law_176 : decode cL_law 176 = .ok (.aload_n 2, 1) := by decide +kernel
theorem dL_law_177 : decode cL_law 177 = .ok (.aload_n 0, 1) := by decide +kernel
theorem dL_law_178 : decode cL_law 178 = .ok (.iload_n 3, 1) := by decide +kernel
theorem dL_law_179 : decode cL_law 179 = .ok (.iconst 1, 1) := by decide +kernel
theorem dL_law_180 : decode cL_law 180 = .ok (.iadd, 1) := by decide +kernel
theorem dL_law_181 : decode cL_law 181 = .ok (.iaload, 1) := by decide +kernel
theorem dL_law_182 : decode cL_law 182 = .ok (.i2l, 1) := by decide +kernel
theorem dL_law_183 : decode cL_law 183 = .ok (.bipush 32, 2) := by decide +kernel
theorem dL_law_185 : decode cL_law 185 = .ok (.lshl, 1) := by decide +kernel
theorem dL_law_186 : decode cL_law 186 = .ok (.aload_n 0, 1) := by decide +kernel
theorem dL_law_187 : decode cL_law 187 = .ok (.iload_n 3, 1) := by decide +kernel
theorem dL_law_188 : decode cL_law 188 = .ok (.iconst 2, 1) := by decide +kernel
theorem dL_law_189 : decode cL_law 189 = .ok (.iadd, 1) := by decide +kernel
theorem dL_law_190 : decode cL_law 190 = .ok (.iaload, 1) := by decide +kernel
theorem dL_law_191 : decode cL_law 191 = .ok (.i2l, 1) := by decide +kernel
theorem dL_law_192 : decode cL_law 192 = .ok (.ldc2_w 13, 3) := by decide +kernel
theorem dL_law_195 : decode cL_law 195 = .ok (.land, 1) := by decide +kernel
theorem dL_law_196 : decode cL_law 196 = .ok (.lor, 1) := by decide +kernel
theorem dL_law_197 : decode cL_law 197 = .ok (.invokevirtual 19, 3) := by decide +kernel
theorem dL_law_200 : decode cL_law 200 = .ok (.if_icmp .eq 721, 3) := by decide +kernel
theorem dL_law_203 : decode cL_law 203 = .ok (.iconst 0, 1) := by decide +kernel
theorem dL_law_204 : decode cL_law 204 = .ok (.ireturn, 1) := by decide +kernel
theorem dL_law_205 : decode cL_law 205 = .ok (.aload_n 1, 1) := by decide +kernel
theorem dL_law_206 : decode cL_law 206 = .ok (.invokevirtual 20, 3) := by decide +kernel
theorem dL_law_209 : decode cL_law 209 = .ok (.aload_n 2, 1) := by decide +kernel
theorem dL_law_210 : decode cL_law 210 = .ok (.invokevirtual 24, 3) := by decide +kernel
theorem dL_law_213 : decode cL_law 213 = .ok (.if_icmp .eq 708, 3) := by decide +kernel
theorem dL_law_216 : decode cL_law 216 = .ok (.iconst 0, 1) := by decide +kernel
theorem dL_law_217 : decode cL_law 217 = .ok (.ireturn, 1) := by decide +kernel
theorem dL_law_218 : decode cL_law 218 = .ok (.aload_n 1, 1) := by decide +kernel
theorem dL_law_219 : decode cL_law 219 = .ok (.aload_n 0, 1) := by decide +kernel
theorem dL_law_220 : decode cL_law 220 = .ok (.iload_n 3, 1) := by decide +kernel
theorem dL_law_221 : decode cL_law 221 = .ok (.iconst 1, 1) := by decide +kernel
theorem dL_law_222 : decode cL_law 222 = .ok (.iadd, 1) := by decide +kernel
theorem dL_law_223 : decode cL_law 223 = .ok (.iaload, 1) := by decide +kernel
theorem dL_law_224 : decode cL_law 224 = .ok (.invokevirtual 25, 3) := by decide +kernel
theorem dL_law_227 : decode cL_law 227 = .ok (.aload_n 2, 1) := by decide +kernel
theorem dL_law_228 : decode cL_law 228 = .ok (.aload_n 0, 1) := by decide +kernel
theorem dL_law_229 : decode cL_law 229 = .ok (.iload_n 3, 1) := by decide +kernel
theorem dL_law_230 : decode cL_law 230 = .ok (.iconst 1, 1) := by decide +kernel
theorem dL_law_231 : decode cL_law 231 = .ok (.iadd, 1) := by decide +kernel
theorem dL_law_232 : decode cL_law 232 = .ok (.iaload, 1) := by decide +kernel
theorem dL_law_233 : decode cL_law 233 = .ok (.invokevirtual 29, 3) := by decide +kernel
theorem dL_law_236 : decode cL_law 236 = .ok (.if_icmp .eq 685, 3) := by decide +kernel
theorem dL_law_239 : decode cL_law 239 = .ok (.iconst 0, 1) := by decide +kernel
theorem dL_law_240 : decode cL_law 240 = .ok (.ireturn, 1) := by decide +kernel
theorem dL_law_241 : decode cL_law 241 = .ok (.aload_n 1, 1) := by decide +kernel
theorem dL_law_242 : decode cL_law 242 = .ok (.invokevirtual 30, 3) := by decide +kernel
theorem dL_law_245 : decode cL_law 245 = .ok (.aload_n 2, 1) := by decide +kernel
theorem dL_law_246 : decode cL_law 246 = .ok (.invokevirtual 33, 3) := by decide +kernel
theorem dL_law_249 : decode cL_law 249 = .ok (.if_icmp .eq 672, 3) := by decide +kernel
theorem dL_law_252 : decode cL_law 252 = .ok (.iconst 0, 1) := by decide +kernel
theorem dL_law_253 : decode cL_law 253 = .ok (.ireturn, 1) := by decide +kernel
theorem dL_law_254 : decode cL_law 254 = .ok (.aload_n 1, 1) := by decide +kernel
theorem dL_law_255 : decode cL_law 255 = .ok (.aload_n 0, 1) := by decide +kernel
theorem dL_law_256 : decode cL_law 256 = .ok (.iload_n 3, 1) := by decide +kernel
theorem dL_law_257 : decode cL_law 257 = .ok (.iconst 1, 1) := by decide +kernel
theorem dL_law_258 : decode cL_law 258 = .ok (.iadd, 1) := by decide +kernel
theorem dL_law_259 : decode cL_law 259 = .ok (.iaload, 1) := by decide +kernel
theorem dL_law_260 : decode cL_law 260 = .ok (.aload_n 0, 1) := by decide +kernel
theorem dL_law_261 : decode cL_law 261 = .ok (.iload_n 3, 1) := by decide +kernel
theorem dL_law_262 : decode cL_law 262 = .ok (.iconst 2, 1) := by decide +kernel
theorem dL_law_263 : decode cL_law 263 = .ok (.iadd, 1) := by decide +kernel
theorem dL_law_264 : decode cL_law 264 = .ok (.iaload, 1) := by decide +kernel
theorem dL_law_265 : decode cL_law 265 = .ok (.invokevirtual 34, 3) := by decide +kernel
theorem dL_law_268 : decode cL_law 268 = .ok (.aload_n 2, 1) := by decide +kernel
theorem dL_law_269 : decode cL_law 269 = .ok (.aload_n 0, 1) := by decide +kernel
theorem dL_law_270 : decode cL_law 270 = .ok (.iload_n 3, 1) := by decide +kernel
theorem dL_law_271 : decode cL_law 271 = .ok (.iconst 1, 1) := by decide +kernel
theorem dL_law_272 : decode cL_law 272 = .ok (.iadd, 1) := by decide +kernel
theorem dL_law_273 : decode cL_law 273 = .ok (.iaload, 1) := by decide +kernel
theorem dL_law_274 : decode cL_law 274 = .ok (.aload_n 0, 1) := by decide +kernel
theorem dL_law_275 : decode cL_law 275 = .ok (.iload_n 3, 1) := by decide +kernel
theorem dL_law_276 : decode cL_law 276 = .ok (.iconst 2, 1) := by decide +kernel
theorem dL_law_277 : decode cL_law 277 = .ok (.iadd, 1) := by decide +kernel
theorem dL_law_278 : decode cL_law 278 = .ok (.iaload, 1) := by decide +kernel
theorem dL_law_279 : decode cL_law 279 = .ok (.invokevirtual 38, 3) := by decide +kernel
theorem dL_law_282 : decode cL_law 282 = .ok (.if_icmp .eq 639, 3) := by decide +kernel
theorem dL_law_285 : decode cL_law 285 = .ok (.iconst 0, 1) := by decide +kernel
theorem dL_law_286 : decode cL_law 286 = .ok (.ireturn, 1) := by decide +kernel
theorem dL_law_287 : decode cL_law 287 = .ok (.aload_n 1, 1) := by decide +kernel
theorem dL_law_288 : decode cL_law 288 = .ok (.aload_n 0, 1) := by decide +kernel
theorem dL_law_289 : decode cL_law 289 = .ok (.iload_n 3, 1) := by decide +kernel
theorem dL_law_290 : decode cL_law 290 = .ok (.iconst 1, 1) := by decide +kernel
theorem dL_law_291 : decode cL_law 291 = .ok (.iadd, 1) := by decide +kernel
theorem dL_law_292 : decode cL_law 292 = .ok (.iaload, 1) := by decide +kernel
theorem dL_law_293 : decode cL_law 293 = .ok (.aload_n 0, 1) := by decide +kernel
theorem dL_law_294 : decode cL_law 294 = .ok (.iload_n 3, 1) := by decide +kernel
theorem dL_law_295 : decode cL_law 295 = .ok (.iconst 2, 1) := by decide +kernel
theorem dL_law_296 : decode cL_law 296 = .ok (.iadd, 1) := by decide +kernel
theorem dL_law_297 : decode cL_law 297 = .ok (.iaload, 1) := by decide +kernel
theorem dL_law_298 : decode cL_law 298 = .ok (.aload_n 0, 1) := by decide +kernel
theorem dL_law_299 : decode cL_law 299 = .ok (.iload_n 3, 1) := by decide +kernel
theorem dL_law_300 : decode cL_law 300 = .ok (.iconst 3, 1) := by decide +kernel
theorem dL_law_301 : decode cL_law 301 = .ok (.iadd, 1) := by decide +kernel
theorem dL_law_302 : decode cL_law 302 = .ok (.iaload, 1) := by decide +kernel
theorem dL_law_303 : decode cL_law 303 = .ok (.invokevirtual 39, 3) := by decide +kernel
theorem dL_law_306 : decode cL_law 306 = .ok (.aload_n 2, 1) := by decide +kernel
theorem dL_law_307 : decode cL_law 307 = .ok (.aload_n 0, 1) := by decide +kernel
theorem dL_law_308 : decode cL_law 308 = .ok (.iload_n 3, 1) := by decide +kernel
theorem dL_law_309 : decode cL_law 309 = .ok (.iconst 1, 1) := by decide +kernel
theorem dL_law_310 : decode cL_law 310 = .ok (.iadd, 1) := by decide +kernel
theorem dL_law_311 : decode cL_law 311 = .ok (.iaload, 1) := by decide +kernel
theorem dL_law_312 : decode cL_law 312 = .ok (.aload_n 0, 1) := by decide +kernel
theorem dL_law_313 : decode cL_law 313 = .ok (.iload_n 3, 1) := by decide +kernel
theorem dL_law_314 : decode cL_law 314 = .ok (.iconst 2, 1) := by decide +kernel
theorem dL_law_315 : decode cL_law 315 = .ok (.iadd, 1) := by decide +kernel
theorem dL_law_316 : decode cL_law 316 = .ok (.iaload, 1) := by decide +kernel
theorem dL_law_317 : decode cL_law 317 = .ok (.aload_n 0, 1) := by decide +kernel
theorem dL_law_318 : decode cL_law 318 = .ok (.iload_n 3, 1) := by decide +kernel
theorem dL_law_319 : decode cL_law 319 = .ok (.iconst 3, 1) := by decide +kernel
theorem dL_law_320 : decode cL_law 320 = .ok (.iadd, 1) := by decide +kernel
theorem dL_law_321 : decode cL_law 321 = .ok (.iaload, 1) := by decide +kernel
theorem dL_law_322 : decode cL_law 322 = .ok (.invokevirtual 43, 3) := by decide +kernel
theorem dL_law_325 : decode cL_law 325 = .ok (.if_icmp .eq 596, 3) := by decide +kernel
theorem dL_law_328 : decode cL_law 328 = .ok (.iconst 0, 1) := by decide +kernel
theorem dL_law_329 : decode cL_law 329 = .ok (.ireturn, 1) := by decide +kernel
theorem dL_law_330 : decode cL_law 330 = .ok (.aload_n 1, 1) := by decide +kernel
theorem dL_law_331 : decode cL_law 331 = .ok (.aload_n 0, 1) := by decide +kernel
theorem dL_law_332 : decode cL_law 332 = .ok (.iload_n 3, 1) := by decide +kernel
theorem dL_law_333 : decode cL_law 333 = .ok (.iconst 1, 1) := by decide +kernel
theorem dL_law_334 : decode cL_law 334 = .ok (.iadd, 1) := by decide +kernel
theorem dL_law_335 : decode cL_law 335 = .ok (.iaload, 1) := by decide +kernel
theorem dL_law_336 : decode cL_law 336 = .ok (.aload_n 0, 1) := by decide +kernel
theorem dL_law_337 : decode cL_law 337 = .ok (.iload_n 3, 1) := by decide +kernel
theorem dL_law_338 : decode cL_law 338 = .ok (.iconst 2, 1) := by decide +kernel
theorem dL_law_339 : decode cL_law 339 = .ok (.iadd, 1) := by decide +kernel
theorem dL_law_340 : decode cL_law 340 = .ok (.iaload, 1) := by decide +kernel
theorem dL_law_341 : decode cL_law 341 = .ok (.invokevirtual 44, 3) := by decide +kernel
theorem dL_law_344 : decode cL_law 344 = .ok (.aload_n 2, 1) := by decide +kernel
theorem dL_law_345 : decode cL_law 345 = .ok (.aload_n 0, 1) := by decide +kernel
theorem dL_law_346 : decode cL_law 346 = .ok (.iload_n 3, 1) := by decide +kernel
theorem dL_law_347 : decode cL_law 347 = .ok (.iconst 1, 1) := by decide +kernel
theorem dL_law_348 : decode cL_law 348 = .ok (.iadd, 1) := by decide +kernel
theorem dL_law_349 : decode cL_law 349 = .ok (.iaload, 1) := by decide +kernel
theorem dL_law_350 : decode cL_law 350 = .ok (.aload_n 0, 1) := by decide +kernel
theorem dL_law_351 : decode cL_law 351 = .ok (.iload_n 3, 1) := by decide +kernel
theorem dL_law_352 : decode cL_law 352 = .ok (.iconst 2, 1) := by decide +kernel
theorem dL_law_353 : decode cL_law 353 = .ok (.iadd, 1) := by decide +kernel
theorem dL_law_354 : decode cL_law 354 = .ok (.iaload, 1) := by decide +kernel
theorem dL_law_355 : decode cL_law 355 = .ok (.invokevirtual 47, 3) := by decide +kernel
theorem dL_law_358 : decode cL_law 358 = .ok (.if_icmp .eq 563, 3) := by decide +kernel
theorem dL_law_361 : decode cL_law 361 = .ok (.iconst 0, 1) := by decide +kernel
theorem dL_law_362 : decode cL_law 362 = .ok (.ireturn, 1) := by decide +kernel
theorem dL_law_363 : decode cL_law 363 = .ok (.aload_n 1, 1) := by decide +kernel
theorem dL_law_364 : decode cL_law 364 = .ok (.aload_n 0, 1) := by decide +kernel
theorem dL_law_365 : decode cL_law 365 = .ok (.iload_n 3, 1) := by decide +kernel
theorem dL_law_366 : decode cL_law 366 = .ok (.iconst 1, 1) := by decide +kernel
theorem dL_law_367 : decode cL_law 367 = .ok (.iadd, 1) := by decide +kernel
theorem dL_law_368 : decode cL_law 368 = .ok (.iaload, 1) := by decide +kernel
theorem dL_law_369 : decode cL_law 369 = .ok (.aload_n 0, 1) := by decide +kernel
theorem dL_law_370 : decode cL_law 370 = .ok (.iload_n 3, 1) := by decide +kernel
theorem dL_law_371 : decode cL_law 371 = .ok (.iconst 2, 1) := by decide +kernel
theorem dL_law_372 : decode cL_law 372 = .ok (.iadd, 1) := by decide +kernel
theorem dL_law_373 : decode cL_law 373 = .ok (.iaload, 1) := by decide +kernel
theorem dL_law_374 : decode cL_law 374 = .ok (.invokevirtual 48, 3) := by decide +kernel
theorem dL_law_377 : decode cL_law 377 = .ok (.aload_n 2, 1) := by decide +kernel
theorem dL_law_378 : decode cL_law 378 = .ok (.aload_n 0, 1) := by decide +kernel
theorem dL_law_379 : decode cL_law 379 = .ok (.iload_n 3, 1) := by decide +kernel
theorem dL_law_380 : decode cL_law 380 = .ok (.iconst 1, 1) := by decide +kernel
theorem dL_law_381 : decode cL_law 381 = .ok (.iadd, 1) := by decide +kernel
theorem dL_law_382 : decode cL_law 382 = .ok (.iaload, 1) := by decide +kernel
theorem dL_law_383 : decode cL_law 383 = .ok (.aload_n 0, 1) := by decide +kernel
theorem dL_law_384 : decode cL_law 384 = .ok (.iload_n 3, 1) := by decide +kernel
theorem dL_law_385 : decode cL_law 385 = .ok (.iconst 2, 1) := by decide +kernel
theorem dL_law_386 : decode cL_law 386 = .ok (.iadd, 1) := by decide +kernel
theorem dL_law_387 : decode cL_law 387 = .ok (.iaload, 1) := by decide +kernel
theorem dL_law_388 : decode cL_law 388 = .ok (.invokevirtual 51, 3) := by decide +kernel
theorem dL_law_391 : decode cL_law 391 = .ok (.if_icmp .eq 530, 3) := by decide +kernel
theorem dL_law_394 : decode cL_law 394 = .ok (.iconst 0, 1) := by decide +kernel
theorem dL_law_395 : decode cL_law 395 = .ok (.ireturn, 1) := by decide +kernel
theorem dL_law_396 : decode cL_law 396 = .ok (.aload_n 1, 1) := by decide +kernel
theorem dL_law_397 : decode cL_law 397 = .ok (.aload_n 0, 1) := by decide +kernel
theorem dL_law_398 : decode cL_law 398 = .ok (.iload_n 3, 1) := by decide +kernel
theorem dL_law_399 : decode cL_law 399 = .ok (.iconst 1, 1) := by decide +kernel
theorem dL_law_400 : decode cL_law 400 = .ok (.iadd, 1) := by decide +kernel
theorem dL_law_401 : decode cL_law 401 = .ok (.iaload, 1) := by decide +kernel
theorem dL_law_402 : decode cL_law 402 = .ok (.aload_n 0, 1) := by decide +kernel
theorem dL_law_403 : decode cL_law 403 = .ok (.iload_n 3, 1) := by decide +kernel
theorem dL_law_404 : decode cL_law 404 = .ok (.iconst 2, 1) := by decide +kernel
theorem dL_law_405 : decode cL_law 405 = .ok (.iadd, 1) := by decide +kernel
theorem dL_law_406 : decode cL_law 406 = .ok (.iaload, 1) := by decide +kernel
theorem dL_law_407 : decode cL_law 407 = .ok (.aload_n 0, 1) := by decide +kernel
theorem dL_law_408 : decode cL_law 408 = .ok (.iload_n 3, 1) := by decide +kernel
theorem dL_law_409 : decode cL_law 409 = .ok (.iconst 3, 1) := by decide +kernel
theorem dL_law_410 : decode cL_law 410 = .ok (.iadd, 1) := by decide +kernel
theorem dL_law_411 : decode cL_law 411 = .ok (.iaload, 1) := by decide +kernel
theorem dL_law_412 : decode cL_law 412 = .ok (.invokevirtual 52, 3) := by decide +kernel
theorem dL_law_415 : decode cL_law 415 = .ok (.aload_n 2, 1) := by decide +kernel
theorem dL_law_416 : decode cL_law 416 = .ok (.aload_n 0, 1) := by decide +kernel
theorem dL_law_417 : decode cL_law 417 = .ok (.iload_n 3, 1) := by decide +kernel
theorem dL_law_418 : decode cL_law 418 = .ok (.iconst 1, 1) := by decide +kernel
theorem dL_law_419 : decode cL_law 419 = .ok (.iadd, 1) := by decide +kernel
theorem dL_law_420 : decode cL_law 420 = .ok (.iaload, 1) := by decide +kernel
theorem dL_law_421 : decode cL_law 421 = .ok (.aload_n 0, 1) := by decide +kernel
theorem dL_law_422 : decode cL_law 422 = .ok (.iload_n 3, 1) := by decide +kernel
theorem dL_law_423 : decode cL_law 423 = .ok (.iconst 2, 1) := by decide +kernel
theorem dL_law_424 : decode cL_law 424 = .ok (.iadd, 1) := by decide +kernel
theorem dL_law_425 : decode cL_law 425 = .ok (.iaload, 1) := by decide +kernel
theorem dL_law_426 : decode cL_law 426 = .ok (.aload_n 0, 1) := by decide +kernel
theorem dL_law_427 : decode cL_law 427 = .ok (.iload_n 3, 1) := by decide +kernel
theorem dL_law_428 : decode cL_law 428 = .ok (.iconst 3, 1) := by decide +kernel
theorem dL_law_429 : decode cL_law 429 = .ok (.iadd, 1) := by decide +kernel
theorem dL_law_430 : decode cL_law 430 = .ok (.iaload, 1) := by decide +kernel
theorem dL_law_431 : decode cL_law 431 = .ok (.invokevirtual 55, 3) := by decide +kernel
theorem dL_law_434 : decode cL_law 434 = .ok (.if_icmp .eq 487, 3) := by decide +kernel
theorem dL_law_437 : decode cL_law 437 = .ok (.iconst 0, 1) := by decide +kernel
theorem dL_law_438 : decode cL_law 438 = .ok (.ireturn, 1) := by decide +kernel
theorem dL_law_439 : decode cL_law 439 = .ok (.aload_n 1, 1) := by decide +kernel
theorem dL_law_440 : decode cL_law 440 = .ok (.aload_n 0, 1) := by decide +kernel
theorem dL_law_441 : decode cL_law 441 = .ok (.iload_n 3, 1) := by decide +kernel
theorem dL_law_442 : decode cL_law 442 = .ok (.iconst 1, 1) := by decide +kernel
theorem dL_law_443 : decode cL_law 443 = .ok (.iadd, 1) := by decide +kernel
theorem dL_law_444 : decode cL_law 444 = .ok (.iaload, 1) := by decide +kernel
theorem dL_law_445 : decode cL_law 445 = .ok (.aload_n 0, 1) := by decide +kernel
theorem dL_law_446 : decode cL_law 446 = .ok (.iload_n 3, 1) := by decide +kernel
theorem dL_law_447 : decode cL_law 447 = .ok (.iconst 2, 1) := by decide +kernel
theorem dL_law_448 : decode cL_law 448 = .ok (.iadd, 1) := by decide +kernel
theorem dL_law_449 : decode cL_law 449 = .ok (.iaload, 1) := by decide +kernel
theorem dL_law_450 : decode cL_law 450 = .ok (.invokevirtual 56, 3) := by decide +kernel
theorem dL_law_453 : decode cL_law 453 = .ok (.aload_n 2, 1) := by decide +kernel
theorem dL_law_454 : decode cL_law 454 = .ok (.aload_n 0, 1) := by decide +kernel
theorem dL_law_455 : decode cL_law 455 = .ok (.iload_n 3, 1) := by decide +kernel
theorem dL_law_456 : decode cL_law 456 = .ok (.iconst 1, 1) := by decide +kernel
theorem dL_law_457 : decode cL_law 457 = .ok (.iadd, 1) := by decide +kernel
theorem dL_law_458 : decode cL_law 458 = .ok (.iaload, 1) := by decide +kernel
theorem dL_law_459 : decode cL_law 459 = .ok (.aload_n 0, 1) := by decide +kernel
theorem dL_law_460 : decode cL_law 460 = .ok (.iload_n 3, 1) := by decide +kernel
theorem dL_law_461 : decode cL_law 461 = .ok (.iconst 2, 1) := by decide +kernel
theorem dL_law_462 : decode cL_law 462 = .ok (.iadd, 1) := by decide +kernel
theorem dL_law_463 : decode cL_law 463 = .ok (.iaload, 1) := by decide +kernel
theorem dL_law_464 : decode cL_law 464 = .ok (.invokevirtual 59, 3) := by decide +kernel
theorem dL_law_467 : decode cL_law 467 = .ok (.if_icmp .eq 454, 3) := by decide +kernel
theorem dL_law_470 : decode cL_law 470 = .ok (.iconst 0, 1) := by decide +kernel
theorem dL_law_471 : decode cL_law 471 = .ok (.ireturn, 1) := by decide +kernel
theorem dL_law_472 : decode cL_law 472 = .ok (.aload_n 1, 1) := by decide +kernel
theorem dL_law_473 : decode cL_law 473 = .ok (.aload_n 0, 1) := by decide +kernel
theorem dL_law_474 : decode cL_law 474 = .ok (.iload_n 3, 1) := by decide +kernel
theorem dL_law_475 : decode cL_law 475 = .ok (.iconst 1, 1) := by decide +kernel
theorem dL_law_476 : decode cL_law 476 = .ok (.iadd, 1) := by decide +kernel
theorem dL_law_477 : decode cL_law 477 = .ok (.iaload, 1) := by decide +kernel
theorem dL_law_478 : decode cL_law 478 = .ok (.aload_n 0, 1) := by decide +kernel
theorem dL_law_479 : decode cL_law 479 = .ok (.iload_n 3, 1) := by decide +kernel
theorem dL_law_480 : decode cL_law 480 = .ok (.iconst 2, 1) := by decide +kernel
theorem dL_law_481 : decode cL_law 481 = .ok (.iadd, 1) := by decide +kernel
theorem dL_law_482 : decode cL_law 482 = .ok (.iaload, 1) := by decide +kernel
theorem dL_law_483 : decode cL_law 483 = .ok (.aload_n 0, 1) := by decide +kernel
theorem dL_law_484 : decode cL_law 484 = .ok (.iload_n 3, 1) := by decide +kernel
theorem dL_law_485 : decode cL_law 485 = .ok (.iconst 3, 1) := by decide +kernel
theorem dL_law_486 : decode cL_law 486 = .ok (.iadd, 1) := by decide +kernel
theorem dL_law_487 : decode cL_law 487 = .ok (.iaload, 1) := by decide +kernel
theorem dL_law_488 : decode cL_law 488 = .ok (.invokevirtual 60, 3) := by decide +kernel
theorem dL_law_491 : decode cL_law 491 = .ok (.aload_n 2, 1) := by decide +kernel
theorem dL_law_492 : decode cL_law 492 = .ok (.aload_n 0, 1) := by decide +kernel
theorem dL_law_493 : decode cL_law 493 = .ok (.iload_n 3, 1) := by decide +kernel
theorem dL_law_494 : decode cL_law 494 = .ok (.iconst 1, 1) := by decide +kernel
theorem dL_law_495 : decode cL_law 495 = .ok (.iadd, 1) := by decide +kernel
theorem dL_law_496 : decode cL_law 496 = .ok (.iaload, 1) := by decide +kernel
theorem dL_law_497 : decode cL_law 497 = .ok (.aload_n 0, 1) := by decide +kernel
theorem dL_law_498 : decode cL_law 498 = .ok (.iload_n 3, 1) := by decide +kernel
theorem dL_law_499 : decode cL_law 499 = .ok (.iconst 2, 1) := by decide +kernel
theorem dL_law_500 : decode cL_law 500 = .ok (.iadd, 1) := by decide +kernel
theorem dL_law_501 : decode cL_law 501 = .ok (.iaload, 1) := by decide +kernel
theorem dL_law_502 : decode cL_law 502 = .ok (.aload_n 0, 1) := by decide +kernel
theorem dL_law_503 : decode cL_law 503 = .ok (.iload_n 3, 1) := by decide +kernel
theorem dL_law_504 : decode cL_law 504 = .ok (.iconst 3, 1) := by decide +kernel
theorem dL_law_505 : decode cL_law 505 = .ok (.iadd, 1) := by decide +kernel
theorem dL_law_506 : decode cL_law 506 = .ok (.iaload, 1) := by decide +kernel
theorem dL_law_507 : decode cL_law 507 = .ok (.invokevirtual 63, 3) := by decide +kernel
theorem dL_law_510 : decode cL_law 510 = .ok (.if_icmp .eq 411, 3) := by decide +kernel
theorem dL_law_513 : decode cL_law 513 = .ok (.iconst 0, 1) := by decide +kernel
theorem dL_law_514 : decode cL_law 514 = .ok (.ireturn, 1) := by decide +kernel
theorem dL_law_515 : decode cL_law 515 = .ok (.aload_n 1, 1) := by decide +kernel
theorem dL_law_516 : decode cL_law 516 = .ok (.aload_n 0, 1) := by decide +kernel
theorem dL_law_517 : decode cL_law 517 = .ok (.iload_n 3, 1) := by decide +kernel
theorem dL_law_518 : decode cL_law 518 = .ok (.iconst 1, 1) := by decide +kernel
theorem dL_law_519 : decode cL_law 519 = .ok (.iadd, 1) := by decide +kernel
theorem dL_law_520 : decode cL_law 520 = .ok (.iaload, 1) := by decide +kernel
theorem dL_law_521 : decode cL_law 521 = .ok (.aload_n 0, 1) := by decide +kernel
theorem dL_law_522 : decode cL_law 522 = .ok (.iload_n 3, 1) := by decide +kernel
theorem dL_law_523 : decode cL_law 523 = .ok (.iconst 2, 1) := by decide +kernel
theorem dL_law_524 : decode cL_law 524 = .ok (.iadd, 1) := by decide +kernel
theorem dL_law_525 : decode cL_law 525 = .ok (.iaload, 1) := by decide +kernel
theorem dL_law_526 : decode cL_law 526 = .ok (.invokevirtual 64, 3) := by decide +kernel
theorem dL_law_529 : decode cL_law 529 = .ok (.aload_n 2, 1) := by decide +kernel
theorem dL_law_530 : decode cL_law 530 = .ok (.aload_n 0, 1) := by decide +kernel
theorem dL_law_531 : decode cL_law 531 = .ok (.iload_n 3, 1) := by decide +kernel
theorem dL_law_532 : decode cL_law 532 = .ok (.iconst 1, 1) := by decide +kernel
theorem dL_law_533 : decode cL_law 533 = .ok (.iadd, 1) := by decide +kernel
theorem dL_law_534 : decode cL_law 534 = .ok (.iaload, 1) := by decide +kernel
theorem dL_law_535 : decode cL_law 535 = .ok (.aload_n 0, 1) := by decide +kernel
theorem dL_law_536 : decode cL_law 536 = .ok (.iload_n 3, 1) := by decide +kernel
theorem dL_law_537 : decode cL_law 537 = .ok (.iconst 2, 1) := by decide +kernel
theorem dL_law_538 : decode cL_law 538 = .ok (.iadd, 1) := by decide +kernel
theorem dL_law_539 : decode cL_law 539 = .ok (.iaload, 1) := by decide +kernel
theorem dL_law_540 : decode cL_law 540 = .ok (.invokevirtual 67, 3) := by decide +kernel
theorem dL_law_543 : decode cL_law 543 = .ok (.if_icmp .eq 378, 3) := by decide +kernel
theorem dL_law_546 : decode cL_law 546 = .ok (.iconst 0, 1) := by decide +kernel
theorem dL_law_547 : decode cL_law 547 = .ok (.ireturn, 1) := by decide +kernel
theorem dL_law_548 : decode cL_law 548 = .ok (.aload_n 1, 1) := by decide +kernel
theorem dL_law_549 : decode cL_law 549 = .ok (.aload_n 0, 1) := by decide +kernel
theorem dL_law_550 : decode cL_law 550 = .ok (.iload_n 3, 1) := by decide +kernel
theorem dL_law_551 : decode cL_law 551 = .ok (.iconst 1, 1) := by decide +kernel
theorem dL_law_552 : decode cL_law 552 = .ok (.iadd, 1) := by decide +kernel
theorem dL_law_553 : decode cL_law 553 = .ok (.iaload, 1) := by decide +kernel
theorem dL_law_554 : decode cL_law 554 = .ok (.aload_n 0, 1) := by decide +kernel
theorem dL_law_555 : decode cL_law 555 = .ok (.iload_n 3, 1) := by decide +kernel
theorem dL_law_556 : decode cL_law 556 = .ok (.iconst 2, 1) := by decide +kernel
theorem dL_law_557 : decode cL_law 557 = .ok (.iadd, 1) := by decide +kernel
theorem dL_law_558 : decode cL_law 558 = .ok (.iaload, 1) := by decide +kernel
theorem dL_law_559 : decode cL_law 559 = .ok (.invokevirtual 68, 3) := by decide +kernel
theorem dL_law_562 : decode cL_law 562 = .ok (.aload_n 2, 1) := by decide +kernel
theorem dL_law_563 : decode cL_law 563 = .ok (.aload_n 0, 1) := by decide +kernel
theorem dL_law_564 : decode cL_law 564 = .ok (.iload_n 3, 1) := by decide +kernel
theorem dL_law_565 : decode cL_law 565 = .ok (.iconst 1, 1) := by decide +kernel
theorem dL_law_566 : decode cL_law 566 = .ok (.iadd, 1) := by decide +kernel
theorem dL_law_567 : decode cL_law 567 = .ok (.iaload, 1) := by decide +kernel
theorem dL_law_568 : decode cL_law 568 = .ok (.aload_n 0, 1) := by decide +kernel
theorem dL_law_569 : decode cL_law 569 = .ok (.iload_n 3, 1) := by decide +kernel
theorem dL_law_570 : decode cL_law 570 = .ok (.iconst 2, 1) := by decide +kernel
theorem dL_law_571 : decode cL_law 571 = .ok (.iadd, 1) := by decide +kernel
theorem dL_law_572 : decode cL_law 572 = .ok (.iaload, 1) := by decide +kernel
theorem dL_law_573 : decode cL_law 573 = .ok (.invokevirtual 71, 3) := by decide +kernel
theorem dL_law_576 : decode cL_law 576 = .ok (.if_icmp .eq 345, 3) := by decide +kernel
theorem dL_law_579 : decode cL_law 579 = .ok (.iconst 0, 1) := by decide +kernel
theorem dL_law_580 : decode cL_law 580 = .ok (.ireturn, 1) := by decide +kernel
theorem dL_law_581 : decode cL_law 581 = .ok (.aload_n 1, 1) := by decide +kernel
theorem dL_law_582 : decode cL_law 582 = .ok (.aload_n 0, 1) := by decide +kernel
theorem dL_law_583 : decode cL_law 583 = .ok (.iload_n 3, 1) := by decide +kernel
theorem dL_law_584 : decode cL_law 584 = .ok (.iconst 1, 1) := by decide +kernel
theorem dL_law_585 : decode cL_law 585 = .ok (.iadd, 1) := by decide +kernel
theorem dL_law_586 : decode cL_law 586 = .ok (.iaload, 1) := by decide +kernel
theorem dL_law_587 : decode cL_law 587 = .ok (.invokevirtual 72, 3) := by decide +kernel
theorem dL_law_590 : decode cL_law 590 = .ok (.aload_n 2, 1) := by decide +kernel
theorem dL_law_591 : decode cL_law 591 = .ok (.aload_n 0, 1) := by decide +kernel
theorem dL_law_592 : decode cL_law 592 = .ok (.iload_n 3, 1) := by decide +kernel
theorem dL_law_593 : decode cL_law 593 = .ok (.iconst 1, 1) := by decide +kernel
theorem dL_law_594 : decode cL_law 594 = .ok (.iadd, 1) := by decide +kernel
theorem dL_law_595 : decode cL_law 595 = .ok (.iaload, 1) := by decide +kernel
theorem dL_law_596 : decode cL_law 596 = .ok (.invokevirtual 75, 3) := by decide +kernel
theorem dL_law_599 : decode cL_law 599 = .ok (.if_icmp .eq 322, 3) := by decide +kernel
theorem dL_law_602 : decode cL_law 602 = .ok (.iconst 0, 1) := by decide +kernel
theorem dL_law_603 : decode cL_law 603 = .ok (.ireturn, 1) := by decide +kernel
theorem dL_law_604 : decode cL_law 604 = .ok (.aload_n 1, 1) := by decide +kernel
theorem dL_law_605 : decode cL_law 605 = .ok (.aload_n 0, 1) := by decide +kernel
theorem dL_law_606 : decode cL_law 606 = .ok (.iload_n 3, 1) := by decide +kernel
theorem dL_law_607 : decode cL_law 607 = .ok (.iconst 1, 1) := by decide +kernel
theorem dL_law_608 : decode cL_law 608 = .ok (.iadd, 1) := by decide +kernel
theorem dL_law_609 : decode cL_law 609 = .ok (.iaload, 1) := by decide +kernel
theorem dL_law_610 : decode cL_law 610 = .ok (.aload_n 0, 1) := by decide +kernel
theorem dL_law_611 : decode cL_law 611 = .ok (.iload_n 3, 1) := by decide +kernel
theorem dL_law_612 : decode cL_law 612 = .ok (.iconst 2, 1) := by decide +kernel
theorem dL_law_613 : decode cL_law 613 = .ok (.iadd, 1) := by decide +kernel
theorem dL_law_614 : decode cL_law 614 = .ok (.iaload, 1) := by decide +kernel
theorem dL_law_615 : decode cL_law 615 = .ok (.invokevirtual 76, 3) := by decide +kernel
theorem dL_law_618 : decode cL_law 618 = .ok (.aload_n 2, 1) := by decide +kernel
theorem dL_law_619 : decode cL_law 619 = .ok (.aload_n 0, 1) := by decide +kernel
theorem dL_law_620 : decode cL_law 620 = .ok (.iload_n 3, 1) := by decide +kernel
theorem dL_law_621 : decode cL_law 621 = .ok (.iconst 1, 1) := by decide +kernel
theorem dL_law_622 : decode cL_law 622 = .ok (.iadd, 1) := by decide +kernel
theorem dL_law_623 : decode cL_law 623 = .ok (.iaload, 1) := by decide +kernel
theorem dL_law_624 : decode cL_law 624 = .ok (.aload_n 0, 1) := by decide +kernel
theorem dL_law_625 : decode cL_law 625 = .ok (.iload_n 3, 1) := by decide +kernel
theorem dL_law_626 : decode cL_law 626 = .ok (.iconst 2, 1) := by decide +kernel
theorem dL_law_627 : decode cL_law 627 = .ok (.iadd, 1) := by decide +kernel
theorem dL_law_628 : decode cL_law 628 = .ok (.iaload, 1) := by decide +kernel
theorem dL_law_629 : decode cL_law 629 = .ok (.invokevirtual 79, 3) := by decide +kernel
theorem dL_law_632 : decode cL_law 632 = .ok (.if_icmp .eq 289, 3) := by decide +kernel
theorem dL_law_635 : decode cL_law 635 = .ok (.iconst 0, 1) := by decide +kernel
theorem dL_law_636 : decode cL_law 636 = .ok (.ireturn, 1) := by decide +kernel
theorem dL_law_637 : decode cL_law 637 = .ok (.aload_n 1, 1) := by decide +kernel
theorem dL_law_638 : decode cL_law 638 = .ok (.aload_n 0, 1) := by decide +kernel
theorem dL_law_639 : decode cL_law 639 = .ok (.iload_n 3, 1) := by decide +kernel
theorem dL_law_640 : decode cL_law 640 = .ok (.iconst 1, 1) := by decide +kernel
theorem dL_law_641 : decode cL_law 641 = .ok (.iadd, 1) := by decide +kernel
theorem dL_law_642 : decode cL_law 642 = .ok (.iaload, 1) := by decide +kernel
theorem dL_law_643 : decode cL_law 643 = .ok (.aload_n 0, 1) := by decide +kernel
theorem dL_law_644 : decode cL_law 644 = .ok (.iload_n 3, 1) := by decide +kernel
theorem dL_law_645 : decode cL_law 645 = .ok (.iconst 2, 1) := by decide +kernel
theorem dL_law_646 : decode cL_law 646 = .ok (.iadd, 1) := by decide +kernel
theorem dL_law_647 : decode cL_law 647 = .ok (.iaload, 1) := by decide +kernel
theorem dL_law_648 : decode cL_law 648 = .ok (.aload_n 0, 1) := by decide +kernel
theorem dL_law_649 : decode cL_law 649 = .ok (.iload_n 3, 1) := by decide +kernel
theorem dL_law_650 : decode cL_law 650 = .ok (.iconst 3, 1) := by decide +kernel
theorem dL_law_651 : decode cL_law 651 = .ok (.iadd, 1) := by decide +kernel
theorem dL_law_652 : decode cL_law 652 = .ok (.iaload, 1) := by decide +kernel
theorem dL_law_653 : decode cL_law 653 = .ok (.invokevirtual 80, 3) := by decide +kernel
theorem dL_law_656 : decode cL_law 656 = .ok (.aload_n 2, 1) := by decide +kernel
theorem dL_law_657 : decode cL_law 657 = .ok (.aload_n 0, 1) := by decide +kernel
theorem dL_law_658 : decode cL_law 658 = .ok (.iload_n 3, 1) := by decide +kernel
theorem dL_law_659 : decode cL_law 659 = .ok (.iconst 1, 1) := by decide +kernel
theorem dL_law_660 : decode cL_law 660 = .ok (.iadd, 1) := by decide +kernel
theorem dL_law_661 : decode cL_law 661 = .ok (.iaload, 1) := by decide +kernel
theorem dL_law_662 : decode cL_law 662 = .ok (.aload_n 0, 1) := by decide +kernel
theorem dL_law_663 : decode cL_law 663 = .ok (.iload_n 3, 1) := by decide +kernel
theorem dL_law_664 : decode cL_law 664 = .ok (.iconst 2, 1) := by decide +kernel
theorem dL_law_665 : decode cL_law 665 = .ok (.iadd, 1) := by decide +kernel
theorem dL_law_666 : decode cL_law 666 = .ok (.iaload, 1) := by decide +kernel
theorem dL_law_667 : decode cL_law 667 = .ok (.aload_n 0, 1) := by decide +kernel
theorem dL_law_668 : decode cL_law 668 = .ok (.iload_n 3, 1) := by decide +kernel
theorem dL_law_669 : decode cL_law 669 = .ok (.iconst 3, 1) := by decide +kernel
theorem dL_law_670 : decode cL_law 670 = .ok (.iadd, 1) := by decide +kernel
theorem dL_law_671 : decode cL_law 671 = .ok (.iaload, 1) := by decide +kernel
theorem dL_law_672 : decode cL_law 672 = .ok (.invokevirtual 83, 3) := by decide +kernel
theorem dL_law_675 : decode cL_law 675 = .ok (.if_icmp .eq 246, 3) := by decide +kernel
theorem dL_law_678 : decode cL_law 678 = .ok (.iconst 0, 1) := by decide +kernel
theorem dL_law_679 : decode cL_law 679 = .ok (.ireturn, 1) := by decide +kernel
theorem dL_law_680 : decode cL_law 680 = .ok (.aload_n 1, 1) := by decide +kernel
theorem dL_law_681 : decode cL_law 681 = .ok (.aload_n 0, 1) := by decide +kernel
theorem dL_law_682 : decode cL_law 682 = .ok (.iload_n 3, 1) := by decide +kernel
theorem dL_law_683 : decode cL_law 683 = .ok (.iconst 1, 1) := by decide +kernel
theorem dL_law_684 : decode cL_law 684 = .ok (.iadd, 1) := by decide +kernel
theorem dL_law_685 : decode cL_law 685 = .ok (.iaload, 1) := by decide +kernel
theorem dL_law_686 : decode cL_law 686 = .ok (.invokevirtual 84, 3) := by decide +kernel
theorem dL_law_689 : decode cL_law 689 = .ok (.aload_n 2, 1) := by decide +kernel
theorem dL_law_690 : decode cL_law 690 = .ok (.aload_n 0, 1) := by decide +kernel
theorem dL_law_691 : decode cL_law 691 = .ok (.iload_n 3, 1) := by decide +kernel
theorem dL_law_692 : decode cL_law 692 = .ok (.iconst 1, 1) := by decide +kernel
theorem dL_law_693 : decode cL_law 693 = .ok (.iadd, 1) := by decide +kernel
theorem dL_law_694 : decode cL_law 694 = .ok (.iaload, 1) := by decide +kernel
theorem dL_law_695 : decode cL_law 695 = .ok (.invokevirtual 87, 3) := by decide +kernel
theorem dL_law_698 : decode cL_law 698 = .ok (.if_icmp .eq 223, 3) := by decide +kernel
theorem dL_law_701 : decode cL_law 701 = .ok (.iconst 0, 1) := by decide +kernel
theorem dL_law_702 : decode cL_law 702 = .ok (.ireturn, 1) := by decide +kernel
theorem dL_law_703 : decode cL_law 703 = .ok (.aload_n 1, 1) := by decide +kernel
theorem dL_law_704 : decode cL_law 704 = .ok (.aload_n 0, 1) := by decide +kernel
theorem dL_law_705 : decode cL_law 705 = .ok (.iload_n 3, 1) := by decide +kernel
theorem dL_law_706 : decode cL_law 706 = .ok (.iconst 1, 1) := by decide +kernel
theorem dL_law_707 : decode cL_law 707 = .ok (.iadd, 1) := by decide +kernel
theorem dL_law_708 : decode cL_law 708 = .ok (.iaload, 1) := by decide +kernel
theorem dL_law_709 : decode cL_law 709 = .ok (.invokevirtual 88, 3) := by decide +kernel
theorem dL_law_712 : decode cL_law 712 = .ok (.aload_n 2, 1) := by decide +kernel
theorem dL_law_713 : decode cL_law 713 = .ok (.aload_n 0, 1) := by decide +kernel
theorem dL_law_714 : decode cL_law 714 = .ok (.iload_n 3, 1) := by decide +kernel
theorem dL_law_715 : decode cL_law 715 = .ok (.iconst 1, 1) := by decide +kernel
theorem dL_law_716 : decode cL_law 716 = .ok (.iadd, 1) := by decide +kernel
theorem dL_law_717 : decode cL_law 717 = .ok (.iaload, 1) := by decide +kernel
theorem dL_law_718 : decode cL_law 718 = .ok (.invokevirtual 91, 3) := by decide +kernel
theorem dL_law_721 : decode cL_law 721 = .ok (.if_icmp .eq 200, 3) := by decide +kernel
theorem dL_law_724 : decode cL_law 724 = .ok (.iconst 0, 1) := by decide +kernel
theorem dL_law_725 : decode cL_law 725 = .ok (.ireturn, 1) := by decide +kernel
theorem dL_law_726 : decode cL_law 726 = .ok (.aload_n 1, 1) := by decide +kernel
theorem dL_law_727 : decode cL_law 727 = .ok (.aload_n 0, 1) := by decide +kernel
theorem dL_law_728 : decode cL_law 728 = .ok (.iload_n 3, 1) := by decide +kernel
theorem dL_law_729 : decode cL_law 729 = .ok (.iconst 1, 1) := by decide +kernel
theorem dL_law_730 : decode cL_law 730 = .ok (.iadd, 1) := by decide +kernel
theorem dL_law_731 : decode cL_law 731 = .ok (.iaload, 1) := by decide +kernel
theorem dL_law_732 : decode cL_law 732 = .ok (.aload_n 0, 1) := by decide +kernel
theorem dL_law_733 : decode cL_law 733 = .ok (.iload_n 3, 1) := by decide +kernel
theorem dL_law_734 : decode cL_law 734 = .ok (.iconst 2, 1) := by decide +kernel
theorem dL_law_735 : decode cL_law 735 = .ok (.iadd, 1) := by decide +kernel
theorem dL_law_736 : decode cL_law 736 = .ok (.iaload, 1) := by decide +kernel
theorem dL_law_737 : decode cL_law 737 = .ok (.aload_n 0, 1) := by decide +kernel
theorem dL_law_738 : decode cL_law 738 = .ok (.iload_n 3, 1) := by decide +kernel
theorem dL_law_739 : decode cL_law 739 = .ok (.iconst 3, 1) := by decide +kernel
theorem dL_law_740 : decode cL_law 740 = .ok (.iadd, 1) := by decide +kernel
theorem dL_law_741 : decode cL_law 741 = .ok (.iaload, 1) := by decide +kernel
theorem dL_law_742 : decode cL_law 742 = .ok (.invokevirtual 92, 3) := by decide +kernel
theorem dL_law_745 : decode cL_law 745 = .ok (.aload_n 2, 1) := by decide +kernel
theorem dL_law_746 : decode cL_law 746 = .ok (.aload_n 0, 1) := by decide +kernel
theorem dL_law_747 : decode cL_law 747 = .ok (.iload_n 3, 1) := by decide +kernel
theorem dL_law_748 : decode cL_law 748 = .ok (.iconst 1, 1) := by decide +kernel
theorem dL_law_749 : decode cL_law 749 = .ok (.iadd, 1) := by decide +kernel
theorem dL_law_750 : decode cL_law 750 = .ok (.iaload, 1) := by decide +kernel
theorem dL_law_751 : decode cL_law 751 = .ok (.aload_n 0, 1) := by decide +kernel
theorem dL_law_752 : decode cL_law 752 = .ok (.iload_n 3, 1) := by decide +kernel
theorem dL_law_753 : decode cL_law 753 = .ok (.iconst 2, 1) := by decide +kernel
theorem dL_law_754 : decode cL_law 754 = .ok (.iadd, 1) := by decide +kernel
theorem dL_law_755 : decode cL_law 755 = .ok (.iaload, 1) := by decide +kernel
theorem dL_law_756 : decode cL_law 756 = .ok (.aload_n 0, 1) := by decide +kernel
theorem dL_law_757 : decode cL_law 757 = .ok (.iload_n 3, 1) := by decide +kernel
theorem dL_law_758 : decode cL_law 758 = .ok (.iconst 3, 1) := by decide +kernel
theorem dL_law_759 : decode cL_law 759 = .ok (.iadd, 1) := by decide +kernel
theorem dL_law_760 : decode cL_law 760 = .ok (.iaload, 1) := by decide +kernel
theorem dL_law_761 : decode cL_law 761 = .ok (.invokevirtual 95, 3) := by decide +kernel
theorem dL_law_764 : decode cL_law 764 = .ok (.if_icmp .eq 157, 3) := by decide +kernel
theorem dL_law_767 : decode cL_law 767 = .ok (.iconst 0, 1) := by decide +kernel
theorem dL_law_768 : decode cL_law 768 = .ok (.ireturn, 1) := by decide +kernel
theorem dL_law_769 : decode cL_law 769 = .ok (.aload_n 1, 1) := by decide +kernel
theorem dL_law_770 : decode cL_law 770 = .ok (.aload_n 0, 1) := by decide +kernel
theorem dL_law_771 : decode cL_law 771 = .ok (.iload_n 3, 1) := by decide +kernel
theorem dL_law_772 : decode cL_law 772 = .ok (.iconst 1, 1) := by decide +kernel
theorem dL_law_773 : decode cL_law 773 = .ok (.iadd, 1) := by decide +kernel
theorem dL_law_774 : decode cL_law 774 = .ok (.iaload, 1) := by decide +kernel
theorem dL_law_775 : decode cL_law 775 = .ok (.invokevirtual 96, 3) := by decide +kernel
theorem dL_law_778 : decode cL_law 778 = .ok (.aload_n 2, 1) := by decide +kernel
theorem dL_law_779 : decode cL_law 779 = .ok (.aload_n 0, 1) := by decide +kernel
theorem dL_law_780 : decode cL_law 780 = .ok (.iload_n 3, 1) := by decide +kernel
theorem dL_law_781 : decode cL_law 781 = .ok (.iconst 1, 1) := by decide +kernel
theorem dL_law_782 : decode cL_law 782 = .ok (.iadd, 1) := by decide +kernel
theorem dL_law_783 : decode cL_law 783 = .ok (.iaload, 1) := by decide +kernel
theorem dL_law_784 : decode cL_law 784 = .ok (.invokevirtual 99, 3) := by decide +kernel
theorem dL_law_787 : decode cL_law 787 = .ok (.if_icmp .eq 134, 3) := by decide +kernel
theorem dL_law_790 : decode cL_law 790 = .ok (.iconst 0, 1) := by decide +kernel
theorem dL_law_791 : decode cL_law 791 = .ok (.ireturn, 1) := by decide +kernel
theorem dL_law_792 : decode cL_law 792 = .ok (.aload_n 1, 1) := by decide +kernel
theorem dL_law_793 : decode cL_law 793 = .ok (.invokevirtual 100, 3) := by decide +kernel
theorem dL_law_796 : decode cL_law 796 = .ok (.aload_n 2, 1) := by decide +kernel
theorem dL_law_797 : decode cL_law 797 = .ok (.invokevirtual 103, 3) := by decide +kernel
theorem dL_law_800 : decode cL_law 800 = .ok (.if_icmp .eq 121, 3) := by decide +kernel
theorem dL_law_803 : decode cL_law 803 = .ok (.iconst 0, 1) := by decide +kernel
theorem dL_law_804 : decode cL_law 804 = .ok (.ireturn, 1) := by decide +kernel
theorem dL_law_805 : decode cL_law 805 = .ok (.aload_n 1, 1) := by decide +kernel
theorem dL_law_806 : decode cL_law 806 = .ok (.aload_n 0, 1) := by decide +kernel
theorem dL_law_807 : decode cL_law 807 = .ok (.iload_n 3, 1) := by decide +kernel
theorem dL_law_808 : decode cL_law 808 = .ok (.iconst 1, 1) := by decide +kernel
theorem dL_law_809 : decode cL_law 809 = .ok (.iadd, 1) := by decide +kernel
theorem dL_law_810 : decode cL_law 810 = .ok (.iaload, 1) := by decide +kernel
theorem dL_law_811 : decode cL_law 811 = .ok (.aload_n 0, 1) := by decide +kernel
theorem dL_law_812 : decode cL_law 812 = .ok (.iload_n 3, 1) := by decide +kernel
theorem dL_law_813 : decode cL_law 813 = .ok (.iconst 2, 1) := by decide +kernel
theorem dL_law_814 : decode cL_law 814 = .ok (.iadd, 1) := by decide +kernel
theorem dL_law_815 : decode cL_law 815 = .ok (.iaload, 1) := by decide +kernel
theorem dL_law_816 : decode cL_law 816 = .ok (.aload_n 0, 1) := by decide +kernel
theorem dL_law_817 : decode cL_law 817 = .ok (.iload_n 3, 1) := by decide +kernel
theorem dL_law_818 : decode cL_law 818 = .ok (.iconst 3, 1) := by decide +kernel
theorem dL_law_819 : decode cL_law 819 = .ok (.iadd, 1) := by decide +kernel
theorem dL_law_820 : decode cL_law 820 = .ok (.iaload, 1) := by decide +kernel
theorem dL_law_821 : decode cL_law 821 = .ok (.aload_n 0, 1) := by decide +kernel
theorem dL_law_822 : decode cL_law 822 = .ok (.iload_n 3, 1) := by decide +kernel
theorem dL_law_823 : decode cL_law 823 = .ok (.iconst 4, 1) := by decide +kernel
theorem dL_law_824 : decode cL_law 824 = .ok (.iadd, 1) := by decide +kernel
theorem dL_law_825 : decode cL_law 825 = .ok (.iaload, 1) := by decide +kernel
theorem dL_law_826 : decode cL_law 826 = .ok (.invokevirtual 104, 3) := by decide +kernel
theorem dL_law_829 : decode cL_law 829 = .ok (.aload_n 2, 1) := by decide +kernel
theorem dL_law_830 : decode cL_law 830 = .ok (.aload_n 0, 1) := by decide +kernel
theorem dL_law_831 : decode cL_law 831 = .ok (.iload_n 3, 1) := by decide +kernel
theorem dL_law_832 : decode cL_law 832 = .ok (.iconst 1, 1) := by decide +kernel
theorem dL_law_833 : decode cL_law 833 = .ok (.iadd, 1) := by decide +kernel
theorem dL_law_834 : decode cL_law 834 = .ok (.iaload, 1) := by decide +kernel
theorem dL_law_835 : decode cL_law 835 = .ok (.aload_n 0, 1) := by decide +kernel
theorem dL_law_836 : decode cL_law 836 = .ok (.iload_n 3, 1) := by decide +kernel
theorem dL_law_837 : decode cL_law 837 = .ok (.iconst 2, 1) := by decide +kernel
theorem dL_law_838 : decode cL_law 838 = .ok (.iadd, 1) := by decide +kernel
theorem dL_law_839 : decode cL_law 839 = .ok (.iaload, 1) := by decide +kernel
theorem dL_law_840 : decode cL_law 840 = .ok (.aload_n 0, 1) := by decide +kernel
theorem dL_law_841 : decode cL_law 841 = .ok (.iload_n 3, 1) := by decide +kernel
theorem dL_law_842 : decode cL_law 842 = .ok (.iconst 3, 1) := by decide +kernel
theorem dL_law_843 : decode cL_law 843 = .ok (.iadd, 1) := by decide +kernel
theorem dL_law_844 : decode cL_law 844 = .ok (.iaload, 1) := by decide +kernel
theorem dL_law_845 : decode cL_law 845 = .ok (.aload_n 0, 1) := by decide +kernel
theorem dL_law_846 : decode cL_law 846 = .ok (.iload_n 3, 1) := by decide +kernel
theorem dL_law_847 : decode cL_law 847 = .ok (.iconst 4, 1) := by decide +kernel
theorem dL_law_848 : decode cL_law 848 = .ok (.iadd, 1) := by decide +kernel
theorem dL_law_849 : decode cL_law 849 = .ok (.iaload, 1) := by decide +kernel
theorem dL_law_850 : decode cL_law 850 = .ok (.invokevirtual 108, 3) := by decide +kernel
theorem dL_law_853 : decode cL_law 853 = .ok (.if_icmp .eq 68, 3) := by decide +kernel
theorem dL_law_856 : decode cL_law 856 = .ok (.iconst 0, 1) := by decide +kernel
theorem dL_law_857 : decode cL_law 857 = .ok (.ireturn, 1) := by decide +kernel
theorem dL_law_858 : decode cL_law 858 = .ok (.aload_n 1, 1) := by decide +kernel
theorem dL_law_859 : decode cL_law 859 = .ok (.invokevirtual 109, 3) := by decide +kernel
theorem dL_law_862 : decode cL_law 862 = .ok (.aload_n 2, 1) := by decide +kernel
theorem dL_law_863 : decode cL_law 863 = .ok (.invokevirtual 112, 3) := by decide +kernel
theorem dL_law_866 : decode cL_law 866 = .ok (.if_icmp .eq 55, 3) := by decide +kernel
theorem dL_law_869 : decode cL_law 869 = .ok (.iconst 0, 1) := by decide +kernel
theorem dL_law_870 : decode cL_law 870 = .ok (.ireturn, 1) := by decide +kernel
theorem dL_law_871 : decode cL_law 871 = .ok (.aload_n 1, 1) := by decide +kernel
theorem dL_law_872 : decode cL_law 872 = .ok (.invokevirtual 113, 3) := by decide +kernel
theorem dL_law_875 : decode cL_law 875 = .ok (.aload_n 2, 1) := by decide +kernel
theorem dL_law_876 : decode cL_law 876 = .ok (.invokevirtual 116, 3) := by decide +kernel
theorem dL_law_879 : decode cL_law 879 = .ok (.if_icmp .eq 42, 3) := by decide +kernel
theorem dL_law_882 : decode cL_law 882 = .ok (.iconst 0, 1) := by decide +kernel
theorem dL_law_883 : decode cL_law 883 = .ok (.ireturn, 1) := by decide +kernel
theorem dL_law_884 : decode cL_law 884 = .ok (.aload_n 1, 1) := by decide +kernel
theorem dL_law_885 : decode cL_law 885 = .ok (.aload_n 0, 1) := by decide +kernel
theorem dL_law_886 : decode cL_law 886 = .ok (.iload_n 3, 1) := by decide +kernel
theorem dL_law_887 : decode cL_law 887 = .ok (.iconst 1, 1) := by decide +kernel
theorem dL_law_888 : decode cL_law 888 = .ok (.iadd, 1) := by decide +kernel
theorem dL_law_889 : decode cL_law 889 = .ok (.iaload, 1) := by decide +kernel
theorem dL_law_890 : decode cL_law 890 = .ok (.invokevirtual 117, 3) := by decide +kernel
theorem dL_law_893 : decode cL_law 893 = .ok (.aload_n 2, 1) := by decide +kernel
theorem dL_law_894 : decode cL_law 894 = .ok (.aload_n 0, 1) := by decide +kernel
theorem dL_law_895 : decode cL_law 895 = .ok (.iload_n 3, 1) := by decide +kernel
theorem dL_law_896 : decode cL_law 896 = .ok (.iconst 1, 1) := by decide +kernel
theorem dL_law_897 : decode cL_law 897 = .ok (.iadd, 1) := by decide +kernel
theorem dL_law_898 : decode cL_law 898 = .ok (.iaload, 1) := by decide +kernel
theorem dL_law_899 : decode cL_law 899 = .ok (.invokevirtual 120, 3) := by decide +kernel
theorem dL_law_902 : decode cL_law 902 = .ok (.if_icmp .eq 19, 3) := by decide +kernel
theorem dL_law_905 : decode cL_law 905 = .ok (.iconst 0, 1) := by decide +kernel
theorem dL_law_906 : decode cL_law 906 = .ok (.ireturn, 1) := by decide +kernel
theorem dL_law_907 : decode cL_law 907 = .ok (.aload_n 1, 1) := by decide +kernel
theorem dL_law_908 : decode cL_law 908 = .ok (.invokevirtual 121, 3) := by decide +kernel
theorem dL_law_911 : decode cL_law 911 = .ok (.aload_n 2, 1) := by decide +kernel
theorem dL_law_912 : decode cL_law 912 = .ok (.invokevirtual 125, 3) := by decide +kernel
theorem dL_law_915 : decode cL_law 915 = .ok (.lcmp, 1) := by decide +kernel
theorem dL_law_916 : decode cL_law 916 = .ok (.ifCond .eq 5, 3) := by decide +kernel
theorem dL_law_919 : decode cL_law 919 = .ok (.iconst 0, 1) := by decide +kernel
theorem dL_law_920 : decode cL_law 920 = .ok (.ireturn, 1) := by decide +kernel
theorem dL_law_921 : decode cL_law 921 = .ok (.iinc 3 5, 3) := by decide +kernel
theorem dL_law_924 : decode cL_law 924 = .ok (.goto (-906), 3) := by decide +kernel
theorem dL_law_927 : decode cL_law 927 = .ok (.iconst 1, 1) := by decide +kernel
theorem dL_law_928 : decode cL_law 928 = .ok (.ireturn, 1) := by decide +kernel
end
section
/-! THE ABSTRACT MACHINE: a memory of whole numbers by (cell, place), over cells of a fixed shape; refs are numbers of cells -/
abbrev zw_M : Type := (Nat → Nat → Int32) × (Nat → Nat → Int64)
abbrev zw_I : Type := MethodName × ByteArray × Nat × Option FieldType
abbrev zw_H : Type := (Nat × Nat) ⊕ (Nat × List (Option (Option Nat)))
abbrev zw_G : Type := va_G × (Nat → ClassId) × (Nat → Nat)
def zw_v (ad : Nat → Nat) (v : Value) : Value := match v with
  | .ref k => .ref (ad k)
  | w => w
theorem zw_v_cat (ad : Nat → Nat) (v : Value) : (zw_v ad v).category = v.category := by cases v <;> rfl
def zw_f (ad : Nat → Nat) (M : zw_M) (q k : Nat) (x : Option (Option Nat)) : Value := match x with
  | none => .int (M.1 q k)
  | some none => .long (M.2 q k)
  | some (some r) => .ref (ad r)
def zw_e (G : zw_G) (M : zw_M) (q : Nat) (h : zw_H) : va_E := match h with
  | .inl (t, n) => .inl (G.2.1 t, n, .inl (M.1 q))
  | .inr (ci, ks) => .inr (ci, ks.mapIdx (fun k x => zw_f G.2.2 M q k x))
def zs_S : List zw_H := [.inr (10, [some (some 1), some (some 3), some (some 4), some (some 8), some (some 13), some (some 16), some (some 19), some (some 24), some (some 27), some (some 31), none, none, none]), .inr (3, [some (some 2), none]), .inl (1, 40), .inr (4, [none, none, none]), .inr (1, [some (some 5), some (some 6), some (some 7), none, none, none, none]), .inl (0, 30), .inl (0, 30), .inl (0, 30), .inr (8, [some (some 9), some (some 10), some (some 11), some (some 12), none, none]), .inl (0, 8), .inl (0, 8), .inl (0, 64), .inl (0, 64), .inr (0, [some (some 4), some (some 8), some (some 14), some (some 15)]), .inl (0, 8), .inl (0, 8), .inr (5, [some (some 1), some (some 4), some (some 13), some (some 17), some (some 18), none, none]), .inl (0, 8), .inl (0, 8), .inr (9, [some (some 4), some (some 8), some (some 13), some (some 20), some (some 21), some (some 22), some (some 23), none, none, none, none]), .inl (0, 6), .inl (0, 6), .inl (0, 6), .inl (0, 6), .inr (7, [some (some 4), some (some 8), some (some 13), some (some 25), some (some 26), none]), .inl (0, 5), .inl (0, 30), .inr (2, [some (some 4), some (some 8), some (some 13), some (some 28), some (some 29), some (some 30)]), .inl (0, 3), .inl (0, 8), .inl (0, 8), .inr (6, [some (some 4), some (some 8), some (some 32), some none]), .inl (0, 8), .inr (11, [none, none, none, none, some (some 34), none, some (some 35), some (some 36), some (some 37), none, none, none, some (some 38), none, none, none, none, none, some (some 39), none, none, none, some (some 40), some (some 41), some (some 42), some (some 43), none, none, some (some 44), some (some 45), none, none, none, none, some none, none, none, none, some (some 46), some none]), .inl (0, 30), .inl (0, 8), .inl (0, 8), .inl (0, 64), .inl (2, 40), .inl (0, 30), .inl (0, 8), .inl (0, 8), .inl (0, 8), .inl (0, 8), .inl (0, 8), .inl (0, 8), .inl (0, 64)]
def zs_cl : List vw_C := [(RX0, TX0, 4), (RX1, TX1, 7), (RX2, TX2, 6), (RX3, TX3, 2), (RX4, TX4, 3), (RX5, TX5, 7), (RX6, TX6, 4), (RX7, TX7, 6), (RX8, TX8, 6), (RX9, TX9, 11), (RX10, TX10, 13), (RX11, TX11, 40)]
def zs_nest : List (String × Nat × MethodName × String) := [(RX8, 56, yX10_isQuarter, "IslandThatLeans"), (RX0, 57, yX10_isQuarter, "IslandThatLeans")]
def zw_W (G : zw_G) (M : zw_M) : va_W := zs_S.mapIdx (fun q h => (G.2.2 q, zw_e G M q h))
def zw_t (G : zw_G) : List (ClassId × FieldType) := [(G.2.1 0, .int), (G.2.1 1, .char), (G.2.1 2, .byte)]
theorem zw_W_at {G : zw_G} {M : zw_M} {q : Nat} {h : zw_H} (e : zs_S[q]? = some h) : (zw_W G M)[q]? = some (G.2.2 q, zw_e G M q h) := by
  simp [zw_W, List.getElem?_mapIdx, e]
theorem zw_W_of {G : zw_G} {M : zw_M} {q : Nat} {z : Nat × va_E} (e : (zw_W G M)[q]? = some z) : q < zs_S.length ∧ z.1 = G.2.2 q := by
  rw [zw_W, List.getElem?_mapIdx] at e
  cases h : zs_S[q]? with
  | none => rw [h] at e; cases e
  | some w =>
    rw [h] at e
    cases e
    exact ⟨(List.getElem?_eq_some_iff.mp h).1, rfl⟩
/-- a number is written -/
def zw_s (M : zw_M) (q k : Nat) (x : Int32) : zw_M := (fun p j => if p = q ∧ j = k then x else M.1 p j, M.2)
def zw_sl (M : zw_M) (q k : Nat) (x : Int64) : zw_M := (M.1, fun p j => if p = q ∧ j = k then x else M.2 p j)
/-- a whole row is written -/
def zw_sr (M : zw_M) (q : Nat) (f : Nat → Int32) : zw_M := (fun p => if p = q then f else M.1 p, M.2)
theorem zw_e_row {G : zw_G} {M M' : zw_M} {q : Nat} {h : zw_H} (e1 : ∀ j, M'.1 q j = M.1 q j) (e2 : ∀ j, M'.2 q j = M.2 q j) : zw_e G M' q h = zw_e G M q h := by
  rcases h with ⟨t, n⟩ | ⟨ci, ks⟩
  · have : M'.1 q = M.1 q := funext e1
    simp only [zw_e, this]
  · simp only [zw_e]
    congr 2
    congr 1
    funext k x
    rcases x with _ | _ | r <;> simp [zw_f, e1, e2]
theorem zw_W_set {G : zw_G} {M M' : zw_M} {q : Nat} {h : zw_H} {e : va_E} (hs : zs_S[q]? = some h) (e1 : ∀ p j, p ≠ q → M'.1 p j = M.1 p j) (e2 : ∀ p j, p ≠ q → M'.2 p j = M.2 p j) (e3 : zw_e G M' q h = e) : (zw_W G M).set q (G.2.2 q, e) = zw_W G M' := by
  apply List.ext_getElem?
  intro j
  rw [List.getElem?_set]
  have hq : q < (zw_W G M).length := (List.getElem?_eq_some_iff.mp (zw_W_at hs)).1
  by_cases hj : q = j
  · subst hj
    rw [if_pos rfl, if_pos hq, zw_W_at hs, e3]
  · rw [if_neg hj]
    simp only [zw_W, List.getElem?_mapIdx]
    cases zs_S[j]? with
    | none => rfl
    | some w =>
      exact congrArg (fun z => some (G.2.2 j, z)) (zw_e_row (fun k => e1 j k (Ne.symm hj)) (fun k => e2 j k (Ne.symm hj))).symm
theorem zw_W_seta {G : zw_G} {M : zw_M} {q t n k : Nat} {x : Int32} (hs : zs_S[q]? = some (.inl (t, n))) : (zw_W G M).set q (G.2.2 q, .inl (G.2.1 t, n, .inl (upd (M.1 q) k x))) = zw_W G (zw_s M q k x) := by
  refine zw_W_set hs (fun p j hp => by simp [zw_s, hp]) (fun p j _ => rfl) ?_
  simp only [zw_e]
  congr 4
  funext j
  simp [zw_s, upd]
theorem zw_W_setr {G : zw_G} {M : zw_M} {q t n : Nat} {f : Nat → Int32} (hs : zs_S[q]? = some (.inl (t, n))) : (zw_W G M).set q (G.2.2 q, .inl (G.2.1 t, n, .inl f)) = zw_W G (zw_sr M q f) := by
  refine zw_W_set hs (fun p j hp => by simp [zw_sr, hp]) (fun p j _ => rfl) ?_
  simp [zw_e, zw_sr]
theorem zw_mi {ad : Nat → Nat} {M M' : zw_M} {q k : Nat} {ks : List (Option (Option Nat))} {v : Value} (hk : ∃ x, ks[k]? = some x ∧ zw_f ad M' q k x = v) (e : ∀ i x, ks[i]? = some x → i ≠ k → zw_f ad M' q i x = zw_f ad M q i x) : ks.mapIdx (fun k x => zw_f ad M' q k x) = (ks.mapIdx (fun k x => zw_f ad M q k x)).set k v := by
  apply List.ext_getElem?
  intro j
  obtain ⟨x, hx, hv⟩ := hk
  have hlt : k < (ks.mapIdx (fun k x => zw_f ad M q k x)).length := by simpa using (List.getElem?_eq_some_iff.mp hx).1
  rw [List.getElem?_set, List.getElem?_mapIdx]
  by_cases hj : k = j
  · subst hj
    rw [if_pos rfl, if_pos hlt, hx]
    simp [hv]
  · rw [if_neg hj, List.getElem?_mapIdx]
    cases h : ks[j]? with
    | none => rfl
    | some z => simp [e j z h (Ne.symm hj)]
theorem zw_W_seti {G : zw_G} {M : zw_M} {q ci k : Nat} {ks : List (Option (Option Nat))} {x : Int32} (hs : zs_S[q]? = some (.inr (ci, ks))) (hk : ks[k]? = some none) : (zw_W G M).set q (G.2.2 q, .inr (ci, (ks.mapIdx (fun k x => zw_f G.2.2 M q k x)).set k (.int x))) = zw_W G (zw_s M q k x) := by
  refine zw_W_set hs (fun p j hp => by simp [zw_s, hp]) (fun p j _ => rfl) ?_
  simp only [zw_e]
  congr 2
  refine zw_mi ⟨none, hk, by simp [zw_f, zw_s]⟩ (fun i z hz hi => ?_)
  rcases z with _ | _ | r <;> simp [zw_f, zw_s, hi]
theorem zw_W_setl {G : zw_G} {M : zw_M} {q ci k : Nat} {ks : List (Option (Option Nat))} {x : Int64} (hs : zs_S[q]? = some (.inr (ci, ks))) (hk : ks[k]? = some (some none)) : (zw_W G M).set q (G.2.2 q, .inr (ci, (ks.mapIdx (fun k x => zw_f G.2.2 M q k x)).set k (.long x))) = zw_W G (zw_sl M q k x) := by
  refine zw_W_set hs (fun p j _ => rfl) (fun p j hp => by simp [zw_sl, hp]) ?_
  simp only [zw_e]
  congr 2
  refine zw_mi ⟨some none, hk, by simp [zw_f, zw_sl]⟩ (fun i z hz hi => ?_)
  rcases z with _ | _ | r <;> simp [zw_f, zw_sl, hi]
/-- the cells' addresses are apart; what a method may change -/
def zw_D (G : zw_G) : Prop := ∀ i j, i < zs_S.length → j < zs_S.length → G.2.2 i = G.2.2 j → i = j
def zw_A (G : zw_G) (sz : Nat) : Nat → Prop := fun q => (∃ k, k < zs_S.length ∧ q = G.2.2 k) ∨ sz ≤ q
theorem zw_D_at {G : zw_G} {M : zw_M} {sz : Nat} (h : zw_D G) : va_D (zw_A G sz) (zw_W G M) := by
  refine ⟨fun i j p q hi hj e => ?_, fun k q hk => ?_⟩
  · obtain ⟨h1, h2⟩ := zw_W_of hi
    obtain ⟨h3, h4⟩ := zw_W_of hj
    exact h i j h1 h3 (by rw [← h2, ← h4]; exact e)
  · obtain ⟨h1, h2⟩ := zw_W_of hk
    exact Or.inl ⟨k, h1, h2⟩
/-- the words of all -/
def zs_G : List Cond := lw_tbl.filter goodWord
def zw_ws (y : zw_I) : List Cond := .code y.1 y.2.1 y.2.2.1 y.2.2.2 :: zs_G
def zw_rm (d : Nat) : Room := { frames := d, cells := 0, slots := 0, locals := d * 40 }
def zw_N (U : State) : Prop := ∀ q ∈ zs_nest, va_Nw (.methodLinkNest q.1 q.2.1 q.2.2.1 q.2.2.2) U
def zw_in (ws : List Cond) : Prop := ∀ w ∈ ws, w ∈ zs_G
theorem zw_in_p {ws : List Cond} (ps : List Nat) (h : ws.map some = ps.map (fun i => lw_tbl[i]?)) (hg : ws.all goodWord = true) : zw_in ws := by
  intro w hw
  have h1 := List.all_eq_true.mp hg w hw
  obtain ⟨k, hk⟩ := List.getElem?_of_mem hw
  have h2 : (ws.map some)[k]? = some (some w) := by rw [List.getElem?_map, hk]; rfl
  rw [h, List.getElem?_map] at h2
  cases hi : ps[k]? with
  | none => rw [hi] at h2; cases h2
  | some i =>
    rw [hi] at h2
    exact List.mem_filter.mpr ⟨List.mem_of_getElem? (Option.some.inj h2), h1⟩
theorem zw_good {ws : List Cond} (h : zw_in ws) {big : List Cond} (hb : ∀ w ∈ zs_G, w ∈ big) : GoodIn big ws := fun w hw =>
  ⟨hb w (h w hw), good_of_word (List.mem_filter.mp (h w hw)).2⟩
/-- what a method's end is -/
def zw_Q (G : zw_G) (A : Nat → Prop) (Q : Option Value → zw_M → Prop) : Array Value → State → Outcome → State → Prop := fun _ st oc t =>
  (∃ (v : Option Value) (M : zw_M), oc = .returned (v.map (zw_v G.2.2)) ∧ Q v M ∧ va_P G.1 zs_cl (zw_W G M) t.heap) ∧ va_F A st t
/-- A METHOD'S CONTRACT: at the arguments vs, the memory M, with d frames of room: it returns, with an answer and a memory that Q says -/
def zw_C (l : Launch) (d : Nat) (y : zw_I) (vs : List Value) (M : zw_M) (Q : Option Value → zw_M → Prop) : Prop :=
  ∀ (G : zw_G) (sz : Nat), zw_D G → Met l y.1 (zw_ws y) (zw_rm d) (va_Pc (vs.map (zw_v G.2.2)) (fun U => U.heap.size = sz ∧ va_P G.1 zs_cl (zw_W G M) U.heap ∧ va_K G.1 zs_cl (zw_t G) U ∧ zw_N U)) (zw_Q G (zw_A G sz) Q) 0 0 (zw_A G sz)
/-- the locals -/
def zw_L (ad : Nat → Nat) (ls : Array Slot) (nL : Nat) (L : List Value) : Prop := L.length = nL ∧ ls.size = nL ∧ lv_wf ls ∧ ∀ (i : Nat) (v : Value), L[i]? = some v → v ≠ .retAddr 0 → ls[i]? = some (.val (zw_v ad v))
/-- the machine around a method's body -/
def zw_K (p : Program) (s : State) (m : MethodId) (args : Array Value) (meth : Method) (c : Code) (y : zw_I) (G : zw_G) : Prop :=
  p.tables.exec = Jvm.exec ∧ c.code = y.2.1 ∧ meth.sig.returnType = y.2.2.2 ∧ c.maxLocals = y.2.2.1 ∧ s.vm.findClass y.1.cls = some m.cls ∧ (∀ w ∈ zw_ws y, w.before args s = true) ∧ meth.locks = false ∧ va_K G.1 zs_cl (zw_t G) s ∧ zw_D G ∧ zw_N s
/-- A POINT IN A METHOD'S BODY from which it comes to an end that Q says -/
def zw_X (l : Launch) (d : Nat) (y : zw_I) (Q : Option Value → zw_M → Prop) (pc : Nat) (L st : List Value) (M : zw_M) : Prop :=
  ∀ (p : Program) (e : Env) (s : State) (m : MethodId) (args : Array Value) (below : List Frame) (meth : Method) (c : Code) (H : Heap) (locs : List Loc) (ls : Array Slot) (G : zw_G),
    zw_K p s m args meth c y G → va_P G.1 zs_cl (zw_W G M) H → va_S (zw_A G s.heap.size) s.heap H locs → zw_L G.2.2 ls y.2.2.1 L →
    W p l e (zw_rm d) s m args below meth c H locs 0 0 (MQ below (zw_Q G (zw_A G s.heap.size) Q) args s 0 0 (zw_A G s.heap.size)) (F0 m pc ls (st.map (zw_v G.2.2)))
/-- the locals as the kit has them -/
def zw_lv (ad : Nat → Nat) (L : List Value) : List (Nat × Value) := (List.range L.length).filterMap (fun i => match L[i]? with
  | some v => if v = .retAddr 0 then none else some (i, zw_v ad v)
  | none => none)
theorem zw_lv_mem {ad : Nat → Nat} {L : List Value} {q : Nat × Value} : q ∈ zw_lv ad L ↔ ∃ v, L[q.1]? = some v ∧ v ≠ .retAddr 0 ∧ q.2 = zw_v ad v := by
  constructor
  · intro h
    obtain ⟨i, hi, he⟩ := List.mem_filterMap.mp h
    cases hv : L[i]? with
    | none => rw [hv] at he; cases he
    | some v =>
      rw [hv] at he
      dsimp only at he
      split at he
      · cases he
      · next hn =>
        cases he
        exact ⟨v, hv, hn, rfl⟩
  · rintro ⟨v, h1, h2, h3⟩
    refine List.mem_filterMap.mpr ⟨q.1, List.mem_range.mpr (List.getElem?_eq_some_iff.mp h1).1, ?_⟩
    rw [h1]
    dsimp only
    rw [if_neg h2, ← h3]
theorem zw_L_has {ad : Nat → Nat} {ls : Array Slot} {nL : Nat} {L : List Value} (h : zw_L ad ls nL L) : lv_has ls nL (zw_lv ad L) := by
  refine ⟨h.2.1, h.2.2.1, fun q hq => ?_⟩
  obtain ⟨v, h1, h2, h3⟩ := zw_lv_mem.mp hq
  rw [h3]
  exact h.2.2.2 q.1 v h1 h2
/-- the place ahead holds no long -/
def zw_ok (L : List Value) (i : Nat) : Bool := match i with
  | 0 => true
  | j + 1 => match L[j]? with
    | some v => decide (v.category = 1)
    | none => true
theorem zw_L_st1 {ad : Nat → Nat} {ls' : Array Slot} {nL i : Nat} {L : List Value} {v : Value} (hlen : L.length = nL) (ho : zw_ok L i = true)
    (h : lv_has ls' nL ((i, zw_v ad v) :: (zw_lv ad L).filter (fun q => !(q.1 == i) && !(q.1 + 1 == i && q.2.category == 2)))) : zw_L ad ls' nL (L.set i v) := by
  refine ⟨by simp [hlen], h.1, h.2.1, fun j w hj hw => ?_⟩
  by_cases hji : i = j
  · subst hji
    rw [List.getElem?_set] at hj
    rw [if_pos rfl] at hj
    split at hj
    · cases hj
      exact h.2.2 (i, zw_v ad v) List.mem_cons_self
    · cases hj
  · rw [List.getElem?_set, if_neg hji] at hj
    refine h.2.2 (j, zw_v ad w) (List.mem_cons_of_mem _ (List.mem_filter.mpr ⟨zw_lv_mem.mpr ⟨w, hj, hw, rfl⟩, ?_⟩))
    have n1 : (j == i) = false := by simpa using Ne.symm hji
    have n2 : (j + 1 == i && (zw_v ad w).category == 2) = false := by
      by_cases q : j + 1 = i
      · subst q
        simp only [zw_ok, hj, decide_eq_true_eq] at ho
        rw [zw_v_cat, ho]
        simp
      · simp [q]
    show (!(j == i) && !(j + 1 == i && (zw_v ad w).category == 2)) = true
    rw [n1, n2]
    rfl
theorem zw_L_st2 {ad : Nat → Nat} {ls' : Array Slot} {nL i : Nat} {L : List Value} {v : Value} (hlen : L.length = nL) (ho : zw_ok L i = true)
    (h : lv_has ls' nL ((i, zw_v ad v) :: (zw_lv ad L).filter (fun q => !(q.1 == i) && (!(q.1 == i + 1) && !(q.1 + 1 == i && q.2.category == 2))))) : zw_L ad ls' nL ((L.set i v).set (i + 1) (.retAddr 0)) := by
  refine ⟨by simp [hlen], h.1, h.2.1, fun j w hj hw => ?_⟩
  by_cases hj1 : i + 1 = j
  · rw [List.getElem?_set, if_pos hj1] at hj
    split at hj
    · cases hj
      exact absurd rfl hw
    · cases hj
  · rw [List.getElem?_set, if_neg hj1] at hj
    by_cases hji : i = j
    · subst hji
      rw [List.getElem?_set] at hj
      rw [if_pos rfl] at hj
      split at hj
      · cases hj
        exact h.2.2 (i, zw_v ad v) List.mem_cons_self
      · cases hj
    · rw [List.getElem?_set, if_neg hji] at hj
      refine h.2.2 (j, zw_v ad w) (List.mem_cons_of_mem _ (List.mem_filter.mpr ⟨zw_lv_mem.mpr ⟨w, hj, hw, rfl⟩, ?_⟩))
      have n1 : (j == i) = false := by simpa using Ne.symm hji
      have n3 : (j == i + 1) = false := by simpa using Ne.symm hj1
      have n2 : (j + 1 == i && (zw_v ad w).category == 2) = false := by
        by_cases q : j + 1 = i
        · subst q
          simp only [zw_ok, hj, decide_eq_true_eq] at ho
          rw [zw_v_cat, ho]
          simp
        · simp [q]
      show (!(j == i) && (!(j == i + 1) && !(j + 1 == i && (zw_v ad w).category == 2))) = true
      rw [n1, n2, n3]
      rfl
/-- the locals with which a method begins -/
def zw_ex : List Value → List Value
  | [] => []
  | v :: r => if v.category = 2 then v :: .retAddr 0 :: zw_ex r else v :: zw_ex r
def zw_en (vs : List Value) (n : Nat) : List Value := zw_ex vs ++ List.replicate (n - (zw_ex vs).length) (.retAddr 0)
theorem zw_ex_args (ad : Nat → Nat) : ∀ (vs : List Value) (o i : Nat) (v : Value), (zw_ex vs)[i]? = some v → v ≠ .retAddr 0 → (o + i, zw_v ad v) ∈ lv_args o (vs.map (zw_v ad))
  | [], o, i, v, h, _ => by simp [zw_ex] at h
  | w :: r, o, i, v, h, hv => by
    rw [zw_ex] at h
    rw [List.map_cons, lv_args, zw_v_cat]
    by_cases hc : w.category = 2
    · rw [if_pos hc] at h ⊢
      match i, h with
      | 0, h => cases h; exact List.mem_cons_self
      | 1, h => cases h; exact absurd rfl hv
      | j + 2, h =>
        have := zw_ex_args ad r (o + 2) j v (by simpa using h) hv
        rw [show o + (j + 2) = o + 2 + j by omega]
        exact List.mem_cons_of_mem _ this
    · rw [if_neg hc] at h ⊢
      match i, h with
      | 0, h => cases h; exact List.mem_cons_self
      | j + 1, h =>
        have := zw_ex_args ad r (o + 1) j v (by simpa using h) hv
        rw [show o + (j + 1) = o + 1 + j by omega]
        exact List.mem_cons_of_mem _ this
theorem zw_ex_len (ad : Nat → Nat) : ∀ vs : List Value, (lg_sl (vs.map (zw_v ad))).length = (zw_ex vs).length
  | [] => rfl
  | w :: r => by
    have ih := zw_ex_len ad r
    rw [zw_ex, List.map_cons]
    simp only [lg_sl, List.flatMap_cons, List.length_append, zw_v_cat] at ih ⊢
    by_cases hc : w.category = 2
    · rw [if_pos hc, if_pos hc, ih]
      simp; omega
    · rw [if_neg hc, if_neg hc, ih]
      simp; omega
theorem zw_entry {ad : Nat → Nat} {vs : List Value} {n : Nat} (h : (zw_ex vs).length ≤ n) : zw_L ad ((lg_sl (vs.map (zw_v ad)) ++ List.replicate (n - (lg_sl (vs.map (zw_v ad))).length) Slot.unset).toArray) n (zw_en vs n) := by
  have hl := lv_entry (vs.map (zw_v ad)) (n := n) (by rw [zw_ex_len]; exact h)
  refine ⟨by simp [zw_en]; omega, hl.1, hl.2.1, fun i v hi hv => ?_⟩
  rw [zw_en] at hi
  by_cases hlt : i < (zw_ex vs).length
  · rw [List.getElem?_append_left hlt] at hi
    have := zw_ex_args ad vs 0 i v hi hv
    rw [Nat.zero_add] at this
    exact hl.2.2 _ this
  · rw [List.getElem?_append_right (by omega)] at hi
    exact absurd (List.eq_of_mem_replicate (List.mem_of_getElem? hi)) hv
/-- a contract out of a walk of the body -/
theorem zw_of {l : Launch} {d : Nat} {y : zw_I} {vs : List Value} {M : zw_M} {Q : Option Value → zw_M → Prop} (hy : plainName y.1.cls = true) (hn : (zw_ex vs).length ≤ y.2.2.1) (k : zw_X l d y Q 0 (zw_en vs y.2.2.1) [] M) : zw_C l d y vs M Q := by
  intro G sz hD
  refine Met.ofW (cc := y.2.1) (maxL := y.2.2.1) (ret := y.2.2.2) hy rfl ?_
  intro p e s m args below meth c s₁ B hml hv
  obtain ⟨rfl, hsz, hP, hK, hN⟩ := hv
  have hts := atoms_spec (ws := zw_ws y) B.pre
  have hown : s.vm.findClass y.1.cls = some m.cls := findClass_of_methodNamed B.named
  subst hsz
  rw [lg_entry_eq]
  exact k p e s m _ below meth c s.heap [] _ G ⟨B.exec, B.bytes, B.returns, hml, hown, hts, B.notSynchronized, hK, hD, hN⟩ hP va_S.rf (zw_entry hn)
theorem zx_iconst {l : Launch} {d : Nat} {y : zw_I} {Q : Option Value → zw_M → Prop} {pc : Nat} {L st : List Value} {M : zw_M} {n : Int} {v : Int32} (hd : decode y.2.1 pc = .ok (.iconst n, 1)) (hv : Int32.ofInt n = v) (k : zw_X l d y Q (pc + 1) L (.int v :: st) M) : zw_X l d y Q pc L st M := by
  intro p e s m args below meth c H locs ls G hK hP hS hL
  exact lv_iconst hK.1 hK.2.1 hd hv (k p e s m args below meth c H locs ls G hK hP hS hL)
theorem zx_bipush {l : Launch} {d : Nat} {y : zw_I} {Q : Option Value → zw_M → Prop} {pc : Nat} {L st : List Value} {M : zw_M} {n : Int} {v : Int32} (hd : decode y.2.1 pc = .ok (.bipush n, 2)) (hv : (Int8.ofInt n).toInt32 = v) (k : zw_X l d y Q (pc + 2) L (.int v :: st) M) : zw_X l d y Q pc L st M := by
  intro p e s m args below meth c H locs ls G hK hP hS hL
  exact lv_bipush hK.1 hK.2.1 hd hv (k p e s m args below meth c H locs ls G hK hP hS hL)
theorem zx_sipush {l : Launch} {d : Nat} {y : zw_I} {Q : Option Value → zw_M → Prop} {pc : Nat} {L st : List Value} {M : zw_M} {n : Int} {v : Int32} (hd : decode y.2.1 pc = .ok (.sipush n, 3)) (hv : (Int16.ofInt n).toInt32 = v) (k : zw_X l d y Q (pc + 3) L (.int v :: st) M) : zw_X l d y Q pc L st M := by
  intro p e s m args below meth c H locs ls G hK hP hS hL
  exact lv_sipush hK.1 hK.2.1 hd hv (k p e s m args below meth c H locs ls G hK hP hS hL)
theorem zx_lconst {l : Launch} {d : Nat} {y : zw_I} {Q : Option Value → zw_M → Prop} {pc : Nat} {L st : List Value} {M : zw_M} {n : Fin 2} {v : Int64} (hd : decode y.2.1 pc = .ok (.lconst n, 1)) (hv : Int64.ofNat (n : Nat) = v) (k : zw_X l d y Q (pc + 1) L (.long v :: st) M) : zw_X l d y Q pc L st M := by
  intro p e s m args below meth c H locs ls G hK hP hS hL
  exact lv_lconst hK.1 hK.2.1 hd hv (k p e s m args below meth c H locs ls G hK hP hS hL)
theorem zx_ldc {l : Launch} {d : Nat} {y : zw_I} {Q : Option Value → zw_M → Prop} {pc : Nat} {L st : List Value} {M : zw_M} {i : Nat} {v : Int32} (hd : decode y.2.1 pc = .ok (.ldc i, 2)) (hw : Cond.constant y.1.cls i v ∈ zs_G) (k : zw_X l d y Q (pc + 2) L (.int v :: st) M) : zw_X l d y Q pc L st M := by
  intro p e s m args below meth c H locs ls G hK hP hS hL
  exact lv_ldc hK.1 hK.2.1 hK.2.2.2.2.1 (hK.2.2.2.2.2.1 _ (List.mem_cons_of_mem _ hw)) hd (k p e s m args below meth c H locs ls G hK hP hS hL)
theorem zx_ldcw {l : Launch} {d : Nat} {y : zw_I} {Q : Option Value → zw_M → Prop} {pc : Nat} {L st : List Value} {M : zw_M} {i : Nat} {v : Int32} (hd : decode y.2.1 pc = .ok (.ldc_w i, 3)) (hw : Cond.constant y.1.cls i v ∈ zs_G) (k : zw_X l d y Q (pc + 3) L (.int v :: st) M) : zw_X l d y Q pc L st M := by
  intro p e s m args below meth c H locs ls G hK hP hS hL
  exact lv_ldcw hK.1 hK.2.1 hK.2.2.2.2.1 (hK.2.2.2.2.2.1 _ (List.mem_cons_of_mem _ hw)) hd (k p e s m args below meth c H locs ls G hK hP hS hL)
theorem zx_ldc2 {l : Launch} {d : Nat} {y : zw_I} {Q : Option Value → zw_M → Prop} {pc : Nat} {L st : List Value} {M : zw_M} {i : Nat} {v : Int64} (hd : decode y.2.1 pc = .ok (.ldc2_w i, 3)) (hw : Cond.constantLong y.1.cls i v ∈ zs_G) (k : zw_X l d y Q (pc + 3) L (.long v :: st) M) : zw_X l d y Q pc L st M := by
  intro p e s m args below meth c H locs ls G hK hP hS hL
  exact lv_ldc2 hK.1 hK.2.1 hK.2.2.2.2.1 (hK.2.2.2.2.2.1 _ (List.mem_cons_of_mem _ hw)) hd (k p e s m args below meth c H locs ls G hK hP hS hL)
theorem zx_iload_n {l : Launch} {d : Nat} {y : zw_I} {Q : Option Value → zw_M → Prop} {pc : Nat} {L st : List Value} {M : zw_M} {i : Fin 4} {x : Int32} (hd : decode y.2.1 pc = .ok (.iload_n i, 1)) (hl : L[(i : Nat)]? = some (.int x)) (k : zw_X l d y Q (pc + 1) L (.int x :: st) M) : zw_X l d y Q pc L st M := by
  intro p e s m args below meth c H locs ls G hK hP hS hL
  exact lv_iload_n hK.1 hK.2.1 hd rfl (hL.2.2.2 _ _ hl (fun h => by cases h)) (k p e s m args below meth c H locs ls G hK hP hS hL)
theorem zx_iload {l : Launch} {d : Nat} {y : zw_I} {Q : Option Value → zw_M → Prop} {pc : Nat} {L st : List Value} {M : zw_M} {i : Nat} {x : Int32} (hd : decode y.2.1 pc = .ok (.iload i, 2)) (hl : L[i]? = some (.int x)) (k : zw_X l d y Q (pc + 2) L (.int x :: st) M) : zw_X l d y Q pc L st M := by
  intro p e s m args below meth c H locs ls G hK hP hS hL
  exact lv_iload hK.1 hK.2.1 hd (hL.2.2.2 _ _ hl (fun h => by cases h)) (k p e s m args below meth c H locs ls G hK hP hS hL)
theorem zx_lload_n {l : Launch} {d : Nat} {y : zw_I} {Q : Option Value → zw_M → Prop} {pc : Nat} {L st : List Value} {M : zw_M} {i : Fin 4} {x : Int64} (hd : decode y.2.1 pc = .ok (.lload_n i, 1)) (hl : L[(i : Nat)]? = some (.long x)) (k : zw_X l d y Q (pc + 1) L (.long x :: st) M) : zw_X l d y Q pc L st M := by
  intro p e s m args below meth c H locs ls G hK hP hS hL
  exact lv_lload_n hK.1 hK.2.1 hd rfl (hL.2.2.2 _ _ hl (fun h => by cases h)) (k p e s m args below meth c H locs ls G hK hP hS hL)
theorem zx_lload {l : Launch} {d : Nat} {y : zw_I} {Q : Option Value → zw_M → Prop} {pc : Nat} {L st : List Value} {M : zw_M} {i : Nat} {x : Int64} (hd : decode y.2.1 pc = .ok (.lload i, 2)) (hl : L[i]? = some (.long x)) (k : zw_X l d y Q (pc + 2) L (.long x :: st) M) : zw_X l d y Q pc L st M := by
  intro p e s m args below meth c H locs ls G hK hP hS hL
  exact lv_lload hK.1 hK.2.1 hd (hL.2.2.2 _ _ hl (fun h => by cases h)) (k p e s m args below meth c H locs ls G hK hP hS hL)
theorem zx_aload_n {l : Launch} {d : Nat} {y : zw_I} {Q : Option Value → zw_M → Prop} {pc : Nat} {L st : List Value} {M : zw_M} {i : Fin 4} {x : Nat} (hd : decode y.2.1 pc = .ok (.aload_n i, 1)) (hl : L[(i : Nat)]? = some (.ref x)) (k : zw_X l d y Q (pc + 1) L (.ref x :: st) M) : zw_X l d y Q pc L st M := by
  intro p e s m args below meth c H locs ls G hK hP hS hL
  exact lv_aload_n hK.1 hK.2.1 hd rfl (hL.2.2.2 _ _ hl (fun h => by cases h)) (k p e s m args below meth c H locs ls G hK hP hS hL)
theorem zx_aload {l : Launch} {d : Nat} {y : zw_I} {Q : Option Value → zw_M → Prop} {pc : Nat} {L st : List Value} {M : zw_M} {i : Nat} {x : Nat} (hd : decode y.2.1 pc = .ok (.aload i, 2)) (hl : L[i]? = some (.ref x)) (k : zw_X l d y Q (pc + 2) L (.ref x :: st) M) : zw_X l d y Q pc L st M := by
  intro p e s m args below meth c H locs ls G hK hP hS hL
  exact lv_aload hK.1 hK.2.1 hd (hL.2.2.2 _ _ hl (fun h => by cases h)) (k p e s m args below meth c H locs ls G hK hP hS hL)
theorem zx_istore_n {l : Launch} {d : Nat} {y : zw_I} {Q : Option Value → zw_M → Prop} {pc : Nat} {L st : List Value} {M : zw_M} {i : Fin 4} {x : Int32} (hd : decode y.2.1 pc = .ok (.istore_n i, 1)) (ho : zw_ok L (i : Nat) = true) (hi : (i : Nat) < L.length) (k : zw_X l d y Q (pc + 1) (L.set (i : Nat) (.int x)) st M) : zw_X l d y Q pc L (.int x :: st) M := by
  intro p e s m args below meth c H locs ls G hK hP hS hL
  exact lv_istore_n hK.1 hK.2.1 hd rfl (zw_L_has hL) (by rw [← hL.1]; exact hi) rfl (fun ls1 h1 => k p e s m args below meth c H locs ls1 G hK hP hS (zw_L_st1 (v := .int x) hL.1 ho h1))
theorem zx_istore {l : Launch} {d : Nat} {y : zw_I} {Q : Option Value → zw_M → Prop} {pc : Nat} {L st : List Value} {M : zw_M} {i : Nat} {x : Int32} (hd : decode y.2.1 pc = .ok (.istore i, 2)) (ho : zw_ok L i = true) (hi : i < L.length) (k : zw_X l d y Q (pc + 2) (L.set i (.int x)) st M) : zw_X l d y Q pc L (.int x :: st) M := by
  intro p e s m args below meth c H locs ls G hK hP hS hL
  exact lv_istore hK.1 hK.2.1 hd (zw_L_has hL) (by rw [← hL.1]; exact hi) rfl (fun ls1 h1 => k p e s m args below meth c H locs ls1 G hK hP hS (zw_L_st1 (v := .int x) hL.1 ho h1))
theorem zx_astore_n {l : Launch} {d : Nat} {y : zw_I} {Q : Option Value → zw_M → Prop} {pc : Nat} {L st : List Value} {M : zw_M} {i : Fin 4} {x : Nat} (hd : decode y.2.1 pc = .ok (.astore_n i, 1)) (ho : zw_ok L (i : Nat) = true) (hi : (i : Nat) < L.length) (k : zw_X l d y Q (pc + 1) (L.set (i : Nat) (.ref x)) st M) : zw_X l d y Q pc L (.ref x :: st) M := by
  intro p e s m args below meth c H locs ls G hK hP hS hL
  exact lv_astore_n hK.1 hK.2.1 hd rfl (zw_L_has hL) (by rw [← hL.1]; exact hi) rfl (fun ls1 h1 => k p e s m args below meth c H locs ls1 G hK hP hS (zw_L_st1 (v := .ref x) hL.1 ho h1))
theorem zx_astore {l : Launch} {d : Nat} {y : zw_I} {Q : Option Value → zw_M → Prop} {pc : Nat} {L st : List Value} {M : zw_M} {i : Nat} {x : Nat} (hd : decode y.2.1 pc = .ok (.astore i, 2)) (ho : zw_ok L i = true) (hi : i < L.length) (k : zw_X l d y Q (pc + 2) (L.set i (.ref x)) st M) : zw_X l d y Q pc L (.ref x :: st) M := by
  intro p e s m args below meth c H locs ls G hK hP hS hL
  exact lv_astore hK.1 hK.2.1 hd (zw_L_has hL) (by rw [← hL.1]; exact hi) rfl (fun ls1 h1 => k p e s m args below meth c H locs ls1 G hK hP hS (zw_L_st1 (v := .ref x) hL.1 ho h1))
theorem zx_lstore_n {l : Launch} {d : Nat} {y : zw_I} {Q : Option Value → zw_M → Prop} {pc : Nat} {L st : List Value} {M : zw_M} {i : Fin 4} {x : Int64} (hd : decode y.2.1 pc = .ok (.lstore_n i, 1)) (ho : zw_ok L (i : Nat) = true) (hi : (i : Nat) + 1 < L.length) (k : zw_X l d y Q (pc + 1) ((L.set (i : Nat) (.long x)).set ((i : Nat) + 1) (.retAddr 0)) st M) : zw_X l d y Q pc L (.long x :: st) M := by
  intro p e s m args below meth c H locs ls G hK hP hS hL
  exact lv_lstore_n hK.1 hK.2.1 hd rfl (zw_L_has hL) (by rw [← hL.1]; exact hi) rfl (fun ls1 h1 => k p e s m args below meth c H locs ls1 G hK hP hS (zw_L_st2 (v := .long x) hL.1 ho h1))
theorem zx_lstore {l : Launch} {d : Nat} {y : zw_I} {Q : Option Value → zw_M → Prop} {pc : Nat} {L st : List Value} {M : zw_M} {i : Nat} {x : Int64} (hd : decode y.2.1 pc = .ok (.lstore i, 2)) (ho : zw_ok L i = true) (hi : i + 1 < L.length) (k : zw_X l d y Q (pc + 2) ((L.set i (.long x)).set (i + 1) (.retAddr 0)) st M) : zw_X l d y Q pc L (.long x :: st) M := by
  intro p e s m args below meth c H locs ls G hK hP hS hL
  exact lv_lstore hK.1 hK.2.1 hd (zw_L_has hL) (by rw [← hL.1]; exact hi) rfl (fun ls1 h1 => k p e s m args below meth c H locs ls1 G hK hP hS (zw_L_st2 (v := .long x) hL.1 ho h1))
theorem zw_lv_at {ad : Nat → Nat} {L : List Value} {i : Nat} {x : Int32} (h : L[i]? = some (.int x)) : ∃ k : Nat, (zw_lv ad L)[k]? = some (i, .int x) := by
  have : (i, Value.int x) ∈ zw_lv ad L := zw_lv_mem.mpr ⟨.int x, h, (fun q => by cases q), rfl⟩
  obtain ⟨k, hk⟩ := List.getElem?_of_mem this
  exact ⟨k, hk⟩
theorem zx_iinc {l : Launch} {d : Nat} {y : zw_I} {Q : Option Value → zw_M → Prop} {pc : Nat} {L st : List Value} {M : zw_M} {i : Nat} {n : Int} {x v : Int32} (hd : decode y.2.1 pc = .ok (.iinc i n, 3)) (hl : L[i]? = some (.int x)) (hv : Int32.ofInt n = v) (ho : zw_ok L i = true) (k : zw_X l d y Q (pc + 3) (L.set i (.int (x + v))) st M) : zw_X l d y Q pc L st M := by
  intro p e s m args below meth c H locs ls G hK hP hS hL
  obtain ⟨k0, hk0⟩ := zw_lv_at (ad := G.2.2) hl
  subst hv
  exact lv_iinc hK.1 hK.2.1 hd (zw_L_has hL) hk0 rfl (by rw [← hL.1]; exact (List.getElem?_eq_some_iff.mp hl).1) rfl (fun ls1 h1 => k p e s m args below meth c H locs ls1 G hK hP hS (zw_L_st1 (v := .int (x + Int32.ofInt n)) hL.1 ho h1))
theorem zx_iadd {l : Launch} {d : Nat} {y : zw_I} {Q : Option Value → zw_M → Prop} {pc : Nat} {L st : List Value} {M : zw_M} {a b : Int32} (hd : decode y.2.1 pc = .ok (.iadd, 1)) (k : zw_X l d y Q (pc + 1) L (.int (a + b) :: st) M) : zw_X l d y Q pc L (.int b :: .int a :: st) M := by
  intro p e s m args below meth c H locs ls G hK hP hS hL
  exact lv_iadd hK.1 hK.2.1 hd (k p e s m args below meth c H locs ls G hK hP hS hL)
theorem zx_isub {l : Launch} {d : Nat} {y : zw_I} {Q : Option Value → zw_M → Prop} {pc : Nat} {L st : List Value} {M : zw_M} {a b : Int32} (hd : decode y.2.1 pc = .ok (.isub, 1)) (k : zw_X l d y Q (pc + 1) L (.int (a - b) :: st) M) : zw_X l d y Q pc L (.int b :: .int a :: st) M := by
  intro p e s m args below meth c H locs ls G hK hP hS hL
  exact lv_isub hK.1 hK.2.1 hd (k p e s m args below meth c H locs ls G hK hP hS hL)
theorem zx_imul {l : Launch} {d : Nat} {y : zw_I} {Q : Option Value → zw_M → Prop} {pc : Nat} {L st : List Value} {M : zw_M} {a b : Int32} (hd : decode y.2.1 pc = .ok (.imul, 1)) (k : zw_X l d y Q (pc + 1) L (.int (a * b) :: st) M) : zw_X l d y Q pc L (.int b :: .int a :: st) M := by
  intro p e s m args below meth c H locs ls G hK hP hS hL
  exact lv_imul hK.1 hK.2.1 hd (k p e s m args below meth c H locs ls G hK hP hS hL)
theorem zx_iand {l : Launch} {d : Nat} {y : zw_I} {Q : Option Value → zw_M → Prop} {pc : Nat} {L st : List Value} {M : zw_M} {a b : Int32} (hd : decode y.2.1 pc = .ok (.iand, 1)) (k : zw_X l d y Q (pc + 1) L (.int (a &&& b) :: st) M) : zw_X l d y Q pc L (.int b :: .int a :: st) M := by
  intro p e s m args below meth c H locs ls G hK hP hS hL
  exact lv_iand hK.1 hK.2.1 hd (k p e s m args below meth c H locs ls G hK hP hS hL)
theorem zx_ior {l : Launch} {d : Nat} {y : zw_I} {Q : Option Value → zw_M → Prop} {pc : Nat} {L st : List Value} {M : zw_M} {a b : Int32} (hd : decode y.2.1 pc = .ok (.ior, 1)) (k : zw_X l d y Q (pc + 1) L (.int (a ||| b) :: st) M) : zw_X l d y Q pc L (.int b :: .int a :: st) M := by
  intro p e s m args below meth c H locs ls G hK hP hS hL
  exact lv_ior hK.1 hK.2.1 hd (k p e s m args below meth c H locs ls G hK hP hS hL)
theorem zx_ixor {l : Launch} {d : Nat} {y : zw_I} {Q : Option Value → zw_M → Prop} {pc : Nat} {L st : List Value} {M : zw_M} {a b : Int32} (hd : decode y.2.1 pc = .ok (.ixor, 1)) (k : zw_X l d y Q (pc + 1) L (.int (a ^^^ b) :: st) M) : zw_X l d y Q pc L (.int b :: .int a :: st) M := by
  intro p e s m args below meth c H locs ls G hK hP hS hL
  exact lv_ixor hK.1 hK.2.1 hd (k p e s m args below meth c H locs ls G hK hP hS hL)
theorem zx_ishl {l : Launch} {d : Nat} {y : zw_I} {Q : Option Value → zw_M → Prop} {pc : Nat} {L st : List Value} {M : zw_M} {a b : Int32} (hd : decode y.2.1 pc = .ok (.ishl, 1)) (k : zw_X l d y Q (pc + 1) L (.int (a <<< (b &&& 31)) :: st) M) : zw_X l d y Q pc L (.int b :: .int a :: st) M := by
  intro p e s m args below meth c H locs ls G hK hP hS hL
  exact lv_ishl hK.1 hK.2.1 hd (k p e s m args below meth c H locs ls G hK hP hS hL)
theorem zx_ishr {l : Launch} {d : Nat} {y : zw_I} {Q : Option Value → zw_M → Prop} {pc : Nat} {L st : List Value} {M : zw_M} {a b : Int32} (hd : decode y.2.1 pc = .ok (.ishr, 1)) (k : zw_X l d y Q (pc + 1) L (.int (a >>> (b &&& 31)) :: st) M) : zw_X l d y Q pc L (.int b :: .int a :: st) M := by
  intro p e s m args below meth c H locs ls G hK hP hS hL
  exact lv_ishr hK.1 hK.2.1 hd (k p e s m args below meth c H locs ls G hK hP hS hL)
theorem zx_idiv {l : Launch} {d : Nat} {y : zw_I} {Q : Option Value → zw_M → Prop} {pc : Nat} {L st : List Value} {M : zw_M} {a b : Int32} (hd : decode y.2.1 pc = .ok (.idiv, 1)) (hne : ¬ b = 0) (k : zw_X l d y Q (pc + 1) L (.int (a / b) :: st) M) : zw_X l d y Q pc L (.int b :: .int a :: st) M := by
  intro p e s m args below meth c H locs ls G hK hP hS hL
  exact lv_idiv hK.1 hK.2.1 hd hne (k p e s m args below meth c H locs ls G hK hP hS hL)
theorem zx_irem {l : Launch} {d : Nat} {y : zw_I} {Q : Option Value → zw_M → Prop} {pc : Nat} {L st : List Value} {M : zw_M} {a b : Int32} (hd : decode y.2.1 pc = .ok (.irem, 1)) (hne : ¬ b = 0) (k : zw_X l d y Q (pc + 1) L (.int (a - a / b * b) :: st) M) : zw_X l d y Q pc L (.int b :: .int a :: st) M := by
  intro p e s m args below meth c H locs ls G hK hP hS hL
  exact lv_irem hK.1 hK.2.1 hd hne (k p e s m args below meth c H locs ls G hK hP hS hL)
theorem zx_ineg {l : Launch} {d : Nat} {y : zw_I} {Q : Option Value → zw_M → Prop} {pc : Nat} {L st : List Value} {M : zw_M} {a : Int32} (hd : decode y.2.1 pc = .ok (.ineg, 1)) (k : zw_X l d y Q (pc + 1) L (.int (-a) :: st) M) : zw_X l d y Q pc L (.int a :: st) M := by
  intro p e s m args below meth c H locs ls G hK hP hS hL
  exact lv_ineg hK.1 hK.2.1 hd (k p e s m args below meth c H locs ls G hK hP hS hL)
theorem zx_iushr {l : Launch} {d : Nat} {y : zw_I} {Q : Option Value → zw_M → Prop} {pc : Nat} {L st : List Value} {M : zw_M} {a b : Int32} (hd : decode y.2.1 pc = .ok (.iushr, 1)) (k : zw_X l d y Q (pc + 1) L (.int ((a.toUInt32 >>> (b.toUInt32 &&& Int32.toUInt32 31)).toInt32) :: st) M) : zw_X l d y Q pc L (.int b :: .int a :: st) M := by
  intro p e s m args below meth c H locs ls G hK hP hS hL
  exact lv_iushr hK.1 hK.2.1 hd rfl (k p e s m args below meth c H locs ls G hK hP hS hL)
theorem zx_ladd {l : Launch} {d : Nat} {y : zw_I} {Q : Option Value → zw_M → Prop} {pc : Nat} {L st : List Value} {M : zw_M} {a b : Int64} (hd : decode y.2.1 pc = .ok (.ladd, 1)) (k : zw_X l d y Q (pc + 1) L (.long (a + b) :: st) M) : zw_X l d y Q pc L (.long b :: .long a :: st) M := by
  intro p e s m args below meth c H locs ls G hK hP hS hL
  exact lv_ladd hK.1 hK.2.1 hd (k p e s m args below meth c H locs ls G hK hP hS hL)
theorem zx_lmul {l : Launch} {d : Nat} {y : zw_I} {Q : Option Value → zw_M → Prop} {pc : Nat} {L st : List Value} {M : zw_M} {a b : Int64} (hd : decode y.2.1 pc = .ok (.lmul, 1)) (k : zw_X l d y Q (pc + 1) L (.long (a * b) :: st) M) : zw_X l d y Q pc L (.long b :: .long a :: st) M := by
  intro p e s m args below meth c H locs ls G hK hP hS hL
  exact lv_lmul hK.1 hK.2.1 hd (k p e s m args below meth c H locs ls G hK hP hS hL)
theorem zx_land {l : Launch} {d : Nat} {y : zw_I} {Q : Option Value → zw_M → Prop} {pc : Nat} {L st : List Value} {M : zw_M} {a b : Int64} (hd : decode y.2.1 pc = .ok (.land, 1)) (k : zw_X l d y Q (pc + 1) L (.long (a &&& b) :: st) M) : zw_X l d y Q pc L (.long b :: .long a :: st) M := by
  intro p e s m args below meth c H locs ls G hK hP hS hL
  exact lv_land hK.1 hK.2.1 hd (k p e s m args below meth c H locs ls G hK hP hS hL)
theorem zx_lor {l : Launch} {d : Nat} {y : zw_I} {Q : Option Value → zw_M → Prop} {pc : Nat} {L st : List Value} {M : zw_M} {a b : Int64} (hd : decode y.2.1 pc = .ok (.lor, 1)) (k : zw_X l d y Q (pc + 1) L (.long (a ||| b) :: st) M) : zw_X l d y Q pc L (.long b :: .long a :: st) M := by
  intro p e s m args below meth c H locs ls G hK hP hS hL
  exact lv_lor hK.1 hK.2.1 hd (k p e s m args below meth c H locs ls G hK hP hS hL)
theorem zx_ldiv {l : Launch} {d : Nat} {y : zw_I} {Q : Option Value → zw_M → Prop} {pc : Nat} {L st : List Value} {M : zw_M} {a b : Int64} (hd : decode y.2.1 pc = .ok (.ldiv, 1)) (hne : ¬ b = 0) (k : zw_X l d y Q (pc + 1) L (.long (a / b) :: st) M) : zw_X l d y Q pc L (.long b :: .long a :: st) M := by
  intro p e s m args below meth c H locs ls G hK hP hS hL
  exact lv_ldiv hK.1 hK.2.1 hd hne (k p e s m args below meth c H locs ls G hK hP hS hL)
theorem zx_lrem {l : Launch} {d : Nat} {y : zw_I} {Q : Option Value → zw_M → Prop} {pc : Nat} {L st : List Value} {M : zw_M} {a b : Int64} (hd : decode y.2.1 pc = .ok (.lrem, 1)) (hne : ¬ b = 0) (k : zw_X l d y Q (pc + 1) L (.long (a - a / b * b) :: st) M) : zw_X l d y Q pc L (.long b :: .long a :: st) M := by
  intro p e s m args below meth c H locs ls G hK hP hS hL
  exact lv_lrem hK.1 hK.2.1 hd hne (k p e s m args below meth c H locs ls G hK hP hS hL)
theorem zx_lushr {l : Launch} {d : Nat} {y : zw_I} {Q : Option Value → zw_M → Prop} {pc : Nat} {L st : List Value} {M : zw_M} {a : Int64} {b : Int32} (hd : decode y.2.1 pc = .ok (.lushr, 1)) (k : zw_X l d y Q (pc + 1) L (.long ((a.toUInt64 >>> (b.toInt64.toUInt64 &&& Int64.toUInt64 63)).toInt64) :: st) M) : zw_X l d y Q pc L (.int b :: .long a :: st) M := by
  intro p e s m args below meth c H locs ls G hK hP hS hL
  exact lv_lushr hK.1 hK.2.1 hd rfl (k p e s m args below meth c H locs ls G hK hP hS hL)
theorem zx_lshl {l : Launch} {d : Nat} {y : zw_I} {Q : Option Value → zw_M → Prop} {pc : Nat} {L st : List Value} {M : zw_M} {a : Int64} {b : Int32} (hd : decode y.2.1 pc = .ok (.lshl, 1)) (k : zw_X l d y Q (pc + 1) L (.long (a <<< (b.toInt64 &&& 63)) :: st) M) : zw_X l d y Q pc L (.int b :: .long a :: st) M := by
  intro p e s m args below meth c H locs ls G hK hP hS hL
  exact lv_lshl hK.1 hK.2.1 hd rfl (k p e s m args below meth c H locs ls G hK hP hS hL)
theorem zx_lshr {l : Launch} {d : Nat} {y : zw_I} {Q : Option Value → zw_M → Prop} {pc : Nat} {L st : List Value} {M : zw_M} {a : Int64} {b : Int32} (hd : decode y.2.1 pc = .ok (.lshr, 1)) (k : zw_X l d y Q (pc + 1) L (.long (a >>> (b.toInt64 &&& 63)) :: st) M) : zw_X l d y Q pc L (.int b :: .long a :: st) M := by
  intro p e s m args below meth c H locs ls G hK hP hS hL
  exact lv_lshr hK.1 hK.2.1 hd rfl (k p e s m args below meth c H locs ls G hK hP hS hL)
theorem zx_i2l {l : Launch} {d : Nat} {y : zw_I} {Q : Option Value → zw_M → Prop} {pc : Nat} {L st : List Value} {M : zw_M} {a : Int32} (hd : decode y.2.1 pc = .ok (.i2l, 1)) (k : zw_X l d y Q (pc + 1) L (.long (a.toInt64) :: st) M) : zw_X l d y Q pc L (.int a :: st) M := by
  intro p e s m args below meth c H locs ls G hK hP hS hL
  exact lv_i2l hK.1 hK.2.1 hd rfl (k p e s m args below meth c H locs ls G hK hP hS hL)
theorem zx_l2i {l : Launch} {d : Nat} {y : zw_I} {Q : Option Value → zw_M → Prop} {pc : Nat} {L st : List Value} {M : zw_M} {a : Int64} (hd : decode y.2.1 pc = .ok (.l2i, 1)) (k : zw_X l d y Q (pc + 1) L (.int (a.toInt32) :: st) M) : zw_X l d y Q pc L (.long a :: st) M := by
  intro p e s m args below meth c H locs ls G hK hP hS hL
  exact lv_l2i hK.1 hK.2.1 hd rfl (k p e s m args below meth c H locs ls G hK hP hS hL)
theorem zx_i2b {l : Launch} {d : Nat} {y : zw_I} {Q : Option Value → zw_M → Prop} {pc : Nat} {L st : List Value} {M : zw_M} {a : Int32} (hd : decode y.2.1 pc = .ok (.i2b, 1)) (k : zw_X l d y Q (pc + 1) L (.int (a.toInt8.toInt32) :: st) M) : zw_X l d y Q pc L (.int a :: st) M := by
  intro p e s m args below meth c H locs ls G hK hP hS hL
  exact lv_i2b hK.1 hK.2.1 hd rfl (k p e s m args below meth c H locs ls G hK hP hS hL)
theorem zx_i2c {l : Launch} {d : Nat} {y : zw_I} {Q : Option Value → zw_M → Prop} {pc : Nat} {L st : List Value} {M : zw_M} {a : Int32} (hd : decode y.2.1 pc = .ok (.i2c, 1)) (k : zw_X l d y Q (pc + 1) L (.int ((a.toUInt32 % 65536).toInt32) :: st) M) : zw_X l d y Q pc L (.int a :: st) M := by
  intro p e s m args below meth c H locs ls G hK hP hS hL
  exact lv_i2c hK.1 hK.2.1 hd rfl (k p e s m args below meth c H locs ls G hK hP hS hL)
theorem zx_dup {l : Launch} {d : Nat} {y : zw_I} {Q : Option Value → zw_M → Prop} {pc : Nat} {L st : List Value} {M : zw_M} {a : Value} (hd : decode y.2.1 pc = .ok (.dup, 1)) (hc : a.category = 1) (k : zw_X l d y Q (pc + 1) L (a :: a :: st) M) : zw_X l d y Q pc L (a :: st) M := by
  intro p e s m args below meth c H locs ls G hK hP hS hL
  exact lv_dup hK.1 hK.2.1 hd (by rw [zw_v_cat]; exact hc) (k p e s m args below meth c H locs ls G hK hP hS hL)
theorem zx_pop {l : Launch} {d : Nat} {y : zw_I} {Q : Option Value → zw_M → Prop} {pc : Nat} {L st : List Value} {M : zw_M} {a : Value} (hd : decode y.2.1 pc = .ok (.pop, 1)) (hc : a.category = 1) (k : zw_X l d y Q (pc + 1) L st M) : zw_X l d y Q pc L (a :: st) M := by
  intro p e s m args below meth c H locs ls G hK hP hS hL
  exact lv_pop hK.1 hK.2.1 hd (by rw [zw_v_cat]; exact hc) (k p e s m args below meth c H locs ls G hK hP hS hL)
theorem zx_dup_x1 {l : Launch} {d : Nat} {y : zw_I} {Q : Option Value → zw_M → Prop} {pc : Nat} {L st : List Value} {M : zw_M} {a b : Value} (hd : decode y.2.1 pc = .ok (.dup_x1, 1)) (hc : a.category = 1) (hc2 : b.category = 1) (k : zw_X l d y Q (pc + 1) L (a :: b :: a :: st) M) : zw_X l d y Q pc L (a :: b :: st) M := by
  intro p e s m args below meth c H locs ls G hK hP hS hL
  exact lv_dup_x1 hK.1 hK.2.1 hd (by rw [zw_v_cat]; exact hc) (by rw [zw_v_cat]; exact hc2) (k p e s m args below meth c H locs ls G hK hP hS hL)
theorem zx_dup2 {l : Launch} {d : Nat} {y : zw_I} {Q : Option Value → zw_M → Prop} {pc : Nat} {L st : List Value} {M : zw_M} {a b : Value} (hd : decode y.2.1 pc = .ok (.dup2, 1)) (hc : a.category = 1) (hc2 : b.category = 1) (k : zw_X l d y Q (pc + 1) L (a :: b :: a :: b :: st) M) : zw_X l d y Q pc L (a :: b :: st) M := by
  intro p e s m args below meth c H locs ls G hK hP hS hL
  exact lv_dup2_11 hK.1 hK.2.1 hd (by rw [zw_v_cat]; exact hc) (by rw [zw_v_cat]; exact hc2) (k p e s m args below meth c H locs ls G hK hP hS hL)
theorem zx_if_eq {l : Launch} {d : Nat} {y : zw_I} {Q : Option Value → zw_M → Prop} {pc : Nat} {L st : List Value} {M : zw_M} {x : Int32} {off : Int} {tgt : Nat} (hd : decode y.2.1 pc = .ok (.ifCond .eq off, 3)) (ht : (pc : Int) + off = (tgt : Int)) (kt : x = 0 → zw_X l d y Q tgt L st M) (kf : ¬ x = 0 → zw_X l d y Q (pc + 3) L st M) : zw_X l d y Q pc L (.int x :: st) M := by
  intro p e s m args below meth c H locs ls G hK hP hS hL
  exact lv_if_eq hK.1 hK.2.1 hd ht (fun h => kt h p e s m args below meth c H locs ls G hK hP hS hL) (fun h => kf h p e s m args below meth c H locs ls G hK hP hS hL)
theorem zx_icmp_eq {l : Launch} {d : Nat} {y : zw_I} {Q : Option Value → zw_M → Prop} {pc : Nat} {L st : List Value} {M : zw_M} {x b : Int32} {off : Int} {tgt : Nat} (hd : decode y.2.1 pc = .ok (.if_icmp .eq off, 3)) (ht : (pc : Int) + off = (tgt : Int)) (kt : x = b → zw_X l d y Q tgt L st M) (kf : ¬ x = b → zw_X l d y Q (pc + 3) L st M) : zw_X l d y Q pc L (.int b :: .int x :: st) M := by
  intro p e s m args below meth c H locs ls G hK hP hS hL
  exact lv_icmp_eq hK.1 hK.2.1 hd ht (fun h => kt h p e s m args below meth c H locs ls G hK hP hS hL) (fun h => kf h p e s m args below meth c H locs ls G hK hP hS hL)
theorem zx_if_ne {l : Launch} {d : Nat} {y : zw_I} {Q : Option Value → zw_M → Prop} {pc : Nat} {L st : List Value} {M : zw_M} {x : Int32} {off : Int} {tgt : Nat} (hd : decode y.2.1 pc = .ok (.ifCond .ne off, 3)) (ht : (pc : Int) + off = (tgt : Int)) (kt : ¬ x = 0 → zw_X l d y Q tgt L st M) (kf : x = 0 → zw_X l d y Q (pc + 3) L st M) : zw_X l d y Q pc L (.int x :: st) M := by
  intro p e s m args below meth c H locs ls G hK hP hS hL
  exact lv_if_ne hK.1 hK.2.1 hd ht (fun h => kt h p e s m args below meth c H locs ls G hK hP hS hL) (fun h => kf h p e s m args below meth c H locs ls G hK hP hS hL)
theorem zx_icmp_ne {l : Launch} {d : Nat} {y : zw_I} {Q : Option Value → zw_M → Prop} {pc : Nat} {L st : List Value} {M : zw_M} {x b : Int32} {off : Int} {tgt : Nat} (hd : decode y.2.1 pc = .ok (.if_icmp .ne off, 3)) (ht : (pc : Int) + off = (tgt : Int)) (kt : ¬ x = b → zw_X l d y Q tgt L st M) (kf : x = b → zw_X l d y Q (pc + 3) L st M) : zw_X l d y Q pc L (.int b :: .int x :: st) M := by
  intro p e s m args below meth c H locs ls G hK hP hS hL
  exact lv_icmp_ne hK.1 hK.2.1 hd ht (fun h => kt h p e s m args below meth c H locs ls G hK hP hS hL) (fun h => kf h p e s m args below meth c H locs ls G hK hP hS hL)
theorem zx_if_lt {l : Launch} {d : Nat} {y : zw_I} {Q : Option Value → zw_M → Prop} {pc : Nat} {L st : List Value} {M : zw_M} {x : Int32} {off : Int} {tgt : Nat} (hd : decode y.2.1 pc = .ok (.ifCond .lt off, 3)) (ht : (pc : Int) + off = (tgt : Int)) (kt : x < 0 → zw_X l d y Q tgt L st M) (kf : ¬ x < 0 → zw_X l d y Q (pc + 3) L st M) : zw_X l d y Q pc L (.int x :: st) M := by
  intro p e s m args below meth c H locs ls G hK hP hS hL
  exact lv_if_lt hK.1 hK.2.1 hd ht (fun h => kt h p e s m args below meth c H locs ls G hK hP hS hL) (fun h => kf h p e s m args below meth c H locs ls G hK hP hS hL)
theorem zx_icmp_lt {l : Launch} {d : Nat} {y : zw_I} {Q : Option Value → zw_M → Prop} {pc : Nat} {L st : List Value} {M : zw_M} {x b : Int32} {off : Int} {tgt : Nat} (hd : decode y.2.1 pc = .ok (.if_icmp .lt off, 3)) (ht : (pc : Int) + off = (tgt : Int)) (kt : x < b → zw_X l d y Q tgt L st M) (kf : ¬ x < b → zw_X l d y Q (pc + 3) L st M) : zw_X l d y Q pc L (.int b :: .int x :: st) M := by
  intro p e s m args below meth c H locs ls G hK hP hS hL
  exact lv_icmp_lt hK.1 hK.2.1 hd ht (fun h => kt h p e s m args below meth c H locs ls G hK hP hS hL) (fun h => kf h p e s m args below meth c H locs ls G hK hP hS hL)
theorem zx_if_ge {l : Launch} {d : Nat} {y : zw_I} {Q : Option Value → zw_M → Prop} {pc : Nat} {L st : List Value} {M : zw_M} {x : Int32} {off : Int} {tgt : Nat} (hd : decode y.2.1 pc = .ok (.ifCond .ge off, 3)) (ht : (pc : Int) + off = (tgt : Int)) (kt : 0 ≤ x → zw_X l d y Q tgt L st M) (kf : ¬ 0 ≤ x → zw_X l d y Q (pc + 3) L st M) : zw_X l d y Q pc L (.int x :: st) M := by
  intro p e s m args below meth c H locs ls G hK hP hS hL
  exact lv_if_ge hK.1 hK.2.1 hd ht (fun h => kt h p e s m args below meth c H locs ls G hK hP hS hL) (fun h => kf h p e s m args below meth c H locs ls G hK hP hS hL)
theorem zx_icmp_ge {l : Launch} {d : Nat} {y : zw_I} {Q : Option Value → zw_M → Prop} {pc : Nat} {L st : List Value} {M : zw_M} {x b : Int32} {off : Int} {tgt : Nat} (hd : decode y.2.1 pc = .ok (.if_icmp .ge off, 3)) (ht : (pc : Int) + off = (tgt : Int)) (kt : b ≤ x → zw_X l d y Q tgt L st M) (kf : ¬ b ≤ x → zw_X l d y Q (pc + 3) L st M) : zw_X l d y Q pc L (.int b :: .int x :: st) M := by
  intro p e s m args below meth c H locs ls G hK hP hS hL
  exact lv_icmp_ge hK.1 hK.2.1 hd ht (fun h => kt h p e s m args below meth c H locs ls G hK hP hS hL) (fun h => kf h p e s m args below meth c H locs ls G hK hP hS hL)
theorem zx_if_gt {l : Launch} {d : Nat} {y : zw_I} {Q : Option Value → zw_M → Prop} {pc : Nat} {L st : List Value} {M : zw_M} {x : Int32} {off : Int} {tgt : Nat} (hd : decode y.2.1 pc = .ok (.ifCond .gt off, 3)) (ht : (pc : Int) + off = (tgt : Int)) (kt : 0 < x → zw_X l d y Q tgt L st M) (kf : ¬ 0 < x → zw_X l d y Q (pc + 3) L st M) : zw_X l d y Q pc L (.int x :: st) M := by
  intro p e s m args below meth c H locs ls G hK hP hS hL
  exact lv_if_gt hK.1 hK.2.1 hd ht (fun h => kt h p e s m args below meth c H locs ls G hK hP hS hL) (fun h => kf h p e s m args below meth c H locs ls G hK hP hS hL)
theorem zx_icmp_gt {l : Launch} {d : Nat} {y : zw_I} {Q : Option Value → zw_M → Prop} {pc : Nat} {L st : List Value} {M : zw_M} {x b : Int32} {off : Int} {tgt : Nat} (hd : decode y.2.1 pc = .ok (.if_icmp .gt off, 3)) (ht : (pc : Int) + off = (tgt : Int)) (kt : b < x → zw_X l d y Q tgt L st M) (kf : ¬ b < x → zw_X l d y Q (pc + 3) L st M) : zw_X l d y Q pc L (.int b :: .int x :: st) M := by
  intro p e s m args below meth c H locs ls G hK hP hS hL
  exact lv_icmp_gt hK.1 hK.2.1 hd ht (fun h => kt h p e s m args below meth c H locs ls G hK hP hS hL) (fun h => kf h p e s m args below meth c H locs ls G hK hP hS hL)
theorem zx_if_le {l : Launch} {d : Nat} {y : zw_I} {Q : Option Value → zw_M → Prop} {pc : Nat} {L st : List Value} {M : zw_M} {x : Int32} {off : Int} {tgt : Nat} (hd : decode y.2.1 pc = .ok (.ifCond .le off, 3)) (ht : (pc : Int) + off = (tgt : Int)) (kt : x ≤ 0 → zw_X l d y Q tgt L st M) (kf : ¬ x ≤ 0 → zw_X l d y Q (pc + 3) L st M) : zw_X l d y Q pc L (.int x :: st) M := by
  intro p e s m args below meth c H locs ls G hK hP hS hL
  exact lv_if_le hK.1 hK.2.1 hd ht (fun h => kt h p e s m args below meth c H locs ls G hK hP hS hL) (fun h => kf h p e s m args below meth c H locs ls G hK hP hS hL)
theorem zx_icmp_le {l : Launch} {d : Nat} {y : zw_I} {Q : Option Value → zw_M → Prop} {pc : Nat} {L st : List Value} {M : zw_M} {x b : Int32} {off : Int} {tgt : Nat} (hd : decode y.2.1 pc = .ok (.if_icmp .le off, 3)) (ht : (pc : Int) + off = (tgt : Int)) (kt : x ≤ b → zw_X l d y Q tgt L st M) (kf : ¬ x ≤ b → zw_X l d y Q (pc + 3) L st M) : zw_X l d y Q pc L (.int b :: .int x :: st) M := by
  intro p e s m args below meth c H locs ls G hK hP hS hL
  exact lv_icmp_le hK.1 hK.2.1 hd ht (fun h => kt h p e s m args below meth c H locs ls G hK hP hS hL) (fun h => kf h p e s m args below meth c H locs ls G hK hP hS hL)
theorem zx_goto {l : Launch} {d : Nat} {y : zw_I} {Q : Option Value → zw_M → Prop} {pc : Nat} {L st : List Value} {M : zw_M} {off : Int} {tgt : Nat} (hd : decode y.2.1 pc = .ok (.goto off, 3)) (ht : (pc : Int) + off = (tgt : Int)) (k : zw_X l d y Q tgt L st M) : zw_X l d y Q pc L st M := by
  intro p e s m args below meth c H locs ls G hK hP hS hL
  exact lv_goto hK.1 hK.2.1 hd ht (k p e s m args below meth c H locs ls G hK hP hS hL)
theorem zx_tout {l : Launch} {d : Nat} {y : zw_I} {Q : Option Value → zw_M → Prop} {pc : Nat} {L st : List Value} {M : zw_M} {dflt lo hi : Int} {offs : Array Int} {len tgt : Nat} {x : Int32} (hd : decode y.2.1 pc = .ok (.tableswitch dflt lo hi offs, len)) (h : x.toInt < lo ∨ hi < x.toInt) (ht : (pc : Int) + dflt = (tgt : Int)) (k : zw_X l d y Q tgt L st M) : zw_X l d y Q pc L (.int x :: st) M := by
  intro p e s m args below meth c H locs ls G hK hP hS hL
  exact lv_tableOut hK.1 hK.2.1 hd h ht (k p e s m args below meth c H locs ls G hK hP hS hL)
theorem zx_tin {l : Launch} {d : Nat} {y : zw_I} {Q : Option Value → zw_M → Prop} {pc : Nat} {L st : List Value} {M : zw_M} {dflt lo hi off z : Int} {offs : Array Int} {len tgt : Nat} {x : Int32} (hd : decode y.2.1 pc = .ok (.tableswitch dflt lo hi offs, len)) (hx : x.toInt = z) (h1 : ¬ z < lo) (h2 : ¬ hi < z) (ho : offs[(z - lo).toNat]? = some off) (ht : (pc : Int) + off = (tgt : Int)) (k : zw_X l d y Q tgt L st M) : zw_X l d y Q pc L (.int x :: st) M := by
  intro p e s m args below meth c H locs ls G hK hP hS hL
  exact lv_tableIn hK.1 hK.2.1 hd (by rw [hx]; exact h1) (by rw [hx]; exact h2) (by rw [hx]; exact ho) ht (k p e s m args below meth c H locs ls G hK hP hS hL)
theorem zx_lookup {l : Launch} {d : Nat} {y : zw_I} {Q : Option Value → zw_M → Prop} {pc : Nat} {L st : List Value} {M : zw_M} {dflt off : Int} {ps : Array (Int × Int)} {len tgt : Nat} {x : Int32} (hd : decode y.2.1 pc = .ok (.lookupswitch dflt ps, len)) (hp : (ps.toList.zip (ps.toList.drop 1)).all (fun (a, next) => a.1 < next.1) = true) (ho : Op.lookupswitch.offset ps.toList dflt x.toInt = off) (ht : (pc : Int) + off = (tgt : Int)) (k : zw_X l d y Q tgt L st M) : zw_X l d y Q pc L (.int x :: st) M := by
  intro p e s m args below meth c H locs ls G hK hP hS hL
  exact lv_lookup hK.1 hK.2.1 hd hp ho ht (k p e s m args below meth c H locs ls G hK hP hS hL)
/-- a class of the world, as the tables have it -/
def zw_okc (ci : Nat) (C : String) (T : u_T) (N : Nat) (tf : Nat → FieldType) : Prop := zs_cl[ci]? = some (C, T, N) ∧ (∀ w ∈ u_ws C T N, w ∈ zs_G) ∧ (∀ k, k < N → parseFieldDescriptor (T k).2.2.1 = some (tf k)) ∧ (∀ a, a < N → ∀ b, b < N → a ≠ b → (T a).2.1 ≠ (T b).2.1)
/-- a field of the cell q, as a class's own constant names it -/
def zw_F (own : String) (idx q k : Nat) (x : Option (Option Nat)) (ty : FieldType) (fin : Bool) : Prop := ∃ (ci : Nat) (C : String) (T : u_T) (N : Nat) (tf : Nat → FieldType) (ks : List (Option (Option Nat))), zw_okc ci C T N tf ∧ k < N ∧ Cond.fieldLink own idx (T k).1 (T k).2.1 (T k).2.2.1 ∈ zs_G ∧ zs_S[q]? = some (.inr (ci, ks)) ∧ ks[k]? = some x ∧ tf k = ty ∧ (T k).2.2.2 = fin
theorem zx_get {l : Launch} {d : Nat} {y : zw_I} {Q : Option Value → zw_M → Prop} {pc : Nat} {L st : List Value} {M : zw_M} {q k idx : Nat} {x : Option (Option Nat)} {ty : FieldType} {fin : Bool} (hd : decode y.2.1 pc = .ok (.getfield idx, 3)) (hf : zw_F y.1.cls idx q k x ty fin) {v : Value} (hv : ∀ ad, zw_f ad M q k x = zw_v ad v) (kk : zw_X l d y Q (pc + 3) L (v :: st) M) : zw_X l d y Q pc L (.ref q :: st) M := by
  intro p e s m args below meth c H locs ls G hK hP hS hL
  obtain ⟨ci, C, T, N, tf, ks, ⟨h1, h2, h3, h4⟩, h5, h6, h7, h8, h9, h10⟩ := hf
  exact va_get (D := G.1) (cl := zs_cl) (ws := zw_W G M) (tys := zw_t G) (v := zw_v G.2.2 v) (ref := (T k).1) hK.1 hK.2.1 hK.2.2.2.2.2.1 (fun w hw => List.mem_cons_of_mem _ (h2 w hw)) hK.2.2.2.2.1 hK.2.2.2.2.2.2.2.1 hP q (fs := ks.mapIdx (fun k x => zw_f G.2.2 M q k x)) (zw_W_at h7) h1 k h5 (hK.2.2.2.2.2.1 _ (List.mem_cons_of_mem _ h6)) (fun _ h => h) (by rw [List.getElem?_mapIdx, h8]; simp [hv]) hd (kk p e s m args below meth c H locs ls G hK hP hS hL)
theorem zx_geti {l : Launch} {d : Nat} {y : zw_I} {Q : Option Value → zw_M → Prop} {pc : Nat} {L st : List Value} {M : zw_M} {q k idx : Nat} {ty : FieldType} {fin : Bool} (hd : decode y.2.1 pc = .ok (.getfield idx, 3)) (hf : zw_F y.1.cls idx q k none ty fin) (kk : zw_X l d y Q (pc + 3) L (.int (M.1 q k) :: st) M) : zw_X l d y Q pc L (.ref q :: st) M := zx_get hd hf (fun _ => rfl) kk
theorem zx_getr {l : Launch} {d : Nat} {y : zw_I} {Q : Option Value → zw_M → Prop} {pc : Nat} {L st : List Value} {M : zw_M} {q k idx r : Nat} {ty : FieldType} {fin : Bool} (hd : decode y.2.1 pc = .ok (.getfield idx, 3)) (hf : zw_F y.1.cls idx q k (some (some r)) ty fin) (kk : zw_X l d y Q (pc + 3) L (.ref r :: st) M) : zw_X l d y Q pc L (.ref q :: st) M := zx_get hd hf (fun _ => rfl) kk
theorem zx_getl {l : Launch} {d : Nat} {y : zw_I} {Q : Option Value → zw_M → Prop} {pc : Nat} {L st : List Value} {M : zw_M} {q k idx : Nat} {ty : FieldType} {fin : Bool} (hd : decode y.2.1 pc = .ok (.getfield idx, 3)) (hf : zw_F y.1.cls idx q k (some none) ty fin) (kk : zw_X l d y Q (pc + 3) L (.long (M.2 q k) :: st) M) : zw_X l d y Q pc L (.ref q :: st) M := zx_get hd hf (fun _ => rfl) kk
theorem zx_puti {l : Launch} {d : Nat} {y : zw_I} {Q : Option Value → zw_M → Prop} {pc : Nat} {L st : List Value} {M : zw_M} {q k idx : Nat} {x : Int32} (hd : decode y.2.1 pc = .ok (.putfield idx, 3)) (hf : zw_F y.1.cls idx q k none .int false) (kk : zw_X l d y Q (pc + 3) L st (zw_s M q k x)) : zw_X l d y Q pc L (.int x :: .ref q :: st) M := by
  intro p e s m args below meth c H locs ls G hK hP hS hL
  obtain ⟨ci, C, T, N, tf, ks, ⟨h1, h2, h3, h4⟩, h5, h6, h7, h8, h9, h10⟩ := hf
  refine va_put (D := G.1) (cl := zs_cl) (ws := zw_W G M) (tys := zw_t G) (v := .int x) (ref := (T k).1) (ty := .int) hK.1 hK.2.1 hK.2.2.2.2.2.1 (fun w hw => List.mem_cons_of_mem _ (h2 w hw)) tf h3 h4 hK.2.2.2.2.1 hK.2.2.2.2.2.2.2.1 hP (zw_D_at hK.2.2.2.2.2.2.2.2.1) hS q (fs := ks.mapIdx (fun k x => zw_f G.2.2 M q k x)) (zw_W_at h7) h1 k h5 (hK.2.2.2.2.2.1 _ (List.mem_cons_of_mem _ h6)) (fun _ h => h) h10 (by rw [h3 k h5, h9]) rfl rfl (by simpa using (List.getElem?_eq_some_iff.mp h8).1) hd (fun H1 locs1 hP1 _ hS1 => ?_)
  rw [zw_W_seti h7 h8] at hP1
  exact kk p e s m args below meth c H1 locs1 ls G hK hP1 hS1 hL
theorem zx_putz {l : Launch} {d : Nat} {y : zw_I} {Q : Option Value → zw_M → Prop} {pc : Nat} {L st : List Value} {M : zw_M} {q k idx : Nat} {x : Int32} (hd : decode y.2.1 pc = .ok (.putfield idx, 3)) (hf : zw_F y.1.cls idx q k none .boolean false) (hz : narrow .boolean (.int x) = .int x) (hz2 : fits .boolean (.int x) = true) (kk : zw_X l d y Q (pc + 3) L st (zw_s M q k x)) : zw_X l d y Q pc L (.int x :: .ref q :: st) M := by
  intro p e s m args below meth c H locs ls G hK hP hS hL
  obtain ⟨ci, C, T, N, tf, ks, ⟨h1, h2, h3, h4⟩, h5, h6, h7, h8, h9, h10⟩ := hf
  refine va_put (D := G.1) (cl := zs_cl) (ws := zw_W G M) (tys := zw_t G) (v := .int x) (ref := (T k).1) (ty := .boolean) hK.1 hK.2.1 hK.2.2.2.2.2.1 (fun w hw => List.mem_cons_of_mem _ (h2 w hw)) tf h3 h4 hK.2.2.2.2.1 hK.2.2.2.2.2.2.2.1 hP (zw_D_at hK.2.2.2.2.2.2.2.2.1) hS q (fs := ks.mapIdx (fun k x => zw_f G.2.2 M q k x)) (zw_W_at h7) h1 k h5 (hK.2.2.2.2.2.1 _ (List.mem_cons_of_mem _ h6)) (fun _ h => h) h10 (by rw [h3 k h5, h9]) hz hz2 (by simpa using (List.getElem?_eq_some_iff.mp h8).1) hd (fun H1 locs1 hP1 _ hS1 => ?_)
  rw [zw_W_seti h7 h8] at hP1
  exact kk p e s m args below meth c H1 locs1 ls G hK hP1 hS1 hL
theorem zx_putl {l : Launch} {d : Nat} {y : zw_I} {Q : Option Value → zw_M → Prop} {pc : Nat} {L st : List Value} {M : zw_M} {q k idx : Nat} {x : Int64} (hd : decode y.2.1 pc = .ok (.putfield idx, 3)) (hf : zw_F y.1.cls idx q k (some none) .long false) (kk : zw_X l d y Q (pc + 3) L st (zw_sl M q k x)) : zw_X l d y Q pc L (.long x :: .ref q :: st) M := by
  intro p e s m args below meth c H locs ls G hK hP hS hL
  obtain ⟨ci, C, T, N, tf, ks, ⟨h1, h2, h3, h4⟩, h5, h6, h7, h8, h9, h10⟩ := hf
  refine va_put (D := G.1) (cl := zs_cl) (ws := zw_W G M) (tys := zw_t G) (v := .long x) (ref := (T k).1) (ty := .long) hK.1 hK.2.1 hK.2.2.2.2.2.1 (fun w hw => List.mem_cons_of_mem _ (h2 w hw)) tf h3 h4 hK.2.2.2.2.1 hK.2.2.2.2.2.2.2.1 hP (zw_D_at hK.2.2.2.2.2.2.2.2.1) hS q (fs := ks.mapIdx (fun k x => zw_f G.2.2 M q k x)) (zw_W_at h7) h1 k h5 (hK.2.2.2.2.2.1 _ (List.mem_cons_of_mem _ h6)) (fun _ h => h) h10 (by rw [h3 k h5, h9]) rfl rfl (by simpa using (List.getElem?_eq_some_iff.mp h8).1) hd (fun H1 locs1 hP1 _ hS1 => ?_)
  rw [zw_W_setl h7 h8] at hP1
  exact kk p e s m args below meth c H1 locs1 ls G hK hP1 hS1 hL
theorem zx_iald {l : Launch} {d : Nat} {y : zw_I} {Q : Option Value → zw_M → Prop} {pc : Nat} {L st : List Value} {M : zw_M} {q n : Nat} {i : Int32} (hd : decode y.2.1 pc = .ok (.iaload, 1)) (hs : zs_S[q]? = some (.inl (0, n))) (hi : vp_in i n) (kk : zw_X l d y Q (pc + 1) L (.int (M.1 q i.toNatClampNeg) :: st) M) : zw_X l d y Q pc L (.int i :: .ref q :: st) M := by
  intro p e s m args below meth c H locs ls G hK hP hS hL
  exact va_iald (D := G.1) (cl := zs_cl) (ws := zw_W G M) (tys := zw_t G) hK.1 hK.2.1 hK.2.2.2.2.2.2.2.1 hP q 0 (zw_W_at hs) rfl hi hd (kk p e s m args below meth c H locs ls G hK hP hS hL)
theorem zx_iast {l : Launch} {d : Nat} {y : zw_I} {Q : Option Value → zw_M → Prop} {pc : Nat} {L st : List Value} {M : zw_M} {q n : Nat} {i x : Int32} (hd : decode y.2.1 pc = .ok (.iastore, 1)) (hs : zs_S[q]? = some (.inl (0, n))) (hi : vp_in i n) (kk : zw_X l d y Q (pc + 1) L st (zw_s M q i.toNatClampNeg (x))) : zw_X l d y Q pc L (.int x :: .int i :: .ref q :: st) M := by
  intro p e s m args below meth c H locs ls G hK hP hS hL
  refine va_iast (D := G.1) (cl := zs_cl) (ws := zw_W G M) (tys := zw_t G) hK.1 hK.2.1 hK.2.2.2.2.2.2.2.1 hP (zw_D_at hK.2.2.2.2.2.2.2.2.1) hS q 0 (zw_W_at hs) rfl hi hd (fun H1 locs1 hP1 _ hS1 => ?_)
  rw [zw_W_seta hs] at hP1
  exact kk p e s m args below meth c H1 locs1 ls G hK hP1 hS1 hL
theorem zx_cald {l : Launch} {d : Nat} {y : zw_I} {Q : Option Value → zw_M → Prop} {pc : Nat} {L st : List Value} {M : zw_M} {q n : Nat} {i : Int32} (hd : decode y.2.1 pc = .ok (.caload, 1)) (hs : zs_S[q]? = some (.inl (1, n))) (hi : vp_in i n) (kk : zw_X l d y Q (pc + 1) L (.int (M.1 q i.toNatClampNeg) :: st) M) : zw_X l d y Q pc L (.int i :: .ref q :: st) M := by
  intro p e s m args below meth c H locs ls G hK hP hS hL
  exact va_cald (D := G.1) (cl := zs_cl) (ws := zw_W G M) (tys := zw_t G) hK.1 hK.2.1 hK.2.2.2.2.2.2.2.1 hP q 1 (zw_W_at hs) rfl hi hd (kk p e s m args below meth c H locs ls G hK hP hS hL)
theorem zx_cast {l : Launch} {d : Nat} {y : zw_I} {Q : Option Value → zw_M → Prop} {pc : Nat} {L st : List Value} {M : zw_M} {q n : Nat} {i x : Int32} (hd : decode y.2.1 pc = .ok (.castore, 1)) (hs : zs_S[q]? = some (.inl (1, n))) (hi : vp_in i n) (kk : zw_X l d y Q (pc + 1) L st (zw_s M q i.toNatClampNeg (vp_nar .char x))) : zw_X l d y Q pc L (.int x :: .int i :: .ref q :: st) M := by
  intro p e s m args below meth c H locs ls G hK hP hS hL
  refine va_cast (D := G.1) (cl := zs_cl) (ws := zw_W G M) (tys := zw_t G) hK.1 hK.2.1 hK.2.2.2.2.2.2.2.1 hP (zw_D_at hK.2.2.2.2.2.2.2.2.1) hS q 1 (zw_W_at hs) rfl hi hd (fun H1 locs1 hP1 _ hS1 => ?_)
  rw [zw_W_seta hs] at hP1
  exact kk p e s m args below meth c H1 locs1 ls G hK hP1 hS1 hL
theorem zx_bald {l : Launch} {d : Nat} {y : zw_I} {Q : Option Value → zw_M → Prop} {pc : Nat} {L st : List Value} {M : zw_M} {q n : Nat} {i : Int32} (hd : decode y.2.1 pc = .ok (.baload, 1)) (hs : zs_S[q]? = some (.inl (2, n))) (hi : vp_in i n) (kk : zw_X l d y Q (pc + 1) L (.int (M.1 q i.toNatClampNeg) :: st) M) : zw_X l d y Q pc L (.int i :: .ref q :: st) M := by
  intro p e s m args below meth c H locs ls G hK hP hS hL
  exact va_bald (D := G.1) (cl := zs_cl) (ws := zw_W G M) (tys := zw_t G) hK.1 hK.2.1 hK.2.2.2.2.2.2.2.1 hP q 2 (zw_W_at hs) rfl hi hd (kk p e s m args below meth c H locs ls G hK hP hS hL)
theorem zx_bast {l : Launch} {d : Nat} {y : zw_I} {Q : Option Value → zw_M → Prop} {pc : Nat} {L st : List Value} {M : zw_M} {q n : Nat} {i x : Int32} (hd : decode y.2.1 pc = .ok (.bastore, 1)) (hs : zs_S[q]? = some (.inl (2, n))) (hi : vp_in i n) (kk : zw_X l d y Q (pc + 1) L st (zw_s M q i.toNatClampNeg (vp_nar .byte x))) : zw_X l d y Q pc L (.int x :: .int i :: .ref q :: st) M := by
  intro p e s m args below meth c H locs ls G hK hP hS hL
  refine va_bast (D := G.1) (cl := zs_cl) (ws := zw_W G M) (tys := zw_t G) hK.1 hK.2.1 hK.2.2.2.2.2.2.2.1 hP (zw_D_at hK.2.2.2.2.2.2.2.2.1) hS q 2 (zw_W_at hs) rfl hi hd (fun H1 locs1 hP1 _ hS1 => ?_)
  rw [zw_W_seta hs] at hP1
  exact kk p e s m args below meth c H1 locs1 ls G hK hP1 hS1 hL
theorem zx_copy {l : Launch} {d : Nat} {y : zw_I} {Q : Option Value → zw_M → Prop} {pc : Nat} {L st : List Value} {M : zw_M} {q0 q1 n0 n1 idx : Nat} {sp dp n : Int32} (hd : decode y.2.1 pc = .ok (.invokestatic idx, 3)) (hw : zw_in [.methodLink y.1.cls idx arraycopyName, .native arraycopyName, .static arraycopyName, .initialized "java/lang/System"]) (hs0 : zs_S[q0]? = some (.inl (0, n0))) (hs1 : zs_S[q1]? = some (.inl (0, n1))) (h1 : ¬ sp < 0) (h2 : ¬ dp < 0) (h3 : ¬ n < 0) (h4 : sp.toNatClampNeg + n.toNatClampNeg ≤ n0) (h5 : dp.toNatClampNeg + n.toNatClampNeg ≤ n1) (hst : (st.map fun v => v.category).sum + (nativeFrameWords "java/lang/System" "arraycopy" 5 + 11) ≤ 40) (kk : zw_X l (d + 1) y Q (pc + 3) L st (zw_sr M q1 (va_cpy (M.1 q0) (M.1 q1) sp.toNatClampNeg dp.toNatClampNeg n.toNatClampNeg))) : zw_X l (d + 1) y Q pc L (.int n :: .int dp :: .ref q1 :: .int sp :: .ref q0 :: st) M := by
  intro p e s m args below meth c H locs ls G hK hP hS hL
  have hw1 : ∀ w ∈ [Cond.methodLink y.1.cls idx arraycopyName, .native arraycopyName, .static arraycopyName, .initialized "java/lang/System"], w.before args s = true := fun w h => hK.2.2.2.2.2.1 w (List.mem_cons_of_mem _ (hw w h))
  have hcat : ((st.map (zw_v G.2.2)).map fun v => v.category) = st.map fun v => v.category := by rw [List.map_map]; exact List.map_congr_left (fun v _ => zw_v_cat _ v)
  refine va_copyi (D := G.1) (cl := zs_cl) (ws := zw_W G M) (tys := zw_t G) (ty := .int) hK.1 hK.2.1 (by rw [hK.2.2.2.1, hL.2.1]) hK.2.2.2.2.1 (hw1 _ (by simp)) (hw1 _ (by simp)) (hw1 _ (by simp)) (hw1 _ (by simp)) hK.2.2.2.2.2.2.2.1 hP (zw_D_at hK.2.2.2.2.2.2.2.2.1) hS q0 q1 0 0 (zw_W_at hs0) (zw_W_at hs1) rfl rfl rfl h1 h2 h3 h4 h5 (fun _ _ => rfl) (by show 1 ≤ d + 1; omega) (by rw [hcat]; show _ ≤ (d + 1) * 40; omega) hd (fun H1 locs1 hP1 _ hS1 => ?_)
  rw [zw_W_setr hs1] at hP1
  exact kk p e s m args below meth c H1 locs1 ls G hK hP1 hS1 hL
theorem zx_max {l : Launch} {d : Nat} {y : zw_I} {Q : Option Value → zw_M → Prop} {pc : Nat} {L st : List Value} {M : zw_M} {idx : Nat} {a b : Int32} (hd : decode y.2.1 pc = .ok (.invokestatic idx, 3)) (hw : zw_in [.methodLink y.1.cls idx Lib.Math.max.name, .static Lib.Math.max.name, .initialized "java/lang/Math", .code Lib.Math.max.name Lib.Math.max.code 2 (some .int)]) (hst : (st.map fun v => v.category).sum + 13 ≤ 40) (kk : zw_X l (d + 1) y Q (pc + 3) L (.int (if a < b then b else a) :: st) M) : zw_X l (d + 1) y Q pc L (.int b :: .int a :: st) M := by
  intro p e s m args below meth c H locs ls G hK hP hS hL
  have hw1 : ∀ w ∈ [Cond.methodLink y.1.cls idx Lib.Math.max.name, .static Lib.Math.max.name, .initialized "java/lang/Math", .code Lib.Math.max.name Lib.Math.max.code 2 (some .int)], w.before args s = true := fun w h => hK.2.2.2.2.2.1 w (List.mem_cons_of_mem _ (hw w h))
  have hcat : ((st.map (zw_v G.2.2)).map fun v => v.category) = st.map fun v => v.category := by rw [List.map_map]; exact List.map_congr_left (fun v _ => zw_v_cat _ v)
  exact va_mmax hK.1 hK.2.1 (by rw [hK.2.2.2.1, hL.2.1]) hK.2.2.2.2.1 (hw1 _ (by simp)) (hw1 _ (by simp)) (hw1 _ (by simp)) (hw1 _ (by simp)) (by show 1 ≤ d + 1; omega) (by rw [hcat]; show _ ≤ (d + 1) * 40; omega) (Nat.zero_le _) (Nat.zero_le _) hd (kk p e s m args below meth c H locs ls G hK hP hS hL)
theorem zx_iret {l : Launch} {d : Nat} {y : zw_I} {Q : Option Value → zw_M → Prop} {pc : Nat} {L st : List Value} {M : zw_M} {x : Int32} {ty : FieldType} (hd : decode y.2.1 pc = .ok (.ireturn, 1)) (hr : y.2.2.2 = some ty) (hn : narrow ty (.int x) = .int x) (h : Q (some (.int x)) M) : zw_X l d y Q pc L [.int x] M := by
  intro p e s m args below meth c H locs ls G hK hP hS hL
  exact W.zret (v := x) hK.1 hK.2.1 (hK.2.2.1.trans hr) hn (fun t ht _ => ⟨⟨some (.int x), M, rfl, h, by rw [ht]; exact hP⟩, hS.F ht⟩) hS.2.2 hd hK.2.2.2.2.2.2.1
theorem zx_lret {l : Launch} {d : Nat} {y : zw_I} {Q : Option Value → zw_M → Prop} {pc : Nat} {L st : List Value} {M : zw_M} {x : Int64} (hd : decode y.2.1 pc = .ok (.lreturn, 1)) (hr : y.2.2.2 = some .long) (h : Q (some (.long x)) M) : zw_X l d y Q pc L [.long x] M := by
  intro p e s m args below meth c H locs ls G hK hP hS hL
  exact W.lret (v := x) hK.1 hK.2.1 (hK.2.2.1.trans hr) (fun t ht _ => ⟨⟨some (.long x), M, rfl, h, by rw [ht]; exact hP⟩, hS.F ht⟩) hS.2.2 hd hK.2.2.2.2.2.2.1
theorem zx_vret {l : Launch} {d : Nat} {y : zw_I} {Q : Option Value → zw_M → Prop} {pc : Nat} {L st : List Value} {M : zw_M} (hd : decode y.2.1 pc = .ok (.return_, 1)) (hr : y.2.2.2 = none) (h : Q none M) : zw_X l d y Q pc L [] M := by
  intro p e s m args below meth c H locs ls G hK hP hS hL
  exact W.vret hK.1 hK.2.1 (hK.2.2.1.trans hr) (fun t ht _ => ⟨⟨none, M, rfl, h, by rw [ht]; exact hP⟩, hS.F ht⟩) hS.2.2 hd hK.2.2.2.2.2.2.1
/-! calls -/
def zw_yV (y : zw_I) (n : Nat) : Prop := zw_in [.instanceMethod y.1, .selects y.1.cls y.1 y.1, .initialized y.1.cls, .code y.1 y.2.1 y.2.2.1 y.2.2.2] ∧ (y.1.cls ≠ "java/lang/invoke/MethodHandle" ∧ y.1.cls ≠ "java/lang/invoke/VarHandle" ∧ (parseMethodDescriptor y.1.desc).map (fun d => d.parameters.length) = some n) ∧ y.2.2.1 ≤ 21
def zw_yS (y : zw_I) (n : Nat) : Prop := zw_in [.static y.1, .initialized y.1.cls, .code y.1 y.2.1 y.2.2.1 y.2.2.2] ∧ (y.1.cls ≠ "java/lang/invoke/MethodHandle" ∧ y.1.cls ≠ "java/lang/invoke/VarHandle" ∧ (parseMethodDescriptor y.1.desc).map (fun d => d.parameters.length) = some n) ∧ y.2.2.1 ≤ 21
def zw_rc (q : Nat) (C : String) : Prop := ∃ (ci : Nat) (ks : List (Option (Option Nat))) (T : u_T) (N : Nat), zs_S[q]? = some (.inr (ci, ks)) ∧ zs_cl[ci]? = some (C, T, N)
section ZGO
variable {p : Program} {l : Launch} {e : Env} {R : Room} {s : State} {m : MethodId} {args : Array Value} {below : List Frame} {meth : Method} {c : Code} {H : Heap} {locs : List Loc} {Q : State → Prop}
variable {pc : Nat} {ls : Array Slot} {rest st0 : List Value} {a : Array Value} {A0 A1 : Nat → Prop} {H0 : Heap} {free : Addr → Prop}
theorem zw_go {G : zw_G} {Q1 : Option Value → zw_M → Prop} (hr : va_Run p l e R s m args below meth c H locs 0 0 0 0 (F0 m pc ls st0) rest (zw_Q G A1 Q1 a) free) (hS : va_S A0 H0 H locs) (hA : ∀ q, q < H.size → A1 q → A0 q) (hf : ∀ q, free q → A0 q)
    (kk : ∀ (v : Option Value) (M : zw_M) (H1 : Heap) (locs1 : List Loc), Q1 v M → va_P G.1 zs_cl (zw_W G M) H1 → va_S A0 H0 H1 locs1 → W p l e R s m args below meth c H1 locs1 0 0 Q (F0 m (pc + 3) ls ((v.map (zw_v G.2.2)).toList ++ rest))) : W p l e R s m args below meth c H locs 0 0 Q (F0 m pc ls st0) := by
  intro T hT X
  obtain ⟨v, st₀, t, T', L, h0, X', hL, e1, e2, ⟨⟨r, u, hv, hp, hb⟩, hz, hk⟩, st⟩ := hr T hT X
  cases hv
  rw [h0] at hz hk
  obtain ⟨t2, a1, b1⟩ := kk r u T'.heap (locs ++ L) hp (by rw [e1]; exact hb)
    ⟨Nat.le_trans hS.1 (by rw [e1]; exact hz), fun q h1 h2 => by rw [e1, hk q (Nat.lt_of_lt_of_le h1 hS.1) (fun z => h2 (hA q (Nat.lt_of_lt_of_le h1 hS.1) z))]; exact hS.2.1 q h1 h2, fun q hq => by
      rcases List.mem_append.mp hq with h | h
      · exact hS.2.2 q h
      · exact hf _ (hL q h)⟩ T' rfl X'
  exact ⟨t2, st t2 a1, b1⟩
end ZGO
theorem zw_A_mono {G : zw_G} {n k : Nat} (h : n ≤ k) : ∀ q, zw_A G k q → zw_A G n q := fun q hq => hq.elim Or.inl (fun z => Or.inr (Nat.le_trans h z))
theorem zw_N_same {U V : State} (h : U.vm = V.vm) (hN : zw_N U) : zw_N V := fun q hq => va_Nw.same rfl h (hN q hq)
theorem zw_N_warm {U V : State} (h : U.WarmedH V.vm) (hN : zw_N U) : zw_N V := fun q hq => va_Nw.warmM h (hN q hq)
theorem zw_blind {G : zw_G} {vs : List Value} {sz : Nat} {M : zw_M} : FrameBlind (va_Pc (vs.map (zw_v G.2.2)) (fun U => U.heap.size = sz ∧ va_P G.1 zs_cl (zw_W G M) U.heap ∧ va_K G.1 zs_cl (zw_t G) U ∧ zw_N U)) :=
  fun a U g mk q => ⟨q.1, q.2.1, q.2.2.1, va_K.moved (u := U) (U := U.calling g mk a) (Vm.Alike.refl U.vm) q.2.2.2.1, zw_N_same (U := U) (V := U.calling g mk a) rfl q.2.2.2.2⟩
theorem zw_cat {ad : Nat → Nat} {st : List Value} (h : (st.map fun v => v.category).sum ≤ 8) : ((st.map (zw_v ad)).map fun v => v.category).sum ≤ 8 := by
  rw [List.map_map, show List.map ((fun v => Value.category v) ∘ zw_v ad) st = st.map fun v => v.category from List.map_congr_left (fun v _ => zw_v_cat _ v)]
  exact h
theorem zx_callV {l : Launch} {d : Nat} {y : zw_I} {Q : Option Value → zw_M → Prop} {pc : Nat} {L st st0 : List Value} {M : zw_M} {y1 : zw_I} {idx q : Nat} {vs : List Value} {Q1 : Option Value → zw_M → Prop} {n : Nat}
    (hd : decode y.2.1 pc = .ok (.invokevirtual idx, 3)) (hl : zw_in [Cond.methodLink y.1.cls idx y1.1]) (hy : zw_yV y1 n) (hrc : zw_rc q y1.1.cls) (hC : zw_C l d y1 (.ref q :: vs) M Q1) (hst : st0 = vs.reverse ++ .ref q :: st) (hn : vs.length = n) (hcat : (st.map fun v => v.category).sum ≤ 8)
    (k : ∀ v M', Q1 v M' → zw_X l (d + 1) y Q (pc + 3) L (v.toList ++ st) M') : zw_X l (d + 1) y Q pc L st0 M := by
  intro p e s m args below meth c H locs ls G hK hP hS hL
  obtain ⟨k1, k2, k3, k4, k5, k6, k7, k8, k9, k10⟩ := id hK
  obtain ⟨ci, ks, T, N, r1, r2⟩ := hrc
  have hw1 : ∀ w ∈ zs_G, w ∈ zw_ws y := fun w h => List.mem_cons_of_mem _ h
  have hcode : Cond.code y1.1 y1.2.1 y1.2.2.1 y1.2.2.2 ∈ zs_G := hy.1 _ (by simp)
  have hgood : GoodIn (zw_ws y) (zw_ws y1) := fun w hw => by
    rcases List.mem_cons.mp hw with rfl | h
    · exact ⟨hw1 _ hcode, good_of_word (List.mem_filter.mp hcode).2⟩
    · exact ⟨hw1 _ h, good_of_word (List.mem_filter.mp h).2⟩
  have ok : ∀ w ∈ [Cond.instanceMethod y1.1, .selects y1.1.cls y1.1 y1.1, .initialized y1.1.cls, .code y1.1 y1.2.1 y1.2.2.1 y1.2.2.2], w.before args s = true := fun w h => k6 w (hw1 w (hy.1 w h))
  have hcb := callB_of (R := zw_rm (d + 1)) (rm := zw_rm d) (own := y.1.cls) (index := idx) (mc := 0) (ms := 0) n k6 hgood rfl rfl rfl (ok _ (by simp)) (k6 _ (hw1 _ (hl _ (by simp)))) hy.2.1 ⟨by show d + 1 ≤ d + 1; omega, by show 8 + (y1.2.2.1 + 11) + d * 40 ≤ (d + 1) * 40; have := hy.2.2; omega⟩
  refine zw_go (Q1 := Q1) (rest := st.map (zw_v G.2.2)) (va_runV (As := vs.map (zw_v G.2.2)) ⟨k1, k2, k4, k5, k6⟩ (hC G H.size k9) ⟨hcb, ok _ (by simp), ok _ (by simp)⟩ ⟨zw_blind, va_recv k8 hP r2 (zw_W_at r1), fun U hU hW => ⟨rfl, by rw [hU], by rw [hU]; exact hP, va_K.moved hW.alike k8, zw_N_warm hW k10⟩⟩ rfl (by simpa using hn) hL.2.1 ?_ (lv_room (zw_cat hcat)) hd ⟨Nat.le_refl _, Nat.le_refl _⟩) hS (fun q _ => zw_A_mono hS.1 q) (fun q => zw_A_mono hS.1 q) (fun v M1 H1 locs1 hQ hP1 hS1 => ?_)
  · show st0.map (zw_v G.2.2) = _
    rw [hst, List.map_append, List.map_reverse, List.map_cons]
    rfl
  · have := k v M1 hQ p e s m args below meth c H1 locs1 ls G hK hP1 hS1 hL
    rw [List.map_append] at this
    cases v <;> exact this
theorem zx_callS {l : Launch} {d : Nat} {y : zw_I} {Q : Option Value → zw_M → Prop} {pc : Nat} {L st st0 : List Value} {M : zw_M} {y1 : zw_I} {idx : Nat} {vs : List Value} {Q1 : Option Value → zw_M → Prop} {n : Nat}
    (hd : decode y.2.1 pc = .ok (.invokestatic idx, 3)) (hl : zw_in [Cond.methodLink y.1.cls idx y1.1]) (hy : zw_yS y1 n) (hC : zw_C l d y1 vs M Q1) (hst : st0 = vs.reverse ++ st) (hn : vs.length = n) (hcat : (st.map fun v => v.category).sum ≤ 8)
    (k : ∀ v M', Q1 v M' → zw_X l (d + 1) y Q (pc + 3) L (v.toList ++ st) M') : zw_X l (d + 1) y Q pc L st0 M := by
  intro p e s m args below meth c H locs ls G hK hP hS hL
  obtain ⟨k1, k2, k3, k4, k5, k6, k7, k8, k9, k10⟩ := id hK
  have hw1 : ∀ w ∈ zs_G, w ∈ zw_ws y := fun w h => List.mem_cons_of_mem _ h
  have hcode : Cond.code y1.1 y1.2.1 y1.2.2.1 y1.2.2.2 ∈ zs_G := hy.1 _ (by simp)
  have hgood : GoodIn (zw_ws y) (zw_ws y1) := fun w hw => by
    rcases List.mem_cons.mp hw with rfl | h
    · exact ⟨hw1 _ hcode, good_of_word (List.mem_filter.mp hcode).2⟩
    · exact ⟨hw1 _ h, good_of_word (List.mem_filter.mp h).2⟩
  have ok : ∀ w ∈ [Cond.static y1.1, .initialized y1.1.cls, .code y1.1 y1.2.1 y1.2.2.1 y1.2.2.2], w.before args s = true := fun w h => k6 w (hw1 w (hy.1 w h))
  have hcb := callB_of (R := zw_rm (d + 1)) (rm := zw_rm d) (own := y.1.cls) (index := idx) (mc := 0) (ms := 0) n k6 hgood rfl rfl rfl (ok _ (by simp)) (k6 _ (hw1 _ (hl _ (by simp)))) hy.2.1 ⟨by show d + 1 ≤ d + 1; omega, by show 8 + (y1.2.2.1 + 11) + d * 40 ≤ (d + 1) * 40; have := hy.2.2; omega⟩
  refine zw_go (Q1 := Q1) (rest := st.map (zw_v G.2.2)) (va_runS (As := vs.map (zw_v G.2.2)) ⟨k1, k2, k4, k5, k6⟩ (hC G H.size k9) ⟨hcb, ok _ (by simp)⟩ ⟨zw_blind, fun U hU hW => ⟨rfl, by rw [hU], by rw [hU]; exact hP, va_K.moved hW.alike k8, zw_N_warm hW k10⟩⟩ rfl (by simpa using hn) hL.2.1 ?_ (lv_room (zw_cat hcat)) hd ⟨Nat.le_refl _, Nat.le_refl _⟩) hS (fun q _ => zw_A_mono hS.1 q) (fun q => zw_A_mono hS.1 q) (fun v M1 H1 locs1 hQ hP1 hS1 => ?_)
  · show st0.map (zw_v G.2.2) = _
    rw [hst, List.map_append, List.map_reverse]
  · have := k v M1 hQ p e s m args below meth c H1 locs1 ls G hK hP1 hS1 hL
    rw [List.map_append] at this
    cases v <;> exact this
/-- a nest mate's private static method -/
theorem zx_callN {l : Launch} {d : Nat} {y : zw_I} {Q : Option Value → zw_M → Prop} {pc : Nat} {L st st0 : List Value} {M : zw_M} {y1 : zw_I} {idx : Nat} {host : String} {vs : List Value} {Q1 : Option Value → zw_M → Prop} {n : Nat}
    (hd : decode y.2.1 pc = .ok (.invokestatic idx, 3)) (hl : (y.1.cls, idx, y1.1, host) ∈ zs_nest) (hy : zw_yS y1 n) (hC : zw_C l d y1 vs M Q1) (hst : st0 = vs.reverse ++ st) (hn : vs.length = n) (hcat : (st.map fun v => v.category).sum ≤ 8)
    (k : ∀ v M', Q1 v M' → zw_X l (d + 1) y Q (pc + 3) L (v.toList ++ st) M') : zw_X l (d + 1) y Q pc L st0 M := by
  intro p e s m args below meth c H locs ls G hK hP hS hL
  obtain ⟨k1, k2, k3, k4, k5, k6, k7, k8, k9, k10⟩ := id hK
  have hw1 : ∀ w ∈ zs_G, w ∈ zw_ws y := fun w h => List.mem_cons_of_mem _ h
  have hcode : Cond.code y1.1 y1.2.1 y1.2.2.1 y1.2.2.2 ∈ zs_G := hy.1 _ (by simp)
  have hgood : GoodIn (zw_ws y) (zw_ws y1) := fun w hw => by
    rcases List.mem_cons.mp hw with rfl | h
    · exact ⟨hw1 _ hcode, good_of_word (List.mem_filter.mp hcode).2⟩
    · exact ⟨hw1 _ h, good_of_word (List.mem_filter.mp h).2⟩
  have ok : ∀ w ∈ [Cond.static y1.1, .initialized y1.1.cls, .code y1.1 y1.2.1 y1.2.2.1 y1.2.2.2], w.before args s = true := fun w h => k6 w (hw1 w (hy.1 w h))
  have hcb := va_cnB (args := args) (R := zw_rm (d + 1)) (rm := zw_rm d) (own := y.1.cls) (index := idx) (host := host) (mc := 0) (ms := 0) n k6 hgood rfl rfl rfl (k10 _ hl) (ok _ (by simp)) hy.2.1 ⟨by show d + 1 ≤ d + 1; omega, by show 8 + (y1.2.2.1 + 11) + d * 40 ≤ (d + 1) * 40; have := hy.2.2; omega⟩
  refine zw_go (Q1 := Q1) (rest := st.map (zw_v G.2.2)) (va_runSN (As := vs.map (zw_v G.2.2)) ⟨k1, k2, k4, k5, k6⟩ (hC G H.size k9) ⟨hcb, ok _ (by simp), trivial⟩ ⟨zw_blind, fun U hU hW => ⟨rfl, by rw [hU], by rw [hU]; exact hP, va_K.moved hW.alike k8, zw_N_warm hW k10⟩⟩ rfl (by simpa using hn) hL.2.1 ?_ (lv_room (zw_cat hcat)) hd ⟨Nat.le_refl _, Nat.le_refl _⟩) hS (fun q _ => zw_A_mono hS.1 q) (fun q => zw_A_mono hS.1 q) (fun v M1 H1 locs1 hQ hP1 hS1 => ?_)
  · show st0.map (zw_v G.2.2) = _
    rw [hst, List.map_append, List.map_reverse]
  · have := k v M1 hQ p e s m args below meth c H1 locs1 ls G hK hP1 hS1 hL
    rw [List.map_append] at this
    cases v <;> exact this
theorem zx_imp {l : Launch} {d : Nat} {y : zw_I} {Q Q1 : Option Value → zw_M → Prop} {pc : Nat} {L st : List Value} {M : zw_M} (h : ∀ v M', Q1 v M' → Q v M') (k : zw_X l d y Q1 pc L st M) : zw_X l d y Q pc L st M := by
  intro p e s m args below meth c H locs ls G hK hP hS hL T hT X
  obtain ⟨t, a, o, b1, b2, ⟨⟨v, M1, c1, c2, c3⟩, c4⟩, b4⟩ := k p e s m args below meth c H locs ls G hK hP hS hL T hT X
  exact ⟨t, a, o, b1, b2, ⟨⟨v, M1, c1, h v M1 c2, c3⟩, c4⟩, b4⟩
/-- the answers' shapes -/
def zw_i (x : Int32) (M : zw_M) : Option Value → zw_M → Prop := fun v M' => v = some (.int x) ∧ M' = M
def zw_l (x : Int64) (M : zw_M) : Option Value → zw_M → Prop := fun v M' => v = some (.long x) ∧ M' = M
def zw_u (M : zw_M) : Option Value → zw_M → Prop := fun v M' => v = none ∧ M' = M
theorem zk_i {x : Int32} {M : zw_M} {P : Option Value → zw_M → Prop} (h : P (some (.int x)) M) : ∀ v M', zw_i x M v M' → P v M' := fun v M' q => by obtain ⟨rfl, rfl⟩ := q; exact h
theorem zk_l {x : Int64} {M : zw_M} {P : Option Value → zw_M → Prop} (h : P (some (.long x)) M) : ∀ v M', zw_l x M v M' → P v M' := fun v M' q => by obtain ⟨rfl, rfl⟩ := q; exact h
theorem zk_u {M : zw_M} {P : Option Value → zw_M → Prop} (h : P none M) : ∀ v M', zw_u M v M' → P v M' := fun v M' q => by obtain ⟨rfl, rfl⟩ := q; exact h
end
section
theorem oX0 : zw_okc 0 RX0 TX0 4 tyX0 := ⟨rfl, zw_in_p (ws := u_ws RX0 TX0 4) [180, 182, 184, 186] (by decide +kernel) (by decide +kernel), tyX0_ok, nmX0⟩
theorem rc_13 : zw_rc 13 RX0 := ⟨0, _, TX0, 4, rfl, rfl⟩
theorem oX1 : zw_okc 1 RX1 TX1 7 tyX1 := ⟨rfl, zw_in_p (ws := u_ws RX1 TX1 7) [129, 131, 133, 135, 137, 139, 141] (by decide +kernel) (by decide +kernel), tyX1_ok, nmX1⟩
theorem rc_4 : zw_rc 4 RX1 := ⟨1, _, TX1, 7, rfl, rfl⟩
theorem oX2 : zw_okc 2 RX2 TX2 6 tyX2 := ⟨rfl, zw_in_p (ws := u_ws RX2 TX2 6) [294, 296, 298, 300, 302, 304] (by decide +kernel) (by decide +kernel), tyX2_ok, nmX2⟩
theorem rc_27 : zw_rc 27 RX2 := ⟨2, _, TX2, 6, rfl, rfl⟩
theorem oX3 : zw_okc 3 RX3 TX3 2 tyX3 := ⟨rfl, zw_in_p (ws := u_ws RX3 TX3 2) [94, 96] (by decide +kernel) (by decide +kernel), tyX3_ok, nmX3⟩
theorem rc_1 : zw_rc 1 RX3 := ⟨3, _, TX3, 2, rfl, rfl⟩
theorem oX4 : zw_okc 4 RX4 TX4 3 tyX4 := ⟨rfl, zw_in_p (ws := u_ws RX4 TX4 3) [109, 111, 113] (by decide +kernel) (by decide +kernel), tyX4_ok, nmX4⟩
theorem rc_3 : zw_rc 3 RX4 := ⟨4, _, TX4, 3, rfl, rfl⟩
theorem oX5 : zw_okc 5 RX5 TX5 7 tyX5 := ⟨rfl, zw_in_p (ws := u_ws RX5 TX5 7) [202, 204, 206, 208, 210, 212, 214] (by decide +kernel) (by decide +kernel), tyX5_ok, nmX5⟩
theorem rc_16 : zw_rc 16 RX5 := ⟨5, _, TX5, 7, rfl, rfl⟩
theorem oX6 : zw_okc 6 RX6 TX6 4 tyX6 := ⟨rfl, zw_in_p (ws := u_ws RX6 TX6 4) [317, 319, 321, 323] (by decide +kernel) (by decide +kernel), tyX6_ok, nmX6⟩
theorem rc_31 : zw_rc 31 RX6 := ⟨6, _, TX6, 4, rfl, rfl⟩
theorem oX7 : zw_okc 7 RX7 TX7 6 tyX7 := ⟨rfl, zw_in_p (ws := u_ws RX7 TX7 6) [269, 271, 273, 275, 277, 279] (by decide +kernel) (by decide +kernel), tyX7_ok, nmX7⟩
theorem rc_24 : zw_rc 24 RX7 := ⟨7, _, TX7, 6, rfl, rfl⟩
theorem oX8 : zw_okc 8 RX8 TX8 6 tyX8 := ⟨rfl, zw_in_p (ws := u_ws RX8 TX8 6) [157, 159, 161, 163, 165, 167] (by decide +kernel) (by decide +kernel), tyX8_ok, nmX8⟩
theorem rc_8 : zw_rc 8 RX8 := ⟨8, _, TX8, 6, rfl, rfl⟩
theorem oX9 : zw_okc 9 RX9 TX9 11 tyX9 := ⟨rfl, zw_in_p (ws := u_ws RX9 TX9 11) [234, 236, 238, 240, 242, 244, 246, 248, 250, 252, 254] (by decide +kernel) (by decide +kernel), tyX9_ok, nmX9⟩
theorem rc_19 : zw_rc 19 RX9 := ⟨9, _, TX9, 11, rfl, rfl⟩
theorem oX10 : zw_okc 10 RX10 TX10 13 tyX10 := ⟨rfl, zw_in_p (ws := u_ws RX10 TX10 13) [339, 341, 343, 345, 347, 349, 351, 353, 355, 357, 359, 361, 363] (by decide +kernel) (by decide +kernel), tyX10_ok, nmX10⟩
theorem rc_0 : zw_rc 0 RX10 := ⟨10, _, TX10, 13, rfl, rfl⟩
theorem oX11 : zw_okc 11 RX11 TX11 40 tyX11 := ⟨rfl, zw_in_p (ws := u_ws RX11 TX11 40) [992, 994, 996, 998, 1000, 1002, 1004, 1006, 1008, 1010, 1012, 1014, 1016, 1018, 1020, 1022, 1024, 1026, 1028, 1030, 1032, 1034, 1036, 1038, 1040, 1042, 1044, 1046, 1048, 1050, 1052, 1054, 1056, 1058, 1060, 1062, 1064, 1066, 1068, 1070] (by decide +kernel) (by decide +kernel), tyX11_ok, nmX11⟩
theorem rc_33 : zw_rc 33 RX11 := ⟨11, _, TX11, 40, rfl, rfl⟩
abbrev iX0_init : zw_I := (yX0_init, cX0_init, 3, none)
abbrev iX0_leanEast : zw_I := (yX0_leanEast, cX0_leanEast, 4, some .int)
theorem vX0_leanEast : zw_yV iX0_leanEast 1 := ⟨zw_in_p [566, 567, 68, 568] (by decide +kernel) (by decide +kernel), ⟨by decide +kernel, by decide +kernel, by decide +kernel⟩, by decide⟩
abbrev iX0_leanSouth : zw_I := (yX0_leanSouth, cX0_leanSouth, 4, some .int)
theorem vX0_leanSouth : zw_yV iX0_leanSouth 1 := ⟨zw_in_p [577, 578, 68, 579] (by decide +kernel) (by decide +kernel), ⟨by decide +kernel, by decide +kernel, by decide +kernel⟩, by decide⟩
abbrev iX0_wetIn : zw_I := (yX0_wetIn, cX0_wetIn, 2, some .int)
theorem vX0_wetIn : zw_yV iX0_wetIn 1 := ⟨zw_in_p [595, 596, 68, 597] (by decide +kernel) (by decide +kernel), ⟨by decide +kernel, by decide +kernel, by decide +kernel⟩, by decide⟩
abbrev iX0_weigh : zw_I := (yX0_weigh, cX0_weigh, 2, none)
theorem vX0_weigh : zw_yV iX0_weigh 0 := ⟨zw_in_p [691, 692, 68, 693] (by decide +kernel) (by decide +kernel), ⟨by decide +kernel, by decide +kernel, by decide +kernel⟩, by decide⟩
abbrev iX0_wetDoorsWith : zw_I := (yX0_wetDoorsWith, cX0_wetDoorsWith, 4, some .int)
theorem vX0_wetDoorsWith : zw_yV iX0_wetDoorsWith 3 := ⟨zw_in_p [709, 710, 68, 711] (by decide +kernel) (by decide +kernel), ⟨by decide +kernel, by decide +kernel, by decide +kernel⟩, by decide⟩
abbrev iX0_greatestDip : zw_I := (yX0_greatestDip, cX0_greatestDip, 4, some .int)
theorem vX0_greatestDip : zw_yV iX0_greatestDip 1 := ⟨zw_in_p [738, 739, 68, 740] (by decide +kernel) (by decide +kernel), ⟨by decide +kernel, by decide +kernel, by decide +kernel⟩, by decide⟩
abbrev iX0_driestSquareFor : zw_I := (yX0_driestSquareFor, cX0_driestSquareFor, 6, some .int)
theorem vX0_driestSquareFor : zw_yV iX0_driestSquareFor 1 := ⟨zw_in_p [783, 784, 68, 785] (by decide +kernel) (by decide +kernel), ⟨by decide +kernel, by decide +kernel, by decide +kernel⟩, by decide⟩
abbrev iX0_wetDoorsAllDayWith : zw_I := (yX0_wetDoorsAllDayWith, cX0_wetDoorsAllDayWith, 5, some .int)
theorem vX0_wetDoorsAllDayWith : zw_yV iX0_wetDoorsAllDayWith 2 := ⟨zw_in_p [790, 13, 68, 791] (by decide +kernel) (by decide +kernel), ⟨by decide +kernel, by decide +kernel, by decide +kernel⟩, by decide⟩
abbrev iX1_init : zw_I := (yX1_init, cX1_init, 1, none)
abbrev iX1_read : zw_I := (yX1_read, cX1_read, 8, none)
theorem vX1_read : zw_yV iX1_read 3 := ⟨zw_in_p [441, 442, 66, 443] (by decide +kernel) (by decide +kernel), ⟨by decide +kernel, by decide +kernel, by decide +kernel⟩, by decide⟩
abbrev iX1_addSquare : zw_I := (yX1_addSquare, cX1_addSquare, 4, none)
theorem vX1_addSquare : zw_yV iX1_addSquare 3 := ⟨zw_in_p [448, 2, 66, 449] (by decide +kernel) (by decide +kernel), ⟨by decide +kernel, by decide +kernel, by decide +kernel⟩, by decide⟩
abbrev iX1_fromCentre : zw_I := (yX1_fromCentre, cX1_fromCentre, 2, some .int)
theorem sX1_fromCentre : zw_yS iX1_fromCentre 2 := ⟨zw_in_p [451, 66, 452] (by decide +kernel) (by decide +kernel), ⟨by decide +kernel, by decide +kernel, by decide +kernel⟩, by decide⟩
abbrev iX1_isThere : zw_I := (yX1_isThere, cX1_isThere, 1, some .boolean)
theorem vX1_isThere : zw_yV iX1_isThere 0 := ⟨zw_in_p [609, 610, 66, 611] (by decide +kernel) (by decide +kernel), ⟨by decide +kernel, by decide +kernel, by decide +kernel⟩, by decide⟩
abbrev iX1_squares : zw_I := (yX1_squares, cX1_squares, 1, some .int)
theorem vX1_squares : zw_yV iX1_squares 0 := ⟨zw_in_p [458, 459, 66, 460] (by decide +kernel) (by decide +kernel), ⟨by decide +kernel, by decide +kernel, by decide +kernel⟩, by decide⟩
abbrev iX1_doors : zw_I := (yX1_doors, cX1_doors, 1, some .int)
theorem vX1_doors : zw_yV iX1_doors 0 := ⟨zw_in_p [924, 925, 66, 926] (by decide +kernel) (by decide +kernel), ⟨by decide +kernel, by decide +kernel, by decide +kernel⟩, by decide⟩
abbrev iX1_has : zw_I := (yX1_has, cX1_has, 2, some .boolean)
theorem vX1_has : zw_yV iX1_has 1 := ⟨zw_in_p [466, 467, 66, 468] (by decide +kernel) (by decide +kernel), ⟨by decide +kernel, by decide +kernel, by decide +kernel⟩, by decide⟩
abbrev iX1_hasAll : zw_I := (yX1_hasAll, cX1_hasAll, 2, some .boolean)
theorem vX1_hasAll : zw_yV iX1_hasAll 1 := ⟨zw_in_p [798, 799, 66, 800] (by decide +kernel) (by decide +kernel), ⟨by decide +kernel, by decide +kernel, by decide +kernel⟩, by decide⟩
abbrev iX1_height : zw_I := (yX1_height, cX1_height, 2, some .int)
theorem vX1_height : zw_yV iX1_height 1 := ⟨zw_in_p [471, 472, 66, 473] (by decide +kernel) (by decide +kernel), ⟨by decide +kernel, by decide +kernel, by decide +kernel⟩, by decide⟩
abbrev iX1_east : zw_I := (yX1_east, cX1_east, 2, some .int)
theorem vX1_east : zw_yV iX1_east 1 := ⟨zw_in_p [476, 477, 66, 478] (by decide +kernel) (by decide +kernel), ⟨by decide +kernel, by decide +kernel, by decide +kernel⟩, by decide⟩
abbrev iX1_south : zw_I := (yX1_south, cX1_south, 2, some .int)
theorem vX1_south : zw_yV iX1_south 1 := ⟨zw_in_p [480, 481, 66, 482] (by decide +kernel) (by decide +kernel), ⟨by decide +kernel, by decide +kernel, by decide +kernel⟩, by decide⟩
abbrev iX1_dipOf : zw_I := (yX1_dipOf, cX1_dipOf, 4, some .int)
theorem vX1_dipOf : zw_yV iX1_dipOf 3 := ⟨zw_in_p [587, 588, 66, 589] (by decide +kernel) (by decide +kernel), ⟨by decide +kernel, by decide +kernel, by decide +kernel⟩, by decide⟩
abbrev iX1_wetDoors : zw_I := (yX1_wetDoors, cX1_wetDoors, 7, some .int)
theorem vX1_wetDoors : zw_yV iX1_wetDoors 2 := ⟨zw_in_p [601, 602, 66, 603] (by decide +kernel) (by decide +kernel), ⟨by decide +kernel, by decide +kernel, by decide +kernel⟩, by decide⟩
abbrev iX1_wetDoorsTold : zw_I := (yX1_wetDoorsTold, cX1_wetDoorsTold, 3, some .int)
theorem vX1_wetDoorsTold : zw_yV iX1_wetDoorsTold 2 := ⟨zw_in_p [648, 649, 66, 650] (by decide +kernel) (by decide +kernel), ⟨by decide +kernel, by decide +kernel, by decide +kernel⟩, by decide⟩
abbrev iX1_step : zw_I := (yX1_step, cX1_step, 3, some .int)
theorem vX1_step : zw_yV iX1_step 2 := ⟨zw_in_p [683, 684, 66, 685] (by decide +kernel) (by decide +kernel), ⟨by decide +kernel, by decide +kernel, by decide +kernel⟩, by decide⟩
abbrev iX1_towardsMiddle : zw_I := (yX1_towardsMiddle, cX1_towardsMiddle, 4, some .int)
theorem vX1_towardsMiddle : zw_yV iX1_towardsMiddle 1 := ⟨zw_in_p [852, 853, 66, 854] (by decide +kernel) (by decide +kernel), ⟨by decide +kernel, by decide +kernel, by decide +kernel⟩, by decide⟩
abbrev iX2_init : zw_I := (yX2_init, cX2_init, 4, none)
abbrev iX2_found : zw_I := (yX2_found, cX2_found, 2, some .int)
theorem vX2_found : zw_yV iX2_found 1 := ⟨zw_in_p [822, 823, 72, 824] (by decide +kernel) (by decide +kernel), ⟨by decide +kernel, by decide +kernel, by decide +kernel⟩, by decide⟩
abbrev iX2_search : zw_I := (yX2_search, cX2_search, 10, none)
theorem vX2_search : zw_yV iX2_search 2 := ⟨zw_in_p [802, 803, 72, 804] (by decide +kernel) (by decide +kernel), ⟨by decide +kernel, by decide +kernel, by decide +kernel⟩, by decide⟩
abbrev iX2_measureChanges : zw_I := (yX2_measureChanges, cX2_measureChanges, 6, none)
theorem vX2_measureChanges : zw_yV iX2_measureChanges 1 := ⟨zw_in_p [807, 14, 72, 808] (by decide +kernel) (by decide +kernel), ⟨by decide +kernel, by decide +kernel, by decide +kernel⟩, by decide⟩
abbrev iX2_wetDoorsIfLate : zw_I := (yX2_wetDoorsIfLate, cX2_wetDoorsIfLate, 7, some .int)
theorem vX2_wetDoorsIfLate : zw_yV iX2_wetDoorsIfLate 3 := ⟨zw_in_p [818, 15, 72, 819] (by decide +kernel) (by decide +kernel), ⟨by decide +kernel, by decide +kernel, by decide +kernel⟩, by decide⟩
abbrev iX3_init : zw_I := (yX3_init, cX3_init, 1, none)
abbrev iX3_length : zw_I := (yX3_length, cX3_length, 1, some .int)
theorem vX3_length : zw_yV iX3_length 0 := ⟨zw_in_p [386, 387, 64, 388] (by decide +kernel) (by decide +kernel), ⟨by decide +kernel, by decide +kernel, by decide +kernel⟩, by decide⟩
abbrev iX3_letter : zw_I := (yX3_letter, cX3_letter, 2, some .int)
theorem vX3_letter : zw_yV iX3_letter 1 := ⟨zw_in_p [403, 404, 64, 405] (by decide +kernel) (by decide +kernel), ⟨by decide +kernel, by decide +kernel, by decide +kernel⟩, by decide⟩
abbrev iX3_clear : zw_I := (yX3_clear, cX3_clear, 1, none)
theorem vX3_clear : zw_yV iX3_clear 0 := ⟨zw_in_p [390, 391, 64, 392] (by decide +kernel) (by decide +kernel), ⟨by decide +kernel, by decide +kernel, by decide +kernel⟩, by decide⟩
abbrev iX3_add : zw_I := (yX3_add, cX3_add, 5, some .int)
theorem vX3_add : zw_yV iX3_add 1 := ⟨zw_in_p [371, 372, 64, 373] (by decide +kernel) (by decide +kernel), ⟨by decide +kernel, by decide +kernel, by decide +kernel⟩, by decide⟩
abbrev iX3_lettersTold : zw_I := (yX3_lettersTold, cX3_lettersTold, 6, some .int)
theorem sX3_lettersTold : zw_yS iX3_lettersTold 1 := ⟨zw_in_p [375, 64, 376] (by decide +kernel) (by decide +kernel), ⟨by decide +kernel, by decide +kernel, by decide +kernel⟩, by decide⟩
abbrev iX3_codeAt : zw_I := (yX3_codeAt, cX3_codeAt, 3, some .int)
theorem sX3_codeAt : zw_yS iX3_codeAt 2 := ⟨zw_in_p [378, 64, 379] (by decide +kernel) (by decide +kernel), ⟨by decide +kernel, by decide +kernel, by decide +kernel⟩, by decide⟩
abbrev iX3_isWay : zw_I := (yX3_isWay, cX3_isWay, 1, some .boolean)
theorem vX3_isWay : zw_yV iX3_isWay 0 := ⟨zw_in_p [673, 674, 64, 675] (by decide +kernel) (by decide +kernel), ⟨by decide +kernel, by decide +kernel, by decide +kernel⟩, by decide⟩
abbrev iX3_wayFault : zw_I := (yX3_wayFault, cX3_wayFault, 2, some .int)
theorem vX3_wayFault : zw_yV iX3_wayFault 0 := ⟨zw_in_p [415, 416, 64, 417] (by decide +kernel) (by decide +kernel), ⟨by decide +kernel, by decide +kernel, by decide +kernel⟩, by decide⟩
abbrev iX3_wayAt : zw_I := (yX3_wayAt, cX3_wayAt, 2, some .int)
theorem vX3_wayAt : zw_yV iX3_wayAt 1 := ⟨zw_in_p [419, 420, 64, 421] (by decide +kernel) (by decide +kernel), ⟨by decide +kernel, by decide +kernel, by decide +kernel⟩, by decide⟩
abbrev iX4_init : zw_I := (yX4_init, cX4_init, 1, none)
abbrev iX4_rows : zw_I := (yX4_rows, cX4_rows, 1, some .int)
theorem vX4_rows : zw_yV iX4_rows 0 := ⟨zw_in_p [433, 434, 65, 435] (by decide +kernel) (by decide +kernel), ⟨by decide +kernel, by decide +kernel, by decide +kernel⟩, by decide⟩
abbrev iX4_columns : zw_I := (yX4_columns, cX4_columns, 1, some .int)
theorem vX4_columns : zw_yV iX4_columns 0 := ⟨zw_in_p [437, 438, 65, 439] (by decide +kernel) (by decide +kernel), ⟨by decide +kernel, by decide +kernel, by decide +kernel⟩, by decide⟩
abbrev iX4_isWhole : zw_I := (yX4_isWhole, cX4_isWhole, 2, some .boolean)
theorem vX4_isWhole : zw_yV iX4_isWhole 1 := ⟨zw_in_p [428, 429, 65, 430] (by decide +kernel) (by decide +kernel), ⟨by decide +kernel, by decide +kernel, by decide +kernel⟩, by decide⟩
abbrev iX4_faultIn : zw_I := (yX4_faultIn, cX4_faultIn, 3, some .int)
theorem vX4_faultIn : zw_yV iX4_faultIn 1 := ⟨zw_in_p [398, 399, 65, 400] (by decide +kernel) (by decide +kernel), ⟨by decide +kernel, by decide +kernel, by decide +kernel⟩, by decide⟩
abbrev iX4_takes : zw_I := (yX4_takes, cX4_takes, 4, some .boolean)
theorem vX4_takes : zw_yV iX4_takes 1 := ⟨zw_in_p [408, 0, 65, 409] (by decide +kernel) (by decide +kernel), ⟨by decide +kernel, by decide +kernel, by decide +kernel⟩, by decide⟩
abbrev iX4_endsRow : zw_I := (yX4_endsRow, cX4_endsRow, 2, some .boolean)
theorem vX4_endsRow : zw_yV iX4_endsRow 0 := ⟨zw_in_p [412, 1, 65, 413] (by decide +kernel) (by decide +kernel), ⟨by decide +kernel, by decide +kernel, by decide +kernel⟩, by decide⟩
abbrev iX5_init : zw_I := (yX5_init, cX5_init, 4, none)
abbrev iX5_start : zw_I := (yX5_start, cX5_start, 1, some .int)
theorem vX5_start : zw_yV iX5_start 0 := ⟨zw_in_p [715, 716, 69, 717] (by decide +kernel) (by decide +kernel), ⟨by decide +kernel, by decide +kernel, by decide +kernel⟩, by decide⟩
abbrev iX5_wetDoors : zw_I := (yX5_wetDoors, cX5_wetDoors, 1, some .int)
theorem vX5_wetDoors : zw_yV iX5_wetDoors 0 := ⟨zw_in_p [719, 720, 69, 721] (by decide +kernel) (by decide +kernel), ⟨by decide +kernel, by decide +kernel, by decide +kernel⟩, by decide⟩
abbrev iX5_firstGoesFrom : zw_I := (yX5_firstGoesFrom, cX5_firstGoesFrom, 4, some .boolean)
theorem vX5_firstGoesFrom : zw_yV iX5_firstGoesFrom 1 := ⟨zw_in_p [678, 679, 69, 680] (by decide +kernel) (by decide +kernel), ⟨by decide +kernel, by decide +kernel, by decide +kernel⟩, by decide⟩
abbrev iX5_secondGoesFrom : zw_I := (yX5_secondGoesFrom, cX5_secondGoesFrom, 4, some .boolean)
theorem vX5_secondGoesFrom : zw_yV iX5_secondGoesFrom 1 := ⟨zw_in_p [697, 5, 69, 698] (by decide +kernel) (by decide +kernel), ⟨by decide +kernel, by decide +kernel, by decide +kernel⟩, by decide⟩
abbrev iX5_turnedRound : zw_I := (yX5_turnedRound, cX5_turnedRound, 1, some .int)
theorem sX5_turnedRound : zw_yS iX5_turnedRound 1 := ⟨zw_in_p [700, 69, 701] (by decide +kernel) (by decide +kernel), ⟨by decide +kernel, by decide +kernel, by decide +kernel⟩, by decide⟩
abbrev iX5_search : zw_I := (yX5_search, cX5_search, 4, none)
theorem vX5_search : zw_yV iX5_search 1 := ⟨zw_in_p [687, 688, 69, 689] (by decide +kernel) (by decide +kernel), ⟨by decide +kernel, by decide +kernel, by decide +kernel⟩, by decide⟩
abbrev iX5_wetDoorsWithBoth : zw_I := (yX5_wetDoorsWithBoth, cX5_wetDoorsWithBoth, 8, some .int)
theorem vX5_wetDoorsWithBoth : zw_yV iX5_wetDoorsWithBoth 1 := ⟨zw_in_p [704, 6, 69, 705] (by decide +kernel) (by decide +kernel), ⟨by decide +kernel, by decide +kernel, by decide +kernel⟩, by decide⟩
abbrev iX6_init : zw_I := (yX6_init, cX6_init, 3, none)
abbrev iX6_placeOf : zw_I := (yX6_placeOf, cX6_placeOf, 2, some .int)
theorem vX6_placeOf : zw_yV iX6_placeOf 1 := ⟨zw_in_p [893, 894, 73, 895] (by decide +kernel) (by decide +kernel), ⟨by decide +kernel, by decide +kernel, by decide +kernel⟩, by decide⟩
abbrev iX6_seed : zw_I := (yX6_seed, cX6_seed, 1, some .int)
theorem vX6_seed : zw_yV iX6_seed 0 := ⟨zw_in_p [889, 890, 73, 891] (by decide +kernel) (by decide +kernel), ⟨by decide +kernel, by decide +kernel, by decide +kernel⟩, by decide⟩
abbrev iX6_standAsIn : zw_I := (yX6_standAsIn, cX6_standAsIn, 3, none)
theorem vX6_standAsIn : zw_yV iX6_standAsIn 1 := ⟨zw_in_p [835, 16, 73, 836] (by decide +kernel) (by decide +kernel), ⟨by decide +kernel, by decide +kernel, by decide +kernel⟩, by decide⟩
abbrev iX6_isSomeDoorWet : zw_I := (yX6_isSomeDoorWet, cX6_isSomeDoorWet, 4, some .boolean)
theorem vX6_isSomeDoorWet : zw_yV iX6_isSomeDoorWet 0 := ⟨zw_in_p [840, 17, 73, 841] (by decide +kernel) (by decide +kernel), ⟨by decide +kernel, by decide +kernel, by decide +kernel⟩, by decide⟩
abbrev iX6_dryMinuteOfStorm : zw_I := (yX6_dryMinuteOfStorm, cX6_dryMinuteOfStorm, 3, some .int)
theorem vX6_dryMinuteOfStorm : zw_yV iX6_dryMinuteOfStorm 1 := ⟨zw_in_p [830, 831, 73, 832] (by decide +kernel) (by decide +kernel), ⟨by decide +kernel, by decide +kernel, by decide +kernel⟩, by decide⟩
abbrev iX6_peopleGoToMiddle : zw_I := (yX6_peopleGoToMiddle, cX6_peopleGoToMiddle, 2, none)
theorem vX6_peopleGoToMiddle : zw_yV iX6_peopleGoToMiddle 0 := ⟨zw_in_p [848, 18, 73, 849] (by decide +kernel) (by decide +kernel), ⟨by decide +kernel, by decide +kernel, by decide +kernel⟩, by decide⟩
abbrev iX6_stray : zw_I := (yX6_stray, cX6_stray, 6, some .int)
theorem vX6_stray : zw_yV iX6_stray 3 := ⟨zw_in_p [871, 872, 73, 873] (by decide +kernel) (by decide +kernel), ⟨by decide +kernel, by decide +kernel, by decide +kernel⟩, by decide⟩
abbrev iX6_cowsGoAstray : zw_I := (yX6_cowsGoAstray, cX6_cowsGoAstray, 3, none)
theorem vX6_cowsGoAstray : zw_yV iX6_cowsGoAstray 0 := ⟨zw_in_p [876, 19, 73, 877] (by decide +kernel) (by decide +kernel), ⟨by decide +kernel, by decide +kernel, by decide +kernel⟩, by decide⟩
abbrev iX6_drawOfACow : zw_I := (yX6_drawOfACow, cX6_drawOfACow, 1, some .int)
theorem vX6_drawOfACow : zw_yV iX6_drawOfACow 0 := ⟨zw_in_p [880, 20, 73, 881] (by decide +kernel) (by decide +kernel), ⟨by decide +kernel, by decide +kernel, by decide +kernel⟩, by decide⟩
abbrev iX7_init : zw_I := (yX7_init, cX7_init, 4, none)
abbrev iX7_found : zw_I := (yX7_found, cX7_found, 2, some .int)
theorem vX7_found : zw_yV iX7_found 1 := ⟨zw_in_p [775, 776, 71, 777] (by decide +kernel) (by decide +kernel), ⟨by decide +kernel, by decide +kernel, by decide +kernel⟩, by decide⟩
abbrev iX7_search : zw_I := (yX7_search, cX7_search, 2, none)
theorem vX7_search : zw_yV iX7_search 0 := ⟨zw_in_p [727, 728, 71, 729] (by decide +kernel) (by decide +kernel), ⟨by decide +kernel, by decide +kernel, by decide +kernel⟩, by decide⟩
abbrev iX7_movesKeepDry : zw_I := (yX7_movesKeepDry, cX7_movesKeepDry, 7, some .boolean)
theorem vX7_movesKeepDry : zw_yV iX7_movesKeepDry 5 := ⟨zw_in_p [747, 8, 71, 748] (by decide +kernel) (by decide +kernel), ⟨by decide +kernel, by decide +kernel, by decide +kernel⟩, by decide⟩
abbrev iX7_moveOfKeepsDry : zw_I := (yX7_moveOfKeepsDry, cX7_moveOfKeepsDry, 11, some .boolean)
theorem vX7_moveOfKeepsDry : zw_yV iX7_moveOfKeepsDry 5 := ⟨zw_in_p [764, 11, 71, 765] (by decide +kernel) (by decide +kernel), ⟨by decide +kernel, by decide +kernel, by decide +kernel⟩, by decide⟩
abbrev iX7_keepMove : zw_I := (yX7_keepMove, cX7_keepMove, 5, none)
theorem vX7_keepMove : zw_yV iX7_keepMove 3 := ⟨zw_in_p [772, 12, 71, 773] (by decide +kernel) (by decide +kernel), ⟨by decide +kernel, by decide +kernel, by decide +kernel⟩, by decide⟩
abbrev iX7_wetYear : zw_I := (yX7_wetYear, cX7_wetYear, 4, some .int)
theorem vX7_wetYear : zw_yV iX7_wetYear 0 := ⟨zw_in_p [863, 864, 71, 865] (by decide +kernel) (by decide +kernel), ⟨by decide +kernel, by decide +kernel, by decide +kernel⟩, by decide⟩
abbrev iX7_measureRooms : zw_I := (yX7_measureRooms, cX7_measureRooms, 3, none)
theorem vX7_measureRooms : zw_yV iX7_measureRooms 0 := ⟨zw_in_p [733, 7, 71, 734] (by decide +kernel) (by decide +kernel), ⟨by decide +kernel, by decide +kernel, by decide +kernel⟩, by decide⟩
abbrev iX7_isDryWith : zw_I := (yX7_isDryWith, cX7_isDryWith, 4, some .boolean)
theorem vX7_isDryWith : zw_yV iX7_isDryWith 2 := ⟨zw_in_p [751, 9, 71, 752] (by decide +kernel) (by decide +kernel), ⟨by decide +kernel, by decide +kernel, by decide +kernel⟩, by decide⟩
abbrev iX7_isWetWith : zw_I := (yX7_isWetWith, cX7_isWetWith, 4, some .boolean)
theorem vX7_isWetWith : zw_yV iX7_isWetWith 3 := ⟨zw_in_p [755, 10, 71, 756] (by decide +kernel) (by decide +kernel), ⟨by decide +kernel, by decide +kernel, by decide +kernel⟩, by decide⟩
abbrev iX8_init : zw_I := (yX8_init, cX8_init, 1, none)
abbrev iX8_clear : zw_I := (yX8_clear, cX8_clear, 1, none)
theorem vX8_clear : zw_yV iX8_clear 0 := ⟨zw_in_p [454, 455, 67, 456] (by decide +kernel) (by decide +kernel), ⟨by decide +kernel, by decide +kernel, by decide +kernel⟩, by decide⟩
abbrev iX8_size : zw_I := (yX8_size, cX8_size, 1, some .int)
theorem vX8_size : zw_yV iX8_size 0 := ⟨zw_in_p [570, 571, 67, 572] (by decide +kernel) (by decide +kernel), ⟨by decide +kernel, by decide +kernel, by decide +kernel⟩, by decide⟩
abbrev iX8_has : zw_I := (yX8_has, cX8_has, 2, some .boolean)
theorem vX8_has : zw_yV iX8_has 1 := ⟨zw_in_p [507, 508, 67, 509] (by decide +kernel) (by decide +kernel), ⟨by decide +kernel, by decide +kernel, by decide +kernel⟩, by decide⟩
abbrev iX8_add : zw_I := (yX8_add, cX8_add, 5, some .int)
theorem vX8_add : zw_yV iX8_add 3 := ⟨zw_in_p [495, 496, 67, 497] (by decide +kernel) (by decide +kernel), ⟨by decide +kernel, by decide +kernel, by decide +kernel⟩, by decide⟩
abbrev iX8_kind : zw_I := (yX8_kind, cX8_kind, 2, some .int)
theorem vX8_kind : zw_yV iX8_kind 1 := ⟨zw_in_p [526, 527, 67, 528] (by decide +kernel) (by decide +kernel), ⟨by decide +kernel, by decide +kernel, by decide +kernel⟩, by decide⟩
abbrev iX8_weight : zw_I := (yX8_weight, cX8_weight, 2, some .int)
theorem vX8_weight : zw_yV iX8_weight 1 := ⟨zw_in_p [530, 531, 67, 532] (by decide +kernel) (by decide +kernel), ⟨by decide +kernel, by decide +kernel, by decide +kernel⟩, by decide⟩
abbrev iX8_weighs : zw_I := (yX8_weighs, cX8_weighs, 2, some .int)
theorem vX8_weighs : zw_yV iX8_weighs 1 := ⟨zw_in_p [534, 535, 67, 536] (by decide +kernel) (by decide +kernel), ⟨by decide +kernel, by decide +kernel, by decide +kernel⟩, by decide⟩
abbrev iX8_isA : zw_I := (yX8_isA, cX8_isA, 4, some .boolean)
theorem vX8_isA : zw_yV iX8_isA 2 := ⟨zw_in_p [542, 543, 67, 544] (by decide +kernel) (by decide +kernel), ⟨by decide +kernel, by decide +kernel, by decide +kernel⟩, by decide⟩
abbrev iX8_people : zw_I := (yX8_people, cX8_people, 1, some .int)
theorem vX8_people : zw_yV iX8_people 0 := ⟨zw_in_p [613, 614, 67, 615] (by decide +kernel) (by decide +kernel), ⟨by decide +kernel, by decide +kernel, by decide +kernel⟩, by decide⟩
abbrev iX8_peopleBits : zw_I := (yX8_peopleBits, cX8_peopleBits, 3, some .int)
theorem vX8_peopleBits : zw_yV iX8_peopleBits 0 := ⟨zw_in_p [617, 618, 67, 619] (by decide +kernel) (by decide +kernel), ⟨by decide +kernel, by decide +kernel, by decide +kernel⟩, by decide⟩
abbrev iX8_place : zw_I := (yX8_place, cX8_place, 3, some .int)
theorem vX8_place : zw_yV iX8_place 2 := ⟨zw_in_p [522, 523, 67, 524] (by decide +kernel) (by decide +kernel), ⟨by decide +kernel, by decide +kernel, by decide +kernel⟩, by decide⟩
abbrev iX8_move : zw_I := (yX8_move, cX8_move, 4, none)
theorem vX8_move : zw_yV iX8_move 3 := ⟨zw_in_p [503, 504, 67, 505] (by decide +kernel) (by decide +kernel), ⟨by decide +kernel, by decide +kernel, by decide +kernel⟩, by decide⟩
abbrev iX8_moveAllDay : zw_I := (yX8_moveAllDay, cX8_moveAllDay, 4, none)
theorem vX8_moveAllDay : zw_yV iX8_moveAllDay 2 := ⟨zw_in_p [499, 500, 67, 501] (by decide +kernel) (by decide +kernel), ⟨by decide +kernel, by decide +kernel, by decide +kernel⟩, by decide⟩
abbrev iX8_keep : zw_I := (yX8_keep, cX8_keep, 1, none)
theorem vX8_keep : zw_yV iX8_keep 0 := ⟨zw_in_p [902, 903, 67, 904] (by decide +kernel) (by decide +kernel), ⟨by decide +kernel, by decide +kernel, by decide +kernel⟩, by decide⟩
abbrev iX8_isKept : zw_I := (yX8_isKept, cX8_isKept, 1, some .boolean)
theorem vX8_isKept : zw_yV iX8_isKept 0 := ⟨zw_in_p [912, 913, 67, 914] (by decide +kernel) (by decide +kernel), ⟨by decide +kernel, by decide +kernel, by decide +kernel⟩, by decide⟩
abbrev iX8_goBack : zw_I := (yX8_goBack, cX8_goBack, 1, none)
theorem vX8_goBack : zw_yV iX8_goBack 0 := ⟨zw_in_p [916, 917, 67, 918] (by decide +kernel) (by decide +kernel), ⟨by decide +kernel, by decide +kernel, by decide +kernel⟩, by decide⟩
abbrev iX9_init : zw_I := (yX9_init, cX9_init, 4, none)
abbrev iX9_wetDoors : zw_I := (yX9_wetDoors, cX9_wetDoors, 1, some .int)
theorem vX9_wetDoors : zw_yV iX9_wetDoors 0 := ⟨zw_in_p [657, 658, 70, 659] (by decide +kernel) (by decide +kernel), ⟨by decide +kernel, by decide +kernel, by decide +kernel⟩, by decide⟩
abbrev iX9_elsewhere : zw_I := (yX9_elsewhere, cX9_elsewhere, 1, some .int)
theorem vX9_elsewhere : zw_yV iX9_elsewhere 0 := ⟨zw_in_p [661, 662, 70, 663] (by decide +kernel) (by decide +kernel), ⟨by decide +kernel, by decide +kernel, by decide +kernel⟩, by decide⟩
abbrev iX9_placeOf : zw_I := (yX9_placeOf, cX9_placeOf, 3, some .int)
theorem vX9_placeOf : zw_yV iX9_placeOf 1 := ⟨zw_in_p [665, 666, 70, 667] (by decide +kernel) (by decide +kernel), ⟨by decide +kernel, by decide +kernel, by decide +kernel⟩, by decide⟩
abbrev iX9_search : zw_I := (yX9_search, cX9_search, 5, none)
theorem vX9_search : zw_yV iX9_search 1 := ⟨zw_in_p [628, 629, 70, 630] (by decide +kernel) (by decide +kernel), ⟨by decide +kernel, by decide +kernel, by decide +kernel⟩, by decide⟩
abbrev iX9_takeSquares : zw_I := (yX9_takeSquares, cX9_takeSquares, 10, none)
theorem vX9_takeSquares : zw_yV iX9_takeSquares 5 := ⟨zw_in_p [641, 3, 70, 642] (by decide +kernel) (by decide +kernel), ⟨by decide +kernel, by decide +kernel, by decide +kernel⟩, by decide⟩
abbrev iX9_judge : zw_I := (yX9_judge, cX9_judge, 6, none)
theorem vX9_judge : zw_yV iX9_judge 3 := ⟨zw_in_p [645, 4, 70, 646] (by decide +kernel) (by decide +kernel), ⟨by decide +kernel, by decide +kernel, by decide +kernel⟩, by decide⟩
abbrev iX10_init : zw_I := (yX10_init, cX10_init, 1, none)
abbrev iX10_letters : zw_I := (yX10_letters, cX10_letters, 3, some .int)
theorem vX10_letters : zw_yV iX10_letters 1 := ⟨zw_in_p [367, 368, 63, 369] (by decide +kernel) (by decide +kernel), ⟨by decide +kernel, by decide +kernel, by decide +kernel⟩, by decide⟩
abbrev iX10_blank : zw_I := (yX10_blank, cX10_blank, 2, some .int)
theorem vX10_blank : zw_yV iX10_blank 0 := ⟨zw_in_p [382, 383, 63, 384] (by decide +kernel) (by decide +kernel), ⟨by decide +kernel, by decide +kernel, by decide +kernel⟩, by decide⟩
abbrev iX10_fault : zw_I := (yX10_fault, cX10_fault, 2, some .int)
theorem vX10_fault : zw_yV iX10_fault 1 := ⟨zw_in_p [394, 395, 63, 396] (by decide +kernel) (by decide +kernel), ⟨by decide +kernel, by decide +kernel, by decide +kernel⟩, by decide⟩
abbrev iX10_plan : zw_I := (yX10_plan, cX10_plan, 1, some .int)
theorem vX10_plan : zw_yV iX10_plan 0 := ⟨zw_in_p [424, 425, 63, 426] (by decide +kernel) (by decide +kernel), ⟨by decide +kernel, by decide +kernel, by decide +kernel⟩, by decide⟩
abbrev iX10_square : zw_I := (yX10_square, cX10_square, 3, some .int)
theorem vX10_square : zw_yV iX10_square 2 := ⟨zw_in_p [462, 463, 63, 464] (by decide +kernel) (by decide +kernel), ⟨by decide +kernel, by decide +kernel, by decide +kernel⟩, by decide⟩
abbrev iX10_thing : zw_I := (yX10_thing, cX10_thing, 4, some .int)
theorem vX10_thing : zw_yV iX10_thing 3 := ⟨zw_in_p [485, 486, 63, 487] (by decide +kernel) (by decide +kernel), ⟨by decide +kernel, by decide +kernel, by decide +kernel⟩, by decide⟩
abbrev iX10_about : zw_I := (yX10_about, cX10_about, 3, some .int)
theorem vX10_about : zw_yV iX10_about 2 := ⟨zw_in_p [514, 515, 63, 516] (by decide +kernel) (by decide +kernel), ⟨by decide +kernel, by decide +kernel, by decide +kernel⟩, by decide⟩
abbrev iX10_as : zw_I := (yX10_as, cX10_as, 3, some .int)
theorem vX10_as : zw_yV iX10_as 2 := ⟨zw_in_p [538, 539, 63, 540] (by decide +kernel) (by decide +kernel), ⟨by decide +kernel, by decide +kernel, by decide +kernel⟩, by decide⟩
abbrev iX10_stand : zw_I := (yX10_stand, cX10_stand, 5, some .int)
theorem vX10_stand : zw_yV iX10_stand 3 := ⟨zw_in_p [547, 548, 63, 549] (by decide +kernel) (by decide +kernel), ⟨by decide +kernel, by decide +kernel, by decide +kernel⟩, by decide⟩
abbrev iX10_put : zw_I := (yX10_put, cX10_put, 4, some .int)
theorem vX10_put : zw_yV iX10_put 2 := ⟨zw_in_p [553, 554, 63, 555] (by decide +kernel) (by decide +kernel), ⟨by decide +kernel, by decide +kernel, by decide +kernel⟩, by decide⟩
abbrev iX10_trade : zw_I := (yX10_trade, cX10_trade, 6, some .int)
theorem vX10_trade : zw_yV iX10_trade 3 := ⟨zw_in_p [558, 559, 63, 560] (by decide +kernel) (by decide +kernel), ⟨by decide +kernel, by decide +kernel, by decide +kernel⟩, by decide⟩
abbrev iX10_leans : zw_I := (yX10_leans, cX10_leans, 3, some .int)
theorem vX10_leans : zw_yV iX10_leans 2 := ⟨zw_in_p [562, 563, 63, 564] (by decide +kernel) (by decide +kernel), ⟨by decide +kernel, by decide +kernel, by decide +kernel⟩, by decide⟩
abbrev iX10_dip : zw_I := (yX10_dip, cX10_dip, 3, some .int)
theorem vX10_dip : zw_yV iX10_dip 2 := ⟨zw_in_p [582, 583, 63, 584] (by decide +kernel) (by decide +kernel), ⟨by decide +kernel, by decide +kernel, by decide +kernel⟩, by decide⟩
abbrev iX10_wet : zw_I := (yX10_wet, cX10_wet, 2, some .int)
theorem vX10_wet : zw_yV iX10_wet 1 := ⟨zw_in_p [591, 592, 63, 593] (by decide +kernel) (by decide +kernel), ⟨by decide +kernel, by decide +kernel, by decide +kernel⟩, by decide⟩
abbrev iX10_trades : zw_I := (yX10_trades, cX10_trades, 3, some .int)
theorem vX10_trades : zw_yV iX10_trades 2 := ⟨zw_in_p [605, 606, 63, 607] (by decide +kernel) (by decide +kernel), ⟨by decide +kernel, by decide +kernel, by decide +kernel⟩, by decide⟩
abbrev iX10_counter : zw_I := (yX10_counter, cX10_counter, 4, some .int)
theorem vX10_counter : zw_yV iX10_counter 3 := ⟨zw_in_p [669, 670, 63, 671] (by decide +kernel) (by decide +kernel), ⟨by decide +kernel, by decide +kernel, by decide +kernel⟩, by decide⟩
abbrev iX10_stones : zw_I := (yX10_stones, cX10_stones, 2, some .int)
theorem vX10_stones : zw_yV iX10_stones 1 := ⟨zw_in_p [723, 724, 63, 725] (by decide +kernel) (by decide +kernel), ⟨by decide +kernel, by decide +kernel, by decide +kernel⟩, by decide⟩
abbrev iX10_site : zw_I := (yX10_site, cX10_site, 2, some .int)
theorem vX10_site : zw_yV iX10_site 1 := ⟨zw_in_p [779, 780, 63, 781] (by decide +kernel) (by decide +kernel), ⟨by decide +kernel, by decide +kernel, by decide +kernel⟩, by decide⟩
abbrev iX10_late : zw_I := (yX10_late, cX10_late, 4, some .int)
theorem vX10_late : zw_yV iX10_late 3 := ⟨zw_in_p [794, 795, 63, 796] (by decide +kernel) (by decide +kernel), ⟨by decide +kernel, by decide +kernel, by decide +kernel⟩, by decide⟩
abbrev iX10_storm : zw_I := (yX10_storm, cX10_storm, 2, some .int)
theorem vX10_storm : zw_yV iX10_storm 1 := ⟨zw_in_p [826, 827, 63, 828] (by decide +kernel) (by decide +kernel), ⟨by decide +kernel, by decide +kernel, by decide +kernel⟩, by decide⟩
abbrev iX10_moss : zw_I := (yX10_moss, cX10_moss, 1, some .int)
theorem vX10_moss : zw_yV iX10_moss 0 := ⟨zw_in_p [859, 860, 63, 861] (by decide +kernel) (by decide +kernel), ⟨by decide +kernel, by decide +kernel, by decide +kernel⟩, by decide⟩
abbrev iX10_cows : zw_I := (yX10_cows, cX10_cows, 6, some .int)
theorem vX10_cows : zw_yV iX10_cows 4 := ⟨zw_in_p [867, 868, 63, 869] (by decide +kernel) (by decide +kernel), ⟨by decide +kernel, by decide +kernel, by decide +kernel⟩, by decide⟩
abbrev iX10_image : zw_I := (yX10_image, cX10_image, 1, some .int)
theorem vX10_image : zw_yV iX10_image 0 := ⟨zw_in_p [898, 899, 63, 900] (by decide +kernel) (by decide +kernel), ⟨by decide +kernel, by decide +kernel, by decide +kernel⟩, by decide⟩
abbrev iX10_restore : zw_I := (yX10_restore, cX10_restore, 1, some .int)
theorem vX10_restore : zw_yV iX10_restore 0 := ⟨zw_in_p [908, 909, 63, 910] (by decide +kernel) (by decide +kernel), ⟨by decide +kernel, by decide +kernel, by decide +kernel⟩, by decide⟩
abbrev iX10_count : zw_I := (yX10_count, cX10_count, 2, some .int)
theorem vX10_count : zw_yV iX10_count 1 := ⟨zw_in_p [920, 921, 63, 922] (by decide +kernel) (by decide +kernel), ⟨by decide +kernel, by decide +kernel, by decide +kernel⟩, by decide⟩
abbrev iX10_digest : zw_I := (yX10_digest, cX10_digest, 4, some .long)
theorem vX10_digest : zw_yV iX10_digest 0 := ⟨zw_in_p [928, 929, 63, 930] (by decide +kernel) (by decide +kernel), ⟨by decide +kernel, by decide +kernel, by decide +kernel⟩, by decide⟩
abbrev iX10_digested : zw_I := (yX10_digested, cX10_digested, 3, some .long)
theorem sX10_digested : zw_yS iX10_digested 2 := ⟨zw_in_p [933, 63, 934] (by decide +kernel) (by decide +kernel), ⟨by decide +kernel, by decide +kernel, by decide +kernel⟩, by decide⟩
abbrev iX10_digestedThing : zw_I := (yX10_digestedThing, cX10_digestedThing, 7, some .long)
theorem vX10_digestedThing : zw_yV iX10_digestedThing 2 := ⟨zw_in_p [938, 21, 63, 939] (by decide +kernel) (by decide +kernel), ⟨by decide +kernel, by decide +kernel, by decide +kernel⟩, by decide⟩
abbrev iX10_digestedFindings : zw_I := (yX10_digestedFindings, cX10_digestedFindings, 6, some .long)
theorem vX10_digestedFindings : zw_yV iX10_digestedFindings 1 := ⟨zw_in_p [942, 22, 63, 943] (by decide +kernel) (by decide +kernel), ⟨by decide +kernel, by decide +kernel, by decide +kernel⟩, by decide⟩
abbrev iX10_isQuarter : zw_I := (yX10_isQuarter, cX10_isQuarter, 1, some .boolean)
theorem sX10_isQuarter : zw_yS iX10_isQuarter 1 := ⟨zw_in_p [511, 63, 512] (by decide +kernel) (by decide +kernel), ⟨by decide +kernel, by decide +kernel, by decide +kernel⟩, by decide⟩
abbrev iX10_isKind : zw_I := (yX10_isKind, cX10_isKind, 1, some .boolean)
theorem sX10_isKind : zw_yS iX10_isKind 1 := ⟨zw_in_p [489, 63, 490] (by decide +kernel) (by decide +kernel), ⟨by decide +kernel, by decide +kernel, by decide +kernel⟩, by decide⟩
abbrev iX10_isWeight : zw_I := (yX10_isWeight, cX10_isWeight, 1, some .boolean)
theorem sX10_isWeight : zw_yS iX10_isWeight 1 := ⟨zw_in_p [492, 63, 493] (by decide +kernel) (by decide +kernel), ⟨by decide +kernel, by decide +kernel, by decide +kernel⟩, by decide⟩
abbrev iX10_asksPlace : zw_I := (yX10_asksPlace, cX10_asksPlace, 1, some .boolean)
theorem sX10_asksPlace : zw_yS iX10_asksPlace 1 := ⟨zw_in_p [519, 63, 520] (by decide +kernel) (by decide +kernel), ⟨by decide +kernel, by decide +kernel, by decide +kernel⟩, by decide⟩
abbrev iX11_init : zw_I := (yX11_init, cX11_init, 1, none)
abbrev iX11_within : zw_I := (yX11_within, cX11_within, 3, some .boolean)
theorem sX11_within : zw_yS iX11_within 3 := ⟨zw_in_p [1088, 74, 1089] (by decide +kernel) (by decide +kernel), ⟨by decide +kernel, by decide +kernel, by decide +kernel⟩, by decide⟩
abbrev iX11_has : zw_I := (yX11_has, cX11_has, 2, some .boolean)
theorem sX11_has : zw_yS iX11_has 2 := ⟨zw_in_p [1276, 74, 1277] (by decide +kernel) (by decide +kernel), ⟨by decide +kernel, by decide +kernel, by decide +kernel⟩, by decide⟩
abbrev iX11_letters : zw_I := (yX11_letters, cX11_letters, 7, some .int)
theorem vX11_letters : zw_yV iX11_letters 1 := ⟨zw_in_p [1075, 1076, 74, 1077] (by decide +kernel) (by decide +kernel), ⟨by decide +kernel, by decide +kernel, by decide +kernel⟩, by decide⟩
abbrev iX11_blank : zw_I := (yX11_blank, cX11_blank, 2, some .int)
theorem vX11_blank : zw_yV iX11_blank 0 := ⟨zw_in_p [1080, 1081, 74, 1082] (by decide +kernel) (by decide +kernel), ⟨by decide +kernel, by decide +kernel, by decide +kernel⟩, by decide⟩
abbrev iX11_readPlan : zw_I := (yX11_readPlan, cX11_readPlan, 9, none)
theorem vX11_readPlan : zw_yV iX11_readPlan 0 := ⟨zw_in_p [1092, 23, 74, 1093] (by decide +kernel) (by decide +kernel), ⟨by decide +kernel, by decide +kernel, by decide +kernel⟩, by decide⟩
abbrev iX11_wayBy : zw_I := (yX11_wayBy, cX11_wayBy, 1, some .int)
theorem sX11_wayBy : zw_yS iX11_wayBy 1 := ⟨zw_in_p [1099, 74, 1100] (by decide +kernel) (by decide +kernel), ⟨by decide +kernel, by decide +kernel, by decide +kernel⟩, by decide⟩
abbrev iX11_readWay : zw_I := (yX11_readWay, cX11_readWay, 2, none)
theorem vX11_readWay : zw_yV iX11_readWay 0 := ⟨zw_in_p [1096, 24, 74, 1097] (by decide +kernel) (by decide +kernel), ⟨by decide +kernel, by decide +kernel, by decide +kernel⟩, by decide⟩
abbrev iX11_fault : zw_I := (yX11_fault, cX11_fault, 2, some .int)
theorem vX11_fault : zw_yV iX11_fault 1 := ⟨zw_in_p [1084, 1085, 74, 1086] (by decide +kernel) (by decide +kernel), ⟨by decide +kernel, by decide +kernel, by decide +kernel⟩, by decide⟩
abbrev iX11_plan : zw_I := (yX11_plan, cX11_plan, 2, some .int)
theorem vX11_plan : zw_yV iX11_plan 0 := ⟨zw_in_p [1102, 1103, 74, 1104] (by decide +kernel) (by decide +kernel), ⟨by decide +kernel, by decide +kernel, by decide +kernel⟩, by decide⟩
abbrev iX11_isSquare : zw_I := (yX11_isSquare, cX11_isSquare, 2, some .boolean)
theorem vX11_isSquare : zw_yV iX11_isSquare 1 := ⟨zw_in_p [1111, 25, 74, 1112] (by decide +kernel) (by decide +kernel), ⟨by decide +kernel, by decide +kernel, by decide +kernel⟩, by decide⟩
abbrev iX11_eastOf : zw_I := (yX11_eastOf, cX11_eastOf, 2, some .int)
theorem vX11_eastOf : zw_yV iX11_eastOf 1 := ⟨zw_in_p [1117, 26, 74, 1118] (by decide +kernel) (by decide +kernel), ⟨by decide +kernel, by decide +kernel, by decide +kernel⟩, by decide⟩
abbrev iX11_southOf : zw_I := (yX11_southOf, cX11_southOf, 2, some .int)
theorem vX11_southOf : zw_yV iX11_southOf 1 := ⟨zw_in_p [1121, 27, 74, 1122] (by decide +kernel) (by decide +kernel), ⟨by decide +kernel, by decide +kernel, by decide +kernel⟩, by decide⟩
abbrev iX11_square : zw_I := (yX11_square, cX11_square, 3, some .int)
theorem vX11_square : zw_yV iX11_square 2 := ⟨zw_in_p [1106, 1107, 74, 1108] (by decide +kernel) (by decide +kernel), ⟨by decide +kernel, by decide +kernel, by decide +kernel⟩, by decide⟩
abbrev iX11_isThing : zw_I := (yX11_isThing, cX11_isThing, 2, some .boolean)
theorem vX11_isThing : zw_yV iX11_isThing 1 := ⟨zw_in_p [1133, 28, 74, 1134] (by decide +kernel) (by decide +kernel), ⟨by decide +kernel, by decide +kernel, by decide +kernel⟩, by decide⟩
abbrev iX11_isQuarter : zw_I := (yX11_isQuarter, cX11_isQuarter, 1, some .boolean)
theorem sX11_isQuarter : zw_yS iX11_isQuarter 1 := ⟨zw_in_p [1148, 74, 1149] (by decide +kernel) (by decide +kernel), ⟨by decide +kernel, by decide +kernel, by decide +kernel⟩, by decide⟩
abbrev iX11_isPerson : zw_I := (yX11_isPerson, cX11_isPerson, 2, some .boolean)
theorem vX11_isPerson : zw_yV iX11_isPerson 1 := ⟨zw_in_p [1152, 30, 74, 1153] (by decide +kernel) (by decide +kernel), ⟨by decide +kernel, by decide +kernel, by decide +kernel⟩, by decide⟩
abbrev iX11_thing : zw_I := (yX11_thing, cX11_thing, 5, some .int)
theorem vX11_thing : zw_yV iX11_thing 3 := ⟨zw_in_p [1124, 1125, 74, 1126] (by decide +kernel) (by decide +kernel), ⟨by decide +kernel, by decide +kernel, by decide +kernel⟩, by decide⟩
abbrev iX11_weighs : zw_I := (yX11_weighs, cX11_weighs, 2, some .int)
theorem vX11_weighs : zw_yV iX11_weighs 1 := ⟨zw_in_p [1137, 29, 74, 1138] (by decide +kernel) (by decide +kernel), ⟨by decide +kernel, by decide +kernel, by decide +kernel⟩, by decide⟩
abbrev iX11_about : zw_I := (yX11_about, cX11_about, 3, some .int)
theorem vX11_about : zw_yV iX11_about 2 := ⟨zw_in_p [1128, 1129, 74, 1130] (by decide +kernel) (by decide +kernel), ⟨by decide +kernel, by decide +kernel, by decide +kernel⟩, by decide⟩
abbrev iX11_as : zw_I := (yX11_as, cX11_as, 4, some .int)
theorem vX11_as : zw_yV iX11_as 2 := ⟨zw_in_p [1140, 1141, 74, 1142] (by decide +kernel) (by decide +kernel), ⟨by decide +kernel, by decide +kernel, by decide +kernel⟩, by decide⟩
abbrev iX11_stand : zw_I := (yX11_stand, cX11_stand, 5, some .int)
theorem vX11_stand : zw_yV iX11_stand 3 := ⟨zw_in_p [1144, 1145, 74, 1146] (by decide +kernel) (by decide +kernel), ⟨by decide +kernel, by decide +kernel, by decide +kernel⟩, by decide⟩
abbrev iX11_putAt : zw_I := (yX11_putAt, cX11_putAt, 4, none)
theorem vX11_putAt : zw_yV iX11_putAt 2 := ⟨zw_in_p [1160, 31, 74, 1161] (by decide +kernel) (by decide +kernel), ⟨by decide +kernel, by decide +kernel, by decide +kernel⟩, by decide⟩
abbrev iX11_put : zw_I := (yX11_put, cX11_put, 4, some .int)
theorem vX11_put : zw_yV iX11_put 2 := ⟨zw_in_p [1155, 1156, 74, 1157] (by decide +kernel) (by decide +kernel), ⟨by decide +kernel, by decide +kernel, by decide +kernel⟩, by decide⟩
abbrev iX11_trade : zw_I := (yX11_trade, cX11_trade, 6, some .int)
theorem vX11_trade : zw_yV iX11_trade 3 := ⟨zw_in_p [1163, 1164, 74, 1165] (by decide +kernel) (by decide +kernel), ⟨by decide +kernel, by decide +kernel, by decide +kernel⟩, by decide⟩
abbrev iX11_leanOf : zw_I := (yX11_leanOf, cX11_leanOf, 7, some .int)
theorem vX11_leanOf : zw_yV iX11_leanOf 2 := ⟨zw_in_p [1172, 32, 74, 1173] (by decide +kernel) (by decide +kernel), ⟨by decide +kernel, by decide +kernel, by decide +kernel⟩, by decide⟩
abbrev iX11_leans : zw_I := (yX11_leans, cX11_leans, 3, some .int)
theorem vX11_leans : zw_yV iX11_leans 2 := ⟨zw_in_p [1167, 1168, 74, 1169] (by decide +kernel) (by decide +kernel), ⟨by decide +kernel, by decide +kernel, by decide +kernel⟩, by decide⟩
abbrev iX11_dip : zw_I := (yX11_dip, cX11_dip, 3, some .int)
theorem vX11_dip : zw_yV iX11_dip 2 := ⟨zw_in_p [1175, 1176, 74, 1177] (by decide +kernel) (by decide +kernel), ⟨by decide +kernel, by decide +kernel, by decide +kernel⟩, by decide⟩
abbrev iX11_wetIn : zw_I := (yX11_wetIn, cX11_wetIn, 7, some .int)
theorem vX11_wetIn : zw_yV iX11_wetIn 1 := ⟨zw_in_p [1185, 33, 74, 1186] (by decide +kernel) (by decide +kernel), ⟨by decide +kernel, by decide +kernel, by decide +kernel⟩, by decide⟩
abbrev iX11_size : zw_I := (yX11_size, cX11_size, 3, some .int)
theorem sX11_size : zw_yS iX11_size 1 := ⟨zw_in_p [1209, 74, 1210] (by decide +kernel) (by decide +kernel), ⟨by decide +kernel, by decide +kernel, by decide +kernel⟩, by decide⟩
abbrev iX11_wet : zw_I := (yX11_wet, cX11_wet, 2, some .int)
theorem vX11_wet : zw_yV iX11_wet 1 := ⟨zw_in_p [1180, 1181, 74, 1182] (by decide +kernel) (by decide +kernel), ⟨by decide +kernel, by decide +kernel, by decide +kernel⟩, by decide⟩
abbrev iX11_wetAll : zw_I := (yX11_wetAll, cX11_wetAll, 3, some .int)
theorem vX11_wetAll : zw_yV iX11_wetAll 0 := ⟨zw_in_p [1265, 48, 74, 1266] (by decide +kernel) (by decide +kernel), ⟨by decide +kernel, by decide +kernel, by decide +kernel⟩, by decide⟩
abbrev iX11_peopleMany : zw_I := (yX11_peopleMany, cX11_peopleMany, 3, some .int)
theorem vX11_peopleMany : zw_yV iX11_peopleMany 0 := ⟨zw_in_p [1193, 34, 74, 1194] (by decide +kernel) (by decide +kernel), ⟨by decide +kernel, by decide +kernel, by decide +kernel⟩, by decide⟩
abbrev iX11_layPeople : zw_I := (yX11_layPeople, cX11_layPeople, 4, none)
theorem vX11_layPeople : zw_yV iX11_layPeople 1 := ⟨zw_in_p [1201, 36, 74, 1202] (by decide +kernel) (by decide +kernel), ⟨by decide +kernel, by decide +kernel, by decide +kernel⟩, by decide⟩
abbrev iX11_exchange : zw_I := (yX11_exchange, cX11_exchange, 4, none)
theorem vX11_exchange : zw_yV iX11_exchange 2 := ⟨zw_in_p [1217, 39, 74, 1218] (by decide +kernel) (by decide +kernel), ⟨by decide +kernel, by decide +kernel, by decide +kernel⟩, by decide⟩
abbrev iX11_nextTakes : zw_I := (yX11_nextTakes, cX11_nextTakes, 5, some .boolean)
theorem vX11_nextTakes : zw_yV iX11_nextTakes 1 := ⟨zw_in_p [1213, 38, 74, 1214] (by decide +kernel) (by decide +kernel), ⟨by decide +kernel, by decide +kernel, by decide +kernel⟩, by decide⟩
abbrev iX11_tryTrade : zw_I := (yX11_tryTrade, cX11_tryTrade, 6, none)
theorem vX11_tryTrade : zw_yV iX11_tryTrade 2 := ⟨zw_in_p [1206, 37, 74, 1207] (by decide +kernel) (by decide +kernel), ⟨by decide +kernel, by decide +kernel, by decide +kernel⟩, by decide⟩
abbrev iX11_tradesNow : zw_I := (yX11_tradesNow, cX11_tradesNow, 7, some .int)
theorem vX11_tradesNow : zw_yV iX11_tradesNow 2 := ⟨zw_in_p [1197, 35, 74, 1198] (by decide +kernel) (by decide +kernel), ⟨by decide +kernel, by decide +kernel, by decide +kernel⟩, by decide⟩
abbrev iX11_trades : zw_I := (yX11_trades, cX11_trades, 3, some .int)
theorem vX11_trades : zw_yV iX11_trades 2 := ⟨zw_in_p [1188, 1189, 74, 1190] (by decide +kernel) (by decide +kernel), ⟨by decide +kernel, by decide +kernel, by decide +kernel⟩, by decide⟩
abbrev iX11_besideOf : zw_I := (yX11_besideOf, cX11_besideOf, 3, some .int)
theorem vX11_besideOf : zw_yV iX11_besideOf 2 := ⟨zw_in_p [1229, 41, 74, 1230] (by decide +kernel) (by decide +kernel), ⟨by decide +kernel, by decide +kernel, by decide +kernel⟩, by decide⟩
abbrev iX11_layWay : zw_I := (yX11_layWay, cX11_layWay, 6, some .boolean)
theorem vX11_layWay : zw_yV iX11_layWay 3 := ⟨zw_in_p [1225, 40, 74, 1226] (by decide +kernel) (by decide +kernel), ⟨by decide +kernel, by decide +kernel, by decide +kernel⟩, by decide⟩
abbrev iX11_wetWith : zw_I := (yX11_wetWith, cX11_wetWith, 4, some .int)
theorem vX11_wetWith : zw_yV iX11_wetWith 1 := ⟨zw_in_p [1233, 42, 74, 1234] (by decide +kernel) (by decide +kernel), ⟨by decide +kernel, by decide +kernel, by decide +kernel⟩, by decide⟩
abbrev iX11_counter : zw_I := (yX11_counter, cX11_counter, 8, some .int)
theorem vX11_counter : zw_yV iX11_counter 3 := ⟨zw_in_p [1220, 1221, 74, 1222] (by decide +kernel) (by decide +kernel), ⟨by decide +kernel, by decide +kernel, by decide +kernel⟩, by decide⟩
abbrev iX11_isDry : zw_I := (yX11_isDry, cX11_isDry, 3, some .boolean)
theorem vX11_isDry : zw_yV iX11_isDry 0 := ⟨zw_in_p [1245, 44, 74, 1246] (by decide +kernel) (by decide +kernel), ⟨by decide +kernel, by decide +kernel, by decide +kernel⟩, by decide⟩
abbrev iX11_helpsFrom : zw_I := (yX11_helpsFrom, cX11_helpsFrom, 6, some .boolean)
theorem vX11_helpsFrom : zw_yV iX11_helpsFrom 1 := ⟨zw_in_p [1249, 45, 74, 1250] (by decide +kernel) (by decide +kernel), ⟨by decide +kernel, by decide +kernel, by decide +kernel⟩, by decide⟩
abbrev iX11_helpTwo : zw_I := (yX11_helpTwo, cX11_helpTwo, 5, some .boolean)
theorem vX11_helpTwo : zw_yV iX11_helpTwo 0 := ⟨zw_in_p [1253, 46, 74, 1254] (by decide +kernel) (by decide +kernel), ⟨by decide +kernel, by decide +kernel, by decide +kernel⟩, by decide⟩
abbrev iX11_stonesNow : zw_I := (yX11_stonesNow, cX11_stonesNow, 3, some .int)
theorem vX11_stonesNow : zw_yV iX11_stonesNow 1 := ⟨zw_in_p [1241, 43, 74, 1242] (by decide +kernel) (by decide +kernel), ⟨by decide +kernel, by decide +kernel, by decide +kernel⟩, by decide⟩
abbrev iX11_stones : zw_I := (yX11_stones, cX11_stones, 2, some .int)
theorem vX11_stones : zw_yV iX11_stones 1 := ⟨zw_in_p [1236, 1237, 74, 1238] (by decide +kernel) (by decide +kernel), ⟨by decide +kernel, by decide +kernel, by decide +kernel⟩, by decide⟩
abbrev iX11_siteNow : zw_I := (yX11_siteNow, cX11_siteNow, 6, some .int)
theorem vX11_siteNow : zw_yV iX11_siteNow 1 := ⟨zw_in_p [1261, 47, 74, 1262] (by decide +kernel) (by decide +kernel), ⟨by decide +kernel, by decide +kernel, by decide +kernel⟩, by decide⟩
abbrev iX11_site : zw_I := (yX11_site, cX11_site, 2, some .int)
theorem vX11_site : zw_yV iX11_site 1 := ⟨zw_in_p [1256, 1257, 74, 1258] (by decide +kernel) (by decide +kernel), ⟨by decide +kernel, by decide +kernel, by decide +kernel⟩, by decide⟩
abbrev iX11_lateNow : zw_I := (yX11_lateNow, cX11_lateNow, 10, some .int)
theorem vX11_lateNow : zw_yV iX11_lateNow 3 := ⟨zw_in_p [1273, 49, 74, 1274] (by decide +kernel) (by decide +kernel), ⟨by decide +kernel, by decide +kernel, by decide +kernel⟩, by decide⟩
abbrev iX11_late : zw_I := (yX11_late, cX11_late, 4, some .int)
theorem vX11_late : zw_yV iX11_late 3 := ⟨zw_in_p [1268, 1269, 74, 1270] (by decide +kernel) (by decide +kernel), ⟨by decide +kernel, by decide +kernel, by decide +kernel⟩, by decide⟩
abbrev iX11_toMiddle : zw_I := (yX11_toMiddle, cX11_toMiddle, 4, some .int)
theorem vX11_toMiddle : zw_yV iX11_toMiddle 1 := ⟨zw_in_p [1292, 52, 74, 1293] (by decide +kernel) (by decide +kernel), ⟨by decide +kernel, by decide +kernel, by decide +kernel⟩, by decide⟩
abbrev iX11_keepStands : zw_I := (yX11_keepStands, cX11_keepStands, 3, none)
theorem vX11_keepStands : zw_yV iX11_keepStands 1 := ⟨zw_in_p [1288, 51, 74, 1289] (by decide +kernel) (by decide +kernel), ⟨by decide +kernel, by decide +kernel, by decide +kernel⟩, by decide⟩
abbrev iX11_putStands : zw_I := (yX11_putStands, cX11_putStands, 3, none)
theorem vX11_putStands : zw_yV iX11_putStands 1 := ⟨zw_in_p [1296, 53, 74, 1297] (by decide +kernel) (by decide +kernel), ⟨by decide +kernel, by decide +kernel, by decide +kernel⟩, by decide⟩
abbrev iX11_stormNow : zw_I := (yX11_stormNow, cX11_stormNow, 5, some .int)
theorem vX11_stormNow : zw_yV iX11_stormNow 1 := ⟨zw_in_p [1284, 50, 74, 1285] (by decide +kernel) (by decide +kernel), ⟨by decide +kernel, by decide +kernel, by decide +kernel⟩, by decide⟩
abbrev iX11_storm : zw_I := (yX11_storm, cX11_storm, 2, some .int)
theorem vX11_storm : zw_yV iX11_storm 1 := ⟨zw_in_p [1279, 1280, 74, 1281] (by decide +kernel) (by decide +kernel), ⟨by decide +kernel, by decide +kernel, by decide +kernel⟩, by decide⟩
abbrev iX11_mossNow : zw_I := (yX11_mossNow, cX11_mossNow, 3, some .int)
theorem vX11_mossNow : zw_yV iX11_mossNow 0 := ⟨zw_in_p [1304, 54, 74, 1305] (by decide +kernel) (by decide +kernel), ⟨by decide +kernel, by decide +kernel, by decide +kernel⟩, by decide⟩
abbrev iX11_moss : zw_I := (yX11_moss, cX11_moss, 1, some .int)
theorem vX11_moss : zw_yV iX11_moss 0 := ⟨zw_in_p [1299, 1300, 74, 1301] (by decide +kernel) (by decide +kernel), ⟨by decide +kernel, by decide +kernel, by decide +kernel⟩, by decide⟩
abbrev iX11_draw : zw_I := (yX11_draw, cX11_draw, 2, some .int)
theorem vX11_draw : zw_yV iX11_draw 1 := ⟨zw_in_p [1320, 57, 74, 1321] (by decide +kernel) (by decide +kernel), ⟨by decide +kernel, by decide +kernel, by decide +kernel⟩, by decide⟩
abbrev iX11_stray : zw_I := (yX11_stray, cX11_stray, 5, none)
theorem vX11_stray : zw_yV iX11_stray 1 := ⟨zw_in_p [1316, 56, 74, 1317] (by decide +kernel) (by decide +kernel), ⟨by decide +kernel, by decide +kernel, by decide +kernel⟩, by decide⟩
abbrev iX11_cowsNow : zw_I := (yX11_cowsNow, cX11_cowsNow, 7, some .int)
theorem vX11_cowsNow : zw_yV iX11_cowsNow 4 := ⟨zw_in_p [1312, 55, 74, 1313] (by decide +kernel) (by decide +kernel), ⟨by decide +kernel, by decide +kernel, by decide +kernel⟩, by decide⟩
abbrev iX11_cows : zw_I := (yX11_cows, cX11_cows, 5, some .int)
theorem vX11_cows : zw_yV iX11_cows 4 := ⟨zw_in_p [1307, 1308, 74, 1309] (by decide +kernel) (by decide +kernel), ⟨by decide +kernel, by decide +kernel, by decide +kernel⟩, by decide⟩
abbrev iX11_image : zw_I := (yX11_image, cX11_image, 2, some .int)
theorem vX11_image : zw_yV iX11_image 0 := ⟨zw_in_p [1327, 1328, 74, 1329] (by decide +kernel) (by decide +kernel), ⟨by decide +kernel, by decide +kernel, by decide +kernel⟩, by decide⟩
abbrev iX11_restore : zw_I := (yX11_restore, cX11_restore, 2, some .int)
theorem vX11_restore : zw_yV iX11_restore 0 := ⟨zw_in_p [1331, 1332, 74, 1333] (by decide +kernel) (by decide +kernel), ⟨by decide +kernel, by decide +kernel, by decide +kernel⟩, by decide⟩
abbrev iX11_doorMany : zw_I := (yX11_doorMany, cX11_doorMany, 3, some .int)
theorem vX11_doorMany : zw_yV iX11_doorMany 0 := ⟨zw_in_p [1344, 59, 74, 1345] (by decide +kernel) (by decide +kernel), ⟨by decide +kernel, by decide +kernel, by decide +kernel⟩, by decide⟩
abbrev iX11_howMany : zw_I := (yX11_howMany, cX11_howMany, 2, some .int)
theorem vX11_howMany : zw_yV iX11_howMany 1 := ⟨zw_in_p [1340, 58, 74, 1341] (by decide +kernel) (by decide +kernel), ⟨by decide +kernel, by decide +kernel, by decide +kernel⟩, by decide⟩
abbrev iX11_count : zw_I := (yX11_count, cX11_count, 2, some .int)
theorem vX11_count : zw_yV iX11_count 1 := ⟨zw_in_p [1335, 1336, 74, 1337] (by decide +kernel) (by decide +kernel), ⟨by decide +kernel, by decide +kernel, by decide +kernel⟩, by decide⟩
abbrev iX11_mix : zw_I := (yX11_mix, cX11_mix, 3, none)
theorem vX11_mix : zw_yV iX11_mix 1 := ⟨zw_in_p [1353, 60, 74, 1354] (by decide +kernel) (by decide +kernel), ⟨by decide +kernel, by decide +kernel, by decide +kernel⟩, by decide⟩
abbrev iX11_mixThing : zw_I := (yX11_mixThing, cX11_mixThing, 3, none)
theorem vX11_mixThing : zw_yV iX11_mixThing 1 := ⟨zw_in_p [1358, 61, 74, 1359] (by decide +kernel) (by decide +kernel), ⟨by decide +kernel, by decide +kernel, by decide +kernel⟩, by decide⟩
abbrev iX11_digest : zw_I := (yX11_digest, cX11_digest, 3, some .long)
theorem vX11_digest : zw_yV iX11_digest 0 := ⟨zw_in_p [1347, 1348, 74, 1349] (by decide +kernel) (by decide +kernel), ⟨by decide +kernel, by decide +kernel, by decide +kernel⟩, by decide⟩
abbrev iJ6_bitCount_0f7a4 : zw_I := (yJ6_bitCount_0f7a4, cJ6_bitCount_0f7a4, 1, some .int)
theorem sJ6_bitCount_0f7a4 : zw_yS iJ6_bitCount_0f7a4 1 := ⟨zw_in_p [622, 75, 623] (by decide +kernel) (by decide +kernel), ⟨by decide +kernel, by decide +kernel, by decide +kernel⟩, by decide⟩
abbrev iJ9_max_7cf53 : zw_I := (yJ9_max_7cf53, cJ9_max_7cf53, 2, some .int)
theorem sJ9_max_7cf53 : zw_yS iJ9_max_7cf53 2 := ⟨zw_in_p [743, 77, 744] (by decide +kernel) (by decide +kernel), ⟨by decide +kernel, by decide +kernel, by decide +kernel⟩, by decide⟩
theorem lX10_85 : zw_in [Cond.methodLink RX10 85 yX3_add] := zw_in_p [370] (by decide +kernel) (by decide +kernel)
theorem lX3_19 : zw_in [Cond.methodLink RX3 19 yX3_lettersTold] := zw_in_p [374] (by decide +kernel) (by decide +kernel)
theorem lX3_23 : zw_in [Cond.methodLink RX3 23 yX3_codeAt] := zw_in_p [377] (by decide +kernel) (by decide +kernel)
theorem lX10_89 : zw_in [Cond.methodLink RX10 89 yX3_length] := zw_in_p [385] (by decide +kernel) (by decide +kernel)
theorem lX10_93 : zw_in [Cond.methodLink RX10 93 yX3_clear] := zw_in_p [389] (by decide +kernel) (by decide +kernel)
theorem lX10_96 : zw_in [Cond.methodLink RX10 96 yX4_faultIn] := zw_in_p [397] (by decide +kernel) (by decide +kernel)
theorem lX4_22 : zw_in [Cond.methodLink RX4 22 yX3_length] := zw_in_p [401] (by decide +kernel) (by decide +kernel)
theorem lX4_31 : zw_in [Cond.methodLink RX4 31 yX3_letter] := zw_in_p [402] (by decide +kernel) (by decide +kernel)
theorem lX4_35 : zw_in [Cond.methodLink RX4 35 yX4_takes] := zw_in_p [406] (by decide +kernel) (by decide +kernel)
theorem lX4_39 : zw_in [Cond.methodLink RX4 39 yX4_endsRow] := zw_in_p [410] (by decide +kernel) (by decide +kernel)
theorem lX10_100 : zw_in [Cond.methodLink RX10 100 yX3_wayFault] := zw_in_p [414] (by decide +kernel) (by decide +kernel)
theorem lX3_33 : zw_in [Cond.methodLink RX3 33 yX3_wayAt] := zw_in_p [418] (by decide +kernel) (by decide +kernel)
theorem lX3_37 : zw_in [Cond.methodLink RX3 37 yX3_letter] := zw_in_p [422] (by decide +kernel) (by decide +kernel)
theorem lX10_103 : zw_in [Cond.methodLink RX10 103 yX4_isWhole] := zw_in_p [427] (by decide +kernel) (by decide +kernel)
theorem lX4_18 : zw_in [Cond.methodLink RX4 18 yX4_faultIn] := zw_in_p [431] (by decide +kernel) (by decide +kernel)
theorem lX10_107 : zw_in [Cond.methodLink RX10 107 yX4_rows] := zw_in_p [432] (by decide +kernel) (by decide +kernel)
theorem lX10_110 : zw_in [Cond.methodLink RX10 110 yX4_columns] := zw_in_p [436] (by decide +kernel) (by decide +kernel)
theorem lX10_113 : zw_in [Cond.methodLink RX10 113 yX1_read] := zw_in_p [440] (by decide +kernel) (by decide +kernel)
theorem lX1_34 : zw_in [Cond.methodLink RX1 34 yX3_length] := zw_in_p [444] (by decide +kernel) (by decide +kernel)
theorem lX1_40 : zw_in [Cond.methodLink RX1 40 yX3_letter] := zw_in_p [445] (by decide +kernel) (by decide +kernel)
theorem lX1_44 : zw_in [Cond.methodLink RX1 44 yX1_addSquare] := zw_in_p [446] (by decide +kernel) (by decide +kernel)
theorem lX1_48 : zw_in [Cond.methodLink RX1 48 yX1_fromCentre] := zw_in_p [450] (by decide +kernel) (by decide +kernel)
theorem lX10_117 : zw_in [Cond.methodLink RX10 117 yX8_clear] := zw_in_p [453] (by decide +kernel) (by decide +kernel)
theorem lX10_122 : zw_in [Cond.methodLink RX10 122 yX1_squares] := zw_in_p [457] (by decide +kernel) (by decide +kernel)
theorem lX10_125 : zw_in [Cond.methodLink RX10 125 yX1_has] := zw_in_p [465] (by decide +kernel) (by decide +kernel)
theorem lX10_130 : zw_in [Cond.methodLink RX10 130 yX1_height] := zw_in_p [470] (by decide +kernel) (by decide +kernel)
theorem lX1_52 : zw_in [Cond.methodLink RX1 52 yX1_has] := zw_in_p [474] (by decide +kernel) (by decide +kernel)
theorem lX10_134 : zw_in [Cond.methodLink RX10 134 yX1_east] := zw_in_p [475] (by decide +kernel) (by decide +kernel)
theorem lX10_137 : zw_in [Cond.methodLink RX10 137 yX1_south] := zw_in_p [479] (by decide +kernel) (by decide +kernel)
theorem lX10_141 : zw_in [Cond.methodLink RX10 141 yX10_isKind] := zw_in_p [488] (by decide +kernel) (by decide +kernel)
theorem lX10_144 : zw_in [Cond.methodLink RX10 144 yX10_isWeight] := zw_in_p [491] (by decide +kernel) (by decide +kernel)
theorem lX10_147 : zw_in [Cond.methodLink RX10 147 yX8_add] := zw_in_p [494] (by decide +kernel) (by decide +kernel)
theorem lX8_31 : zw_in [Cond.methodLink RX8 31 yX8_moveAllDay] := zw_in_p [498] (by decide +kernel) (by decide +kernel)
theorem lX8_59 : zw_in [Cond.methodLink RX8 59 yX8_move] := zw_in_p [502] (by decide +kernel) (by decide +kernel)
theorem lX8_35 : zw_in [Cond.methodLink RX8 35 yX8_has] := zw_in_p [506] (by decide +kernel) (by decide +kernel)
theorem lX10_150 : zw_in [Cond.methodLink RX10 150 yX8_has] := zw_in_p [517] (by decide +kernel) (by decide +kernel)
theorem lX10_151 : zw_in [Cond.methodLink RX10 151 yX10_asksPlace] := zw_in_p [518] (by decide +kernel) (by decide +kernel)
theorem lX10_154 : zw_in [Cond.methodLink RX10 154 yX8_place] := zw_in_p [521] (by decide +kernel) (by decide +kernel)
theorem lX10_158 : zw_in [Cond.methodLink RX10 158 yX8_kind] := zw_in_p [525] (by decide +kernel) (by decide +kernel)
theorem lX10_161 : zw_in [Cond.methodLink RX10 161 yX8_weight] := zw_in_p [529] (by decide +kernel) (by decide +kernel)
theorem lX10_164 : zw_in [Cond.methodLink RX10 164 yX8_weighs] := zw_in_p [533] (by decide +kernel) (by decide +kernel)
theorem lX10_167 : zw_in [Cond.methodLink RX10 167 yX8_isA] := zw_in_p [541] (by decide +kernel) (by decide +kernel)
theorem lX8_39 : zw_in [Cond.methodLink RX8 39 yX8_kind] := zw_in_p [545] (by decide +kernel) (by decide +kernel)
theorem lX10_171 : zw_in [Cond.methodLink RX10 171 yX10_isQuarter] := zw_in_p [550] (by decide +kernel) (by decide +kernel)
theorem lX10_174 : zw_in [Cond.methodLink RX10 174 yX8_move] := zw_in_p [551] (by decide +kernel) (by decide +kernel)
theorem lX10_178 : zw_in [Cond.methodLink RX10 178 yX8_moveAllDay] := zw_in_p [556] (by decide +kernel) (by decide +kernel)
theorem lX10_182 : zw_in [Cond.methodLink RX10 182 yX0_leanEast] := zw_in_p [565] (by decide +kernel) (by decide +kernel)
theorem lX0_26 : zw_in [Cond.methodLink RX0 26 yX8_size] := zw_in_p [569] (by decide +kernel) (by decide +kernel)
theorem lX0_32 : zw_in [Cond.methodLink RX0 32 yX8_weighs] := zw_in_p [573] (by decide +kernel) (by decide +kernel)
theorem lX0_36 : zw_in [Cond.methodLink RX0 36 yX8_place] := zw_in_p [574] (by decide +kernel) (by decide +kernel)
theorem lX0_40 : zw_in [Cond.methodLink RX0 40 yX1_east] := zw_in_p [575] (by decide +kernel) (by decide +kernel)
theorem lX10_185 : zw_in [Cond.methodLink RX10 185 yX0_leanSouth] := zw_in_p [576] (by decide +kernel) (by decide +kernel)
theorem lX0_45 : zw_in [Cond.methodLink RX0 45 yX1_south] := zw_in_p [580] (by decide +kernel) (by decide +kernel)
theorem lX10_189 : zw_in [Cond.methodLink RX10 189 yX1_dipOf] := zw_in_p [586] (by decide +kernel) (by decide +kernel)
theorem lX10_192 : zw_in [Cond.methodLink RX10 192 yX0_wetIn] := zw_in_p [594] (by decide +kernel) (by decide +kernel)
theorem lX0_48 : zw_in [Cond.methodLink RX0 48 yX0_leanEast] := zw_in_p [598] (by decide +kernel) (by decide +kernel)
theorem lX0_51 : zw_in [Cond.methodLink RX0 51 yX0_leanSouth] := zw_in_p [599] (by decide +kernel) (by decide +kernel)
theorem lX0_54 : zw_in [Cond.methodLink RX0 54 yX1_wetDoors] := zw_in_p [600] (by decide +kernel) (by decide +kernel)
theorem lX10_195 : zw_in [Cond.methodLink RX10 195 yX1_isThere] := zw_in_p [608] (by decide +kernel) (by decide +kernel)
theorem lX10_199 : zw_in [Cond.methodLink RX10 199 yX8_people] := zw_in_p [612] (by decide +kernel) (by decide +kernel)
theorem lX8_43 : zw_in [Cond.methodLink RX8 43 yX8_peopleBits] := zw_in_p [616] (by decide +kernel) (by decide +kernel)
theorem lX8_52 : zw_in [Cond.methodLink RX8 52 yX8_isA] := zw_in_p [620] (by decide +kernel) (by decide +kernel)
theorem lX8_47 : zw_in [Cond.methodLink RX8 47 yJ6_bitCount_0f7a4] := zw_in_p [621] (by decide +kernel) (by decide +kernel)
theorem lX10_205 : zw_in [Cond.methodLink RX10 205 yX9_search] := zw_in_p [627] (by decide +kernel) (by decide +kernel)
theorem lX9_50 : zw_in [Cond.methodLink RX9 50 yX0_leanEast] := zw_in_p [631] (by decide +kernel) (by decide +kernel)
theorem lX9_56 : zw_in [Cond.methodLink RX9 56 yX0_leanSouth] := zw_in_p [632] (by decide +kernel) (by decide +kernel)
theorem lX9_59 : zw_in [Cond.methodLink RX9 59 yX8_size] := zw_in_p [633] (by decide +kernel) (by decide +kernel)
theorem lX9_64 : zw_in [Cond.methodLink RX9 64 yX8_isA] := zw_in_p [634] (by decide +kernel) (by decide +kernel)
theorem lX9_68 : zw_in [Cond.methodLink RX9 68 yX8_place] := zw_in_p [635] (by decide +kernel) (by decide +kernel)
theorem lX9_72 : zw_in [Cond.methodLink RX9 72 yX8_weighs] := zw_in_p [636] (by decide +kernel) (by decide +kernel)
theorem lX9_75 : zw_in [Cond.methodLink RX9 75 yX1_east] := zw_in_p [637] (by decide +kernel) (by decide +kernel)
theorem lX9_80 : zw_in [Cond.methodLink RX9 80 yX1_south] := zw_in_p [638] (by decide +kernel) (by decide +kernel)
theorem lX9_83 : zw_in [Cond.methodLink RX9 83 yX9_takeSquares] := zw_in_p [639] (by decide +kernel) (by decide +kernel)
theorem lX9_87 : zw_in [Cond.methodLink RX9 87 yX9_judge] := zw_in_p [643] (by decide +kernel) (by decide +kernel)
theorem lX9_91 : zw_in [Cond.methodLink RX9 91 yX1_wetDoorsTold] := zw_in_p [647] (by decide +kernel) (by decide +kernel)
theorem lX1_56 : zw_in [Cond.methodLink RX1 56 yX1_wetDoors] := zw_in_p [651] (by decide +kernel) (by decide +kernel)
theorem lX1_59 : zw_in [Cond.methodLink RX1 59 yJ6_bitCount_0f7a4] := zw_in_p [652] (by decide +kernel) (by decide +kernel)
theorem lX10_209 : zw_in [Cond.methodLink RX10 209 yX9_wetDoors] := zw_in_p [656] (by decide +kernel) (by decide +kernel)
theorem lX10_212 : zw_in [Cond.methodLink RX10 212 yX9_elsewhere] := zw_in_p [660] (by decide +kernel) (by decide +kernel)
theorem lX10_215 : zw_in [Cond.methodLink RX10 215 yX9_placeOf] := zw_in_p [664] (by decide +kernel) (by decide +kernel)
theorem lX10_218 : zw_in [Cond.methodLink RX10 218 yX3_isWay] := zw_in_p [672] (by decide +kernel) (by decide +kernel)
theorem lX3_29 : zw_in [Cond.methodLink RX3 29 yX3_wayFault] := zw_in_p [676] (by decide +kernel) (by decide +kernel)
theorem lX10_221 : zw_in [Cond.methodLink RX10 221 yX5_firstGoesFrom] := zw_in_p [677] (by decide +kernel) (by decide +kernel)
theorem lX5_37 : zw_in [Cond.methodLink RX5 37 yX3_wayAt] := zw_in_p [681] (by decide +kernel) (by decide +kernel)
theorem lX5_43 : zw_in [Cond.methodLink RX5 43 yX1_step] := zw_in_p [682] (by decide +kernel) (by decide +kernel)
theorem lX10_224 : zw_in [Cond.methodLink RX10 224 yX5_search] := zw_in_p [686] (by decide +kernel) (by decide +kernel)
theorem lX5_52 : zw_in [Cond.methodLink RX5 52 yX0_weigh] := zw_in_p [690] (by decide +kernel) (by decide +kernel)
theorem lX5_57 : zw_in [Cond.methodLink RX5 57 yX1_squares] := zw_in_p [694] (by decide +kernel) (by decide +kernel)
theorem lX5_61 : zw_in [Cond.methodLink RX5 61 yX5_secondGoesFrom] := zw_in_p [695] (by decide +kernel) (by decide +kernel)
theorem lX5_49 : zw_in [Cond.methodLink RX5 49 yX5_turnedRound] := zw_in_p [699] (by decide +kernel) (by decide +kernel)
theorem lX5_65 : zw_in [Cond.methodLink RX5 65 yX5_wetDoorsWithBoth] := zw_in_p [702] (by decide +kernel) (by decide +kernel)
theorem lX5_68 : zw_in [Cond.methodLink RX5 68 yX1_east] := zw_in_p [706] (by decide +kernel) (by decide +kernel)
theorem lX5_71 : zw_in [Cond.methodLink RX5 71 yX1_south] := zw_in_p [707] (by decide +kernel) (by decide +kernel)
theorem lX5_74 : zw_in [Cond.methodLink RX5 74 yX0_wetDoorsWith] := zw_in_p [708] (by decide +kernel) (by decide +kernel)
theorem lX0_61 : zw_in [Cond.methodLink RX0 61 yX1_wetDoorsTold] := zw_in_p [713] (by decide +kernel) (by decide +kernel)
theorem lX10_225 : zw_in [Cond.methodLink RX10 225 yX5_start] := zw_in_p [714] (by decide +kernel) (by decide +kernel)
theorem lX10_228 : zw_in [Cond.methodLink RX10 228 yX5_wetDoors] := zw_in_p [718] (by decide +kernel) (by decide +kernel)
theorem lX10_232 : zw_in [Cond.methodLink RX10 232 yX7_search] := zw_in_p [726] (by decide +kernel) (by decide +kernel)
theorem lX7_30 : zw_in [Cond.methodLink RX7 30 yX0_weigh] := zw_in_p [730] (by decide +kernel) (by decide +kernel)
theorem lX7_35 : zw_in [Cond.methodLink RX7 35 yX7_measureRooms] := zw_in_p [731] (by decide +kernel) (by decide +kernel)
theorem lX7_85 : zw_in [Cond.methodLink RX7 85 yX1_height] := zw_in_p [735] (by decide +kernel) (by decide +kernel)
theorem lX7_89 : zw_in [Cond.methodLink RX7 89 yX0_greatestDip] := zw_in_p [737] (by decide +kernel) (by decide +kernel)
theorem lX0_64 : zw_in [Cond.methodLink RX0 64 yX1_dipOf] := zw_in_p [741] (by decide +kernel) (by decide +kernel)
theorem lX7_38 : zw_in [Cond.methodLink RX7 38 yX7_movesKeepDry] := zw_in_p [745] (by decide +kernel) (by decide +kernel)
theorem lX7_42 : zw_in [Cond.methodLink RX7 42 yX7_isDryWith] := zw_in_p [749] (by decide +kernel) (by decide +kernel)
theorem lX7_92 : zw_in [Cond.methodLink RX7 92 yX7_isWetWith] := zw_in_p [753] (by decide +kernel) (by decide +kernel)
theorem lX7_96 : zw_in [Cond.methodLink RX7 96 yX1_has] := zw_in_p [757] (by decide +kernel) (by decide +kernel)
theorem lX7_100 : zw_in [Cond.methodLink RX7 100 yX1_dipOf] := zw_in_p [758] (by decide +kernel) (by decide +kernel)
theorem lX7_74 : zw_in [Cond.methodLink RX7 74 yX1_squares] := zw_in_p [759] (by decide +kernel) (by decide +kernel)
theorem lX7_46 : zw_in [Cond.methodLink RX7 46 yX8_size] := zw_in_p [760] (by decide +kernel) (by decide +kernel)
theorem lX7_52 : zw_in [Cond.methodLink RX7 52 yX8_isA] := zw_in_p [761] (by decide +kernel) (by decide +kernel)
theorem lX7_55 : zw_in [Cond.methodLink RX7 55 yX7_moveOfKeepsDry] := zw_in_p [762] (by decide +kernel) (by decide +kernel)
theorem lX7_58 : zw_in [Cond.methodLink RX7 58 yX8_place] := zw_in_p [766] (by decide +kernel) (by decide +kernel)
theorem lX7_62 : zw_in [Cond.methodLink RX7 62 yX8_weighs] := zw_in_p [767] (by decide +kernel) (by decide +kernel)
theorem lX7_66 : zw_in [Cond.methodLink RX7 66 yX1_east] := zw_in_p [768] (by decide +kernel) (by decide +kernel)
theorem lX7_71 : zw_in [Cond.methodLink RX7 71 yX1_south] := zw_in_p [769] (by decide +kernel) (by decide +kernel)
theorem lX7_77 : zw_in [Cond.methodLink RX7 77 yX7_keepMove] := zw_in_p [770] (by decide +kernel) (by decide +kernel)
theorem lX10_234 : zw_in [Cond.methodLink RX10 234 yX7_found] := zw_in_p [774] (by decide +kernel) (by decide +kernel)
theorem lX10_237 : zw_in [Cond.methodLink RX10 237 yX0_driestSquareFor] := zw_in_p [782] (by decide +kernel) (by decide +kernel)
theorem lX0_73 : zw_in [Cond.methodLink RX0 73 yX0_weigh] := zw_in_p [786] (by decide +kernel) (by decide +kernel)
theorem lX0_76 : zw_in [Cond.methodLink RX0 76 yX1_squares] := zw_in_p [787] (by decide +kernel) (by decide +kernel)
theorem lX0_79 : zw_in [Cond.methodLink RX0 79 yX0_wetDoorsAllDayWith] := zw_in_p [788] (by decide +kernel) (by decide +kernel)
theorem lX0_82 : zw_in [Cond.methodLink RX0 82 yX0_wetDoorsWith] := zw_in_p [792] (by decide +kernel) (by decide +kernel)
theorem lX10_240 : zw_in [Cond.methodLink RX10 240 yX1_hasAll] := zw_in_p [797] (by decide +kernel) (by decide +kernel)
theorem lX10_243 : zw_in [Cond.methodLink RX10 243 yX2_search] := zw_in_p [801] (by decide +kernel) (by decide +kernel)
theorem lX2_33 : zw_in [Cond.methodLink RX2 33 yX2_measureChanges] := zw_in_p [805] (by decide +kernel) (by decide +kernel)
theorem lX2_56 : zw_in [Cond.methodLink RX2 56 yX8_place] := zw_in_p [809] (by decide +kernel) (by decide +kernel)
theorem lX2_60 : zw_in [Cond.methodLink RX2 60 yX8_weighs] := zw_in_p [810] (by decide +kernel) (by decide +kernel)
theorem lX2_63 : zw_in [Cond.methodLink RX2 63 yX1_east] := zw_in_p [811] (by decide +kernel) (by decide +kernel)
theorem lX2_68 : zw_in [Cond.methodLink RX2 68 yX1_south] := zw_in_p [812] (by decide +kernel) (by decide +kernel)
theorem lX2_37 : zw_in [Cond.methodLink RX2 37 yX8_peopleBits] := zw_in_p [813] (by decide +kernel) (by decide +kernel)
theorem lX2_43 : zw_in [Cond.methodLink RX2 43 yX0_leanEast] := zw_in_p [814] (by decide +kernel) (by decide +kernel)
theorem lX2_49 : zw_in [Cond.methodLink RX2 49 yX0_leanSouth] := zw_in_p [815] (by decide +kernel) (by decide +kernel)
theorem lX2_52 : zw_in [Cond.methodLink RX2 52 yX2_wetDoorsIfLate] := zw_in_p [816] (by decide +kernel) (by decide +kernel)
theorem lX2_71 : zw_in [Cond.methodLink RX2 71 yX1_wetDoors] := zw_in_p [820] (by decide +kernel) (by decide +kernel)
theorem lX10_245 : zw_in [Cond.methodLink RX10 245 yX2_found] := zw_in_p [821] (by decide +kernel) (by decide +kernel)
theorem lX10_246 : zw_in [Cond.methodLink RX10 246 yX6_dryMinuteOfStorm] := zw_in_p [829] (by decide +kernel) (by decide +kernel)
theorem lX6_52 : zw_in [Cond.methodLink RX6 52 yX6_standAsIn] := zw_in_p [833] (by decide +kernel) (by decide +kernel)
theorem lX6_33 : zw_in [Cond.methodLink RX6 33 yX8_place] := zw_in_p [837] (by decide +kernel) (by decide +kernel)
theorem lX6_56 : zw_in [Cond.methodLink RX6 56 yX6_isSomeDoorWet] := zw_in_p [838] (by decide +kernel) (by decide +kernel)
theorem lX6_37 : zw_in [Cond.methodLink RX6 37 yX8_weighs] := zw_in_p [842] (by decide +kernel) (by decide +kernel)
theorem lX6_41 : zw_in [Cond.methodLink RX6 41 yX1_east] := zw_in_p [843] (by decide +kernel) (by decide +kernel)
theorem lX6_46 : zw_in [Cond.methodLink RX6 46 yX1_south] := zw_in_p [844] (by decide +kernel) (by decide +kernel)
theorem lX6_49 : zw_in [Cond.methodLink RX6 49 yX1_wetDoors] := zw_in_p [845] (by decide +kernel) (by decide +kernel)
theorem lX6_60 : zw_in [Cond.methodLink RX6 60 yX6_peopleGoToMiddle] := zw_in_p [846] (by decide +kernel) (by decide +kernel)
theorem lX6_63 : zw_in [Cond.methodLink RX6 63 yX8_isA] := zw_in_p [850] (by decide +kernel) (by decide +kernel)
theorem lX6_67 : zw_in [Cond.methodLink RX6 67 yX1_towardsMiddle] := zw_in_p [851] (by decide +kernel) (by decide +kernel)
theorem lX1_64 : zw_in [Cond.methodLink RX1 64 yX1_south] := zw_in_p [855] (by decide +kernel) (by decide +kernel)
theorem lX1_67 : zw_in [Cond.methodLink RX1 67 yX1_east] := zw_in_p [856] (by decide +kernel) (by decide +kernel)
theorem lX1_70 : zw_in [Cond.methodLink RX1 70 yX1_step] := zw_in_p [857] (by decide +kernel) (by decide +kernel)
theorem lX10_249 : zw_in [Cond.methodLink RX10 249 yX7_wetYear] := zw_in_p [862] (by decide +kernel) (by decide +kernel)
theorem lX10_252 : zw_in [Cond.methodLink RX10 252 yX6_stray] := zw_in_p [870] (by decide +kernel) (by decide +kernel)
theorem lX6_70 : zw_in [Cond.methodLink RX6 70 yX6_cowsGoAstray] := zw_in_p [874] (by decide +kernel) (by decide +kernel)
theorem lX6_73 : zw_in [Cond.methodLink RX6 73 yX6_drawOfACow] := zw_in_p [878] (by decide +kernel) (by decide +kernel)
theorem lX6_77 : zw_in [Cond.methodLink RX6 77 yX1_step] := zw_in_p [887] (by decide +kernel) (by decide +kernel)
theorem lX10_255 : zw_in [Cond.methodLink RX10 255 yX6_seed] := zw_in_p [888] (by decide +kernel) (by decide +kernel)
theorem lX10_258 : zw_in [Cond.methodLink RX10 258 yX6_placeOf] := zw_in_p [892] (by decide +kernel) (by decide +kernel)
theorem lX6_23 : zw_in [Cond.methodLink RX6 23 yX8_has] := zw_in_p [896] (by decide +kernel) (by decide +kernel)
theorem lX10_259 : zw_in [Cond.methodLink RX10 259 yX8_keep] := zw_in_p [901] (by decide +kernel) (by decide +kernel)
theorem lX10_262 : zw_in [Cond.methodLink RX10 262 yX8_size] := zw_in_p [906] (by decide +kernel) (by decide +kernel)
theorem lX10_265 : zw_in [Cond.methodLink RX10 265 yX8_isKept] := zw_in_p [911] (by decide +kernel) (by decide +kernel)
theorem lX10_268 : zw_in [Cond.methodLink RX10 268 yX8_goBack] := zw_in_p [915] (by decide +kernel) (by decide +kernel)
theorem lX10_271 : zw_in [Cond.methodLink RX10 271 yX1_doors] := zw_in_p [923] (by decide +kernel) (by decide +kernel)
theorem lX10_276 : zw_in [Cond.methodLink RX10 276 yX10_digested] := zw_in_p [932] (by decide +kernel) (by decide +kernel)
theorem lX10_280 : zw_in [Cond.methodLink RX10 280 yX10_digestedThing] := zw_in_p [936] (by decide +kernel) (by decide +kernel)
theorem lX10_283 : zw_in [Cond.methodLink RX10 283 yX10_digestedFindings] := zw_in_p [940] (by decide +kernel) (by decide +kernel)
theorem lX10_287 : zw_in [Cond.methodLink RX10 287 yX3_letter] := zw_in_p [944] (by decide +kernel) (by decide +kernel)
theorem lX10_290 : zw_in [Cond.methodLink RX10 290 yX10_count] := zw_in_p [945] (by decide +kernel) (by decide +kernel)
theorem lX11_65 : zw_in [Cond.methodLink RX11 65 yX11_within] := zw_in_p [1087] (by decide +kernel) (by decide +kernel)
theorem lX11_80 : zw_in [Cond.methodLink RX11 80 yX11_readPlan] := zw_in_p [1090] (by decide +kernel) (by decide +kernel)
theorem lX11_83 : zw_in [Cond.methodLink RX11 83 yX11_readWay] := zw_in_p [1094] (by decide +kernel) (by decide +kernel)
theorem lX11_76 : zw_in [Cond.methodLink RX11 76 yX11_wayBy] := zw_in_p [1098] (by decide +kernel) (by decide +kernel)
theorem lX11_101 : zw_in [Cond.methodLink RX11 101 yX11_isSquare] := zw_in_p [1109] (by decide +kernel) (by decide +kernel)
theorem lX11_107 : zw_in [Cond.methodLink RX11 107 yX11_eastOf] := zw_in_p [1115] (by decide +kernel) (by decide +kernel)
theorem lX11_110 : zw_in [Cond.methodLink RX11 110 yX11_southOf] := zw_in_p [1119] (by decide +kernel) (by decide +kernel)
theorem lX11_113 : zw_in [Cond.methodLink RX11 113 yX11_isThing] := zw_in_p [1131] (by decide +kernel) (by decide +kernel)
theorem lX11_116 : zw_in [Cond.methodLink RX11 116 yX11_weighs] := zw_in_p [1135] (by decide +kernel) (by decide +kernel)
theorem lX11_119 : zw_in [Cond.methodLink RX11 119 yX11_isQuarter] := zw_in_p [1147] (by decide +kernel) (by decide +kernel)
theorem lX11_122 : zw_in [Cond.methodLink RX11 122 yX11_isPerson] := zw_in_p [1150] (by decide +kernel) (by decide +kernel)
theorem lX11_125 : zw_in [Cond.methodLink RX11 125 yX11_putAt] := zw_in_p [1158] (by decide +kernel) (by decide +kernel)
theorem lX11_138 : zw_in [Cond.methodLink RX11 138 yX11_leanOf] := zw_in_p [1170] (by decide +kernel) (by decide +kernel)
theorem lX11_143 : zw_in [Cond.methodLink RX11 143 yX11_wetIn] := zw_in_p [1183] (by decide +kernel) (by decide +kernel)
theorem lX11_158 : zw_in [Cond.methodLink RX11 158 yX11_peopleMany] := zw_in_p [1191] (by decide +kernel) (by decide +kernel)
theorem lX11_176 : zw_in [Cond.methodLink RX11 176 yX11_tradesNow] := zw_in_p [1195] (by decide +kernel) (by decide +kernel)
theorem lX11_162 : zw_in [Cond.methodLink RX11 162 yX11_layPeople] := zw_in_p [1199] (by decide +kernel) (by decide +kernel)
theorem lX11_167 : zw_in [Cond.methodLink RX11 167 yX11_tryTrade] := zw_in_p [1204] (by decide +kernel) (by decide +kernel)
theorem lX11_146 : zw_in [Cond.methodLink RX11 146 yX11_size] := zw_in_p [1208] (by decide +kernel) (by decide +kernel)
theorem lX11_170 : zw_in [Cond.methodLink RX11 170 yX11_nextTakes] := zw_in_p [1211] (by decide +kernel) (by decide +kernel)
theorem lX11_149 : zw_in [Cond.methodLink RX11 149 yX11_exchange] := zw_in_p [1215] (by decide +kernel) (by decide +kernel)
theorem lX11_183 : zw_in [Cond.methodLink RX11 183 yX11_layWay] := zw_in_p [1223] (by decide +kernel) (by decide +kernel)
theorem lX11_180 : zw_in [Cond.methodLink RX11 180 yX11_besideOf] := zw_in_p [1227] (by decide +kernel) (by decide +kernel)
theorem lX11_187 : zw_in [Cond.methodLink RX11 187 yX11_wetWith] := zw_in_p [1231] (by decide +kernel) (by decide +kernel)
theorem lX11_215 : zw_in [Cond.methodLink RX11 215 yX11_stonesNow] := zw_in_p [1239] (by decide +kernel) (by decide +kernel)
theorem lX11_190 : zw_in [Cond.methodLink RX11 190 yX11_isDry] := zw_in_p [1243] (by decide +kernel) (by decide +kernel)
theorem lX11_200 : zw_in [Cond.methodLink RX11 200 yX11_helpsFrom] := zw_in_p [1247] (by decide +kernel) (by decide +kernel)
theorem lX11_209 : zw_in [Cond.methodLink RX11 209 yX11_helpTwo] := zw_in_p [1251] (by decide +kernel) (by decide +kernel)
theorem lX11_221 : zw_in [Cond.methodLink RX11 221 yX11_siteNow] := zw_in_p [1259] (by decide +kernel) (by decide +kernel)
theorem lX11_218 : zw_in [Cond.methodLink RX11 218 yX11_wetAll] := zw_in_p [1263] (by decide +kernel) (by decide +kernel)
theorem lX11_228 : zw_in [Cond.methodLink RX11 228 yX11_lateNow] := zw_in_p [1271] (by decide +kernel) (by decide +kernel)
theorem lX11_224 : zw_in [Cond.methodLink RX11 224 yX11_has] := zw_in_p [1275] (by decide +kernel) (by decide +kernel)
theorem lX11_241 : zw_in [Cond.methodLink RX11 241 yX11_stormNow] := zw_in_p [1282] (by decide +kernel) (by decide +kernel)
theorem lX11_232 : zw_in [Cond.methodLink RX11 232 yX11_keepStands] := zw_in_p [1286] (by decide +kernel) (by decide +kernel)
theorem lX11_235 : zw_in [Cond.methodLink RX11 235 yX11_toMiddle] := zw_in_p [1290] (by decide +kernel) (by decide +kernel)
theorem lX11_238 : zw_in [Cond.methodLink RX11 238 yX11_putStands] := zw_in_p [1294] (by decide +kernel) (by decide +kernel)
theorem lX11_244 : zw_in [Cond.methodLink RX11 244 yX11_mossNow] := zw_in_p [1302] (by decide +kernel) (by decide +kernel)
theorem lX11_265 : zw_in [Cond.methodLink RX11 265 yX11_cowsNow] := zw_in_p [1310] (by decide +kernel) (by decide +kernel)
theorem lX11_262 : zw_in [Cond.methodLink RX11 262 yX11_stray] := zw_in_p [1314] (by decide +kernel) (by decide +kernel)
theorem lX11_259 : zw_in [Cond.methodLink RX11 259 yX11_draw] := zw_in_p [1318] (by decide +kernel) (by decide +kernel)
theorem lX11_281 : zw_in [Cond.methodLink RX11 281 yX11_howMany] := zw_in_p [1338] (by decide +kernel) (by decide +kernel)
theorem lX11_278 : zw_in [Cond.methodLink RX11 278 yX11_doorMany] := zw_in_p [1342] (by decide +kernel) (by decide +kernel)
theorem lX11_289 : zw_in [Cond.methodLink RX11 289 yX11_mix] := zw_in_p [1351] (by decide +kernel) (by decide +kernel)
theorem lX11_295 : zw_in [Cond.methodLink RX11 295 yX11_mixThing] := zw_in_p [1356] (by decide +kernel) (by decide +kernel)
theorem fX3_9 : zw_F RX3 9 1 0 (some (some 2)) (tyX3 0) true := ⟨3, RX3, TX3, 2, tyX3, _, oX3, by decide, zw_in_p (ws := [Cond.fieldLink RX3 9 (TX3 0).1 (TX3 0).2.1 (TX3 0).2.2.1]) [92] (by decide +kernel) (by decide +kernel) _ List.mem_cons_self, rfl, rfl, rfl, rfl⟩
theorem fX3_15 : zw_F RX3 15 1 1 (none) (tyX3 1) false := ⟨3, RX3, TX3, 2, tyX3, _, oX3, by decide, zw_in_p (ws := [Cond.fieldLink RX3 15 (TX3 1).1 (TX3 1).2.1 (TX3 1).2.2.1]) [93] (by decide +kernel) (by decide +kernel) _ List.mem_cons_self, rfl, rfl, rfl, rfl⟩
theorem fX4_9 : zw_F RX4 9 3 0 (none) (tyX4 0) false := ⟨4, RX4, TX4, 3, tyX4, _, oX4, by decide, zw_in_p (ws := [Cond.fieldLink RX4 9 (TX4 0).1 (TX4 0).2.1 (TX4 0).2.2.1]) [106] (by decide +kernel) (by decide +kernel) _ List.mem_cons_self, rfl, rfl, rfl, rfl⟩
theorem fX4_15 : zw_F RX4 15 3 1 (none) (tyX4 1) false := ⟨4, RX4, TX4, 3, tyX4, _, oX4, by decide, zw_in_p (ws := [Cond.fieldLink RX4 15 (TX4 1).1 (TX4 1).2.1 (TX4 1).2.2.1]) [107] (by decide +kernel) (by decide +kernel) _ List.mem_cons_self, rfl, rfl, rfl, rfl⟩
theorem fX4_28 : zw_F RX4 28 3 2 (none) (tyX4 2) false := ⟨4, RX4, TX4, 3, tyX4, _, oX4, by decide, zw_in_p (ws := [Cond.fieldLink RX4 28 (TX4 2).1 (TX4 2).2.1 (TX4 2).2.2.1]) [108] (by decide +kernel) (by decide +kernel) _ List.mem_cons_self, rfl, rfl, rfl, rfl⟩
theorem fX1_9 : zw_F RX1 9 4 0 (some (some 5)) (tyX1 0) true := ⟨1, RX1, TX1, 7, tyX1, _, oX1, by decide, zw_in_p (ws := [Cond.fieldLink RX1 9 (TX1 0).1 (TX1 0).2.1 (TX1 0).2.2.1]) [122] (by decide +kernel) (by decide +kernel) _ List.mem_cons_self, rfl, rfl, rfl, rfl⟩
theorem fX1_15 : zw_F RX1 15 4 1 (some (some 6)) (tyX1 1) true := ⟨1, RX1, TX1, 7, tyX1, _, oX1, by decide, zw_in_p (ws := [Cond.fieldLink RX1 15 (TX1 1).1 (TX1 1).2.1 (TX1 1).2.2.1]) [123] (by decide +kernel) (by decide +kernel) _ List.mem_cons_self, rfl, rfl, rfl, rfl⟩
theorem fX1_18 : zw_F RX1 18 4 2 (some (some 7)) (tyX1 2) true := ⟨1, RX1, TX1, 7, tyX1, _, oX1, by decide, zw_in_p (ws := [Cond.fieldLink RX1 18 (TX1 2).1 (TX1 2).2.1 (TX1 2).2.2.1]) [124] (by decide +kernel) (by decide +kernel) _ List.mem_cons_self, rfl, rfl, rfl, rfl⟩
theorem fX1_21 : zw_F RX1 21 4 3 (none) (tyX1 3) false := ⟨1, RX1, TX1, 7, tyX1, _, oX1, by decide, zw_in_p (ws := [Cond.fieldLink RX1 21 (TX1 3).1 (TX1 3).2.1 (TX1 3).2.2.1]) [125] (by decide +kernel) (by decide +kernel) _ List.mem_cons_self, rfl, rfl, rfl, rfl⟩
theorem fX1_25 : zw_F RX1 25 4 4 (none) (tyX1 4) false := ⟨1, RX1, TX1, 7, tyX1, _, oX1, by decide, zw_in_p (ws := [Cond.fieldLink RX1 25 (TX1 4).1 (TX1 4).2.1 (TX1 4).2.2.1]) [126] (by decide +kernel) (by decide +kernel) _ List.mem_cons_self, rfl, rfl, rfl, rfl⟩
theorem fX1_28 : zw_F RX1 28 4 5 (none) (tyX1 5) false := ⟨1, RX1, TX1, 7, tyX1, _, oX1, by decide, zw_in_p (ws := [Cond.fieldLink RX1 28 (TX1 5).1 (TX1 5).2.1 (TX1 5).2.2.1]) [127] (by decide +kernel) (by decide +kernel) _ List.mem_cons_self, rfl, rfl, rfl, rfl⟩
theorem fX1_31 : zw_F RX1 31 4 6 (none) (tyX1 6) false := ⟨1, RX1, TX1, 7, tyX1, _, oX1, by decide, zw_in_p (ws := [Cond.fieldLink RX1 31 (TX1 6).1 (TX1 6).2.1 (TX1 6).2.2.1]) [128] (by decide +kernel) (by decide +kernel) _ List.mem_cons_self, rfl, rfl, rfl, rfl⟩
theorem fX8_9 : zw_F RX8 9 8 0 (some (some 9)) (tyX8 0) true := ⟨8, RX8, TX8, 6, tyX8, _, oX8, by decide, zw_in_p (ws := [Cond.fieldLink RX8 9 (TX8 0).1 (TX8 0).2.1 (TX8 0).2.2.1]) [151] (by decide +kernel) (by decide +kernel) _ List.mem_cons_self, rfl, rfl, rfl, rfl⟩
theorem fX8_15 : zw_F RX8 15 8 1 (some (some 10)) (tyX8 1) true := ⟨8, RX8, TX8, 6, tyX8, _, oX8, by decide, zw_in_p (ws := [Cond.fieldLink RX8 15 (TX8 1).1 (TX8 1).2.1 (TX8 1).2.2.1]) [152] (by decide +kernel) (by decide +kernel) _ List.mem_cons_self, rfl, rfl, rfl, rfl⟩
theorem fX8_18 : zw_F RX8 18 8 2 (some (some 11)) (tyX8 2) true := ⟨8, RX8, TX8, 6, tyX8, _, oX8, by decide, zw_in_p (ws := [Cond.fieldLink RX8 18 (TX8 2).1 (TX8 2).2.1 (TX8 2).2.2.1]) [153] (by decide +kernel) (by decide +kernel) _ List.mem_cons_self, rfl, rfl, rfl, rfl⟩
theorem fX8_21 : zw_F RX8 21 8 3 (some (some 12)) (tyX8 3) true := ⟨8, RX8, TX8, 6, tyX8, _, oX8, by decide, zw_in_p (ws := [Cond.fieldLink RX8 21 (TX8 3).1 (TX8 3).2.1 (TX8 3).2.2.1]) [154] (by decide +kernel) (by decide +kernel) _ List.mem_cons_self, rfl, rfl, rfl, rfl⟩
theorem fX8_28 : zw_F RX8 28 8 4 (none) (tyX8 4) false := ⟨8, RX8, TX8, 6, tyX8, _, oX8, by decide, zw_in_p (ws := [Cond.fieldLink RX8 28 (TX8 4).1 (TX8 4).2.1 (TX8 4).2.2.1]) [155] (by decide +kernel) (by decide +kernel) _ List.mem_cons_self, rfl, rfl, rfl, rfl⟩
theorem fX8_24 : zw_F RX8 24 8 5 (none) (tyX8 5) false := ⟨8, RX8, TX8, 6, tyX8, _, oX8, by decide, zw_in_p (ws := [Cond.fieldLink RX8 24 (TX8 5).1 (TX8 5).2.1 (TX8 5).2.2.1]) [156] (by decide +kernel) (by decide +kernel) _ List.mem_cons_self, rfl, rfl, rfl, rfl⟩
theorem fX0_18 : zw_F RX0 18 13 0 (some (some 4)) (tyX0 0) true := ⟨0, RX0, TX0, 4, tyX0, _, oX0, by decide, zw_in_p (ws := [Cond.fieldLink RX0 18 (TX0 0).1 (TX0 0).2.1 (TX0 0).2.2.1]) [176] (by decide +kernel) (by decide +kernel) _ List.mem_cons_self, rfl, rfl, rfl, rfl⟩
theorem fX0_22 : zw_F RX0 22 13 1 (some (some 8)) (tyX0 1) true := ⟨0, RX0, TX0, 4, tyX0, _, oX0, by decide, zw_in_p (ws := [Cond.fieldLink RX0 22 (TX0 1).1 (TX0 1).2.1 (TX0 1).2.2.1]) [177] (by decide +kernel) (by decide +kernel) _ List.mem_cons_self, rfl, rfl, rfl, rfl⟩
theorem fX0_9 : zw_F RX0 9 13 2 (some (some 14)) (tyX0 2) true := ⟨0, RX0, TX0, 4, tyX0, _, oX0, by decide, zw_in_p (ws := [Cond.fieldLink RX0 9 (TX0 2).1 (TX0 2).2.1 (TX0 2).2.2.1]) [178] (by decide +kernel) (by decide +kernel) _ List.mem_cons_self, rfl, rfl, rfl, rfl⟩
theorem fX0_15 : zw_F RX0 15 13 3 (some (some 15)) (tyX0 3) true := ⟨0, RX0, TX0, 4, tyX0, _, oX0, by decide, zw_in_p (ws := [Cond.fieldLink RX0 15 (TX0 3).1 (TX0 3).2.1 (TX0 3).2.2.1]) [179] (by decide +kernel) (by decide +kernel) _ List.mem_cons_self, rfl, rfl, rfl, rfl⟩
theorem fX5_18 : zw_F RX5 18 16 0 (some (some 1)) (tyX5 0) true := ⟨5, RX5, TX5, 7, tyX5, _, oX5, by decide, zw_in_p (ws := [Cond.fieldLink RX5 18 (TX5 0).1 (TX5 0).2.1 (TX5 0).2.2.1]) [195] (by decide +kernel) (by decide +kernel) _ List.mem_cons_self, rfl, rfl, rfl, rfl⟩
theorem fX5_22 : zw_F RX5 22 16 1 (some (some 4)) (tyX5 1) true := ⟨5, RX5, TX5, 7, tyX5, _, oX5, by decide, zw_in_p (ws := [Cond.fieldLink RX5 22 (TX5 1).1 (TX5 1).2.1 (TX5 1).2.2.1]) [196] (by decide +kernel) (by decide +kernel) _ List.mem_cons_self, rfl, rfl, rfl, rfl⟩
theorem fX5_26 : zw_F RX5 26 16 2 (some (some 13)) (tyX5 2) true := ⟨5, RX5, TX5, 7, tyX5, _, oX5, by decide, zw_in_p (ws := [Cond.fieldLink RX5 26 (TX5 2).1 (TX5 2).2.1 (TX5 2).2.2.1]) [197] (by decide +kernel) (by decide +kernel) _ List.mem_cons_self, rfl, rfl, rfl, rfl⟩
theorem fX5_9 : zw_F RX5 9 16 3 (some (some 17)) (tyX5 3) true := ⟨5, RX5, TX5, 7, tyX5, _, oX5, by decide, zw_in_p (ws := [Cond.fieldLink RX5 9 (TX5 3).1 (TX5 3).2.1 (TX5 3).2.2.1]) [198] (by decide +kernel) (by decide +kernel) _ List.mem_cons_self, rfl, rfl, rfl, rfl⟩
theorem fX5_15 : zw_F RX5 15 16 4 (some (some 18)) (tyX5 4) true := ⟨5, RX5, TX5, 7, tyX5, _, oX5, by decide, zw_in_p (ws := [Cond.fieldLink RX5 15 (TX5 4).1 (TX5 4).2.1 (TX5 4).2.2.1]) [199] (by decide +kernel) (by decide +kernel) _ List.mem_cons_self, rfl, rfl, rfl, rfl⟩
theorem fX5_30 : zw_F RX5 30 16 5 (none) (tyX5 5) false := ⟨5, RX5, TX5, 7, tyX5, _, oX5, by decide, zw_in_p (ws := [Cond.fieldLink RX5 30 (TX5 5).1 (TX5 5).2.1 (TX5 5).2.2.1]) [200] (by decide +kernel) (by decide +kernel) _ List.mem_cons_self, rfl, rfl, rfl, rfl⟩
theorem fX5_34 : zw_F RX5 34 16 6 (none) (tyX5 6) false := ⟨5, RX5, TX5, 7, tyX5, _, oX5, by decide, zw_in_p (ws := [Cond.fieldLink RX5 34 (TX5 6).1 (TX5 6).2.1 (TX5 6).2.2.1]) [201] (by decide +kernel) (by decide +kernel) _ List.mem_cons_self, rfl, rfl, rfl, rfl⟩
theorem fX9_24 : zw_F RX9 24 19 0 (some (some 4)) (tyX9 0) true := ⟨9, RX9, TX9, 11, tyX9, _, oX9, by decide, zw_in_p (ws := [Cond.fieldLink RX9 24 (TX9 0).1 (TX9 0).2.1 (TX9 0).2.2.1]) [223] (by decide +kernel) (by decide +kernel) _ List.mem_cons_self, rfl, rfl, rfl, rfl⟩
theorem fX9_28 : zw_F RX9 28 19 1 (some (some 8)) (tyX9 1) true := ⟨9, RX9, TX9, 11, tyX9, _, oX9, by decide, zw_in_p (ws := [Cond.fieldLink RX9 28 (TX9 1).1 (TX9 1).2.1 (TX9 1).2.2.1]) [224] (by decide +kernel) (by decide +kernel) _ List.mem_cons_self, rfl, rfl, rfl, rfl⟩
theorem fX9_32 : zw_F RX9 32 19 2 (some (some 13)) (tyX9 2) true := ⟨9, RX9, TX9, 11, tyX9, _, oX9, by decide, zw_in_p (ws := [Cond.fieldLink RX9 32 (TX9 2).1 (TX9 2).2.1 (TX9 2).2.2.1]) [225] (by decide +kernel) (by decide +kernel) _ List.mem_cons_self, rfl, rfl, rfl, rfl⟩
theorem fX9_9 : zw_F RX9 9 19 3 (some (some 20)) (tyX9 3) true := ⟨9, RX9, TX9, 11, tyX9, _, oX9, by decide, zw_in_p (ws := [Cond.fieldLink RX9 9 (TX9 3).1 (TX9 3).2.1 (TX9 3).2.2.1]) [226] (by decide +kernel) (by decide +kernel) _ List.mem_cons_self, rfl, rfl, rfl, rfl⟩
theorem fX9_15 : zw_F RX9 15 19 4 (some (some 21)) (tyX9 4) true := ⟨9, RX9, TX9, 11, tyX9, _, oX9, by decide, zw_in_p (ws := [Cond.fieldLink RX9 15 (TX9 4).1 (TX9 4).2.1 (TX9 4).2.2.1]) [227] (by decide +kernel) (by decide +kernel) _ List.mem_cons_self, rfl, rfl, rfl, rfl⟩
theorem fX9_18 : zw_F RX9 18 19 5 (some (some 22)) (tyX9 5) true := ⟨9, RX9, TX9, 11, tyX9, _, oX9, by decide, zw_in_p (ws := [Cond.fieldLink RX9 18 (TX9 5).1 (TX9 5).2.1 (TX9 5).2.2.1]) [228] (by decide +kernel) (by decide +kernel) _ List.mem_cons_self, rfl, rfl, rfl, rfl⟩
theorem fX9_21 : zw_F RX9 21 19 6 (some (some 23)) (tyX9 6) true := ⟨9, RX9, TX9, 11, tyX9, _, oX9, by decide, zw_in_p (ws := [Cond.fieldLink RX9 21 (TX9 6).1 (TX9 6).2.1 (TX9 6).2.2.1]) [229] (by decide +kernel) (by decide +kernel) _ List.mem_cons_self, rfl, rfl, rfl, rfl⟩
theorem fX9_43 : zw_F RX9 43 19 7 (none) (tyX9 7) false := ⟨9, RX9, TX9, 11, tyX9, _, oX9, by decide, zw_in_p (ws := [Cond.fieldLink RX9 43 (TX9 7).1 (TX9 7).2.1 (TX9 7).2.2.1]) [230] (by decide +kernel) (by decide +kernel) _ List.mem_cons_self, rfl, rfl, rfl, rfl⟩
theorem fX9_46 : zw_F RX9 46 19 8 (none) (tyX9 8) false := ⟨9, RX9, TX9, 11, tyX9, _, oX9, by decide, zw_in_p (ws := [Cond.fieldLink RX9 46 (TX9 8).1 (TX9 8).2.1 (TX9 8).2.2.1]) [231] (by decide +kernel) (by decide +kernel) _ List.mem_cons_self, rfl, rfl, rfl, rfl⟩
theorem fX9_36 : zw_F RX9 36 19 9 (none) (tyX9 9) false := ⟨9, RX9, TX9, 11, tyX9, _, oX9, by decide, zw_in_p (ws := [Cond.fieldLink RX9 36 (TX9 9).1 (TX9 9).2.1 (TX9 9).2.2.1]) [232] (by decide +kernel) (by decide +kernel) _ List.mem_cons_self, rfl, rfl, rfl, rfl⟩
theorem fX9_40 : zw_F RX9 40 19 10 (none) (tyX9 10) false := ⟨9, RX9, TX9, 11, tyX9, _, oX9, by decide, zw_in_p (ws := [Cond.fieldLink RX9 40 (TX9 10).1 (TX9 10).2.1 (TX9 10).2.2.1]) [233] (by decide +kernel) (by decide +kernel) _ List.mem_cons_self, rfl, rfl, rfl, rfl⟩
theorem fX7_18 : zw_F RX7 18 24 0 (some (some 4)) (tyX7 0) true := ⟨7, RX7, TX7, 6, tyX7, _, oX7, by decide, zw_in_p (ws := [Cond.fieldLink RX7 18 (TX7 0).1 (TX7 0).2.1 (TX7 0).2.2.1]) [263] (by decide +kernel) (by decide +kernel) _ List.mem_cons_self, rfl, rfl, rfl, rfl⟩
theorem fX7_22 : zw_F RX7 22 24 1 (some (some 8)) (tyX7 1) true := ⟨7, RX7, TX7, 6, tyX7, _, oX7, by decide, zw_in_p (ws := [Cond.fieldLink RX7 22 (TX7 1).1 (TX7 1).2.1 (TX7 1).2.2.1]) [264] (by decide +kernel) (by decide +kernel) _ List.mem_cons_self, rfl, rfl, rfl, rfl⟩
theorem fX7_26 : zw_F RX7 26 24 2 (some (some 13)) (tyX7 2) true := ⟨7, RX7, TX7, 6, tyX7, _, oX7, by decide, zw_in_p (ws := [Cond.fieldLink RX7 26 (TX7 2).1 (TX7 2).2.1 (TX7 2).2.2.1]) [265] (by decide +kernel) (by decide +kernel) _ List.mem_cons_self, rfl, rfl, rfl, rfl⟩
theorem fX7_11 : zw_F RX7 11 24 3 (some (some 25)) (tyX7 3) true := ⟨7, RX7, TX7, 6, tyX7, _, oX7, by decide, zw_in_p (ws := [Cond.fieldLink RX7 11 (TX7 3).1 (TX7 3).2.1 (TX7 3).2.2.1]) [266] (by decide +kernel) (by decide +kernel) _ List.mem_cons_self, rfl, rfl, rfl, rfl⟩
theorem fX7_15 : zw_F RX7 15 24 4 (some (some 26)) (tyX7 4) true := ⟨7, RX7, TX7, 6, tyX7, _, oX7, by decide, zw_in_p (ws := [Cond.fieldLink RX7 15 (TX7 4).1 (TX7 4).2.1 (TX7 4).2.2.1]) [267] (by decide +kernel) (by decide +kernel) _ List.mem_cons_self, rfl, rfl, rfl, rfl⟩
theorem fX7_81 : zw_F RX7 81 24 5 (none) (tyX7 5) false := ⟨7, RX7, TX7, 6, tyX7, _, oX7, by decide, zw_in_p (ws := [Cond.fieldLink RX7 81 (TX7 5).1 (TX7 5).2.1 (TX7 5).2.2.1]) [268] (by decide +kernel) (by decide +kernel) _ List.mem_cons_self, rfl, rfl, rfl, rfl⟩
theorem fX2_21 : zw_F RX2 21 27 0 (some (some 4)) (tyX2 0) true := ⟨2, RX2, TX2, 6, tyX2, _, oX2, by decide, zw_in_p (ws := [Cond.fieldLink RX2 21 (TX2 0).1 (TX2 0).2.1 (TX2 0).2.2.1]) [288] (by decide +kernel) (by decide +kernel) _ List.mem_cons_self, rfl, rfl, rfl, rfl⟩
theorem fX2_25 : zw_F RX2 25 27 1 (some (some 8)) (tyX2 1) true := ⟨2, RX2, TX2, 6, tyX2, _, oX2, by decide, zw_in_p (ws := [Cond.fieldLink RX2 25 (TX2 1).1 (TX2 1).2.1 (TX2 1).2.2.1]) [289] (by decide +kernel) (by decide +kernel) _ List.mem_cons_self, rfl, rfl, rfl, rfl⟩
theorem fX2_29 : zw_F RX2 29 27 2 (some (some 13)) (tyX2 2) true := ⟨2, RX2, TX2, 6, tyX2, _, oX2, by decide, zw_in_p (ws := [Cond.fieldLink RX2 29 (TX2 2).1 (TX2 2).2.1 (TX2 2).2.2.1]) [290] (by decide +kernel) (by decide +kernel) _ List.mem_cons_self, rfl, rfl, rfl, rfl⟩
theorem fX2_11 : zw_F RX2 11 27 3 (some (some 28)) (tyX2 3) true := ⟨2, RX2, TX2, 6, tyX2, _, oX2, by decide, zw_in_p (ws := [Cond.fieldLink RX2 11 (TX2 3).1 (TX2 3).2.1 (TX2 3).2.2.1]) [291] (by decide +kernel) (by decide +kernel) _ List.mem_cons_self, rfl, rfl, rfl, rfl⟩
theorem fX2_15 : zw_F RX2 15 27 4 (some (some 29)) (tyX2 4) true := ⟨2, RX2, TX2, 6, tyX2, _, oX2, by decide, zw_in_p (ws := [Cond.fieldLink RX2 15 (TX2 4).1 (TX2 4).2.1 (TX2 4).2.2.1]) [292] (by decide +kernel) (by decide +kernel) _ List.mem_cons_self, rfl, rfl, rfl, rfl⟩
theorem fX2_18 : zw_F RX2 18 27 5 (some (some 30)) (tyX2 5) true := ⟨2, RX2, TX2, 6, tyX2, _, oX2, by decide, zw_in_p (ws := [Cond.fieldLink RX2 18 (TX2 5).1 (TX2 5).2.1 (TX2 5).2.2.1]) [293] (by decide +kernel) (by decide +kernel) _ List.mem_cons_self, rfl, rfl, rfl, rfl⟩
theorem fX6_15 : zw_F RX6 15 31 0 (some (some 4)) (tyX6 0) true := ⟨6, RX6, TX6, 4, tyX6, _, oX6, by decide, zw_in_p (ws := [Cond.fieldLink RX6 15 (TX6 0).1 (TX6 0).2.1 (TX6 0).2.2.1]) [313] (by decide +kernel) (by decide +kernel) _ List.mem_cons_self, rfl, rfl, rfl, rfl⟩
theorem fX6_19 : zw_F RX6 19 31 1 (some (some 8)) (tyX6 1) true := ⟨6, RX6, TX6, 4, tyX6, _, oX6, by decide, zw_in_p (ws := [Cond.fieldLink RX6 19 (TX6 1).1 (TX6 1).2.1 (TX6 1).2.2.1]) [314] (by decide +kernel) (by decide +kernel) _ List.mem_cons_self, rfl, rfl, rfl, rfl⟩
theorem fX6_9 : zw_F RX6 9 31 2 (some (some 32)) (tyX6 2) true := ⟨6, RX6, TX6, 4, tyX6, _, oX6, by decide, zw_in_p (ws := [Cond.fieldLink RX6 9 (TX6 2).1 (TX6 2).2.1 (TX6 2).2.2.1]) [315] (by decide +kernel) (by decide +kernel) _ List.mem_cons_self, rfl, rfl, rfl, rfl⟩
theorem fX6_29 : zw_F RX6 29 31 3 (some none) (tyX6 3) false := ⟨6, RX6, TX6, 4, tyX6, _, oX6, by decide, zw_in_p (ws := [Cond.fieldLink RX6 29 (TX6 3).1 (TX6 3).2.1 (TX6 3).2.2.1]) [316] (by decide +kernel) (by decide +kernel) _ List.mem_cons_self, rfl, rfl, rfl, rfl⟩
theorem fX10_10 : zw_F RX10 10 0 0 (some (some 1)) (tyX10 0) true := ⟨10, RX10, TX10, 13, tyX10, _, oX10, by decide, zw_in_p (ws := [Cond.fieldLink RX10 10 (TX10 0).1 (TX10 0).2.1 (TX10 0).2.2.1]) [326] (by decide +kernel) (by decide +kernel) _ List.mem_cons_self, rfl, rfl, rfl, rfl⟩
theorem fX10_19 : zw_F RX10 19 0 1 (some (some 3)) (tyX10 1) true := ⟨10, RX10, TX10, 13, tyX10, _, oX10, by decide, zw_in_p (ws := [Cond.fieldLink RX10 19 (TX10 1).1 (TX10 1).2.1 (TX10 1).2.2.1]) [327] (by decide +kernel) (by decide +kernel) _ List.mem_cons_self, rfl, rfl, rfl, rfl⟩
theorem fX10_26 : zw_F RX10 26 0 2 (some (some 4)) (tyX10 2) true := ⟨10, RX10, TX10, 13, tyX10, _, oX10, by decide, zw_in_p (ws := [Cond.fieldLink RX10 26 (TX10 2).1 (TX10 2).2.1 (TX10 2).2.2.1]) [328] (by decide +kernel) (by decide +kernel) _ List.mem_cons_self, rfl, rfl, rfl, rfl⟩
theorem fX10_33 : zw_F RX10 33 0 3 (some (some 8)) (tyX10 3) true := ⟨10, RX10, TX10, 13, tyX10, _, oX10, by decide, zw_in_p (ws := [Cond.fieldLink RX10 33 (TX10 3).1 (TX10 3).2.1 (TX10 3).2.2.1]) [329] (by decide +kernel) (by decide +kernel) _ List.mem_cons_self, rfl, rfl, rfl, rfl⟩
theorem fX10_42 : zw_F RX10 42 0 4 (some (some 13)) (tyX10 4) true := ⟨10, RX10, TX10, 13, tyX10, _, oX10, by decide, zw_in_p (ws := [Cond.fieldLink RX10 42 (TX10 4).1 (TX10 4).2.1 (TX10 4).2.2.1]) [330] (by decide +kernel) (by decide +kernel) _ List.mem_cons_self, rfl, rfl, rfl, rfl⟩
theorem fX10_51 : zw_F RX10 51 0 5 (some (some 16)) (tyX10 5) true := ⟨10, RX10, TX10, 13, tyX10, _, oX10, by decide, zw_in_p (ws := [Cond.fieldLink RX10 51 (TX10 5).1 (TX10 5).2.1 (TX10 5).2.2.1]) [331] (by decide +kernel) (by decide +kernel) _ List.mem_cons_self, rfl, rfl, rfl, rfl⟩
theorem fX10_60 : zw_F RX10 60 0 6 (some (some 19)) (tyX10 6) true := ⟨10, RX10, TX10, 13, tyX10, _, oX10, by decide, zw_in_p (ws := [Cond.fieldLink RX10 60 (TX10 6).1 (TX10 6).2.1 (TX10 6).2.2.1]) [332] (by decide +kernel) (by decide +kernel) _ List.mem_cons_self, rfl, rfl, rfl, rfl⟩
theorem fX10_67 : zw_F RX10 67 0 7 (some (some 24)) (tyX10 7) true := ⟨10, RX10, TX10, 13, tyX10, _, oX10, by decide, zw_in_p (ws := [Cond.fieldLink RX10 67 (TX10 7).1 (TX10 7).2.1 (TX10 7).2.2.1]) [333] (by decide +kernel) (by decide +kernel) _ List.mem_cons_self, rfl, rfl, rfl, rfl⟩
theorem fX10_74 : zw_F RX10 74 0 8 (some (some 27)) (tyX10 8) true := ⟨10, RX10, TX10, 13, tyX10, _, oX10, by decide, zw_in_p (ws := [Cond.fieldLink RX10 74 (TX10 8).1 (TX10 8).2.1 (TX10 8).2.2.1]) [334] (by decide +kernel) (by decide +kernel) _ List.mem_cons_self, rfl, rfl, rfl, rfl⟩
theorem fX10_81 : zw_F RX10 81 0 9 (some (some 31)) (tyX10 9) true := ⟨10, RX10, TX10, 13, tyX10, _, oX10, by decide, zw_in_p (ws := [Cond.fieldLink RX10 81 (TX10 9).1 (TX10 9).2.1 (TX10 9).2.2.1]) [335] (by decide +kernel) (by decide +kernel) _ List.mem_cons_self, rfl, rfl, rfl, rfl⟩
theorem fX10_118 : zw_F RX10 118 0 10 (none) (tyX10 10) false := ⟨10, RX10, TX10, 13, tyX10, _, oX10, by decide, zw_in_p (ws := [Cond.fieldLink RX10 118 (TX10 10).1 (TX10 10).2.1 (TX10 10).2.2.1]) [336] (by decide +kernel) (by decide +kernel) _ List.mem_cons_self, rfl, rfl, rfl, rfl⟩
theorem fX10_202 : zw_F RX10 202 0 11 (none) (tyX10 11) false := ⟨10, RX10, TX10, 13, tyX10, _, oX10, by decide, zw_in_p (ws := [Cond.fieldLink RX10 202 (TX10 11).1 (TX10 11).2.1 (TX10 11).2.2.1]) [337] (by decide +kernel) (by decide +kernel) _ List.mem_cons_self, rfl, rfl, rfl, rfl⟩
theorem fX10_229 : zw_F RX10 229 0 12 (none) (tyX10 12) false := ⟨10, RX10, TX10, 13, tyX10, _, oX10, by decide, zw_in_p (ws := [Cond.fieldLink RX10 229 (TX10 12).1 (TX10 12).2.1 (TX10 12).2.2.1]) [338] (by decide +kernel) (by decide +kernel) _ List.mem_cons_self, rfl, rfl, rfl, rfl⟩
theorem fX11_86 : zw_F RX11 86 33 0 (none) (tyX11 0) false := ⟨11, RX11, TX11, 40, tyX11, _, oX11, by decide, zw_in_p (ws := [Cond.fieldLink RX11 86 (TX11 0).1 (TX11 0).2.1 (TX11 0).2.2.1]) [952] (by decide +kernel) (by decide +kernel) _ List.mem_cons_self, rfl, rfl, rfl, rfl⟩
theorem fX11_89 : zw_F RX11 89 33 1 (none) (tyX11 1) false := ⟨11, RX11, TX11, 40, tyX11, _, oX11, by decide, zw_in_p (ws := [Cond.fieldLink RX11 89 (TX11 1).1 (TX11 1).2.1 (TX11 1).2.2.1]) [953] (by decide +kernel) (by decide +kernel) _ List.mem_cons_self, rfl, rfl, rfl, rfl⟩
theorem fX11_92 : zw_F RX11 92 33 2 (none) (tyX11 2) false := ⟨11, RX11, TX11, 40, tyX11, _, oX11, by decide, zw_in_p (ws := [Cond.fieldLink RX11 92 (TX11 2).1 (TX11 2).2.1 (TX11 2).2.2.1]) [954] (by decide +kernel) (by decide +kernel) _ List.mem_cons_self, rfl, rfl, rfl, rfl⟩
theorem fX11_98 : zw_F RX11 98 33 3 (none) (tyX11 3) false := ⟨11, RX11, TX11, 40, tyX11, _, oX11, by decide, zw_in_p (ws := [Cond.fieldLink RX11 98 (TX11 3).1 (TX11 3).2.1 (TX11 3).2.2.1]) [955] (by decide +kernel) (by decide +kernel) _ List.mem_cons_self, rfl, rfl, rfl, rfl⟩
theorem fX11_7 : zw_F RX11 7 33 4 (some (some 34)) (tyX11 4) true := ⟨11, RX11, TX11, 40, tyX11, _, oX11, by decide, zw_in_p (ws := [Cond.fieldLink RX11 7 (TX11 4).1 (TX11 4).2.1 (TX11 4).2.2.1]) [956] (by decide +kernel) (by decide +kernel) _ List.mem_cons_self, rfl, rfl, rfl, rfl⟩
theorem fX11_95 : zw_F RX11 95 33 5 (none) (tyX11 5) false := ⟨11, RX11, TX11, 40, tyX11, _, oX11, by decide, zw_in_p (ws := [Cond.fieldLink RX11 95 (TX11 5).1 (TX11 5).2.1 (TX11 5).2.2.1]) [957] (by decide +kernel) (by decide +kernel) _ List.mem_cons_self, rfl, rfl, rfl, rfl⟩
theorem fX11_13 : zw_F RX11 13 33 6 (some (some 35)) (tyX11 6) true := ⟨11, RX11, TX11, 40, tyX11, _, oX11, by decide, zw_in_p (ws := [Cond.fieldLink RX11 13 (TX11 6).1 (TX11 6).2.1 (TX11 6).2.2.1]) [958] (by decide +kernel) (by decide +kernel) _ List.mem_cons_self, rfl, rfl, rfl, rfl⟩
theorem fX11_16 : zw_F RX11 16 33 7 (some (some 36)) (tyX11 7) true := ⟨11, RX11, TX11, 40, tyX11, _, oX11, by decide, zw_in_p (ws := [Cond.fieldLink RX11 16 (TX11 7).1 (TX11 7).2.1 (TX11 7).2.2.1]) [959] (by decide +kernel) (by decide +kernel) _ List.mem_cons_self, rfl, rfl, rfl, rfl⟩
theorem fX11_19 : zw_F RX11 19 33 8 (some (some 37)) (tyX11 8) true := ⟨11, RX11, TX11, 40, tyX11, _, oX11, by decide, zw_in_p (ws := [Cond.fieldLink RX11 19 (TX11 8).1 (TX11 8).2.1 (TX11 8).2.2.1]) [960] (by decide +kernel) (by decide +kernel) _ List.mem_cons_self, rfl, rfl, rfl, rfl⟩
theorem fX11_173 : zw_F RX11 173 33 9 (none) (tyX11 9) false := ⟨11, RX11, TX11, 40, tyX11, _, oX11, by decide, zw_in_p (ws := [Cond.fieldLink RX11 173 (TX11 9).1 (TX11 9).2.1 (TX11 9).2.2.1]) [961] (by decide +kernel) (by decide +kernel) _ List.mem_cons_self, rfl, rfl, rfl, rfl⟩
theorem fX11_212 : zw_F RX11 212 33 10 (none) (tyX11 10) false := ⟨11, RX11, TX11, 40, tyX11, _, oX11, by decide, zw_in_p (ws := [Cond.fieldLink RX11 212 (TX11 10).1 (TX11 10).2.1 (TX11 10).2.2.1]) [962] (by decide +kernel) (by decide +kernel) _ List.mem_cons_self, rfl, rfl, rfl, rfl⟩
theorem fX11_52 : zw_F RX11 52 33 11 (none) (tyX11 11) false := ⟨11, RX11, TX11, 40, tyX11, _, oX11, by decide, zw_in_p (ws := [Cond.fieldLink RX11 52 (TX11 11).1 (TX11 11).2.1 (TX11 11).2.2.1]) [963] (by decide +kernel) (by decide +kernel) _ List.mem_cons_self, rfl, rfl, rfl, rfl⟩
theorem fX11_22 : zw_F RX11 22 33 12 (some (some 38)) (tyX11 12) true := ⟨11, RX11, TX11, 40, tyX11, _, oX11, by decide, zw_in_p (ws := [Cond.fieldLink RX11 22 (TX11 12).1 (TX11 12).2.1 (TX11 12).2.2.1]) [964] (by decide +kernel) (by decide +kernel) _ List.mem_cons_self, rfl, rfl, rfl, rfl⟩
theorem fX11_69 : zw_F RX11 69 33 13 (none) (tyX11 13) false := ⟨11, RX11, TX11, 40, tyX11, _, oX11, by decide, zw_in_p (ws := [Cond.fieldLink RX11 69 (TX11 13).1 (TX11 13).2.1 (TX11 13).2.2.1]) [965] (by decide +kernel) (by decide +kernel) _ List.mem_cons_self, rfl, rfl, rfl, rfl⟩
theorem fX11_72 : zw_F RX11 72 33 14 (none) (tyX11 14) false := ⟨11, RX11, TX11, 40, tyX11, _, oX11, by decide, zw_in_p (ws := [Cond.fieldLink RX11 72 (TX11 14).1 (TX11 14).2.1 (TX11 14).2.2.1]) [966] (by decide +kernel) (by decide +kernel) _ List.mem_cons_self, rfl, rfl, rfl, rfl⟩
theorem fX11_56 : zw_F RX11 56 33 15 (none) (tyX11 15) false := ⟨11, RX11, TX11, 40, tyX11, _, oX11, by decide, zw_in_p (ws := [Cond.fieldLink RX11 56 (TX11 15).1 (TX11 15).2.1 (TX11 15).2.2.1]) [967] (by decide +kernel) (by decide +kernel) _ List.mem_cons_self, rfl, rfl, rfl, rfl⟩
theorem fX11_59 : zw_F RX11 59 33 16 (none) (tyX11 16) false := ⟨11, RX11, TX11, 40, tyX11, _, oX11, by decide, zw_in_p (ws := [Cond.fieldLink RX11 59 (TX11 16).1 (TX11 16).2.1 (TX11 16).2.2.1]) [968] (by decide +kernel) (by decide +kernel) _ List.mem_cons_self, rfl, rfl, rfl, rfl⟩
theorem fX11_62 : zw_F RX11 62 33 17 (none) (tyX11 17) false := ⟨11, RX11, TX11, 40, tyX11, _, oX11, by decide, zw_in_p (ws := [Cond.fieldLink RX11 62 (TX11 17).1 (TX11 17).2.1 (TX11 17).2.2.1]) [969] (by decide +kernel) (by decide +kernel) _ List.mem_cons_self, rfl, rfl, rfl, rfl⟩
theorem fX11_26 : zw_F RX11 26 33 18 (some (some 39)) (tyX11 18) true := ⟨11, RX11, TX11, 40, tyX11, _, oX11, by decide, zw_in_p (ws := [Cond.fieldLink RX11 26 (TX11 18).1 (TX11 18).2.1 (TX11 18).2.2.1]) [970] (by decide +kernel) (by decide +kernel) _ List.mem_cons_self, rfl, rfl, rfl, rfl⟩
theorem fX11_132 : zw_F RX11 132 33 19 (none) (tyX11 19) false := ⟨11, RX11, TX11, 40, tyX11, _, oX11, by decide, zw_in_p (ws := [Cond.fieldLink RX11 132 (TX11 19).1 (TX11 19).2.1 (TX11 19).2.2.1]) [971] (by decide +kernel) (by decide +kernel) _ List.mem_cons_self, rfl, rfl, rfl, rfl⟩
theorem fX11_129 : zw_F RX11 129 33 20 (none) (tyX11 20) false := ⟨11, RX11, TX11, 40, tyX11, _, oX11, by decide, zw_in_p (ws := [Cond.fieldLink RX11 129 (TX11 20).1 (TX11 20).2.1 (TX11 20).2.2.1]) [972] (by decide +kernel) (by decide +kernel) _ List.mem_cons_self, rfl, rfl, rfl, rfl⟩
theorem fX11_135 : zw_F RX11 135 33 21 (none) (tyX11 21) false := ⟨11, RX11, TX11, 40, tyX11, _, oX11, by decide, zw_in_p (ws := [Cond.fieldLink RX11 135 (TX11 21).1 (TX11 21).2.1 (TX11 21).2.2.1]) [973] (by decide +kernel) (by decide +kernel) _ List.mem_cons_self, rfl, rfl, rfl, rfl⟩
theorem fX11_29 : zw_F RX11 29 33 22 (some (some 40)) (tyX11 22) true := ⟨11, RX11, TX11, 40, tyX11, _, oX11, by decide, zw_in_p (ws := [Cond.fieldLink RX11 29 (TX11 22).1 (TX11 22).2.1 (TX11 22).2.2.1]) [974] (by decide +kernel) (by decide +kernel) _ List.mem_cons_self, rfl, rfl, rfl, rfl⟩
theorem fX11_32 : zw_F RX11 32 33 23 (some (some 41)) (tyX11 23) true := ⟨11, RX11, TX11, 40, tyX11, _, oX11, by decide, zw_in_p (ws := [Cond.fieldLink RX11 32 (TX11 23).1 (TX11 23).2.1 (TX11 23).2.2.1]) [975] (by decide +kernel) (by decide +kernel) _ List.mem_cons_self, rfl, rfl, rfl, rfl⟩
theorem fX11_35 : zw_F RX11 35 33 24 (some (some 42)) (tyX11 24) true := ⟨11, RX11, TX11, 40, tyX11, _, oX11, by decide, zw_in_p (ws := [Cond.fieldLink RX11 35 (TX11 24).1 (TX11 24).2.1 (TX11 24).2.2.1]) [976] (by decide +kernel) (by decide +kernel) _ List.mem_cons_self, rfl, rfl, rfl, rfl⟩
theorem fX11_38 : zw_F RX11 38 33 25 (some (some 43)) (tyX11 25) true := ⟨11, RX11, TX11, 40, tyX11, _, oX11, by decide, zw_in_p (ws := [Cond.fieldLink RX11 38 (TX11 25).1 (TX11 25).2.1 (TX11 25).2.2.1]) [977] (by decide +kernel) (by decide +kernel) _ List.mem_cons_self, rfl, rfl, rfl, rfl⟩
theorem fX11_152 : zw_F RX11 152 33 26 (none) (tyX11 26) false := ⟨11, RX11, TX11, 40, tyX11, _, oX11, by decide, zw_in_p (ws := [Cond.fieldLink RX11 152 (TX11 26).1 (TX11 26).2.1 (TX11 26).2.2.1]) [978] (by decide +kernel) (by decide +kernel) _ List.mem_cons_self, rfl, rfl, rfl, rfl⟩
theorem fX11_155 : zw_F RX11 155 33 27 (none) (tyX11 27) false := ⟨11, RX11, TX11, 40, tyX11, _, oX11, by decide, zw_in_p (ws := [Cond.fieldLink RX11 155 (TX11 27).1 (TX11 27).2.1 (TX11 27).2.2.1]) [979] (by decide +kernel) (by decide +kernel) _ List.mem_cons_self, rfl, rfl, rfl, rfl⟩
theorem fX11_41 : zw_F RX11 41 33 28 (some (some 44)) (tyX11 28) true := ⟨11, RX11, TX11, 40, tyX11, _, oX11, by decide, zw_in_p (ws := [Cond.fieldLink RX11 41 (TX11 28).1 (TX11 28).2.1 (TX11 28).2.2.1]) [980] (by decide +kernel) (by decide +kernel) _ List.mem_cons_self, rfl, rfl, rfl, rfl⟩
theorem fX11_44 : zw_F RX11 44 33 29 (some (some 45)) (tyX11 29) true := ⟨11, RX11, TX11, 40, tyX11, _, oX11, by decide, zw_in_p (ws := [Cond.fieldLink RX11 44 (TX11 29).1 (TX11 29).2.1 (TX11 29).2.2.1]) [981] (by decide +kernel) (by decide +kernel) _ List.mem_cons_self, rfl, rfl, rfl, rfl⟩
theorem fX11_203 : zw_F RX11 203 33 30 (none) (tyX11 30) false := ⟨11, RX11, TX11, 40, tyX11, _, oX11, by decide, zw_in_p (ws := [Cond.fieldLink RX11 203 (TX11 30).1 (TX11 30).2.1 (TX11 30).2.2.1]) [982] (by decide +kernel) (by decide +kernel) _ List.mem_cons_self, rfl, rfl, rfl, rfl⟩
theorem fX11_206 : zw_F RX11 206 33 31 (none) (tyX11 31) false := ⟨11, RX11, TX11, 40, tyX11, _, oX11, by decide, zw_in_p (ws := [Cond.fieldLink RX11 206 (TX11 31).1 (TX11 31).2.1 (TX11 31).2.2.1]) [983] (by decide +kernel) (by decide +kernel) _ List.mem_cons_self, rfl, rfl, rfl, rfl⟩
theorem fX11_194 : zw_F RX11 194 33 32 (none) (tyX11 32) false := ⟨11, RX11, TX11, 40, tyX11, _, oX11, by decide, zw_in_p (ws := [Cond.fieldLink RX11 194 (TX11 32).1 (TX11 32).2.1 (TX11 32).2.2.1]) [984] (by decide +kernel) (by decide +kernel) _ List.mem_cons_self, rfl, rfl, rfl, rfl⟩
theorem fX11_197 : zw_F RX11 197 33 33 (none) (tyX11 33) false := ⟨11, RX11, TX11, 40, tyX11, _, oX11, by decide, zw_in_p (ws := [Cond.fieldLink RX11 197 (TX11 33).1 (TX11 33).2.1 (TX11 33).2.2.1]) [985] (by decide +kernel) (by decide +kernel) _ List.mem_cons_self, rfl, rfl, rfl, rfl⟩
theorem fX11_249 : zw_F RX11 249 33 34 (some none) (tyX11 34) false := ⟨11, RX11, TX11, 40, tyX11, _, oX11, by decide, zw_in_p (ws := [Cond.fieldLink RX11 249 (TX11 34).1 (TX11 34).2.1 (TX11 34).2.2.1]) [986] (by decide +kernel) (by decide +kernel) _ List.mem_cons_self, rfl, rfl, rfl, rfl⟩
theorem fX11_269 : zw_F RX11 269 33 35 (none) (tyX11 35) false := ⟨11, RX11, TX11, 40, tyX11, _, oX11, by decide, zw_in_p (ws := [Cond.fieldLink RX11 269 (TX11 35).1 (TX11 35).2.1 (TX11 35).2.2.1]) [987] (by decide +kernel) (by decide +kernel) _ List.mem_cons_self, rfl, rfl, rfl, rfl⟩
theorem fX11_272 : zw_F RX11 272 33 36 (none) (tyX11 36) false := ⟨11, RX11, TX11, 40, tyX11, _, oX11, by decide, zw_in_p (ws := [Cond.fieldLink RX11 272 (TX11 36).1 (TX11 36).2.1 (TX11 36).2.2.1]) [988] (by decide +kernel) (by decide +kernel) _ List.mem_cons_self, rfl, rfl, rfl, rfl⟩
theorem fX11_275 : zw_F RX11 275 33 37 (none) (tyX11 37) false := ⟨11, RX11, TX11, 40, tyX11, _, oX11, by decide, zw_in_p (ws := [Cond.fieldLink RX11 275 (TX11 37).1 (TX11 37).2.1 (TX11 37).2.2.1]) [989] (by decide +kernel) (by decide +kernel) _ List.mem_cons_self, rfl, rfl, rfl, rfl⟩
theorem fX11_47 : zw_F RX11 47 33 38 (some (some 46)) (tyX11 38) true := ⟨11, RX11, TX11, 40, tyX11, _, oX11, by decide, zw_in_p (ws := [Cond.fieldLink RX11 47 (TX11 38).1 (TX11 38).2.1 (TX11 38).2.2.1]) [990] (by decide +kernel) (by decide +kernel) _ List.mem_cons_self, rfl, rfl, rfl, rfl⟩
theorem fX11_286 : zw_F RX11 286 33 39 (some none) (tyX11 39) false := ⟨11, RX11, TX11, 40, tyX11, _, oX11, by decide, zw_in_p (ws := [Cond.fieldLink RX11 286 (TX11 39).1 (TX11 39).2.1 (TX11 39).2.2.1]) [991] (by decide +kernel) (by decide +kernel) _ List.mem_cons_self, rfl, rfl, rfl, rfl⟩
theorem kX3_27 : Cond.constantLong RX3 27 (255) ∈ zs_G := zw_in_p (ws := [Cond.constantLong RX3 27 (255)]) [380] (by decide +kernel) (by decide +kernel) _ List.mem_cons_self
theorem kX10_129 : Cond.constant RX10 129 (-100101) ∈ zs_G := zw_in_p (ws := [Cond.constant RX10 129 (-100101)]) [469] (by decide +kernel) (by decide +kernel) _ List.mem_cons_self
theorem kX10_140 : Cond.constant RX10 140 (-100102) ∈ zs_G := zw_in_p (ws := [Cond.constant RX10 140 (-100102)]) [483] (by decide +kernel) (by decide +kernel) _ List.mem_cons_self
theorem kX10_188 : Cond.constant RX10 188 (-1000101) ∈ zs_G := zw_in_p (ws := [Cond.constant RX10 188 (-1000101)]) [585] (by decide +kernel) (by decide +kernel) _ List.mem_cons_self
theorem kJ6_265 : Cond.constant RJ6 265 (1431655765) ∈ zs_G := zw_in_p (ws := [Cond.constant RJ6 265 (1431655765)]) [624] (by decide +kernel) (by decide +kernel) _ List.mem_cons_self
theorem kJ6_266 : Cond.constant RJ6 266 (858993459) ∈ zs_G := zw_in_p (ws := [Cond.constant RJ6 266 (858993459)]) [625] (by decide +kernel) (by decide +kernel) _ List.mem_cons_self
theorem kJ6_267 : Cond.constant RJ6 267 (252645135) ∈ zs_G := zw_in_p (ws := [Cond.constant RJ6 267 (252645135)]) [626] (by decide +kernel) (by decide +kernel) _ List.mem_cons_self
theorem kX7_88 : Cond.constant RX7 88 (1000000) ∈ zs_G := zw_in_p (ws := [Cond.constant RX7 88 (1000000)]) [736] (by decide +kernel) (by decide +kernel) _ List.mem_cons_self
theorem kX6_80 : Cond.constantLong RX6 80 (1103515245) ∈ zs_G := zw_in_p (ws := [Cond.constantLong RX6 80 (1103515245)]) [882] (by decide +kernel) (by decide +kernel) _ List.mem_cons_self
theorem kX6_82 : Cond.constantLong RX6 82 (12345) ∈ zs_G := zw_in_p (ws := [Cond.constantLong RX6 82 (12345)]) [883] (by decide +kernel) (by decide +kernel) _ List.mem_cons_self
theorem kX6_84 : Cond.constantLong RX6 84 (2147483647) ∈ zs_G := zw_in_p (ws := [Cond.constantLong RX6 84 (2147483647)]) [884] (by decide +kernel) (by decide +kernel) _ List.mem_cons_self
theorem kX6_86 : Cond.constantLong RX6 86 (65536) ∈ zs_G := zw_in_p (ws := [Cond.constantLong RX6 86 (65536)]) [885] (by decide +kernel) (by decide +kernel) _ List.mem_cons_self
theorem kX6_88 : Cond.constantLong RX6 88 (5) ∈ zs_G := zw_in_p (ws := [Cond.constantLong RX6 88 (5)]) [886] (by decide +kernel) (by decide +kernel) _ List.mem_cons_self
theorem kX10_274 : Cond.constantLong RX10 274 (613) ∈ zs_G := zw_in_p (ws := [Cond.constantLong RX10 274 (613)]) [931] (by decide +kernel) (by decide +kernel) _ List.mem_cons_self
theorem kX10_293 : Cond.constantLong RX10 293 (31) ∈ zs_G := zw_in_p (ws := [Cond.constantLong RX10 293 (31)]) [935] (by decide +kernel) (by decide +kernel) _ List.mem_cons_self
theorem kX11_50 : Cond.constantLong RX11 50 (255) ∈ zs_G := zw_in_p (ws := [Cond.constantLong RX11 50 (255)]) [1078] (by decide +kernel) (by decide +kernel) _ List.mem_cons_self
theorem kX11_105 : Cond.constant RX11 105 (-100101) ∈ zs_G := zw_in_p (ws := [Cond.constant RX11 105 (-100101)]) [1113] (by decide +kernel) (by decide +kernel) _ List.mem_cons_self
theorem kX11_106 : Cond.constant RX11 106 (-100102) ∈ zs_G := zw_in_p (ws := [Cond.constant RX11 106 (-100102)]) [1114] (by decide +kernel) (by decide +kernel) _ List.mem_cons_self
theorem kX11_142 : Cond.constant RX11 142 (-1000101) ∈ zs_G := zw_in_p (ws := [Cond.constant RX11 142 (-1000101)]) [1178] (by decide +kernel) (by decide +kernel) _ List.mem_cons_self
theorem kX11_166 : Cond.constant RX11 166 (1048576) ∈ zs_G := zw_in_p (ws := [Cond.constant RX11 166 (1048576)]) [1203] (by decide +kernel) (by decide +kernel) _ List.mem_cons_self
theorem kX11_247 : Cond.constantLong RX11 247 (1103515245) ∈ zs_G := zw_in_p (ws := [Cond.constantLong RX11 247 (1103515245)]) [1322] (by decide +kernel) (by decide +kernel) _ List.mem_cons_self
theorem kX11_253 : Cond.constantLong RX11 253 (12345) ∈ zs_G := zw_in_p (ws := [Cond.constantLong RX11 253 (12345)]) [1323] (by decide +kernel) (by decide +kernel) _ List.mem_cons_self
theorem kX11_255 : Cond.constantLong RX11 255 (2147483647) ∈ zs_G := zw_in_p (ws := [Cond.constantLong RX11 255 (2147483647)]) [1324] (by decide +kernel) (by decide +kernel) _ List.mem_cons_self
theorem kX11_257 : Cond.constantLong RX11 257 (65536) ∈ zs_G := zw_in_p (ws := [Cond.constantLong RX11 257 (65536)]) [1325] (by decide +kernel) (by decide +kernel) _ List.mem_cons_self
theorem kX11_293 : Cond.constantLong RX11 293 (613) ∈ zs_G := zw_in_p (ws := [Cond.constantLong RX11 293 (613)]) [1350] (by decide +kernel) (by decide +kernel) _ List.mem_cons_self
theorem kX11_284 : Cond.constantLong RX11 284 (31) ∈ zs_G := zw_in_p (ws := [Cond.constantLong RX11 284 (31)]) [1355] (by decide +kernel) (by decide +kernel) _ List.mem_cons_self
theorem kL_13 : Cond.constantLong RL 13 (4294967295) ∈ zs_G := zw_in_p (ws := [Cond.constantLong RL 13 (4294967295)]) [1360] (by decide +kernel) (by decide +kernel) _ List.mem_cons_self
theorem acX9_94 : zw_in [Cond.methodLink RX9 94 arraycopyName, .native arraycopyName, .static arraycopyName, .initialized "java/lang/System"] := zw_in_p [653, 655, 654, 76] (by decide +kernel) (by decide +kernel)
theorem mxX0_68 : zw_in [Cond.methodLink RX0 68 Lib.Math.max.name, .static Lib.Math.max.name, .initialized "java/lang/Math", .code Lib.Math.max.name Lib.Math.max.code 2 (some .int)] := zw_in_p [742, 743, 77, 744] (by decide +kernel) (by decide +kernel)
theorem acX8_63 : zw_in [Cond.methodLink RX8 63 arraycopyName, .native arraycopyName, .static arraycopyName, .initialized "java/lang/System"] := zw_in_p [905, 655, 654, 76] (by decide +kernel) (by decide +kernel)
end
section
/-! whole numbers on the stack: every int is zn_I of an integer -/
def zn_I (z : Int) : Int32 := Int32.ofInt z
def zn_B (p : Prop) [Decidable p] : Int32 := if p then zn_I 1 else zn_I 0
theorem zn_nat (n : Nat) : nI n = zn_I (n : Int) := by
  apply Int32.toBitVec_inj.1
  simp [nI, zn_I, Int32.ofInt, Int32.ofNat]
theorem zn_add (a b : Int) : zn_I a + zn_I b = zn_I (a + b) := (Int32.ofInt_add a b).symm
theorem zn_mul (a b : Int) : zn_I a * zn_I b = zn_I (a * b) := (Int32.ofInt_mul a b).symm
theorem zn_neg (a : Int) : -zn_I a = zn_I (-a) := (Int32.ofInt_neg a).symm
theorem zn_sub (a b : Int) : zn_I a - zn_I b = zn_I (a - b) := by
  rw [Int32.sub_eq_add_neg, zn_neg, zn_add, Int.sub_eq_add_neg]
theorem zn_toInt {z : Int} (h : -2147483648 ≤ z ∧ z < 2147483648) : (zn_I z).toInt = z := by
  have h2 : z.bmod (2 ^ 32) = z := by rw [Int.bmod_eq_of_le (by omega) (by omega)]
  rw [zn_I, Int32.toInt_ofInt]
  exact h2
theorem zn_self (x : Int32) : zn_I x.toInt = x := Int32.ofInt_toInt x
theorem zn_rng (x : Int32) : -2147483648 ≤ x.toInt ∧ x.toInt < 2147483648 := by
  have h1 := Int32.le_toInt x
  have h2 := Int32.toInt_lt x
  omega
/-- any int is one of an integer in range -/
theorem zn_ex (x : Int32) : ∃ z : Int, -2147483648 ≤ z ∧ z < 2147483648 ∧ x = zn_I z := ⟨x.toInt, (zn_rng x).1, (zn_rng x).2, (zn_self x).symm⟩
theorem zn_lt {a b : Int} (h : -2147483648 ≤ a ∧ a < 2147483648 ∧ -2147483648 ≤ b ∧ b < 2147483648) : zn_I a < zn_I b ↔ a < b := by
  rw [Int32.lt_iff_toInt_lt, zn_toInt ⟨h.1, h.2.1⟩, zn_toInt ⟨h.2.2.1, h.2.2.2⟩]
theorem zn_le {a b : Int} (h : -2147483648 ≤ a ∧ a < 2147483648 ∧ -2147483648 ≤ b ∧ b < 2147483648) : zn_I a ≤ zn_I b ↔ a ≤ b := by
  rw [Int32.le_iff_toInt_le, zn_toInt ⟨h.1, h.2.1⟩, zn_toInt ⟨h.2.2.1, h.2.2.2⟩]
theorem zn_eq {a b : Int} (h : -2147483648 ≤ a ∧ a < 2147483648 ∧ -2147483648 ≤ b ∧ b < 2147483648) : zn_I a = zn_I b ↔ a = b := by
  rw [← Int32.toInt_inj, zn_toInt ⟨h.1, h.2.1⟩, zn_toInt ⟨h.2.2.1, h.2.2.2⟩]
theorem zn_0 : (0 : Int32) = zn_I 0 := rfl
theorem zn_1 : (1 : Int32) = zn_I 1 := rfl
theorem zn_Bt {p : Prop} [Decidable p] (h : p) : zn_I 1 = zn_B p := by rw [zn_B, if_pos h]
theorem zn_Bf {p : Prop} [Decidable p] (h : ¬ p) : zn_I 0 = zn_B p := by rw [zn_B, if_neg h]
theorem zn_Bc {p q : Prop} [Decidable p] [Decidable q] (h : p ↔ q) : zn_B p = zn_B q := by
  by_cases hp : p
  · rw [zn_B, zn_B, if_pos hp, if_pos (h.mp hp)]
  · rw [zn_B, zn_B, if_neg hp, if_neg (fun z => hp (h.mpr z))]
theorem zn_vi {i : Int} {n : Nat} (h0 : 0 ≤ i) (h1 : i < n) (hn : n ≤ 1000) : vp_in (zn_I i) n ∧ (zn_I i).toNatClampNeg = i.toNat := by
  have e : (zn_I i).toInt = i := zn_toInt ⟨by omega, by omega⟩
  have e2 : (zn_I i).toNatClampNeg = i.toNat := by
    show (zn_I i).toInt.toNat = _
    rw [e]
  refine ⟨?_, e2⟩
  rw [vp_in_iff, e]
  exact ⟨h0, h1⟩
theorem zy_iadd {l : Launch} {d : Nat} {y : zw_I} {Q : Option Value → zw_M → Prop} {pc : Nat} {L st : List Value} {M : zw_M} {a b : Int} (hd : decode y.2.1 pc = .ok (.iadd, 1)) (k : zw_X l d y Q (pc + 1) L (.int (zn_I (a + b)) :: st) M) : zw_X l d y Q pc L (.int (zn_I b) :: .int (zn_I a) :: st) M := zx_iadd hd (by rw [zn_add]; exact k)
theorem zy_isub {l : Launch} {d : Nat} {y : zw_I} {Q : Option Value → zw_M → Prop} {pc : Nat} {L st : List Value} {M : zw_M} {a b : Int} (hd : decode y.2.1 pc = .ok (.isub, 1)) (k : zw_X l d y Q (pc + 1) L (.int (zn_I (a - b)) :: st) M) : zw_X l d y Q pc L (.int (zn_I b) :: .int (zn_I a) :: st) M := zx_isub hd (by rw [zn_sub]; exact k)
theorem zy_imul {l : Launch} {d : Nat} {y : zw_I} {Q : Option Value → zw_M → Prop} {pc : Nat} {L st : List Value} {M : zw_M} {a b : Int} (hd : decode y.2.1 pc = .ok (.imul, 1)) (k : zw_X l d y Q (pc + 1) L (.int (zn_I (a * b)) :: st) M) : zw_X l d y Q pc L (.int (zn_I b) :: .int (zn_I a) :: st) M := zx_imul hd (by rw [zn_mul]; exact k)
theorem zy_iinc {l : Launch} {d : Nat} {y : zw_I} {Q : Option Value → zw_M → Prop} {pc : Nat} {L st : List Value} {M : zw_M} {i : Nat} {n a : Int} (hd : decode y.2.1 pc = .ok (.iinc i n, 3)) (hl : L[i]? = some (.int (zn_I a))) (ho : zw_ok L i = true) (k : zw_X l d y Q (pc + 3) (L.set i (.int (zn_I (a + n)))) st M) : zw_X l d y Q pc L st M := zx_iinc (v := zn_I n) hd hl rfl ho (by rw [zn_add]; exact k)
theorem zy_idiv {l : Launch} {d : Nat} {y : zw_I} {Q : Option Value → zw_M → Prop} {pc : Nat} {L st : List Value} {M : zw_M} {a b : Nat} (hd : decode y.2.1 pc = .ok (.idiv, 1)) (h : a < 2147483648 ∧ 0 < b ∧ b < 2147483648) (k : zw_X l d y Q (pc + 1) L (.int (zn_I ((a / b : Nat) : Int)) :: st) M) : zw_X l d y Q pc L (.int (zn_I (b : Int)) :: .int (zn_I (a : Int)) :: st) M := by
  have hb : ¬ zn_I (b : Int) = 0 := by rw [zn_0, zn_eq ⟨by omega, by omega, by omega, by omega⟩]; omega
  refine zx_idiv hd hb ?_
  rw [← zn_nat, ← zn_nat, pk_div h.1 h.2.1 h.2.2, zn_nat]
  exact k
theorem zy_irem {l : Launch} {d : Nat} {y : zw_I} {Q : Option Value → zw_M → Prop} {pc : Nat} {L st : List Value} {M : zw_M} {a b : Nat} (hd : decode y.2.1 pc = .ok (.irem, 1)) (h : a < 2147483648 ∧ 0 < b ∧ b < 2147483648) (k : zw_X l d y Q (pc + 1) L (.int (zn_I ((a % b : Nat) : Int)) :: st) M) : zw_X l d y Q pc L (.int (zn_I (b : Int)) :: .int (zn_I (a : Int)) :: st) M := by
  have hb : ¬ zn_I (b : Int) = 0 := by rw [zn_0, zn_eq ⟨by omega, by omega, by omega, by omega⟩]; omega
  refine zx_irem hd hb ?_
  rw [← zn_nat, ← zn_nat, pk_rem h.1 h.2.1 h.2.2, zn_nat]
  exact k
theorem zy_top {l : Launch} {d : Nat} {y : zw_I} {Q : Option Value → zw_M → Prop} {pc : Nat} {L st : List Value} {M : zw_M} {a b : Int32} (h : a = b) (k : zw_X l d y Q pc L (.int b :: st) M) : zw_X l d y Q pc L (.int a :: st) M := by rw [h]; exact k
theorem zy_loc {l : Launch} {d : Nat} {y : zw_I} {Q : Option Value → zw_M → Prop} {pc : Nat} {L st : List Value} {M : zw_M} {L1 : List Value} (h : L = L1) (k : zw_X l d y Q pc L1 st M) : zw_X l d y Q pc L st M := by rw [h]; exact k
theorem zy_mem {l : Launch} {d : Nat} {y : zw_I} {Q : Option Value → zw_M → Prop} {pc : Nat} {L st : List Value} {M : zw_M} {M1 : zw_M} (h : M = M1) (k : zw_X l d y Q pc L st M1) : zw_X l d y Q pc L st M := by rw [h]; exact k
theorem zy_if_eq {l : Launch} {d : Nat} {y : zw_I} {Q : Option Value → zw_M → Prop} {pc : Nat} {L st : List Value} {M : zw_M} {a : Int} {off : Int} {tgt : Nat} (hd : decode y.2.1 pc = .ok (.ifCond .eq off, 3)) (ht : (pc : Int) + off = (tgt : Int)) (hr : -2147483648 ≤ a ∧ a < 2147483648) (kt : a = 0 → zw_X l d y Q tgt L st M) (kf : ¬ a = 0 → zw_X l d y Q (pc + 3) L st M) : zw_X l d y Q pc L (.int (zn_I a) :: st) M := by
  have e : (zn_I a = zn_I 0) ↔ (a = 0) := zn_eq ⟨by omega, by omega, by omega, by omega⟩
  exact zx_if_eq hd ht (fun h => kt (by first | exact e.mp h | exact fun z => h (e.mpr z))) (fun h => kf (by first | exact e.mp h | exact fun z => h (e.mpr z)))
theorem zy_icmp_eq {l : Launch} {d : Nat} {y : zw_I} {Q : Option Value → zw_M → Prop} {pc : Nat} {L st : List Value} {M : zw_M} {a b : Int} {off : Int} {tgt : Nat} (hd : decode y.2.1 pc = .ok (.if_icmp .eq off, 3)) (ht : (pc : Int) + off = (tgt : Int)) (hr : -2147483648 ≤ a ∧ a < 2147483648 ∧ -2147483648 ≤ b ∧ b < 2147483648) (kt : a = b → zw_X l d y Q tgt L st M) (kf : ¬ a = b → zw_X l d y Q (pc + 3) L st M) : zw_X l d y Q pc L (.int (zn_I b) :: .int (zn_I a) :: st) M := by
  have e : (zn_I a = zn_I b) ↔ (a = b) := zn_eq ⟨by omega, by omega, by omega, by omega⟩
  exact zx_icmp_eq hd ht (fun h => kt (by first | exact e.mp h | exact fun z => h (e.mpr z))) (fun h => kf (by first | exact e.mp h | exact fun z => h (e.mpr z)))
theorem zy_if_ne {l : Launch} {d : Nat} {y : zw_I} {Q : Option Value → zw_M → Prop} {pc : Nat} {L st : List Value} {M : zw_M} {a : Int} {off : Int} {tgt : Nat} (hd : decode y.2.1 pc = .ok (.ifCond .ne off, 3)) (ht : (pc : Int) + off = (tgt : Int)) (hr : -2147483648 ≤ a ∧ a < 2147483648) (kt : ¬ a = 0 → zw_X l d y Q tgt L st M) (kf : a = 0 → zw_X l d y Q (pc + 3) L st M) : zw_X l d y Q pc L (.int (zn_I a) :: st) M := by
  have e : (zn_I a = zn_I 0) ↔ (a = 0) := zn_eq ⟨by omega, by omega, by omega, by omega⟩
  exact zx_if_ne hd ht (fun h => kt (by first | exact e.mp h | exact fun z => h (e.mpr z))) (fun h => kf (by first | exact e.mp h | exact fun z => h (e.mpr z)))
theorem zy_icmp_ne {l : Launch} {d : Nat} {y : zw_I} {Q : Option Value → zw_M → Prop} {pc : Nat} {L st : List Value} {M : zw_M} {a b : Int} {off : Int} {tgt : Nat} (hd : decode y.2.1 pc = .ok (.if_icmp .ne off, 3)) (ht : (pc : Int) + off = (tgt : Int)) (hr : -2147483648 ≤ a ∧ a < 2147483648 ∧ -2147483648 ≤ b ∧ b < 2147483648) (kt : ¬ a = b → zw_X l d y Q tgt L st M) (kf : a = b → zw_X l d y Q (pc + 3) L st M) : zw_X l d y Q pc L (.int (zn_I b) :: .int (zn_I a) :: st) M := by
  have e : (zn_I a = zn_I b) ↔ (a = b) := zn_eq ⟨by omega, by omega, by omega, by omega⟩
  exact zx_icmp_ne hd ht (fun h => kt (by first | exact e.mp h | exact fun z => h (e.mpr z))) (fun h => kf (by first | exact e.mp h | exact fun z => h (e.mpr z)))
theorem zy_if_lt {l : Launch} {d : Nat} {y : zw_I} {Q : Option Value → zw_M → Prop} {pc : Nat} {L st : List Value} {M : zw_M} {a : Int} {off : Int} {tgt : Nat} (hd : decode y.2.1 pc = .ok (.ifCond .lt off, 3)) (ht : (pc : Int) + off = (tgt : Int)) (hr : -2147483648 ≤ a ∧ a < 2147483648) (kt : a < 0 → zw_X l d y Q tgt L st M) (kf : ¬ a < 0 → zw_X l d y Q (pc + 3) L st M) : zw_X l d y Q pc L (.int (zn_I a) :: st) M := by
  have e : (zn_I a < zn_I 0) ↔ (a < 0) := zn_lt ⟨by omega, by omega, by omega, by omega⟩
  exact zx_if_lt hd ht (fun h => kt (by first | exact e.mp h | exact fun z => h (e.mpr z))) (fun h => kf (by first | exact e.mp h | exact fun z => h (e.mpr z)))
theorem zy_icmp_lt {l : Launch} {d : Nat} {y : zw_I} {Q : Option Value → zw_M → Prop} {pc : Nat} {L st : List Value} {M : zw_M} {a b : Int} {off : Int} {tgt : Nat} (hd : decode y.2.1 pc = .ok (.if_icmp .lt off, 3)) (ht : (pc : Int) + off = (tgt : Int)) (hr : -2147483648 ≤ a ∧ a < 2147483648 ∧ -2147483648 ≤ b ∧ b < 2147483648) (kt : a < b → zw_X l d y Q tgt L st M) (kf : ¬ a < b → zw_X l d y Q (pc + 3) L st M) : zw_X l d y Q pc L (.int (zn_I b) :: .int (zn_I a) :: st) M := by
  have e : (zn_I a < zn_I b) ↔ (a < b) := zn_lt ⟨by omega, by omega, by omega, by omega⟩
  exact zx_icmp_lt hd ht (fun h => kt (by first | exact e.mp h | exact fun z => h (e.mpr z))) (fun h => kf (by first | exact e.mp h | exact fun z => h (e.mpr z)))
theorem zy_if_ge {l : Launch} {d : Nat} {y : zw_I} {Q : Option Value → zw_M → Prop} {pc : Nat} {L st : List Value} {M : zw_M} {a : Int} {off : Int} {tgt : Nat} (hd : decode y.2.1 pc = .ok (.ifCond .ge off, 3)) (ht : (pc : Int) + off = (tgt : Int)) (hr : -2147483648 ≤ a ∧ a < 2147483648) (kt : 0 ≤ a → zw_X l d y Q tgt L st M) (kf : ¬ 0 ≤ a → zw_X l d y Q (pc + 3) L st M) : zw_X l d y Q pc L (.int (zn_I a) :: st) M := by
  have e : (zn_I 0 ≤ zn_I a) ↔ (0 ≤ a) := zn_le ⟨by omega, by omega, by omega, by omega⟩
  exact zx_if_ge hd ht (fun h => kt (by first | exact e.mp h | exact fun z => h (e.mpr z))) (fun h => kf (by first | exact e.mp h | exact fun z => h (e.mpr z)))
theorem zy_icmp_ge {l : Launch} {d : Nat} {y : zw_I} {Q : Option Value → zw_M → Prop} {pc : Nat} {L st : List Value} {M : zw_M} {a b : Int} {off : Int} {tgt : Nat} (hd : decode y.2.1 pc = .ok (.if_icmp .ge off, 3)) (ht : (pc : Int) + off = (tgt : Int)) (hr : -2147483648 ≤ a ∧ a < 2147483648 ∧ -2147483648 ≤ b ∧ b < 2147483648) (kt : b ≤ a → zw_X l d y Q tgt L st M) (kf : ¬ b ≤ a → zw_X l d y Q (pc + 3) L st M) : zw_X l d y Q pc L (.int (zn_I b) :: .int (zn_I a) :: st) M := by
  have e : (zn_I b ≤ zn_I a) ↔ (b ≤ a) := zn_le ⟨by omega, by omega, by omega, by omega⟩
  exact zx_icmp_ge hd ht (fun h => kt (by first | exact e.mp h | exact fun z => h (e.mpr z))) (fun h => kf (by first | exact e.mp h | exact fun z => h (e.mpr z)))
theorem zy_if_gt {l : Launch} {d : Nat} {y : zw_I} {Q : Option Value → zw_M → Prop} {pc : Nat} {L st : List Value} {M : zw_M} {a : Int} {off : Int} {tgt : Nat} (hd : decode y.2.1 pc = .ok (.ifCond .gt off, 3)) (ht : (pc : Int) + off = (tgt : Int)) (hr : -2147483648 ≤ a ∧ a < 2147483648) (kt : 0 < a → zw_X l d y Q tgt L st M) (kf : ¬ 0 < a → zw_X l d y Q (pc + 3) L st M) : zw_X l d y Q pc L (.int (zn_I a) :: st) M := by
  have e : (zn_I 0 < zn_I a) ↔ (0 < a) := zn_lt ⟨by omega, by omega, by omega, by omega⟩
  exact zx_if_gt hd ht (fun h => kt (by first | exact e.mp h | exact fun z => h (e.mpr z))) (fun h => kf (by first | exact e.mp h | exact fun z => h (e.mpr z)))
theorem zy_icmp_gt {l : Launch} {d : Nat} {y : zw_I} {Q : Option Value → zw_M → Prop} {pc : Nat} {L st : List Value} {M : zw_M} {a b : Int} {off : Int} {tgt : Nat} (hd : decode y.2.1 pc = .ok (.if_icmp .gt off, 3)) (ht : (pc : Int) + off = (tgt : Int)) (hr : -2147483648 ≤ a ∧ a < 2147483648 ∧ -2147483648 ≤ b ∧ b < 2147483648) (kt : b < a → zw_X l d y Q tgt L st M) (kf : ¬ b < a → zw_X l d y Q (pc + 3) L st M) : zw_X l d y Q pc L (.int (zn_I b) :: .int (zn_I a) :: st) M := by
  have e : (zn_I b < zn_I a) ↔ (b < a) := zn_lt ⟨by omega, by omega, by omega, by omega⟩
  exact zx_icmp_gt hd ht (fun h => kt (by first | exact e.mp h | exact fun z => h (e.mpr z))) (fun h => kf (by first | exact e.mp h | exact fun z => h (e.mpr z)))
theorem zy_if_le {l : Launch} {d : Nat} {y : zw_I} {Q : Option Value → zw_M → Prop} {pc : Nat} {L st : List Value} {M : zw_M} {a : Int} {off : Int} {tgt : Nat} (hd : decode y.2.1 pc = .ok (.ifCond .le off, 3)) (ht : (pc : Int) + off = (tgt : Int)) (hr : -2147483648 ≤ a ∧ a < 2147483648) (kt : a ≤ 0 → zw_X l d y Q tgt L st M) (kf : ¬ a ≤ 0 → zw_X l d y Q (pc + 3) L st M) : zw_X l d y Q pc L (.int (zn_I a) :: st) M := by
  have e : (zn_I a ≤ zn_I 0) ↔ (a ≤ 0) := zn_le ⟨by omega, by omega, by omega, by omega⟩
  exact zx_if_le hd ht (fun h => kt (by first | exact e.mp h | exact fun z => h (e.mpr z))) (fun h => kf (by first | exact e.mp h | exact fun z => h (e.mpr z)))
theorem zy_icmp_le {l : Launch} {d : Nat} {y : zw_I} {Q : Option Value → zw_M → Prop} {pc : Nat} {L st : List Value} {M : zw_M} {a b : Int} {off : Int} {tgt : Nat} (hd : decode y.2.1 pc = .ok (.if_icmp .le off, 3)) (ht : (pc : Int) + off = (tgt : Int)) (hr : -2147483648 ≤ a ∧ a < 2147483648 ∧ -2147483648 ≤ b ∧ b < 2147483648) (kt : a ≤ b → zw_X l d y Q tgt L st M) (kf : ¬ a ≤ b → zw_X l d y Q (pc + 3) L st M) : zw_X l d y Q pc L (.int (zn_I b) :: .int (zn_I a) :: st) M := by
  have e : (zn_I a ≤ zn_I b) ↔ (a ≤ b) := zn_le ⟨by omega, by omega, by omega, by omega⟩
  exact zx_icmp_le hd ht (fun h => kt (by first | exact e.mp h | exact fun z => h (e.mpr z))) (fun h => kf (by first | exact e.mp h | exact fun z => h (e.mpr z)))
theorem zy_ifB_eq {l : Launch} {d : Nat} {y : zw_I} {Q : Option Value → zw_M → Prop} {pc : Nat} {L st : List Value} {M : zw_M} {p : Prop} [Decidable p] {off : Int} {tgt : Nat} (hd : decode y.2.1 pc = .ok (.ifCond .eq off, 3)) (ht : (pc : Int) + off = (tgt : Int)) (kt : ¬ p → zw_X l d y Q tgt L st M) (kf : p → zw_X l d y Q (pc + 3) L st M) : zw_X l d y Q pc L (.int (zn_B p) :: st) M := by
  refine zx_if_eq hd ht (fun h => kt fun hp => ?_) (fun h => kf (Classical.byContradiction fun hp => h ?_))
  · rw [zn_B, if_pos hp] at h
    exact absurd h (by decide)
  · rw [zn_B, if_neg hp]
    rfl
theorem zy_ifB_ne {l : Launch} {d : Nat} {y : zw_I} {Q : Option Value → zw_M → Prop} {pc : Nat} {L st : List Value} {M : zw_M} {p : Prop} [Decidable p] {off : Int} {tgt : Nat} (hd : decode y.2.1 pc = .ok (.ifCond .ne off, 3)) (ht : (pc : Int) + off = (tgt : Int)) (kt : p → zw_X l d y Q tgt L st M) (kf : ¬ p → zw_X l d y Q (pc + 3) L st M) : zw_X l d y Q pc L (.int (zn_B p) :: st) M := by
  refine zx_if_ne hd ht (fun h => kt (Classical.byContradiction fun hp => h ?_)) (fun h => kf fun hp => ?_)
  · rw [zn_B, if_neg hp]
    rfl
  · rw [zn_B, if_pos hp] at h
    exact absurd h (by decide)
theorem zy_geti {l : Launch} {d : Nat} {y : zw_I} {Q : Option Value → zw_M → Prop} {pc : Nat} {L st : List Value} {M : zw_M} {q k idx : Nat} {ty : FieldType} {fin : Bool} {x : Int32} (hd : decode y.2.1 pc = .ok (.getfield idx, 3)) (hf : zw_F y.1.cls idx q k none ty fin) (hv : M.1 q k = x) (kk : zw_X l d y Q (pc + 3) L (.int x :: st) M) : zw_X l d y Q pc L (.ref q :: st) M := zx_geti hd hf (by rw [hv]; exact kk)
theorem zy_iald {l : Launch} {d : Nat} {y : zw_I} {Q : Option Value → zw_M → Prop} {pc : Nat} {L st : List Value} {M : zw_M} {q n i : Nat} {z : Int} {x : Int32} (hd : decode y.2.1 pc = .ok (.iaload, 1)) (hs : zs_S[q]? = some (.inl (0, n))) (hn : n ≤ 1000) (hi : z = (i : Int)) (h1 : i < n) (hv : M.1 q i = x) (kk : zw_X l d y Q (pc + 1) L (.int x :: st) M) : zw_X l d y Q pc L (.int (zn_I z) :: .ref q :: st) M := by
  subst hi
  obtain ⟨e1, e2⟩ := zn_vi (i := (i : Int)) (n := n) (by omega) (by omega) hn
  refine zx_iald hd hs e1 ?_
  rw [e2, Int.toNat_natCast, hv]
  exact kk
theorem zy_iast {l : Launch} {d : Nat} {y : zw_I} {Q : Option Value → zw_M → Prop} {pc : Nat} {L st : List Value} {M : zw_M} {q n i : Nat} {z : Int} {x : Int32} (hd : decode y.2.1 pc = .ok (.iastore, 1)) (hs : zs_S[q]? = some (.inl (0, n))) (hn : n ≤ 1000) (hi : z = (i : Int)) (h1 : i < n) (kk : zw_X l d y Q (pc + 1) L st (zw_s M q i (x))) : zw_X l d y Q pc L (.int x :: .int (zn_I z) :: .ref q :: st) M := by
  subst hi
  obtain ⟨e1, e2⟩ := zn_vi (i := (i : Int)) (n := n) (by omega) (by omega) hn
  refine zx_iast hd hs e1 ?_
  rw [e2, Int.toNat_natCast]
  exact kk
theorem zy_cald {l : Launch} {d : Nat} {y : zw_I} {Q : Option Value → zw_M → Prop} {pc : Nat} {L st : List Value} {M : zw_M} {q n i : Nat} {z : Int} {x : Int32} (hd : decode y.2.1 pc = .ok (.caload, 1)) (hs : zs_S[q]? = some (.inl (1, n))) (hn : n ≤ 1000) (hi : z = (i : Int)) (h1 : i < n) (hv : M.1 q i = x) (kk : zw_X l d y Q (pc + 1) L (.int x :: st) M) : zw_X l d y Q pc L (.int (zn_I z) :: .ref q :: st) M := by
  subst hi
  obtain ⟨e1, e2⟩ := zn_vi (i := (i : Int)) (n := n) (by omega) (by omega) hn
  refine zx_cald hd hs e1 ?_
  rw [e2, Int.toNat_natCast, hv]
  exact kk
theorem zy_cast {l : Launch} {d : Nat} {y : zw_I} {Q : Option Value → zw_M → Prop} {pc : Nat} {L st : List Value} {M : zw_M} {q n i : Nat} {z : Int} {x : Int32} (hd : decode y.2.1 pc = .ok (.castore, 1)) (hs : zs_S[q]? = some (.inl (1, n))) (hn : n ≤ 1000) (hi : z = (i : Int)) (h1 : i < n) (kk : zw_X l d y Q (pc + 1) L st (zw_s M q i (vp_nar .char x))) : zw_X l d y Q pc L (.int x :: .int (zn_I z) :: .ref q :: st) M := by
  subst hi
  obtain ⟨e1, e2⟩ := zn_vi (i := (i : Int)) (n := n) (by omega) (by omega) hn
  refine zx_cast hd hs e1 ?_
  rw [e2, Int.toNat_natCast]
  exact kk
theorem zy_bald {l : Launch} {d : Nat} {y : zw_I} {Q : Option Value → zw_M → Prop} {pc : Nat} {L st : List Value} {M : zw_M} {q n i : Nat} {z : Int} {x : Int32} (hd : decode y.2.1 pc = .ok (.baload, 1)) (hs : zs_S[q]? = some (.inl (2, n))) (hn : n ≤ 1000) (hi : z = (i : Int)) (h1 : i < n) (hv : M.1 q i = x) (kk : zw_X l d y Q (pc + 1) L (.int x :: st) M) : zw_X l d y Q pc L (.int (zn_I z) :: .ref q :: st) M := by
  subst hi
  obtain ⟨e1, e2⟩ := zn_vi (i := (i : Int)) (n := n) (by omega) (by omega) hn
  refine zx_bald hd hs e1 ?_
  rw [e2, Int.toNat_natCast, hv]
  exact kk
theorem zy_bast {l : Launch} {d : Nat} {y : zw_I} {Q : Option Value → zw_M → Prop} {pc : Nat} {L st : List Value} {M : zw_M} {q n i : Nat} {z : Int} {x : Int32} (hd : decode y.2.1 pc = .ok (.bastore, 1)) (hs : zs_S[q]? = some (.inl (2, n))) (hn : n ≤ 1000) (hi : z = (i : Int)) (h1 : i < n) (kk : zw_X l d y Q (pc + 1) L st (zw_s M q i (vp_nar .byte x))) : zw_X l d y Q pc L (.int x :: .int (zn_I z) :: .ref q :: st) M := by
  subst hi
  obtain ⟨e1, e2⟩ := zn_vi (i := (i : Int)) (n := n) (by omega) (by omega) hn
  refine zx_bast hd hs e1 ?_
  rw [e2, Int.toNat_natCast]
  exact kk
theorem zk_B {p : Prop} [Decidable p] {M : zw_M} {x : Int32} (h : x = zn_B p) : zw_i (zn_B p) M (some (.int x)) M := ⟨by rw [h], rfl⟩
theorem zk_I {x z : Int} {M : zw_M} (h : x = z) : zw_i (zn_I z) M (some (.int (zn_I x))) M := ⟨by rw [h], rfl⟩
theorem zn_ite {p : Prop} [Decidable p] {a b : Int} : zn_I (if p then a else b) = if p then zn_I a else zn_I b := by split <;> rfl
/-- a contract at one end, at another -/
theorem zw_C_imp {l : Launch} {d : Nat} {y : zw_I} {vs : List Value} {M : zw_M} {Q Q1 : Option Value → zw_M → Prop} (h : ∀ v M', Q v M' → Q1 v M') (hc : zw_C l d y vs M Q) : zw_C l d y vs M Q1 := by
  intro G sz hD p e g1 g2 g3 s m args below g4 g5 g6 g7
  obtain ⟨t, o, a, b1, b2, ⟨⟨v, M1, c1, c2, c3⟩, c4⟩, c5⟩ := hc G sz hD p e g1 g2 g3 s m args below g4 g5 g6 g7
  exact ⟨t, o, a, b1, b2, ⟨⟨v, M1, c1, h v M1 c2, c3⟩, c4⟩, c5⟩
end
section
/-! THE ISLAND: rows, wide, heights -/
abbrev zP : Type := Nat × Nat × (Nat → Int)
def zp_n (π : zP) : Nat := π.1 * π.2.1
def zp_e (π : zP) (s : Nat) : Int := 2 * ((s % π.2.1 : Nat) : Int) - ((π.2.1 : Int) - 1)
def zp_s (π : zP) (s : Nat) : Int := 2 * ((s / π.2.1 : Nat) : Int) - ((π.1 : Int) - 1)
/-- how many doors there are among the first squares -/
def zp_d (π : zP) : Nat → Nat
  | 0 => 0
  | s + 1 => zp_d π s + (if 0 < π.2.2 s then 1 else 0)
def zI (M : zw_M) (π : zP) : Prop :=
  (π.1 ≤ 5 ∧ π.2.1 ≤ 6) ∧ M.1 4 3 = zn_I π.1 ∧ M.1 4 4 = zn_I π.2.1 ∧ M.1 4 5 = zn_I (zp_n π) ∧ M.1 4 6 = zn_I (zp_d π (zp_n π)) ∧ (∀ s, s < zp_n π → M.1 5 s = zn_I (π.2.2 s)) ∧ (∀ s, s < zp_n π → M.1 6 s = zn_I (zp_e π s)) ∧ (∀ s, s < zp_n π → M.1 7 s = zn_I (zp_s π s)) ∧ (∀ s, s < zp_n π → 0 ≤ π.2.2 s ∧ π.2.2 s ≤ 9)
theorem zp_30 {π : zP} (h : π.1 ≤ 5 ∧ π.2.1 ≤ 6) : zp_n π ≤ 30 := Nat.mul_le_mul h.1 h.2
theorem zp_e_rng {π : zP} (h : π.1 ≤ 5 ∧ π.2.1 ≤ 6) {s : Nat} (hs : s < zp_n π) : -5 ≤ zp_e π s ∧ zp_e π s ≤ 5 := by
  have hw : 0 < π.2.1 := Nat.pos_of_ne_zero fun q => by rw [zp_n, q, Nat.mul_zero] at hs; omega
  have := Nat.mod_lt s hw
  unfold zp_e
  generalize s % π.2.1 = k at this ⊢
  omega
theorem zp_s_rng {π : zP} (h : π.1 ≤ 5 ∧ π.2.1 ≤ 6) {s : Nat} (hs : s < zp_n π) : -4 ≤ zp_s π s ∧ zp_s π s ≤ 4 := by
  have := Nat.div_lt_of_lt_mul (show s < π.2.1 * π.1 by rw [Nat.mul_comm]; exact hs)
  unfold zp_s
  generalize s / π.2.1 = k at this ⊢
  omega
theorem zp_mul_rng {a e B : Int} (h1 : -5 ≤ e) (h2 : e ≤ 5) (h3 : -B ≤ a) (h4 : a ≤ B) : -(5 * B) ≤ a * e ∧ a * e ≤ 5 * B := by
  have : e = -5 ∨ e = -4 ∨ e = -3 ∨ e = -2 ∨ e = -1 ∨ e = 0 ∨ e = 1 ∨ e = 2 ∨ e = 3 ∨ e = 4 ∨ e = 5 := by omega
  rcases this with rfl | rfl | rfl | rfl | rfl | rfl | rfl | rfl | rfl | rfl | rfl <;> omega
def zp_dip (π : zP) (s : Nat) (a b : Int) : Int := a * zp_e π s + b * zp_s π s
theorem zp_dip_rng {π : zP} (h : π.1 ≤ 5 ∧ π.2.1 ≤ 6) {s : Nat} (hs : s < zp_n π) {a b B : Int} (ha : -B ≤ a ∧ a ≤ B) (hb : -B ≤ b ∧ b ≤ B) : -(10 * B) ≤ zp_dip π s a b ∧ zp_dip π s a b ≤ 10 * B := by
  have h1 := zp_e_rng h hs
  have h2 := zp_s_rng h hs
  have h3 := zp_mul_rng (a := a) (B := B) h1.1 h1.2 ha.1 ha.2
  have h4 := zp_mul_rng (a := b) (e := zp_s π s) (B := B) (by omega) (by omega) hb.1 hb.2
  unfold zp_dip
  omega
/-- a square's numbers, 0 where there is none -/
def zp_at (π : zP) (f : Nat → Int) (z : Int) : Int := if 0 ≤ z ∧ z < zp_n π then f z.toNat else 0
theorem zp_at_in {π : zP} {f : Nat → Int} {s : Nat} (h : s < zp_n π) : zp_at π f (s : Int) = f s := by
  rw [zp_at, if_pos ⟨by omega, by omega⟩, Int.toNat_natCast]
set_option maxRecDepth 100000 in
set_option maxHeartbeats 4000000 in
theorem mX1_fromCentre {l : Launch} {d : Nat} {M : zw_M} {a b : Int} : zw_C l d iX1_fromCentre [.int (zn_I a), .int (zn_I b)] M (zw_i (zn_I (2 * a - (b - 1))) M) := by
  refine zw_of (by decide +kernel) (Nat.le_of_ble_eq_true rfl) ?_
  refine zy_loc (L1 := [.int (zn_I a), .int (zn_I b)]) rfl ?_
  refine zx_iconst (v := zn_I 2) dX1_fromCentre_0 rfl ?_
  refine zx_iload_n dX1_fromCentre_1 rfl ?_
  refine zy_imul dX1_fromCentre_2 ?_
  refine zx_iload_n dX1_fromCentre_3 rfl ?_
  refine zx_iconst (v := zn_I 1) dX1_fromCentre_4 rfl ?_
  refine zy_isub dX1_fromCentre_5 ?_
  refine zy_isub dX1_fromCentre_6 ?_
  refine zx_iret (st := []) dX1_fromCentre_7 rfl rfl ?_
  exact ⟨rfl, rfl⟩
set_option maxRecDepth 100000 in
set_option maxHeartbeats 4000000 in
theorem mX1_squares {l : Launch} {d : Nat} {M : zw_M} {π : zP} (hI : zI M π) : zw_C l d iX1_squares [.ref 4] M (zw_i (zn_I (zp_n π)) M) := by
  obtain ⟨hp, hr, hw, hn, hdo, hH, hE, hS, hB⟩ := id hI
  have h30 := zp_30 hp
  refine zw_of (by decide +kernel) (Nat.le_of_ble_eq_true rfl) ?_
  refine zy_loc (L1 := [.ref 4]) rfl ?_
  refine zx_aload_n dX1_squares_0 rfl ?_
  refine zy_geti dX1_squares_1 fX1_28 hn ?_
  refine zx_iret (st := []) dX1_squares_4 rfl rfl ?_
  exact ⟨rfl, rfl⟩
set_option maxRecDepth 100000 in
set_option maxHeartbeats 4000000 in
theorem mX1_doors {l : Launch} {d : Nat} {M : zw_M} {π : zP} (hI : zI M π) : zw_C l d iX1_doors [.ref 4] M (zw_i (zn_I (zp_d π (zp_n π))) M) := by
  obtain ⟨hp, hr, hw, hn, hdo, hH, hE, hS, hB⟩ := id hI
  have h30 := zp_30 hp
  refine zw_of (by decide +kernel) (Nat.le_of_ble_eq_true rfl) ?_
  refine zy_loc (L1 := [.ref 4]) rfl ?_
  refine zx_aload_n dX1_doors_0 rfl ?_
  refine zy_geti dX1_doors_1 fX1_31 hdo ?_
  refine zx_iret (st := []) dX1_doors_4 rfl rfl ?_
  exact ⟨rfl, rfl⟩
set_option maxRecDepth 100000 in
set_option maxHeartbeats 4000000 in
theorem mX1_isThere {l : Launch} {d : Nat} {M : zw_M} {π : zP} (hI : zI M π) : zw_C l d iX1_isThere [.ref 4] M (zw_i (zn_B (0 < zp_n π)) M) := by
  obtain ⟨hp, hr, hw, hn, hdo, hH, hE, hS, hB⟩ := id hI
  have h30 := zp_30 hp
  refine zw_of (by decide +kernel) (Nat.le_of_ble_eq_true rfl) ?_
  refine zy_loc (L1 := [.ref 4]) rfl ?_
  refine zx_aload_n dX1_isThere_0 rfl ?_
  refine zy_geti dX1_isThere_1 fX1_28 hn ?_
  refine zy_if_le (tgt := 11) dX1_isThere_4 (by decide) (by omega) (fun h_4 => ?_) (fun h_4 => ?_)
  · refine zx_iconst (v := zn_I 0) dX1_isThere_11 rfl ?_
    refine zx_iret (st := []) dX1_isThere_12 rfl rfl ?_
    first | exact zk_B (zn_Bt (by omega)) | exact zk_B (zn_Bf (by omega))
  · refine zx_iconst (v := zn_I 1) dX1_isThere_7 rfl ?_
    refine zx_goto (tgt := 12) dX1_isThere_8 (by decide) ?_
    refine zx_iret (st := []) dX1_isThere_12 rfl rfl ?_
    first | exact zk_B (zn_Bt (by omega)) | exact zk_B (zn_Bf (by omega))
set_option maxRecDepth 100000 in
set_option maxHeartbeats 4000000 in
theorem mX1_has {l : Launch} {d : Nat} {M : zw_M} {π : zP} (hI : zI M π) {z : Int} (hz : -2147483648 ≤ z ∧ z < 2147483648) : zw_C l d iX1_has [.ref 4, .int (zn_I z)] M (zw_i (zn_B (0 ≤ z ∧ z < zp_n π)) M) := by
  obtain ⟨hp, hr, hw, hn, hdo, hH, hE, hS, hB⟩ := id hI
  have h30 := zp_30 hp
  refine zw_of (by decide +kernel) (Nat.le_of_ble_eq_true rfl) ?_
  refine zy_loc (L1 := [.ref 4, .int (zn_I z)]) rfl ?_
  refine zx_iload_n dX1_has_0 rfl ?_
  refine zy_if_lt (tgt := 16) dX1_has_1 (by decide) (by omega) (fun h_1 => ?_) (fun h_1 => ?_)
  · refine zx_iconst (v := zn_I 0) dX1_has_16 rfl ?_
    refine zx_iret (st := []) dX1_has_17 rfl rfl ?_
    first | exact zk_B (zn_Bt (by omega)) | exact zk_B (zn_Bf (by omega))
  · refine zx_iload_n dX1_has_4 rfl ?_
    refine zx_aload_n dX1_has_5 rfl ?_
    refine zy_geti dX1_has_6 fX1_28 hn ?_
    refine zy_icmp_ge (tgt := 16) dX1_has_9 (by decide) (by omega) (fun h_9 => ?_) (fun h_9 => ?_)
    · refine zx_iconst (v := zn_I 0) dX1_has_16 rfl ?_
      refine zx_iret (st := []) dX1_has_17 rfl rfl ?_
      first | exact zk_B (zn_Bt (by omega)) | exact zk_B (zn_Bf (by omega))
    · refine zx_iconst (v := zn_I 1) dX1_has_12 rfl ?_
      refine zx_goto (tgt := 17) dX1_has_13 (by decide) ?_
      refine zx_iret (st := []) dX1_has_17 rfl rfl ?_
      first | exact zk_B (zn_Bt (by omega)) | exact zk_B (zn_Bf (by omega))
set_option maxRecDepth 100000 in
set_option maxHeartbeats 4000000 in
theorem mX1_height {l : Launch} {d : Nat} {M : zw_M} {π : zP} (hI : zI M π) {z : Int} (hz : -2147483648 ≤ z ∧ z < 2147483648) : zw_C l (d + 1) iX1_height [.ref 4, .int (zn_I z)] M (zw_i (zn_I (zp_at π π.2.2 z)) M) := by
  obtain ⟨hp, hr, hw, hn, hdo, hH, hE, hS, hB⟩ := id hI
  have h30 := zp_30 hp
  refine zw_of (by decide +kernel) (Nat.le_of_ble_eq_true rfl) ?_
  refine zy_loc (L1 := [.ref 4, .int (zn_I z)]) rfl ?_
  refine zx_aload_n dX1_height_0 rfl ?_
  refine zx_iload_n dX1_height_1 rfl ?_
  refine zx_callV (y1 := iX1_has) dX1_height_2 lX1_52 vX1_has rc_4 (mX1_has hI hz) rfl rfl (Nat.le_of_ble_eq_true rfl) ?_
  refine zk_i ?_
  refine zy_ifB_eq (tgt := 17) dX1_height_5 (by decide) (fun h_5 => ?_) (fun h_5 => ?_)
  · refine zx_iconst (v := zn_I 0) dX1_height_17 rfl ?_
    refine zx_iret (st := []) dX1_height_18 rfl rfl ?_
    first | exact zk_I (by rw [zp_at, if_pos h_5]) | exact zk_I (by rw [zp_at, if_neg h_5])
  · refine zx_aload_n dX1_height_8 rfl ?_
    refine zx_getr dX1_height_9 fX1_9 ?_
    refine zx_iload_n dX1_height_12 rfl ?_
    refine zy_iald (i := z.toNat) dX1_height_13 rfl (by decide) (by omega) (by omega) (hH _ (by omega)) ?_
    refine zx_goto (tgt := 18) dX1_height_14 (by decide) ?_
    refine zx_iret (st := []) dX1_height_18 rfl rfl ?_
    first | exact zk_I (by rw [zp_at, if_pos h_5]) | exact zk_I (by rw [zp_at, if_neg h_5])
set_option maxRecDepth 100000 in
set_option maxHeartbeats 4000000 in
theorem mX1_east {l : Launch} {d : Nat} {M : zw_M} {π : zP} (hI : zI M π) {z : Int} (hz : -2147483648 ≤ z ∧ z < 2147483648) : zw_C l (d + 1) iX1_east [.ref 4, .int (zn_I z)] M (zw_i (zn_I (zp_at π (zp_e π) z)) M) := by
  obtain ⟨hp, hr, hw, hn, hdo, hH, hE, hS, hB⟩ := id hI
  have h30 := zp_30 hp
  refine zw_of (by decide +kernel) (Nat.le_of_ble_eq_true rfl) ?_
  refine zy_loc (L1 := [.ref 4, .int (zn_I z)]) rfl ?_
  refine zx_aload_n dX1_east_0 rfl ?_
  refine zx_iload_n dX1_east_1 rfl ?_
  refine zx_callV (y1 := iX1_has) dX1_east_2 lX1_52 vX1_has rc_4 (mX1_has hI hz) rfl rfl (Nat.le_of_ble_eq_true rfl) ?_
  refine zk_i ?_
  refine zy_ifB_eq (tgt := 17) dX1_east_5 (by decide) (fun h_5 => ?_) (fun h_5 => ?_)
  · refine zx_iconst (v := zn_I 0) dX1_east_17 rfl ?_
    refine zx_iret (st := []) dX1_east_18 rfl rfl ?_
    first | exact zk_I (by rw [zp_at, if_pos h_5]) | exact zk_I (by rw [zp_at, if_neg h_5])
  · refine zx_aload_n dX1_east_8 rfl ?_
    refine zx_getr dX1_east_9 fX1_15 ?_
    refine zx_iload_n dX1_east_12 rfl ?_
    refine zy_iald (i := z.toNat) dX1_east_13 rfl (by decide) (by omega) (by omega) (hE _ (by omega)) ?_
    refine zx_goto (tgt := 18) dX1_east_14 (by decide) ?_
    refine zx_iret (st := []) dX1_east_18 rfl rfl ?_
    first | exact zk_I (by rw [zp_at, if_pos h_5]) | exact zk_I (by rw [zp_at, if_neg h_5])
set_option maxRecDepth 100000 in
set_option maxHeartbeats 4000000 in
theorem mX1_south {l : Launch} {d : Nat} {M : zw_M} {π : zP} (hI : zI M π) {z : Int} (hz : -2147483648 ≤ z ∧ z < 2147483648) : zw_C l (d + 1) iX1_south [.ref 4, .int (zn_I z)] M (zw_i (zn_I (zp_at π (zp_s π) z)) M) := by
  obtain ⟨hp, hr, hw, hn, hdo, hH, hE, hS, hB⟩ := id hI
  have h30 := zp_30 hp
  refine zw_of (by decide +kernel) (Nat.le_of_ble_eq_true rfl) ?_
  refine zy_loc (L1 := [.ref 4, .int (zn_I z)]) rfl ?_
  refine zx_aload_n dX1_south_0 rfl ?_
  refine zx_iload_n dX1_south_1 rfl ?_
  refine zx_callV (y1 := iX1_has) dX1_south_2 lX1_52 vX1_has rc_4 (mX1_has hI hz) rfl rfl (Nat.le_of_ble_eq_true rfl) ?_
  refine zk_i ?_
  refine zy_ifB_eq (tgt := 17) dX1_south_5 (by decide) (fun h_5 => ?_) (fun h_5 => ?_)
  · refine zx_iconst (v := zn_I 0) dX1_south_17 rfl ?_
    refine zx_iret (st := []) dX1_south_18 rfl rfl ?_
    first | exact zk_I (by rw [zp_at, if_pos h_5]) | exact zk_I (by rw [zp_at, if_neg h_5])
  · refine zx_aload_n dX1_south_8 rfl ?_
    refine zx_getr dX1_south_9 fX1_18 ?_
    refine zx_iload_n dX1_south_12 rfl ?_
    refine zy_iald (i := z.toNat) dX1_south_13 rfl (by decide) (by omega) (by omega) (hS _ (by omega)) ?_
    refine zx_goto (tgt := 18) dX1_south_14 (by decide) ?_
    refine zx_iret (st := []) dX1_south_18 rfl rfl ?_
    first | exact zk_I (by rw [zp_at, if_pos h_5]) | exact zk_I (by rw [zp_at, if_neg h_5])
set_option maxRecDepth 100000 in
set_option maxHeartbeats 4000000 in
theorem mX1_dipOf {l : Launch} {d : Nat} {M : zw_M} {π : zP} (hI : zI M π) {z : Int} (hz : -2147483648 ≤ z ∧ z < 2147483648) {a b : Int} : zw_C l (d + 1) iX1_dipOf [.ref 4, .int (zn_I z), .int (zn_I a), .int (zn_I b)] M (zw_i (zn_I (zp_at π (fun s => zp_dip π s a b) z)) M) := by
  obtain ⟨hp, hr, hw, hn, hdo, hH, hE, hS, hB⟩ := id hI
  have h30 := zp_30 hp
  refine zw_of (by decide +kernel) (Nat.le_of_ble_eq_true rfl) ?_
  refine zy_loc (L1 := [.ref 4, .int (zn_I z), .int (zn_I a), .int (zn_I b)]) rfl ?_
  refine zx_aload_n dX1_dipOf_0 rfl ?_
  refine zx_iload_n dX1_dipOf_1 rfl ?_
  refine zx_callV (y1 := iX1_has) dX1_dipOf_2 lX1_52 vX1_has rc_4 (mX1_has hI hz) rfl rfl (Nat.le_of_ble_eq_true rfl) ?_
  refine zk_i ?_
  refine zy_ifB_eq (tgt := 28) dX1_dipOf_5 (by decide) (fun h_5 => ?_) (fun h_5 => ?_)
  · refine zx_iconst (v := zn_I 0) dX1_dipOf_28 rfl ?_
    refine zx_iret (st := []) dX1_dipOf_29 rfl rfl ?_
    first | exact zk_I (by rw [zp_at, if_pos h_5]; rfl) | exact zk_I (by rw [zp_at, if_neg h_5])
  · refine zx_iload_n dX1_dipOf_8 rfl ?_
    refine zx_aload_n dX1_dipOf_9 rfl ?_
    refine zx_getr dX1_dipOf_10 fX1_15 ?_
    refine zx_iload_n dX1_dipOf_13 rfl ?_
    refine zy_iald (i := z.toNat) dX1_dipOf_14 rfl (by decide) (by omega) (by omega) (hE _ (by omega)) ?_
    refine zy_imul dX1_dipOf_15 ?_
    refine zx_iload_n dX1_dipOf_16 rfl ?_
    refine zx_aload_n dX1_dipOf_17 rfl ?_
    refine zx_getr dX1_dipOf_18 fX1_18 ?_
    refine zx_iload_n dX1_dipOf_21 rfl ?_
    refine zy_iald (i := z.toNat) dX1_dipOf_22 rfl (by decide) (by omega) (by omega) (hS _ (by omega)) ?_
    refine zy_imul dX1_dipOf_23 ?_
    refine zy_iadd dX1_dipOf_24 ?_
    refine zx_goto (tgt := 29) dX1_dipOf_25 (by decide) ?_
    refine zx_iret (st := []) dX1_dipOf_29 rfl rfl ?_
    first | exact zk_I (by rw [zp_at, if_pos h_5]; rfl) | exact zk_I (by rw [zp_at, if_neg h_5])
/-- a loop that counts up to n -/
theorem zw_loop (n : Nat) {P : Nat → Prop} (h : ∀ s, s ≤ n → (s < n → P (s + 1)) → P s) : ∀ s, s ≤ n → P s := by
  have key : ∀ k s, s + k = n → P s := by
    intro k
    induction k with
    | zero => intro s hs; exact h s (by omega) (fun q => absurd q (by omega))
    | succ k ih => intro s hs; exact h s (by omega) (fun _ => ih (s + 1) (by omega))
  intro s hs
  exact key (n - s) s (by omega)
abbrev zp_wet (π : zP) (a b : Int) (s : Nat) : Prop := 0 < π.2.2 s ∧ 50 * π.2.2 s ≤ zp_dip π s a b
/-- the squares with wet doors among the first ones, as bits -/
def zp_bits (π : zP) (a b : Int) : Nat → Nat
  | 0 => 0
  | s + 1 => zp_bits π a b s + (if zp_wet π a b s then 2 ^ s else 0)
theorem zp_bits_lt (π : zP) (a b : Int) : ∀ s, zp_bits π a b s < 2 ^ s
  | 0 => Nat.one_pos
  | s + 1 => by
    have ih := zp_bits_lt π a b s
    rw [zp_bits, Nat.pow_succ]
    split <;> omega
theorem zb_one : ∀ s : Nat, s < 31 → (zn_I 1 <<< (zn_I (s : Int) &&& 31)) = nI (2 ^ s) := by decide +kernel
theorem zb_or {B s : Nat} (hs : s < 31) (hB : B < 2 ^ s) : (zn_I (B : Int) ||| (zn_I 1 <<< (zn_I (s : Int) &&& 31))) = zn_I ((B + 2 ^ s : Nat) : Int) := by
  rw [zb_one s hs, ← zn_nat, ← zn_nat]
  have e : nI B ||| nI (2 ^ s) = nI (B ||| 2 ^ s) := by
    apply Int32.toBitVec_inj.1
    show BitVec.ofNat 32 B ||| BitVec.ofNat 32 (2 ^ s) = BitVec.ofNat 32 (B ||| 2 ^ s)
    apply BitVec.eq_of_getLsbD_eq
    intro i hi
    simp [hi]
  have h := Nat.two_pow_add_eq_or_of_lt hB 1
  rw [Nat.mul_one] at h
  rw [e, Nat.or_comm, ← h, Nat.add_comm]
set_option maxRecDepth 100000 in
set_option maxHeartbeats 4000000 in
theorem mX1_wetDoors {l : Launch} {d : Nat} {M : zw_M} {π : zP} (hI : zI M π) {a b : Int} (ha : -10000000 ≤ a ∧ a ≤ 10000000) (hb : -10000000 ≤ b ∧ b ≤ 10000000) : zw_C l d iX1_wetDoors [.ref 4, .int (zn_I a), .int (zn_I b)] M (zw_i (zn_I (zp_bits π a b (zp_n π) : Nat)) M) := by
  obtain ⟨hp, hr, hw, hn, hdo, hH, hE, hS, hB⟩ := id hI
  have h30 := zp_30 hp
  refine zw_of (by decide +kernel) (Nat.le_of_ble_eq_true rfl) ?_
  refine zy_loc (L1 := [.ref 4, .int (zn_I a), .int (zn_I b), .retAddr 0, .retAddr 0, .retAddr 0, .retAddr 0]) rfl ?_
  have loop : ∀ s, s ≤ zp_n π → ∀ v5 v6 : Value, zw_X l d iX1_wetDoors (zw_i (zn_I (zp_bits π a b (zp_n π) : Nat)) M) 5 [.ref 4, .int (zn_I a), .int (zn_I b), .int (zn_I (zp_bits π a b s : Nat)), .int (zn_I (s : Nat)), v5, v6] [] M := by
    refine zw_loop (zp_n π) (P := fun s => ∀ v5 v6 : Value, zw_X l d iX1_wetDoors (zw_i (zn_I (zp_bits π a b (zp_n π) : Nat)) M) 5 [.ref 4, .int (zn_I a), .int (zn_I b), .int (zn_I (zp_bits π a b s : Nat)), .int (zn_I (s : Nat)), v5, v6] [] M) (fun s hs ih v5 v6 => ?_)
    refine zx_iload dX1_wetDoors_5 rfl ?_
    refine zx_aload_n dX1_wetDoors_7 rfl ?_
    refine zy_geti dX1_wetDoors_8 fX1_28 hn ?_
    refine zy_icmp_ge (tgt := 72) dX1_wetDoors_11 (by decide) (by omega) (fun h_11 => ?_) (fun h_11 => ?_)
    · refine zx_iload_n dX1_wetDoors_72 rfl ?_
      refine zx_iret (st := []) dX1_wetDoors_73 rfl rfl ?_
      exact zk_I (by rw [show s = zp_n π by omega])
    · refine zx_aload_n dX1_wetDoors_14 rfl ?_
      refine zx_getr dX1_wetDoors_15 fX1_9 ?_
      refine zx_iload dX1_wetDoors_18 rfl ?_
      refine zy_iald dX1_wetDoors_20 rfl (by decide) rfl (by omega) (hH _ (by omega)) ?_
      refine zx_istore dX1_wetDoors_21 rfl (Nat.le_of_ble_eq_true rfl) ?_
      refine zx_iload_n dX1_wetDoors_23 rfl ?_
      refine zx_aload_n dX1_wetDoors_24 rfl ?_
      refine zx_getr dX1_wetDoors_25 fX1_15 ?_
      refine zx_iload dX1_wetDoors_28 rfl ?_
      refine zy_iald dX1_wetDoors_30 rfl (by decide) rfl (by omega) (hE _ (by omega)) ?_
      refine zy_imul dX1_wetDoors_31 ?_
      refine zx_iload_n dX1_wetDoors_32 rfl ?_
      refine zx_aload_n dX1_wetDoors_33 rfl ?_
      refine zx_getr dX1_wetDoors_34 fX1_18 ?_
      refine zx_iload dX1_wetDoors_37 rfl ?_
      refine zy_iald dX1_wetDoors_39 rfl (by decide) rfl (by omega) (hS _ (by omega)) ?_
      refine zy_imul dX1_wetDoors_40 ?_
      refine zy_iadd dX1_wetDoors_41 ?_
      refine zx_istore dX1_wetDoors_42 rfl (Nat.le_of_ble_eq_true rfl) ?_
      refine zx_iload dX1_wetDoors_44 rfl ?_
      refine zy_if_le (tgt := 66) dX1_wetDoors_46 (by decide) (by have h8 := hB s (by omega); omega) (fun h_46 => ?_) (fun h_46 => ?_)
      · refine zy_iinc dX1_wetDoors_66 rfl rfl ?_
        refine zx_goto (tgt := 5) dX1_wetDoors_69 (by decide) ?_
        first
          | exact ih (by omega) _ _
          | (rw [show zp_bits π a b s = zp_bits π a b (s + 1) by rw [zp_bits, if_neg (fun q => by have q2 := q.2; unfold zp_dip at q2; omega), Nat.add_zero]]; exact ih (by omega) _ _)
      · refine zx_iload dX1_wetDoors_49 rfl ?_
        refine zx_bipush (v := zn_I 50) dX1_wetDoors_51 (by decide) ?_
        refine zx_iload dX1_wetDoors_53 rfl ?_
        refine zy_imul dX1_wetDoors_55 ?_
        refine zy_icmp_lt (tgt := 66) dX1_wetDoors_56 (by decide) (by have h7 := zp_dip_rng hp (show s < zp_n π by omega) ha hb; have h8 := hB s (by omega); unfold zp_dip at h7; omega) (fun h_56 => ?_) (fun h_56 => ?_)
        · refine zy_iinc dX1_wetDoors_66 rfl rfl ?_
          refine zx_goto (tgt := 5) dX1_wetDoors_69 (by decide) ?_
          first
            | exact ih (by omega) _ _
            | (rw [show zp_bits π a b s = zp_bits π a b (s + 1) by rw [zp_bits, if_neg (fun q => by have q2 := q.2; unfold zp_dip at q2; omega), Nat.add_zero]]; exact ih (by omega) _ _)
        · refine zx_iload_n dX1_wetDoors_59 rfl ?_
          refine zx_iconst (v := zn_I 1) dX1_wetDoors_60 rfl ?_
          refine zx_iload dX1_wetDoors_61 rfl ?_
          refine zx_ishl dX1_wetDoors_63 ?_
          refine zx_ior dX1_wetDoors_64 ?_
          refine zy_top (zb_or (by omega) (zp_bits_lt π a b s)) ?_
          rw [show zp_bits π a b s + 2 ^ s = zp_bits π a b (s + 1) by rw [zp_bits, if_pos ⟨by omega, by unfold zp_dip; omega⟩]]
          refine zx_istore_n dX1_wetDoors_65 rfl (Nat.le_of_ble_eq_true rfl) ?_
          refine zy_iinc dX1_wetDoors_66 rfl rfl ?_
          refine zx_goto (tgt := 5) dX1_wetDoors_69 (by decide) ?_
          first
            | exact ih (by omega) _ _
            | (rw [show zp_bits π a b s = zp_bits π a b (s + 1) by rw [zp_bits, if_neg (fun q => by have q2 := q.2; unfold zp_dip at q2; omega), Nat.add_zero]]; exact ih (by omega) _ _)
  refine zx_iconst (v := zn_I 0) dX1_wetDoors_0 rfl ?_
  refine zx_istore_n dX1_wetDoors_1 rfl (Nat.le_of_ble_eq_true rfl) ?_
  refine zx_iconst (v := zn_I 0) dX1_wetDoors_2 rfl ?_
  refine zx_istore dX1_wetDoors_3 rfl (Nat.le_of_ble_eq_true rfl) ?_
  exact loop 0 (by omega) _ _
/-- the square a step away: up, right, down, left; -1 where there is none -/
def zp_step (π : zP) (s : Nat) (v : Int) : Int :=
  if v = 1 then (if π.2.1 ≤ s then (s : Int) - π.2.1 else -1)
  else if v = 2 then (if s % π.2.1 < π.2.1 - 1 then (s : Int) + 1 else -1)
  else if v = 3 then (if s + π.2.1 < zp_n π then (s : Int) + π.2.1 else -1)
  else if v = 4 then (if 0 < s % π.2.1 then (s : Int) - 1 else -1)
  else s
theorem zp_w0 {π : zP} {s : Nat} (hs : s < zp_n π) : 0 < π.2.1 ∧ 0 < π.1 ∧ s % π.2.1 < π.2.1 ∧ s / π.2.1 < π.1 := by
  have hw : 0 < π.2.1 := Nat.pos_of_ne_zero fun q => by rw [zp_n, q, Nat.mul_zero] at hs; omega
  have hr : 0 < π.1 := Nat.pos_of_ne_zero fun q => by rw [zp_n, q, Nat.zero_mul] at hs; omega
  exact ⟨hw, hr, Nat.mod_lt s hw, Nat.div_lt_of_lt_mul (show s < π.2.1 * π.1 by rw [Nat.mul_comm]; exact hs)⟩
set_option maxRecDepth 100000 in
set_option maxHeartbeats 4000000 in
theorem mX1_step {l : Launch} {d : Nat} {M : zw_M} {π : zP} (hI : zI M π) {s : Nat} (hs : s < zp_n π) {v : Int} (hv : -1000 ≤ v ∧ v ≤ 1000) : zw_C l (d + 1) iX1_step [.ref 4, .int (zn_I (s : Int)), .int (zn_I v)] M (zw_i (zn_I (zp_step π s v)) M) := by
  obtain ⟨hp, hr, hw, hn, hdo, hH, hE, hS, hB⟩ := id hI
  have h30 := zp_30 hp
  obtain ⟨hw0, hr0, hm, hq⟩ := zp_w0 hs
  have he5 := zp_e_rng hp hs
  have hee : zp_e π s = 2 * ((s % π.2.1 : Nat) : Int) - ((π.2.1 : Int) - 1) := rfl
  refine zw_of (by decide +kernel) (Nat.le_of_ble_eq_true rfl) ?_
  refine zy_loc (L1 := [.ref 4, .int (zn_I (s : Int)), .int (zn_I v)]) rfl ?_
  refine zx_aload_n dX1_step_0 rfl ?_
  refine zx_iload_n dX1_step_1 rfl ?_
  refine zx_callV (y1 := iX1_has) dX1_step_2 lX1_52 vX1_has rc_4 (mX1_has hI ⟨by omega, by omega⟩) rfl rfl (Nat.le_of_ble_eq_true rfl) ?_
  refine zk_i ?_
  refine zy_ifB_ne (tgt := 10) dX1_step_5 (by decide) (fun h_5 => ?_) (fun h_5 => ?_)
  · refine zx_iload_n dX1_step_10 rfl ?_
    rcases (show v = 1 ∨ v = 2 ∨ v = 3 ∨ v = 4 ∨ (v < 1 ∨ 4 < v) by omega) with h_11 | h_11 | h_11 | h_11 | h_11
    · refine zx_tin (z := 1) (tgt := 40) dX1_step_11 ((zn_toInt ⟨by omega, by omega⟩).trans h_11) (by decide) (by decide) rfl (by decide) ?_
      refine zx_iload_n dX1_step_40 rfl ?_
      refine zx_aload_n dX1_step_41 rfl ?_
      refine zy_geti dX1_step_42 fX1_25 hw ?_
      refine zy_isub dX1_step_45 ?_
      refine zy_if_lt (tgt := 58) dX1_step_46 (by decide) (by omega) (fun h_46 => ?_) (fun h_46 => ?_)
      · refine zx_iconst (v := zn_I (-1)) dX1_step_58 rfl ?_
        refine zx_iret (st := []) dX1_step_59 rfl rfl ?_
        exact zk_I (by unfold zp_step; (repeat' split) <;> omega)
      · refine zx_iload_n dX1_step_49 rfl ?_
        refine zx_aload_n dX1_step_50 rfl ?_
        refine zy_geti dX1_step_51 fX1_25 hw ?_
        refine zy_isub dX1_step_54 ?_
        refine zx_goto (tgt := 59) dX1_step_55 (by decide) ?_
        refine zx_iret (st := []) dX1_step_59 rfl rfl ?_
        exact zk_I (by unfold zp_step; (repeat' split) <;> omega)
    · refine zx_tin (z := 2) (tgt := 60) dX1_step_11 ((zn_toInt ⟨by omega, by omega⟩).trans h_11) (by decide) (by decide) rfl (by decide) ?_
      refine zx_aload_n dX1_step_60 rfl ?_
      refine zx_getr dX1_step_61 fX1_15 ?_
      refine zx_iload_n dX1_step_64 rfl ?_
      refine zy_iald dX1_step_65 rfl (by decide) rfl (by omega) (hE _ (by omega)) ?_
      refine zx_aload_n dX1_step_66 rfl ?_
      refine zy_geti dX1_step_67 fX1_25 hw ?_
      refine zx_iconst (v := zn_I 1) dX1_step_70 rfl ?_
      refine zy_isub dX1_step_71 ?_
      refine zy_icmp_ge (tgt := 81) dX1_step_72 (by decide) (by omega) (fun h_72 => ?_) (fun h_72 => ?_)
      · refine zx_iconst (v := zn_I (-1)) dX1_step_81 rfl ?_
        refine zx_iret (st := []) dX1_step_82 rfl rfl ?_
        exact zk_I (by unfold zp_step; (repeat' split) <;> omega)
      · refine zx_iload_n dX1_step_75 rfl ?_
        refine zx_iconst (v := zn_I 1) dX1_step_76 rfl ?_
        refine zy_iadd dX1_step_77 ?_
        refine zx_goto (tgt := 82) dX1_step_78 (by decide) ?_
        refine zx_iret (st := []) dX1_step_82 rfl rfl ?_
        exact zk_I (by unfold zp_step; (repeat' split) <;> omega)
    · refine zx_tin (z := 3) (tgt := 83) dX1_step_11 ((zn_toInt ⟨by omega, by omega⟩).trans h_11) (by decide) (by decide) rfl (by decide) ?_
      refine zx_iload_n dX1_step_83 rfl ?_
      refine zx_aload_n dX1_step_84 rfl ?_
      refine zy_geti dX1_step_85 fX1_25 hw ?_
      refine zy_iadd dX1_step_88 ?_
      refine zx_aload_n dX1_step_89 rfl ?_
      refine zy_geti dX1_step_90 fX1_28 hn ?_
      refine zy_icmp_ge (tgt := 105) dX1_step_93 (by decide) (by omega) (fun h_93 => ?_) (fun h_93 => ?_)
      · refine zx_iconst (v := zn_I (-1)) dX1_step_105 rfl ?_
        refine zx_iret (st := []) dX1_step_106 rfl rfl ?_
        exact zk_I (by unfold zp_step; (repeat' split) <;> omega)
      · refine zx_iload_n dX1_step_96 rfl ?_
        refine zx_aload_n dX1_step_97 rfl ?_
        refine zy_geti dX1_step_98 fX1_25 hw ?_
        refine zy_iadd dX1_step_101 ?_
        refine zx_goto (tgt := 106) dX1_step_102 (by decide) ?_
        refine zx_iret (st := []) dX1_step_106 rfl rfl ?_
        exact zk_I (by unfold zp_step; (repeat' split) <;> omega)
    · refine zx_tin (z := 4) (tgt := 107) dX1_step_11 ((zn_toInt ⟨by omega, by omega⟩).trans h_11) (by decide) (by decide) rfl (by decide) ?_
      refine zx_aload_n dX1_step_107 rfl ?_
      refine zx_getr dX1_step_108 fX1_15 ?_
      refine zx_iload_n dX1_step_111 rfl ?_
      refine zy_iald dX1_step_112 rfl (by decide) rfl (by omega) (hE _ (by omega)) ?_
      refine zx_iconst (v := zn_I 1) dX1_step_113 rfl ?_
      refine zx_aload_n dX1_step_114 rfl ?_
      refine zy_geti dX1_step_115 fX1_25 hw ?_
      refine zy_isub dX1_step_118 ?_
      refine zy_icmp_le (tgt := 128) dX1_step_119 (by decide) (by omega) (fun h_119 => ?_) (fun h_119 => ?_)
      · refine zx_iconst (v := zn_I (-1)) dX1_step_128 rfl ?_
        refine zx_iret (st := []) dX1_step_129 rfl rfl ?_
        exact zk_I (by unfold zp_step; (repeat' split) <;> omega)
      · refine zx_iload_n dX1_step_122 rfl ?_
        refine zx_iconst (v := zn_I 1) dX1_step_123 rfl ?_
        refine zy_isub dX1_step_124 ?_
        refine zx_goto (tgt := 129) dX1_step_125 (by decide) ?_
        refine zx_iret (st := []) dX1_step_129 rfl rfl ?_
        exact zk_I (by unfold zp_step; (repeat' split) <;> omega)
    · refine zx_tout (tgt := 130) dX1_step_11 (by rw [zn_toInt ⟨by omega, by omega⟩]; exact h_11) (by decide) ?_
      refine zx_iload_n dX1_step_130 rfl ?_
      refine zx_iret (st := []) dX1_step_131 rfl rfl ?_
      exact zk_I (by unfold zp_step; (repeat' split) <;> omega)
  · exact absurd h_5 (by omega)
/-- the square to which a person goes in a storm's minute -/
def zp_mid (π : zP) (s : Nat) : Nat := if s / π.2.1 = π.1 / 2 then (if s % π.2.1 = π.2.1 / 2 then s else if s % π.2.1 < π.2.1 / 2 then s + 1 else s - 1) else if s / π.2.1 < π.1 / 2 then s + π.2.1 else s - π.2.1
theorem zp_down {π : zP} {s : Nat} (hs : s < zp_n π) (h : s / π.2.1 + 1 < π.1) : s + π.2.1 < zp_n π := by
  obtain ⟨hw0, -, -, -⟩ := zp_w0 hs
  have h1 : (s + π.2.1) / π.2.1 < π.1 := by rw [Nat.add_div_right _ hw0]; exact h
  exact (Nat.div_lt_iff_lt_mul hw0).mp h1
theorem zp_up {π : zP} {s : Nat} (hs : s < zp_n π) (h : 0 < s / π.2.1) : π.2.1 ≤ s := by
  rcases Nat.lt_or_ge s π.2.1 with q | q
  · rw [Nat.div_eq_of_lt q] at h; omega
  · exact q
set_option maxRecDepth 100000 in
set_option maxHeartbeats 4000000 in
theorem mX1_towardsMiddle {l : Launch} {d : Nat} {M : zw_M} {π : zP} (hI : zI M π) {s : Nat} (hs : s < zp_n π) : zw_C l (d + 2) iX1_towardsMiddle [.ref 4, .int (zn_I (s : Int))] M (zw_i (zn_I (zp_mid π s : Nat)) M) := by
  obtain ⟨hp, hr, hw, hn, hdo, hH, hE, hS, hB⟩ := id hI
  have h30 := zp_30 hp
  obtain ⟨hw0, hr0, hm, hq⟩ := zp_w0 hs
  have he5 := zp_e_rng hp hs
  have hs5 := zp_s_rng hp hs
  have hee : zp_e π s = 2 * ((s % π.2.1 : Nat) : Int) - ((π.2.1 : Int) - 1) := rfl
  have hss : zp_s π s = 2 * ((s / π.2.1 : Nat) : Int) - ((π.1 : Int) - 1) := rfl
  have hup := zp_up hs
  have hml := Nat.mod_le s π.2.1
  have hdn := zp_down hs
  have ae : zp_at π (zp_e π) (s : Int) = zp_e π s := zp_at_in hs
  have as : zp_at π (zp_s π) (s : Int) = zp_s π s := zp_at_in hs
  refine zw_of (by decide +kernel) (Nat.le_of_ble_eq_true rfl) ?_
  refine zy_loc (L1 := [.ref 4, .int (zn_I (s : Int)), .retAddr 0, .retAddr 0]) rfl ?_
  refine zx_aload_n dX1_towardsMiddle_0 rfl ?_
  refine zy_geti dX1_towardsMiddle_1 fX1_21 hr ?_
  refine zx_iconst (v := zn_I 2) dX1_towardsMiddle_4 rfl ?_
  refine zy_idiv (b := 2) dX1_towardsMiddle_5 (by omega) ?_
  refine zx_aload_n dX1_towardsMiddle_6 rfl ?_
  refine zy_geti dX1_towardsMiddle_7 fX1_21 hr ?_
  refine zx_callS (y1 := iX1_fromCentre) dX1_towardsMiddle_10 lX1_48 sX1_fromCentre (mX1_fromCentre) rfl rfl (Nat.le_of_ble_eq_true rfl) ?_
  refine zk_i ?_
  refine zx_aload_n dX1_towardsMiddle_13 rfl ?_
  refine zx_iload_n dX1_towardsMiddle_14 rfl ?_
  refine zx_callV (y1 := iX1_south) dX1_towardsMiddle_15 lX1_64 vX1_south rc_4 (mX1_south hI ⟨by omega, by omega⟩) rfl rfl (Nat.le_of_ble_eq_true rfl) ?_
  refine zk_i ?_
  rw [as]
  refine zy_isub dX1_towardsMiddle_18 ?_
  refine zx_istore_n dX1_towardsMiddle_19 rfl (Nat.le_of_ble_eq_true rfl) ?_
  refine zx_aload_n dX1_towardsMiddle_20 rfl ?_
  refine zy_geti dX1_towardsMiddle_21 fX1_25 hw ?_
  refine zx_iconst (v := zn_I 2) dX1_towardsMiddle_24 rfl ?_
  refine zy_idiv (b := 2) dX1_towardsMiddle_25 (by omega) ?_
  refine zx_aload_n dX1_towardsMiddle_26 rfl ?_
  refine zy_geti dX1_towardsMiddle_27 fX1_25 hw ?_
  refine zx_callS (y1 := iX1_fromCentre) dX1_towardsMiddle_30 lX1_48 sX1_fromCentre (mX1_fromCentre) rfl rfl (Nat.le_of_ble_eq_true rfl) ?_
  refine zk_i ?_
  refine zx_aload_n dX1_towardsMiddle_33 rfl ?_
  refine zx_iload_n dX1_towardsMiddle_34 rfl ?_
  refine zx_callV (y1 := iX1_east) dX1_towardsMiddle_35 lX1_67 vX1_east rc_4 (mX1_east hI ⟨by omega, by omega⟩) rfl rfl (Nat.le_of_ble_eq_true rfl) ?_
  refine zk_i ?_
  rw [ae]
  refine zy_isub dX1_towardsMiddle_38 ?_
  refine zx_istore_n dX1_towardsMiddle_39 rfl (Nat.le_of_ble_eq_true rfl) ?_
  refine zx_iload_n dX1_towardsMiddle_40 rfl ?_
  refine zy_if_eq (tgt := 59) dX1_towardsMiddle_41 (by decide) (by omega) (fun h_41 => ?_) (fun h_41 => ?_)
  · refine zx_iload_n dX1_towardsMiddle_59 rfl ?_
    refine zy_if_eq (tgt := 78) dX1_towardsMiddle_60 (by decide) (by omega) (fun h_60 => ?_) (fun h_60 => ?_)
    · refine zx_iload_n dX1_towardsMiddle_78 rfl ?_
      refine zx_iret (st := []) dX1_towardsMiddle_79 rfl rfl ?_
      exact zk_I (by unfold zp_mid; first | omega | (unfold zp_step; (repeat' split) <;> omega) | ((repeat' split) <;> omega))
    · refine zx_aload_n dX1_towardsMiddle_63 rfl ?_
      refine zx_iload_n dX1_towardsMiddle_64 rfl ?_
      refine zx_iload_n dX1_towardsMiddle_65 rfl ?_
      refine zy_if_ge (tgt := 73) dX1_towardsMiddle_66 (by decide) (by omega) (fun h_66 => ?_) (fun h_66 => ?_)
      · refine zx_iconst (v := zn_I 2) dX1_towardsMiddle_73 rfl ?_
        refine zx_callV (y1 := iX1_step) dX1_towardsMiddle_74 lX1_70 vX1_step rc_4 (mX1_step hI hs ⟨by omega, by omega⟩) rfl rfl (Nat.le_of_ble_eq_true rfl) ?_
        refine zk_i ?_
        refine zx_iret (st := []) dX1_towardsMiddle_77 rfl rfl ?_
        exact zk_I (by unfold zp_mid; first | omega | (unfold zp_step; (repeat' split) <;> omega) | ((repeat' split) <;> omega))
      · refine zx_iconst (v := zn_I 4) dX1_towardsMiddle_69 rfl ?_
        refine zx_goto (tgt := 74) dX1_towardsMiddle_70 (by decide) ?_
        refine zx_callV (y1 := iX1_step) dX1_towardsMiddle_74 lX1_70 vX1_step rc_4 (mX1_step hI hs ⟨by omega, by omega⟩) rfl rfl (Nat.le_of_ble_eq_true rfl) ?_
        refine zk_i ?_
        refine zx_iret (st := []) dX1_towardsMiddle_77 rfl rfl ?_
        exact zk_I (by unfold zp_mid; first | omega | (unfold zp_step; (repeat' split) <;> omega) | ((repeat' split) <;> omega))
  · refine zx_aload_n dX1_towardsMiddle_44 rfl ?_
    refine zx_iload_n dX1_towardsMiddle_45 rfl ?_
    refine zx_iload_n dX1_towardsMiddle_46 rfl ?_
    refine zy_if_ge (tgt := 54) dX1_towardsMiddle_47 (by decide) (by omega) (fun h_47 => ?_) (fun h_47 => ?_)
    · refine zx_iconst (v := zn_I 3) dX1_towardsMiddle_54 rfl ?_
      refine zx_callV (y1 := iX1_step) dX1_towardsMiddle_55 lX1_70 vX1_step rc_4 (mX1_step hI hs ⟨by omega, by omega⟩) rfl rfl (Nat.le_of_ble_eq_true rfl) ?_
      refine zk_i ?_
      refine zx_iret (st := []) dX1_towardsMiddle_58 rfl rfl ?_
      exact zk_I (by unfold zp_mid; first | omega | (unfold zp_step; (repeat' split) <;> omega) | ((repeat' split) <;> omega))
    · refine zx_iconst (v := zn_I 1) dX1_towardsMiddle_50 rfl ?_
      refine zx_goto (tgt := 55) dX1_towardsMiddle_51 (by decide) ?_
      refine zx_callV (y1 := iX1_step) dX1_towardsMiddle_55 lX1_70 vX1_step rc_4 (mX1_step hI hs ⟨by omega, by omega⟩) rfl rfl (Nat.le_of_ble_eq_true rfl) ?_
      refine zk_i ?_
      refine zx_iret (st := []) dX1_towardsMiddle_58 rfl rfl ?_
      exact zk_I (by unfold zp_mid; first | omega | (unfold zp_step; (repeat' split) <;> omega) | ((repeat' split) <;> omega))
end
section
/-! THE THINGS: how many, kinds, weights, where each stands in each quarter -/
abbrev zQ : Type := Nat × (Nat → Int) × (Nat → Int) × (Nat → Nat → Nat)
def zT (M : zw_M) (n : Nat) (τ : zQ) : Prop :=
  τ.1 ≤ 8 ∧ M.1 8 4 = zn_I τ.1 ∧ (∀ t, t < τ.1 → M.1 9 t = zn_I (τ.2.1 t)) ∧ (∀ t, t < τ.1 → M.1 10 t = zn_I (τ.2.2.1 t)) ∧ (∀ t, t < τ.1 → ∀ q, q < 8 → M.1 11 (t * 8 + q) = zn_I (τ.2.2.2 t q : Nat)) ∧ (∀ t, t < τ.1 → 0 ≤ τ.2.1 t ∧ τ.2.1 t ≤ 4) ∧ (∀ t, t < τ.1 → 1 ≤ τ.2.2.1 t ∧ τ.2.2.1 t ≤ 99) ∧ (∀ t, t < τ.1 → ∀ q, q < 8 → τ.2.2.2 t q < n)
def zt_w (τ : zQ) (t : Nat) : Int := if τ.2.1 t = 4 then 2 * τ.2.2.1 t else τ.2.2.1 t
def zt_kind (τ : zQ) (z : Int) : Int := if 0 ≤ z ∧ z < τ.1 then τ.2.1 z.toNat else -1
def zt_weight (τ : zQ) (z : Int) : Int := if 0 ≤ z ∧ z < τ.1 then τ.2.2.1 z.toNat else 0
def zt_weighs (τ : zQ) (z : Int) : Int := if 0 ≤ z ∧ z < τ.1 then zt_w τ z.toNat else 0
abbrev zt_isA (τ : zQ) (z a : Int) : Prop := zt_kind τ z = a ∨ a = 0 ∨ (a = 3 ∧ zt_kind τ z = 4)
def zt_place (τ : zQ) (z q : Int) : Int := if (0 ≤ z ∧ z < τ.1) ∧ (0 ≤ q ∧ q < 8) then (τ.2.2.2 z.toNat q.toNat : Int) else -1
abbrev zt_per (τ : zQ) (t : Nat) : Prop := τ.2.1 t = 3 ∨ τ.2.1 t = 4
theorem zt_kind_in {τ : zQ} {t : Nat} (h : t < τ.1) : zt_kind τ (t : Int) = τ.2.1 t := by rw [zt_kind, if_pos ⟨by omega, by omega⟩, Int.toNat_natCast]
theorem zt_weighs_in {τ : zQ} {t : Nat} (h : t < τ.1) : zt_weighs τ (t : Int) = zt_w τ t := by rw [zt_weighs, if_pos ⟨by omega, by omega⟩, Int.toNat_natCast]
theorem zt_weighs_out {τ : zQ} {t : Nat} (h : τ.1 ≤ t) : zt_weighs τ (t : Int) = 0 := by rw [zt_weighs, if_neg (fun q => by omega)]
theorem zt_place_in {τ : zQ} {t q : Nat} (h : t < τ.1) (hq : q < 8) : zt_place τ (t : Int) (q : Int) = (τ.2.2.2 t q : Int) := by rw [zt_place, if_pos ⟨⟨by omega, by omega⟩, by omega, by omega⟩, Int.toNat_natCast, Int.toNat_natCast]
theorem zt_kind_rng {M : zw_M} {n : Nat} {τ : zQ} (hT : zT M n τ) (z : Int) : -1 ≤ zt_kind τ z ∧ zt_kind τ z ≤ 4 := by
  unfold zt_kind
  split
  · next h => have := hT.2.2.2.2.2.1 z.toNat (by omega); omega
  · omega
theorem zt_w_rng {M : zw_M} {n : Nat} {τ : zQ} (hT : zT M n τ) {t : Nat} (h : t < τ.1) : 1 ≤ zt_w τ t ∧ zt_w τ t ≤ 198 := by
  have := hT.2.2.2.2.2.2.1 t h
  unfold zt_w
  split <;> omega
/-- who is a person, as bits -/
def zt_pb (τ : zQ) : Nat → Nat
  | 0 => 0
  | t + 1 => zt_pb τ t + (if zt_per τ t then 2 ^ t else 0)
theorem zt_pb_lt (τ : zQ) : ∀ t, zt_pb τ t < 2 ^ t
  | 0 => Nat.one_pos
  | t + 1 => by
    have ih := zt_pb_lt τ t
    rw [zt_pb, Nat.pow_succ]
    split <;> omega
set_option maxRecDepth 100000 in
set_option maxHeartbeats 4000000 in
theorem mX10_isQuarter {l : Launch} {d : Nat} {M : zw_M} {z : Int} (hz : -2147483648 ≤ z ∧ z < 2147483648) : zw_C l d iX10_isQuarter [.int (zn_I z)] M (zw_i (zn_B (0 ≤ z ∧ z < 8)) M) := by
  refine zw_of (by decide +kernel) (Nat.le_of_ble_eq_true rfl) ?_
  refine zy_loc (L1 := [.int (zn_I z)]) rfl ?_
  refine zx_iload_n dX10_isQuarter_0 rfl ?_
  refine zy_if_lt (tgt := 14) dX10_isQuarter_1 (by decide) (by omega) (fun h_1 => ?_) (fun h_1 => ?_)
  · refine zx_iconst (v := zn_I 0) dX10_isQuarter_14 rfl ?_
    refine zx_iret (st := []) dX10_isQuarter_15 rfl rfl ?_
    first | exact zk_B (zn_Bt (by omega)) | exact zk_B (zn_Bf (by omega))
  · refine zx_iload_n dX10_isQuarter_4 rfl ?_
    refine zx_bipush (v := zn_I 8) dX10_isQuarter_5 (by decide) ?_
    refine zy_icmp_ge (tgt := 14) dX10_isQuarter_7 (by decide) (by omega) (fun h_7 => ?_) (fun h_7 => ?_)
    · refine zx_iconst (v := zn_I 0) dX10_isQuarter_14 rfl ?_
      refine zx_iret (st := []) dX10_isQuarter_15 rfl rfl ?_
      first | exact zk_B (zn_Bt (by omega)) | exact zk_B (zn_Bf (by omega))
    · refine zx_iconst (v := zn_I 1) dX10_isQuarter_10 rfl ?_
      refine zx_goto (tgt := 15) dX10_isQuarter_11 (by decide) ?_
      refine zx_iret (st := []) dX10_isQuarter_15 rfl rfl ?_
      first | exact zk_B (zn_Bt (by omega)) | exact zk_B (zn_Bf (by omega))
set_option maxRecDepth 100000 in
set_option maxHeartbeats 4000000 in
theorem mX10_isKind {l : Launch} {d : Nat} {M : zw_M} {z : Int} (hz : -2147483648 ≤ z ∧ z < 2147483648) : zw_C l d iX10_isKind [.int (zn_I z)] M (zw_i (zn_B (0 ≤ z ∧ z ≤ 4)) M) := by
  refine zw_of (by decide +kernel) (Nat.le_of_ble_eq_true rfl) ?_
  refine zy_loc (L1 := [.int (zn_I z)]) rfl ?_
  refine zx_iload_n dX10_isKind_0 rfl ?_
  refine zy_if_lt (tgt := 13) dX10_isKind_1 (by decide) (by omega) (fun h_1 => ?_) (fun h_1 => ?_)
  · refine zx_iconst (v := zn_I 0) dX10_isKind_13 rfl ?_
    refine zx_iret (st := []) dX10_isKind_14 rfl rfl ?_
    first | exact zk_B (zn_Bt (by omega)) | exact zk_B (zn_Bf (by omega))
  · refine zx_iload_n dX10_isKind_4 rfl ?_
    refine zx_iconst (v := zn_I 4) dX10_isKind_5 rfl ?_
    refine zy_icmp_gt (tgt := 13) dX10_isKind_6 (by decide) (by omega) (fun h_6 => ?_) (fun h_6 => ?_)
    · refine zx_iconst (v := zn_I 0) dX10_isKind_13 rfl ?_
      refine zx_iret (st := []) dX10_isKind_14 rfl rfl ?_
      first | exact zk_B (zn_Bt (by omega)) | exact zk_B (zn_Bf (by omega))
    · refine zx_iconst (v := zn_I 1) dX10_isKind_9 rfl ?_
      refine zx_goto (tgt := 14) dX10_isKind_10 (by decide) ?_
      refine zx_iret (st := []) dX10_isKind_14 rfl rfl ?_
      first | exact zk_B (zn_Bt (by omega)) | exact zk_B (zn_Bf (by omega))
set_option maxRecDepth 100000 in
set_option maxHeartbeats 4000000 in
theorem mX10_isWeight {l : Launch} {d : Nat} {M : zw_M} {z : Int} (hz : -2147483648 ≤ z ∧ z < 2147483648) : zw_C l d iX10_isWeight [.int (zn_I z)] M (zw_i (zn_B (1 ≤ z ∧ z ≤ 99)) M) := by
  refine zw_of (by decide +kernel) (Nat.le_of_ble_eq_true rfl) ?_
  refine zy_loc (L1 := [.int (zn_I z)]) rfl ?_
  refine zx_iload_n dX10_isWeight_0 rfl ?_
  refine zx_iconst (v := zn_I 1) dX10_isWeight_1 rfl ?_
  refine zy_icmp_lt (tgt := 15) dX10_isWeight_2 (by decide) (by omega) (fun h_2 => ?_) (fun h_2 => ?_)
  · refine zx_iconst (v := zn_I 0) dX10_isWeight_15 rfl ?_
    refine zx_iret (st := []) dX10_isWeight_16 rfl rfl ?_
    first | exact zk_B (zn_Bt (by omega)) | exact zk_B (zn_Bf (by omega))
  · refine zx_iload_n dX10_isWeight_5 rfl ?_
    refine zx_bipush (v := zn_I 99) dX10_isWeight_6 (by decide) ?_
    refine zy_icmp_gt (tgt := 15) dX10_isWeight_8 (by decide) (by omega) (fun h_8 => ?_) (fun h_8 => ?_)
    · refine zx_iconst (v := zn_I 0) dX10_isWeight_15 rfl ?_
      refine zx_iret (st := []) dX10_isWeight_16 rfl rfl ?_
      first | exact zk_B (zn_Bt (by omega)) | exact zk_B (zn_Bf (by omega))
    · refine zx_iconst (v := zn_I 1) dX10_isWeight_11 rfl ?_
      refine zx_goto (tgt := 16) dX10_isWeight_12 (by decide) ?_
      refine zx_iret (st := []) dX10_isWeight_16 rfl rfl ?_
      first | exact zk_B (zn_Bt (by omega)) | exact zk_B (zn_Bf (by omega))
set_option maxRecDepth 100000 in
set_option maxHeartbeats 4000000 in
theorem mX10_asksPlace {l : Launch} {d : Nat} {M : zw_M} {z : Int} (hz : -2147483648 ≤ z ∧ z < 2147483648) : zw_C l d iX10_asksPlace [.int (zn_I z)] M (zw_i (zn_B (10 ≤ z ∧ z ≤ 17)) M) := by
  refine zw_of (by decide +kernel) (Nat.le_of_ble_eq_true rfl) ?_
  refine zy_loc (L1 := [.int (zn_I z)]) rfl ?_
  refine zx_iload_n dX10_asksPlace_0 rfl ?_
  refine zx_bipush (v := zn_I 10) dX10_asksPlace_1 (by decide) ?_
  refine zy_icmp_lt (tgt := 16) dX10_asksPlace_3 (by decide) (by omega) (fun h_3 => ?_) (fun h_3 => ?_)
  · refine zx_iconst (v := zn_I 0) dX10_asksPlace_16 rfl ?_
    refine zx_iret (st := []) dX10_asksPlace_17 rfl rfl ?_
    first | exact zk_B (zn_Bt (by omega)) | exact zk_B (zn_Bf (by omega))
  · refine zx_iload_n dX10_asksPlace_6 rfl ?_
    refine zx_bipush (v := zn_I 17) dX10_asksPlace_7 (by decide) ?_
    refine zy_icmp_gt (tgt := 16) dX10_asksPlace_9 (by decide) (by omega) (fun h_9 => ?_) (fun h_9 => ?_)
    · refine zx_iconst (v := zn_I 0) dX10_asksPlace_16 rfl ?_
      refine zx_iret (st := []) dX10_asksPlace_17 rfl rfl ?_
      first | exact zk_B (zn_Bt (by omega)) | exact zk_B (zn_Bf (by omega))
    · refine zx_iconst (v := zn_I 1) dX10_asksPlace_12 rfl ?_
      refine zx_goto (tgt := 17) dX10_asksPlace_13 (by decide) ?_
      refine zx_iret (st := []) dX10_asksPlace_17 rfl rfl ?_
      first | exact zk_B (zn_Bt (by omega)) | exact zk_B (zn_Bf (by omega))
set_option maxRecDepth 100000 in
set_option maxHeartbeats 4000000 in
theorem mX8_size {l : Launch} {d : Nat} {M : zw_M} {n : Nat} {τ : zQ} (hT : zT M n τ) : zw_C l d iX8_size [.ref 8] M (zw_i (zn_I τ.1) M) := by
  obtain ⟨h8, hk, hK, hW, hP, hKr, hWr, hPr⟩ := id hT
  refine zw_of (by decide +kernel) (Nat.le_of_ble_eq_true rfl) ?_
  refine zy_loc (L1 := [.ref 8]) rfl ?_
  refine zx_aload_n dX8_size_0 rfl ?_
  refine zy_geti dX8_size_1 fX8_28 hk ?_
  refine zx_iret (st := []) dX8_size_4 rfl rfl ?_
  exact ⟨rfl, rfl⟩
set_option maxRecDepth 100000 in
set_option maxHeartbeats 4000000 in
theorem mX8_has {l : Launch} {d : Nat} {M : zw_M} {n : Nat} {τ : zQ} (hT : zT M n τ) {z : Int} (hz : -2147483648 ≤ z ∧ z < 2147483648) : zw_C l d iX8_has [.ref 8, .int (zn_I z)] M (zw_i (zn_B (0 ≤ z ∧ z < τ.1)) M) := by
  obtain ⟨h8, hk, hK, hW, hP, hKr, hWr, hPr⟩ := id hT
  refine zw_of (by decide +kernel) (Nat.le_of_ble_eq_true rfl) ?_
  refine zy_loc (L1 := [.ref 8, .int (zn_I z)]) rfl ?_
  refine zx_iload_n dX8_has_0 rfl ?_
  refine zy_if_lt (tgt := 16) dX8_has_1 (by decide) (by omega) (fun h_1 => ?_) (fun h_1 => ?_)
  · refine zx_iconst (v := zn_I 0) dX8_has_16 rfl ?_
    refine zx_iret (st := []) dX8_has_17 rfl rfl ?_
    first | exact zk_B (zn_Bt (by omega)) | exact zk_B (zn_Bf (by omega))
  · refine zx_iload_n dX8_has_4 rfl ?_
    refine zx_aload_n dX8_has_5 rfl ?_
    refine zy_geti dX8_has_6 fX8_28 hk ?_
    refine zy_icmp_ge (tgt := 16) dX8_has_9 (by decide) (by omega) (fun h_9 => ?_) (fun h_9 => ?_)
    · refine zx_iconst (v := zn_I 0) dX8_has_16 rfl ?_
      refine zx_iret (st := []) dX8_has_17 rfl rfl ?_
      first | exact zk_B (zn_Bt (by omega)) | exact zk_B (zn_Bf (by omega))
    · refine zx_iconst (v := zn_I 1) dX8_has_12 rfl ?_
      refine zx_goto (tgt := 17) dX8_has_13 (by decide) ?_
      refine zx_iret (st := []) dX8_has_17 rfl rfl ?_
      first | exact zk_B (zn_Bt (by omega)) | exact zk_B (zn_Bf (by omega))
set_option maxRecDepth 100000 in
set_option maxHeartbeats 4000000 in
theorem mX8_kind {l : Launch} {d : Nat} {M : zw_M} {n : Nat} {τ : zQ} (hT : zT M n τ) {z : Int} (hz : -2147483648 ≤ z ∧ z < 2147483648) : zw_C l (d + 1) iX8_kind [.ref 8, .int (zn_I z)] M (zw_i (zn_I (zt_kind τ z)) M) := by
  obtain ⟨h8, hk, hK, hW, hP, hKr, hWr, hPr⟩ := id hT
  refine zw_of (by decide +kernel) (Nat.le_of_ble_eq_true rfl) ?_
  refine zy_loc (L1 := [.ref 8, .int (zn_I z)]) rfl ?_
  refine zx_aload_n dX8_kind_0 rfl ?_
  refine zx_iload_n dX8_kind_1 rfl ?_
  refine zx_callV (y1 := iX8_has) dX8_kind_2 lX8_35 vX8_has rc_8 (mX8_has hT hz) rfl rfl (Nat.le_of_ble_eq_true rfl) ?_
  refine zk_i ?_
  refine zy_ifB_eq (tgt := 17) dX8_kind_5 (by decide) (fun h_5 => ?_) (fun h_5 => ?_)
  · refine zx_iconst (v := zn_I (-1)) dX8_kind_17 rfl ?_
    refine zx_iret (st := []) dX8_kind_18 rfl rfl ?_
    first | exact zk_I (by rw [zt_kind, if_pos h_5]) | exact zk_I (by rw [zt_kind, if_neg h_5])
  · refine zx_aload_n dX8_kind_8 rfl ?_
    refine zx_getr dX8_kind_9 fX8_9 ?_
    refine zx_iload_n dX8_kind_12 rfl ?_
    refine zy_iald (i := z.toNat) dX8_kind_13 rfl (by decide) (by omega) (by omega) (hK _ (by omega)) ?_
    refine zx_goto (tgt := 18) dX8_kind_14 (by decide) ?_
    refine zx_iret (st := []) dX8_kind_18 rfl rfl ?_
    first | exact zk_I (by rw [zt_kind, if_pos h_5]) | exact zk_I (by rw [zt_kind, if_neg h_5])
set_option maxRecDepth 100000 in
set_option maxHeartbeats 4000000 in
theorem mX8_weight {l : Launch} {d : Nat} {M : zw_M} {n : Nat} {τ : zQ} (hT : zT M n τ) {z : Int} (hz : -2147483648 ≤ z ∧ z < 2147483648) : zw_C l (d + 1) iX8_weight [.ref 8, .int (zn_I z)] M (zw_i (zn_I (zt_weight τ z)) M) := by
  obtain ⟨h8, hk, hK, hW, hP, hKr, hWr, hPr⟩ := id hT
  refine zw_of (by decide +kernel) (Nat.le_of_ble_eq_true rfl) ?_
  refine zy_loc (L1 := [.ref 8, .int (zn_I z)]) rfl ?_
  refine zx_aload_n dX8_weight_0 rfl ?_
  refine zx_iload_n dX8_weight_1 rfl ?_
  refine zx_callV (y1 := iX8_has) dX8_weight_2 lX8_35 vX8_has rc_8 (mX8_has hT hz) rfl rfl (Nat.le_of_ble_eq_true rfl) ?_
  refine zk_i ?_
  refine zy_ifB_eq (tgt := 17) dX8_weight_5 (by decide) (fun h_5 => ?_) (fun h_5 => ?_)
  · refine zx_iconst (v := zn_I 0) dX8_weight_17 rfl ?_
    refine zx_iret (st := []) dX8_weight_18 rfl rfl ?_
    first | exact zk_I (by rw [zt_weight, if_pos h_5]) | exact zk_I (by rw [zt_weight, if_neg h_5])
  · refine zx_aload_n dX8_weight_8 rfl ?_
    refine zx_getr dX8_weight_9 fX8_15 ?_
    refine zx_iload_n dX8_weight_12 rfl ?_
    refine zy_iald (i := z.toNat) dX8_weight_13 rfl (by decide) (by omega) (by omega) (hW _ (by omega)) ?_
    refine zx_goto (tgt := 18) dX8_weight_14 (by decide) ?_
    refine zx_iret (st := []) dX8_weight_18 rfl rfl ?_
    first | exact zk_I (by rw [zt_weight, if_pos h_5]) | exact zk_I (by rw [zt_weight, if_neg h_5])
set_option maxRecDepth 100000 in
set_option maxHeartbeats 4000000 in
theorem mX8_weighs {l : Launch} {d : Nat} {M : zw_M} {n : Nat} {τ : zQ} (hT : zT M n τ) {z : Int} (hz : -2147483648 ≤ z ∧ z < 2147483648) : zw_C l (d + 1) iX8_weighs [.ref 8, .int (zn_I z)] M (zw_i (zn_I (zt_weighs τ z)) M) := by
  obtain ⟨h8, hk, hK, hW, hP, hKr, hWr, hPr⟩ := id hT
  refine zw_of (by decide +kernel) (Nat.le_of_ble_eq_true rfl) ?_
  refine zy_loc (L1 := [.ref 8, .int (zn_I z)]) rfl ?_
  refine zx_aload_n dX8_weighs_0 rfl ?_
  refine zx_iload_n dX8_weighs_1 rfl ?_
  refine zx_callV (y1 := iX8_has) dX8_weighs_2 lX8_35 vX8_has rc_8 (mX8_has hT hz) rfl rfl (Nat.le_of_ble_eq_true rfl) ?_
  refine zk_i ?_
  refine zy_ifB_ne (tgt := 10) dX8_weighs_5 (by decide) (fun h_5 => ?_) (fun h_5 => ?_)
  · refine zx_aload_n dX8_weighs_10 rfl ?_
    refine zx_getr dX8_weighs_11 fX8_9 ?_
    refine zx_iload_n dX8_weighs_14 rfl ?_
    refine zy_iald (i := z.toNat) dX8_weighs_15 rfl (by decide) (by omega) (by omega) (hK _ (by omega)) ?_
    refine zx_iconst (v := zn_I 4) dX8_weighs_16 rfl ?_
    refine zy_icmp_ne (tgt := 31) dX8_weighs_17 (by decide) (by have := hKr z.toNat (by omega); omega) (fun h_17 => ?_) (fun h_17 => ?_)
    · refine zx_aload_n dX8_weighs_31 rfl ?_
      refine zx_getr dX8_weighs_32 fX8_15 ?_
      refine zx_iload_n dX8_weighs_35 rfl ?_
      refine zy_iald (i := z.toNat) dX8_weighs_36 rfl (by decide) (by omega) (by omega) (hW _ (by omega)) ?_
      refine zx_iret (st := []) dX8_weighs_37 rfl rfl ?_
      first | exact zk_I (by rw [zt_weighs, if_neg h_5]) | exact zk_I (by rw [zt_weighs, if_pos h_5, zt_w, if_pos h_17]) | exact zk_I (by rw [zt_weighs, if_pos h_5, zt_w, if_neg h_17])
    · refine zx_iconst (v := zn_I 2) dX8_weighs_20 rfl ?_
      refine zx_aload_n dX8_weighs_21 rfl ?_
      refine zx_getr dX8_weighs_22 fX8_15 ?_
      refine zx_iload_n dX8_weighs_25 rfl ?_
      refine zy_iald (i := z.toNat) dX8_weighs_26 rfl (by decide) (by omega) (by omega) (hW _ (by omega)) ?_
      refine zy_imul dX8_weighs_27 ?_
      refine zx_goto (tgt := 37) dX8_weighs_28 (by decide) ?_
      refine zx_iret (st := []) dX8_weighs_37 rfl rfl ?_
      first | exact zk_I (by rw [zt_weighs, if_neg h_5]) | exact zk_I (by rw [zt_weighs, if_pos h_5, zt_w, if_pos h_17]) | exact zk_I (by rw [zt_weighs, if_pos h_5, zt_w, if_neg h_17])
  · refine zx_iconst (v := zn_I 0) dX8_weighs_8 rfl ?_
    refine zx_iret (st := []) dX8_weighs_9 rfl rfl ?_
    first | exact zk_I (by rw [zt_weighs, if_neg h_5]) | exact zk_I (by rw [zt_weighs, if_pos h_5, zt_w, if_pos h_17]) | exact zk_I (by rw [zt_weighs, if_pos h_5, zt_w, if_neg h_17])
set_option maxRecDepth 100000 in
set_option maxHeartbeats 4000000 in
theorem mX8_isA {l : Launch} {d : Nat} {M : zw_M} {n : Nat} {τ : zQ} (hT : zT M n τ) {z : Int} {a : Int} (hz : -2147483648 ≤ z ∧ z < 2147483648) (ha : -2147483648 ≤ a ∧ a < 2147483648) : zw_C l (d + 2) iX8_isA [.ref 8, .int (zn_I z), .int (zn_I a)] M (zw_i (zn_B (zt_isA τ z a)) M) := by
  obtain ⟨h8, hk, hK, hW, hP, hKr, hWr, hPr⟩ := id hT
  have hkr := zt_kind_rng hT z
  refine zw_of (by decide +kernel) (Nat.le_of_ble_eq_true rfl) ?_
  refine zy_loc (L1 := [.ref 8, .int (zn_I z), .int (zn_I a), .retAddr 0]) rfl ?_
  refine zx_aload_n dX8_isA_0 rfl ?_
  refine zx_iload_n dX8_isA_1 rfl ?_
  refine zx_callV (y1 := iX8_kind) dX8_isA_2 lX8_39 vX8_kind rc_8 (mX8_kind hT hz) rfl rfl (Nat.le_of_ble_eq_true rfl) ?_
  refine zk_i ?_
  refine zx_istore_n dX8_isA_5 rfl (Nat.le_of_ble_eq_true rfl) ?_
  refine zx_iload_n dX8_isA_6 rfl ?_
  refine zx_iload_n dX8_isA_7 rfl ?_
  refine zy_icmp_eq (tgt := 25) dX8_isA_8 (by decide) (by omega) (fun h_8 => ?_) (fun h_8 => ?_)
  · refine zx_iconst (v := zn_I 1) dX8_isA_25 rfl ?_
    refine zx_goto (tgt := 30) dX8_isA_26 (by decide) ?_
    refine zx_iret (st := []) dX8_isA_30 rfl rfl ?_
    first | exact zk_B (zn_Bt (by omega)) | exact zk_B (zn_Bf (by omega))
  · refine zx_iload_n dX8_isA_11 rfl ?_
    refine zy_if_eq (tgt := 25) dX8_isA_12 (by decide) (by omega) (fun h_12 => ?_) (fun h_12 => ?_)
    · refine zx_iconst (v := zn_I 1) dX8_isA_25 rfl ?_
      refine zx_goto (tgt := 30) dX8_isA_26 (by decide) ?_
      refine zx_iret (st := []) dX8_isA_30 rfl rfl ?_
      first | exact zk_B (zn_Bt (by omega)) | exact zk_B (zn_Bf (by omega))
    · refine zx_iload_n dX8_isA_15 rfl ?_
      refine zx_iconst (v := zn_I 3) dX8_isA_16 rfl ?_
      refine zy_icmp_ne (tgt := 29) dX8_isA_17 (by decide) (by omega) (fun h_17 => ?_) (fun h_17 => ?_)
      · refine zx_iconst (v := zn_I 0) dX8_isA_29 rfl ?_
        refine zx_iret (st := []) dX8_isA_30 rfl rfl ?_
        first | exact zk_B (zn_Bt (by omega)) | exact zk_B (zn_Bf (by omega))
      · refine zx_iload_n dX8_isA_20 rfl ?_
        refine zx_iconst (v := zn_I 4) dX8_isA_21 rfl ?_
        refine zy_icmp_ne (tgt := 29) dX8_isA_22 (by decide) (by omega) (fun h_22 => ?_) (fun h_22 => ?_)
        · refine zx_iconst (v := zn_I 0) dX8_isA_29 rfl ?_
          refine zx_iret (st := []) dX8_isA_30 rfl rfl ?_
          first | exact zk_B (zn_Bt (by omega)) | exact zk_B (zn_Bf (by omega))
        · refine zx_iconst (v := zn_I 1) dX8_isA_25 rfl ?_
          refine zx_goto (tgt := 30) dX8_isA_26 (by decide) ?_
          refine zx_iret (st := []) dX8_isA_30 rfl rfl ?_
          first | exact zk_B (zn_Bt (by omega)) | exact zk_B (zn_Bf (by omega))
set_option maxRecDepth 100000 in
set_option maxHeartbeats 4000000 in
theorem mX8_place {l : Launch} {d : Nat} {M : zw_M} {n : Nat} {τ : zQ} (hT : zT M n τ) {z : Int} {q : Int} (hz : -2147483648 ≤ z ∧ z < 2147483648) (hq : -2147483648 ≤ q ∧ q < 2147483648) : zw_C l (d + 1) iX8_place [.ref 8, .int (zn_I z), .int (zn_I q)] M (zw_i (zn_I (zt_place τ z q)) M) := by
  obtain ⟨h8, hk, hK, hW, hP, hKr, hWr, hPr⟩ := id hT
  refine zw_of (by decide +kernel) (Nat.le_of_ble_eq_true rfl) ?_
  refine zy_loc (L1 := [.ref 8, .int (zn_I z), .int (zn_I q)]) rfl ?_
  refine zx_aload_n dX8_place_0 rfl ?_
  refine zx_iload_n dX8_place_1 rfl ?_
  refine zx_callV (y1 := iX8_has) dX8_place_2 lX8_35 vX8_has rc_8 (mX8_has hT hz) rfl rfl (Nat.le_of_ble_eq_true rfl) ?_
  refine zk_i ?_
  refine zy_ifB_eq (tgt := 29) dX8_place_5 (by decide) (fun h_5 => ?_) (fun h_5 => ?_)
  · refine zx_iconst (v := zn_I (-1)) dX8_place_29 rfl ?_
    refine zx_iret (st := []) dX8_place_30 rfl rfl ?_
    exact zk_I (by unfold zt_place; split <;> first | rfl | omega)
  · refine zx_iload_n dX8_place_8 rfl ?_
    refine zx_callN (y1 := iX10_isQuarter) (host := "IslandThatLeans") dX8_place_9 (by decide) sX10_isQuarter (mX10_isQuarter hq) rfl rfl (Nat.le_of_ble_eq_true rfl) ?_
    refine zk_i ?_
    refine zy_ifB_eq (tgt := 29) dX8_place_12 (by decide) (fun h_12 => ?_) (fun h_12 => ?_)
    · refine zx_iconst (v := zn_I (-1)) dX8_place_29 rfl ?_
      refine zx_iret (st := []) dX8_place_30 rfl rfl ?_
      exact zk_I (by unfold zt_place; split <;> first | rfl | omega)
    · refine zx_aload_n dX8_place_15 rfl ?_
      refine zx_getr dX8_place_16 fX8_18 ?_
      refine zx_iload_n dX8_place_19 rfl ?_
      refine zx_bipush (v := zn_I 8) dX8_place_20 (by decide) ?_
      refine zy_imul dX8_place_22 ?_
      refine zx_iload_n dX8_place_23 rfl ?_
      refine zy_iadd dX8_place_24 ?_
      refine zy_iald (i := z.toNat * 8 + q.toNat) dX8_place_25 rfl (by decide) (by omega) (by omega) (hP z.toNat (by omega) q.toNat (by omega)) ?_
      refine zx_goto (tgt := 30) dX8_place_26 (by decide) ?_
      refine zx_iret (st := []) dX8_place_30 rfl rfl ?_
      exact zk_I (by unfold zt_place; split <;> first | rfl | omega)
set_option maxRecDepth 100000 in
set_option maxHeartbeats 4000000 in
theorem mX8_peopleBits {l : Launch} {d : Nat} {M : zw_M} {n : Nat} {τ : zQ} (hT : zT M n τ) : zw_C l (d + 3) iX8_peopleBits [.ref 8] M (zw_i (zn_I (zt_pb τ τ.1 : Nat)) M) := by
  obtain ⟨h8, hk, hK, hW, hP, hKr, hWr, hPr⟩ := id hT
  refine zw_of (by decide +kernel) (Nat.le_of_ble_eq_true rfl) ?_
  refine zy_loc (L1 := [.ref 8, .retAddr 0, .retAddr 0]) rfl ?_
  have loop : ∀ s, s ≤ τ.1 → zw_X l (d + 3) iX8_peopleBits (zw_i (zn_I (zt_pb τ τ.1 : Nat)) M) 4 [.ref 8, .int (zn_I (zt_pb τ s : Nat)), .int (zn_I (s : Nat))] [] M := by
    refine zw_loop τ.1 (P := fun s => zw_X l (d + 3) iX8_peopleBits (zw_i (zn_I (zt_pb τ τ.1 : Nat)) M) 4 [.ref 8, .int (zn_I (zt_pb τ s : Nat)), .int (zn_I (s : Nat))] [] M) (fun s hs ih => ?_)
    refine zx_iload_n dX8_peopleBits_4 rfl ?_
    refine zx_aload_n dX8_peopleBits_5 rfl ?_
    refine zy_geti dX8_peopleBits_6 fX8_28 hk ?_
    refine zy_icmp_ge (tgt := 33) dX8_peopleBits_9 (by decide) (by omega) (fun h_9 => ?_) (fun h_9 => ?_)
    · refine zx_iload_n dX8_peopleBits_33 rfl ?_
      refine zx_iret (st := []) dX8_peopleBits_34 rfl rfl ?_
      exact zk_I (by rw [show s = τ.1 by omega])
    · refine zx_aload_n dX8_peopleBits_12 rfl ?_
      refine zx_iload_n dX8_peopleBits_13 rfl ?_
      refine zx_iconst (v := zn_I 3) dX8_peopleBits_14 rfl ?_
      refine zx_callV (y1 := iX8_isA) dX8_peopleBits_15 lX8_52 vX8_isA rc_8 (mX8_isA hT (z := (s : Int)) (a := 3) ⟨by omega, by omega⟩ ⟨by omega, by omega⟩) rfl rfl (Nat.le_of_ble_eq_true rfl) ?_
      refine zk_i ?_
      refine zy_ifB_eq (tgt := 27) dX8_peopleBits_18 (by decide) (fun h_18 => ?_) (fun h_18 => ?_)
      · refine zy_iinc dX8_peopleBits_27 rfl rfl ?_
        refine zx_goto (tgt := 4) dX8_peopleBits_30 (by decide) ?_
        first
          | exact ih (by omega)
          | (rw [zt_isA, zt_kind_in (show s < τ.1 by omega)] at h_18; rw [show zt_pb τ s = zt_pb τ (s + 1) by rw [zt_pb, if_neg (by omega), Nat.add_zero]]; exact ih (by omega))
      · rw [zt_isA, zt_kind_in (show s < τ.1 by omega)] at h_18
        refine zx_iload_n dX8_peopleBits_21 rfl ?_
        refine zx_iconst (v := zn_I 1) dX8_peopleBits_22 rfl ?_
        refine zx_iload_n dX8_peopleBits_23 rfl ?_
        refine zx_ishl dX8_peopleBits_24 ?_
        refine zx_ior dX8_peopleBits_25 ?_
        refine zy_top (zb_or (by omega) (zt_pb_lt τ s)) ?_
        rw [show zt_pb τ s + 2 ^ s = zt_pb τ (s + 1) by rw [zt_pb, if_pos (by omega)]]
        refine zx_istore_n dX8_peopleBits_26 rfl (Nat.le_of_ble_eq_true rfl) ?_
        refine zy_iinc dX8_peopleBits_27 rfl rfl ?_
        refine zx_goto (tgt := 4) dX8_peopleBits_30 (by decide) ?_
        first
          | exact ih (by omega)
          | (rw [zt_isA, zt_kind_in (show s < τ.1 by omega)] at h_18; rw [show zt_pb τ s = zt_pb τ (s + 1) by rw [zt_pb, if_neg (by omega), Nat.add_zero]]; exact ih (by omega))
  refine zx_iconst (v := zn_I 0) dX8_peopleBits_0 rfl ?_
  refine zx_istore_n dX8_peopleBits_1 rfl (Nat.le_of_ble_eq_true rfl) ?_
  refine zx_iconst (v := zn_I 0) dX8_peopleBits_2 rfl ?_
  refine zx_istore_n dX8_peopleBits_3 rfl (Nat.le_of_ble_eq_true rfl) ?_
  exact loop 0 (by omega)
set_option maxRecDepth 100000 in
set_option maxHeartbeats 4000000 in
theorem mX8_isKept {l : Launch} {d : Nat} {M : zw_M} {z : Int} (hz : -1 ≤ z ∧ z ≤ 8) (hk : M.1 8 5 = zn_I z) : zw_C l d iX8_isKept [.ref 8] M (zw_i (zn_B (z ≠ -1)) M) := by
  refine zw_of (by decide +kernel) (Nat.le_of_ble_eq_true rfl) ?_
  refine zy_loc (L1 := [.ref 8]) rfl ?_
  refine zx_aload_n dX8_isKept_0 rfl ?_
  refine zy_geti dX8_isKept_1 fX8_24 hk ?_
  refine zx_iconst (v := zn_I (-1)) dX8_isKept_4 rfl ?_
  refine zy_icmp_eq (tgt := 12) dX8_isKept_5 (by decide) (by omega) (fun h_5 => ?_) (fun h_5 => ?_)
  · refine zx_iconst (v := zn_I 0) dX8_isKept_12 rfl ?_
    refine zx_iret (st := []) dX8_isKept_13 rfl rfl ?_
    first | exact zk_B (zn_Bt (by omega)) | exact zk_B (zn_Bf (by omega))
  · refine zx_iconst (v := zn_I 1) dX8_isKept_8 rfl ?_
    refine zx_goto (tgt := 13) dX8_isKept_9 (by decide) ?_
    refine zx_iret (st := []) dX8_isKept_13 rfl rfl ?_
    first | exact zk_B (zn_Bt (by omega)) | exact zk_B (zn_Bf (by omega))
set_option maxRecDepth 100000 in
set_option maxHeartbeats 4000000 in
theorem mX8_clear {l : Launch} {d : Nat} {M : zw_M}  : zw_C l d iX8_clear [.ref 8] M (zw_u (zw_s (zw_s M 8 4 (zn_I 0)) 8 5 (zn_I (-1)))) := by
  refine zw_of (by decide +kernel) (Nat.le_of_ble_eq_true rfl) ?_
  refine zy_loc (L1 := [.ref 8]) rfl ?_
  refine zx_aload_n dX8_clear_0 rfl ?_
  refine zx_iconst (v := zn_I 0) dX8_clear_1 rfl ?_
  refine zx_puti dX8_clear_2 fX8_28 ?_
  refine zx_aload_n dX8_clear_5 rfl ?_
  refine zx_iconst (v := zn_I (-1)) dX8_clear_6 rfl ?_
  refine zx_puti dX8_clear_7 fX8_24 ?_
  refine zx_vret (st := []) dX8_clear_10 rfl ?_
  exact ⟨rfl, rfl⟩
set_option maxRecDepth 100000 in
set_option maxHeartbeats 4000000 in
theorem mX8_move {l : Launch} {d : Nat} {M : zw_M} {n : Nat} {τ : zQ} (hT : zT M n τ) {t q : Nat} (ht : t < τ.1) (hq : q < 8) {x : Int32} : zw_C l (d + 1) iX8_move [.ref 8, .int (zn_I (t : Int)), .int (zn_I (q : Int)), .int x] M (zw_u (zw_s M 11 (t * 8 + q) x)) := by
  obtain ⟨h8, hk, hK, hW, hP, hKr, hWr, hPr⟩ := id hT
  refine zw_of (by decide +kernel) (Nat.le_of_ble_eq_true rfl) ?_
  refine zy_loc (L1 := [.ref 8, .int (zn_I (t : Int)), .int (zn_I (q : Int)), .int x]) rfl ?_
  refine zx_aload_n dX8_move_0 rfl ?_
  refine zx_iload_n dX8_move_1 rfl ?_
  refine zx_callV (y1 := iX8_has) dX8_move_2 lX8_35 vX8_has rc_8 (mX8_has hT ⟨by omega, by omega⟩) rfl rfl (Nat.le_of_ble_eq_true rfl) ?_
  refine zk_i ?_
  refine zy_ifB_eq (tgt := 27) dX8_move_5 (by decide) (fun h_5 => ?_) (fun h_5 => ?_)
  · exact absurd ⟨by omega, by omega⟩ h_5
  · refine zx_iload_n dX8_move_8 rfl ?_
    refine zx_callN (y1 := iX10_isQuarter) (host := "IslandThatLeans") dX8_move_9 (by decide) sX10_isQuarter (mX10_isQuarter ⟨by omega, by omega⟩) rfl rfl (Nat.le_of_ble_eq_true rfl) ?_
    refine zk_i ?_
    refine zy_ifB_eq (tgt := 27) dX8_move_12 (by decide) (fun h_12 => ?_) (fun h_12 => ?_)
    · exact absurd ⟨by omega, by omega⟩ h_12
    · refine zx_aload_n dX8_move_15 rfl ?_
      refine zx_getr dX8_move_16 fX8_18 ?_
      refine zx_iload_n dX8_move_19 rfl ?_
      refine zx_bipush (v := zn_I 8) dX8_move_20 (by decide) ?_
      refine zy_imul dX8_move_22 ?_
      refine zx_iload_n dX8_move_23 rfl ?_
      refine zy_iadd dX8_move_24 ?_
      refine zx_iload_n dX8_move_25 rfl ?_
      refine zy_iast (i := t * 8 + q) dX8_move_26 rfl (by decide) (by omega) (by omega) ?_
      refine zx_vret (st := []) dX8_move_27 rfl ?_
      exact ⟨rfl, rfl⟩
end
section
/-! how many bits are set -/
def zb_pop : Nat → Nat → Nat
  | 0, _ => 0
  | k + 1, x => x % 2 + zb_pop k (x / 2)
theorem zb_pop_0 : ∀ k, zb_pop k 0 = 0
  | 0 => rfl
  | k + 1 => by rw [zb_pop, Nat.zero_mod, Nat.zero_div, zb_pop_0 k]
theorem zb_pop_add : ∀ j k x, zb_pop (j + k) x = zb_pop j x + zb_pop k (x / 2 ^ j)
  | 0, k, x => by simp [zb_pop]
  | j + 1, k, x => by
    rw [show j + 1 + k = (j + k) + 1 by omega, zb_pop, zb_pop, zb_pop_add j k (x / 2), Nat.div_div_eq_div_mul, Nat.pow_succ, Nat.mul_comm 2 (2 ^ j)]
    omega
theorem zb_pop_succ (j x : Nat) : zb_pop (j + 1) x = zb_pop j x + x / 2 ^ j % 2 := by
  rw [zb_pop_add j 1 x]
  simp [zb_pop]
theorem zb_pop_more {k x : Nat} (j : Nat) (h : x < 2 ^ k) : zb_pop (k + j) x = zb_pop k x := by
  rw [zb_pop_add, Nat.div_eq_of_lt h, zb_pop_0, Nat.add_zero]
theorem zb_pop_put : ∀ (s k B : Nat), B < 2 ^ s → s < k → zb_pop k (B + 2 ^ s) = zb_pop k B + 1
  | 0, 0, B, _, h => absurd h (Nat.lt_irrefl 0)
  | 0, k + 1, B, hB, _ => by
    have : B = 0 := by simpa using hB
    subst this
    simp [zb_pop, zb_pop_0]
  | s + 1, 0, B, _, h => absurd h (Nat.not_lt_zero _)
  | s + 1, k + 1, B, hB, h => by
    rw [Nat.pow_succ] at hB ⊢
    have ih := zb_pop_put s k (B / 2) (by omega) (by omega)
    rw [zb_pop, zb_pop, show (B + 2 ^ s * 2) / 2 = B / 2 + 2 ^ s by omega, ih, show (B + 2 ^ s * 2) % 2 = B % 2 by omega]
    omega
theorem zb_pop_le : ∀ k x, zb_pop k x ≤ k
  | 0, _ => Nat.le_refl 0
  | k + 1, x => by
    have := zb_pop_le k (x / 2)
    rw [zb_pop]
    omega
theorem zb_asplit {h l g m k : Nat} (hl : l < 2 ^ k) (hm : m < 2 ^ k) : (2 ^ k * h + l) &&& (2 ^ k * g + m) = 2 ^ k * (h &&& g) + (l &&& m) := by
  have hlm : l &&& m < 2 ^ k := Nat.lt_of_le_of_lt Nat.and_le_left hl
  apply Nat.eq_of_testBit_eq
  intro i
  rw [Nat.testBit_and, Nat.testBit_two_pow_mul_add h hl, Nat.testBit_two_pow_mul_add g hm, Nat.testBit_two_pow_mul_add _ hlm]
  by_cases hi : i < k
  · simp [hi]
  · simp [hi]
def zb_d1 (m x : Nat) : Nat := x - (x / 2 &&& m)
def zb_d2 (m x : Nat) : Nat := (x &&& m) + (x / 4 &&& m)
def zb_d3 (m x : Nat) : Nat := (x + x / 16) &&& m
theorem zb_s1 {h l g : Nat} (hl : l < 256) : zb_d1 (256 * g + 85) (256 * h + l) = 256 * zb_d1 g h + zb_d1 85 l := by
  have e1 : (256 * h + l) / 2 = 2 ^ 8 * (h / 2) + (2 ^ 7 * (h % 2) + l / 2) := by omega
  have e2 : (2 ^ 7 * (h % 2) + l / 2) &&& (2 ^ 7 * 0 + 85) = 2 ^ 7 * (h % 2 &&& 0) + (l / 2 &&& 85) := zb_asplit (by omega) (by decide)
  have e3 := zb_asplit (h := h / 2) (l := 2 ^ 7 * (h % 2) + l / 2) (g := g) (m := 85) (k := 8) (by omega) (by decide)
  have a1 : h / 2 &&& g ≤ h / 2 := Nat.and_le_left
  have a2 : l / 2 &&& 85 ≤ l / 2 := Nat.and_le_left
  simp only [Nat.and_zero, Nat.mul_zero, Nat.zero_add] at e2
  unfold zb_d1
  rw [e1, show 256 * g + 85 = 2 ^ 8 * g + 85 from rfl, e3, e2]
  omega
theorem zb_s2 {h l g : Nat} (hl : l < 256) : zb_d2 (256 * g + 51) (256 * h + l) = 256 * zb_d2 g h + zb_d2 51 l := by
  have e0 := zb_asplit (h := h) (l := l) (g := g) (m := 51) (k := 8) hl (by decide)
  have e1 : (256 * h + l) / 4 = 2 ^ 8 * (h / 4) + (2 ^ 6 * (h % 4) + l / 4) := by omega
  have e2 : (2 ^ 6 * (h % 4) + l / 4) &&& (2 ^ 6 * 0 + 51) = 2 ^ 6 * (h % 4 &&& 0) + (l / 4 &&& 51) := zb_asplit (by omega) (by decide)
  have e3 := zb_asplit (h := h / 4) (l := 2 ^ 6 * (h % 4) + l / 4) (g := g) (m := 51) (k := 8) (by omega) (by decide)
  simp only [Nat.and_zero, Nat.mul_zero, Nat.zero_add] at e2
  unfold zb_d2
  rw [e1, show 256 * g + 51 = 2 ^ 8 * g + 51 from rfl, e3, e2, show 256 * h + l = 2 ^ 8 * h + l from rfl, e0]
  omega
theorem zb_a15 (x : Nat) : x &&& 15 = x % 16 := Nat.and_two_pow_sub_one_eq_mod x 4
theorem zb_s3 {h l g : Nat} (hl : l ≤ 68) (hh : h % 16 ≤ 4) : zb_d3 (256 * g + 15) (256 * h + l) = 256 * zb_d3 g h + zb_d3 15 l := by
  have e1 : 256 * h + l + (256 * h + l) / 16 = 2 ^ 8 * (h + h / 16) + (16 * (h % 16) + (l + l / 16)) := by omega
  have e3 := zb_asplit (h := h + h / 16) (l := 16 * (h % 16) + (l + l / 16)) (g := g) (m := 15) (k := 8) (by omega) (by decide)
  unfold zb_d3
  rw [e1, show 256 * g + 15 = 2 ^ 8 * g + 15 from rfl, e3, zb_a15, zb_a15]
  omega
theorem zb_byte : ∀ b, b < 256 → zb_d3 15 (zb_d2 51 (zb_d1 85 b)) = zb_pop 8 b ∧ zb_d2 51 (zb_d1 85 b) ≤ 68 ∧ zb_d2 51 (zb_d1 85 b) % 16 ≤ 4 ∧ zb_d1 85 b < 256 := by decide +kernel
theorem zb_pop8 {h l : Nat} (hl : l < 256) (k : Nat) : zb_pop (8 + k) (256 * h + l) = zb_pop 8 l + zb_pop k h := by
  rw [zb_pop_add, show (256 * h + l) / 2 ^ 8 = h by omega]
  congr 1
  simp only [zb_pop]
  omega
def zb_c (x : Nat) : Nat :=
  let a := zb_d3 252645135 (zb_d2 858993459 (zb_d1 1431655765 x))
  let b := a + a / 256
  (b + b / 65536) &&& 63
theorem zb_c_pop {x : Nat} (hx : x < 2 ^ 32) : zb_c x = zb_pop 32 x := by
  obtain ⟨b0, b1, b2, b3, h0, h1, h2, h3, rfl⟩ : ∃ b0 b1 b2 b3 : Nat, b0 < 256 ∧ b1 < 256 ∧ b2 < 256 ∧ b3 < 256 ∧ x = 256 * (256 * (256 * b3 + b2) + b1) + b0 :=
    ⟨x % 256, x / 256 % 256, x / 65536 % 256, x / 16777216, by omega, by omega, by omega, by omega, by omega⟩
  obtain ⟨p0, q0, r0, t0⟩ := zb_byte b0 h0
  obtain ⟨p1, q1, r1, t1⟩ := zb_byte b1 h1
  obtain ⟨p2, q2, r2, t2⟩ := zb_byte b2 h2
  obtain ⟨p3, q3, r3, t3⟩ := zb_byte b3 h3
  have hp : zb_pop 32 (256 * (256 * (256 * b3 + b2) + b1) + b0) = zb_pop 8 b0 + (zb_pop 8 b1 + (zb_pop 8 b2 + zb_pop 8 b3)) := by
    rw [show (32 : Nat) = 8 + 24 from rfl, zb_pop8 h0, show (24 : Nat) = 8 + 16 from rfl, zb_pop8 h1, show (16 : Nat) = 8 + 8 from rfl, zb_pop8 h2]
  have s1 : zb_d1 1431655765 (256 * (256 * (256 * b3 + b2) + b1) + b0) = 256 * (256 * (256 * zb_d1 85 b3 + zb_d1 85 b2) + zb_d1 85 b1) + zb_d1 85 b0 := by
    rw [show (1431655765 : Nat) = 256 * (256 * (256 * 85 + 85) + 85) + 85 from rfl, zb_s1 h0, zb_s1 h1, zb_s1 h2]
  have s2 : zb_d2 858993459 (256 * (256 * (256 * zb_d1 85 b3 + zb_d1 85 b2) + zb_d1 85 b1) + zb_d1 85 b0) = 256 * (256 * (256 * zb_d2 51 (zb_d1 85 b3) + zb_d2 51 (zb_d1 85 b2)) + zb_d2 51 (zb_d1 85 b1)) + zb_d2 51 (zb_d1 85 b0) := by
    rw [show (858993459 : Nat) = 256 * (256 * (256 * 51 + 51) + 51) + 51 from rfl, zb_s2 t0, zb_s2 t1, zb_s2 t2]
  have s3 : zb_d3 252645135 (256 * (256 * (256 * zb_d2 51 (zb_d1 85 b3) + zb_d2 51 (zb_d1 85 b2)) + zb_d2 51 (zb_d1 85 b1)) + zb_d2 51 (zb_d1 85 b0)) = 256 * (256 * (256 * zb_pop 8 b3 + zb_pop 8 b2) + zb_pop 8 b1) + zb_pop 8 b0 := by
    rw [show (252645135 : Nat) = 256 * (256 * (256 * 15 + 15) + 15) + 15 from rfl, zb_s3 q0 (by omega), zb_s3 q1 (by omega), zb_s3 q2 r3, p0, p1, p2, p3]
  have l0 := zb_pop_le 8 b0
  have l1 := zb_pop_le 8 b1
  have l2 := zb_pop_le 8 b2
  have l3 := zb_pop_le 8 b3
  unfold zb_c
  rw [s1, s2, s3, hp]
  generalize zb_pop 8 b0 = u0 at *
  generalize zb_pop 8 b1 = u1 at *
  generalize zb_pop 8 b2 = u2 at *
  generalize zb_pop 8 b3 = u3 at *
  show (_ + _ / 65536) &&& (2 ^ 6 - 1) = _
  rw [Nat.and_two_pow_sub_one_eq_mod]
  clear s1 s2 s3 hp p0 p1 p2 p3 q0 q1 q2 q3 r0 r1 r2 r3 t0 t1 t2 t3 hx
  have e1 : (256 * (256 * (256 * u3 + u2) + u1) + u0) / 256 = 256 * (256 * u3 + u2) + u1 := by omega
  rw [e1]
  have e2 : (256 * (256 * (256 * u3 + u2) + u1) + u0 + (256 * (256 * u3 + u2) + u1)) / 65536 = 256 * u3 + (u2 + u3) := by omega
  rw [e2, show (2 : Nat) ^ 6 = 64 from rfl]
  omega
theorem zb_and (a b : Nat) : zn_I (a : Int) &&& zn_I (b : Int) = zn_I ((a &&& b : Nat) : Int) := by
  rw [← zn_nat, ← zn_nat, ← zn_nat]
  apply Int32.toBitVec_inj.1
  show BitVec.ofNat 32 a &&& BitVec.ofNat 32 b = BitVec.ofNat 32 (a &&& b)
  apply BitVec.eq_of_getLsbD_eq
  intro i hi
  simp [hi]
theorem zb_ushr {n p : Nat} (hn : n < 2 ^ 32) (s : Int32) (k : Nat) (hs : ((s.toUInt32 &&& Int32.toUInt32 31).toBitVec % 32).toNat = k) (hp : 2 ^ k = p) : ((zn_I (n : Int)).toUInt32 >>> (s.toUInt32 &&& Int32.toUInt32 31)).toInt32 = zn_I ((n / p : Nat) : Int) := by
  subst hp
  rw [← zn_nat, ← zn_nat]
  exact pk_ushrN hn s k hs
theorem zb_d1_lt {m x : Nat} : zb_d1 m x ≤ x := Nat.sub_le _ _
theorem zb_d2_lt {m x : Nat} : zb_d2 m x ≤ x + x / 4 := by
  have a1 : x &&& m ≤ x := Nat.and_le_left
  have a2 : x / 4 &&& m ≤ x / 4 := Nat.and_le_left
  unfold zb_d2
  omega
theorem zb_d3_lt {m x : Nat} : zb_d3 m x ≤ x + x / 16 := Nat.and_le_left
set_option maxRecDepth 100000 in
set_option maxHeartbeats 4000000 in
theorem mJ6_bitCount {l : Launch} {d : Nat} {M : zw_M} {x : Nat} (hx : x < 1073741824) : zw_C l d iJ6_bitCount_0f7a4 [.int (zn_I (x : Int))] M (zw_i (zn_I (zb_pop 32 x : Nat)) M) := by
  refine zw_of (by decide +kernel) (Nat.le_of_ble_eq_true rfl) ?_
  refine zy_loc (L1 := [.int (zn_I (x : Int))]) rfl ?_
  refine zx_iload_n dJ6_bitCount_0f7a4_0 rfl ?_
  refine zx_iload_n dJ6_bitCount_0f7a4_1 rfl ?_
  refine zx_iconst (v := zn_I 1) dJ6_bitCount_0f7a4_2 rfl ?_
  refine zx_iushr dJ6_bitCount_0f7a4_3 ?_
  refine zy_top (zb_ushr (k := 1) (p := 2) (by omega) _ (by decide) rfl) ?_
  refine zx_ldcw dJ6_bitCount_0f7a4_4 kJ6_265 ?_
  refine zy_top (show (1431655765 : Int32) = zn_I ((1431655765 : Nat) : Int) from by decide) ?_
  refine zx_iand dJ6_bitCount_0f7a4_7 ?_
  refine zy_top (zb_and _ _) ?_
  refine zy_isub dJ6_bitCount_0f7a4_8 ?_
  refine zy_top (show _ = zn_I ((zb_d1 1431655765 x : Nat) : Int) from congrArg zn_I (by have := @Nat.and_le_left (x / 2) 1431655765; unfold zb_d1; omega)) ?_
  refine zx_istore_n dJ6_bitCount_0f7a4_9 rfl (Nat.le_of_ble_eq_true rfl) ?_
  refine zx_iload_n dJ6_bitCount_0f7a4_10 rfl ?_
  refine zx_ldcw dJ6_bitCount_0f7a4_11 kJ6_266 ?_
  refine zy_top (show (858993459 : Int32) = zn_I ((858993459 : Nat) : Int) from by decide) ?_
  refine zx_iand dJ6_bitCount_0f7a4_14 ?_
  refine zy_top (zb_and _ _) ?_
  refine zx_iload_n dJ6_bitCount_0f7a4_15 rfl ?_
  refine zx_iconst (v := zn_I 2) dJ6_bitCount_0f7a4_16 rfl ?_
  refine zx_iushr dJ6_bitCount_0f7a4_17 ?_
  refine zy_top (zb_ushr (k := 2) (p := 4) (by have := @zb_d1_lt 1431655765 x; omega) _ (by decide) rfl) ?_
  refine zx_ldcw dJ6_bitCount_0f7a4_18 kJ6_266 ?_
  refine zy_top (show (858993459 : Int32) = zn_I ((858993459 : Nat) : Int) from by decide) ?_
  refine zx_iand dJ6_bitCount_0f7a4_21 ?_
  refine zy_top (zb_and _ _) ?_
  refine zy_iadd dJ6_bitCount_0f7a4_22 ?_
  refine zy_top (show _ = zn_I ((zb_d2 858993459 (zb_d1 1431655765 x) : Nat) : Int) from congrArg zn_I (by unfold zb_d2; omega)) ?_
  refine zx_istore_n dJ6_bitCount_0f7a4_23 rfl (Nat.le_of_ble_eq_true rfl) ?_
  refine zx_iload_n dJ6_bitCount_0f7a4_24 rfl ?_
  refine zx_iload_n dJ6_bitCount_0f7a4_25 rfl ?_
  refine zx_iconst (v := zn_I 4) dJ6_bitCount_0f7a4_26 rfl ?_
  refine zx_iushr dJ6_bitCount_0f7a4_27 ?_
  refine zy_top (zb_ushr (k := 4) (p := 16) (by have := @zb_d1_lt 1431655765 x; have := @zb_d2_lt 858993459 (zb_d1 1431655765 x); omega) _ (by decide) rfl) ?_
  refine zy_iadd dJ6_bitCount_0f7a4_28 ?_
  refine zy_top (show _ = zn_I ((zb_d2 858993459 (zb_d1 1431655765 x) + zb_d2 858993459 (zb_d1 1431655765 x) / 16 : Nat) : Int) from congrArg zn_I (by omega)) ?_
  refine zx_ldcw dJ6_bitCount_0f7a4_29 kJ6_267 ?_
  refine zy_top (show (252645135 : Int32) = zn_I ((252645135 : Nat) : Int) from by decide) ?_
  refine zx_iand dJ6_bitCount_0f7a4_32 ?_
  refine zy_top (zb_and _ _) ?_
  refine zx_istore_n dJ6_bitCount_0f7a4_33 rfl (Nat.le_of_ble_eq_true rfl) ?_
  refine zx_iload_n dJ6_bitCount_0f7a4_34 rfl ?_
  refine zx_iload_n dJ6_bitCount_0f7a4_35 rfl ?_
  refine zx_bipush (v := zn_I 8) dJ6_bitCount_0f7a4_36 (by decide) ?_
  refine zx_iushr dJ6_bitCount_0f7a4_38 ?_
  refine zy_top (zb_ushr (k := 8) (p := 256) (by have := @zb_d1_lt 1431655765 x; have := @zb_d2_lt 858993459 (zb_d1 1431655765 x); have := @zb_d3_lt 252645135 (zb_d2 858993459 (zb_d1 1431655765 x)); unfold zb_d3 at this; omega) _ (by decide) rfl) ?_
  refine zy_iadd dJ6_bitCount_0f7a4_39 ?_
  refine zy_top (show _ = zn_I ((zb_d3 252645135 (zb_d2 858993459 (zb_d1 1431655765 x)) + zb_d3 252645135 (zb_d2 858993459 (zb_d1 1431655765 x)) / 256 : Nat) : Int) from congrArg zn_I (by unfold zb_d3; omega)) ?_
  refine zx_istore_n dJ6_bitCount_0f7a4_40 rfl (Nat.le_of_ble_eq_true rfl) ?_
  refine zx_iload_n dJ6_bitCount_0f7a4_41 rfl ?_
  refine zx_iload_n dJ6_bitCount_0f7a4_42 rfl ?_
  refine zx_bipush (v := zn_I 16) dJ6_bitCount_0f7a4_43 (by decide) ?_
  refine zx_iushr dJ6_bitCount_0f7a4_45 ?_
  refine zy_top (zb_ushr (k := 16) (p := 65536) (by have := @zb_d1_lt 1431655765 x; have := @zb_d2_lt 858993459 (zb_d1 1431655765 x); have := @zb_d3_lt 252645135 (zb_d2 858993459 (zb_d1 1431655765 x)); omega) _ (by decide) rfl) ?_
  refine zy_iadd dJ6_bitCount_0f7a4_46 ?_
  refine zy_top (b := zn_I ((((zb_d3 252645135 (zb_d2 858993459 (zb_d1 1431655765 x)) + zb_d3 252645135 (zb_d2 858993459 (zb_d1 1431655765 x)) / 256) + (zb_d3 252645135 (zb_d2 858993459 (zb_d1 1431655765 x)) + zb_d3 252645135 (zb_d2 858993459 (zb_d1 1431655765 x)) / 256) / 65536) : Nat) : Int)) (congrArg zn_I (by omega)) ?_
  refine zx_istore_n dJ6_bitCount_0f7a4_47 rfl (Nat.le_of_ble_eq_true rfl) ?_
  refine zx_iload_n dJ6_bitCount_0f7a4_48 rfl ?_
  refine zx_bipush (v := zn_I 63) dJ6_bitCount_0f7a4_49 (by decide) ?_
  refine zy_top (show zn_I 63 = zn_I ((63 : Nat) : Int) from rfl) ?_
  refine zx_iand dJ6_bitCount_0f7a4_51 ?_
  refine zy_top (zb_and _ _) ?_
  refine zx_iret (st := []) dJ6_bitCount_0f7a4_52 rfl rfl ?_
  exact ⟨by rw [← zb_c_pop (x := x) (by omega)]; rfl, rfl⟩
theorem zp_bits_30 {π : zP} (h : π.1 ≤ 5 ∧ π.2.1 ≤ 6) (a b : Int) : zp_bits π a b (zp_n π) < 1073741824 := by
  have h1 := zp_bits_lt π a b (zp_n π)
  have h2 : 2 ^ zp_n π ≤ 2 ^ 30 := Nat.pow_le_pow_right (by decide) (zp_30 h)
  omega
/-- how many doors are wet -/
def zp_wc (π : zP) (a b : Int) : Nat := zb_pop 32 (zp_bits π a b (zp_n π))
theorem zp_wc_le (π : zP) (a b : Int) : zp_wc π a b ≤ 32 := zb_pop_le _ _
set_option maxRecDepth 100000 in
set_option maxHeartbeats 4000000 in
theorem mX1_wetDoorsTold {l : Launch} {d : Nat} {M : zw_M} {π : zP} (hI : zI M π) {a b : Int} (ha : -10000000 ≤ a ∧ a ≤ 10000000) (hb : -10000000 ≤ b ∧ b ≤ 10000000) : zw_C l (d + 1) iX1_wetDoorsTold [.ref 4, .int (zn_I a), .int (zn_I b)] M (zw_i (zn_I (zp_wc π a b : Nat)) M) := by
  have h30 := zp_bits_30 hI.1 a b
  refine zw_of (by decide +kernel) (Nat.le_of_ble_eq_true rfl) ?_
  refine zy_loc (L1 := [.ref 4, .int (zn_I a), .int (zn_I b)]) rfl ?_
  refine zx_aload_n dX1_wetDoorsTold_0 rfl ?_
  refine zx_iload_n dX1_wetDoorsTold_1 rfl ?_
  refine zx_iload_n dX1_wetDoorsTold_2 rfl ?_
  refine zx_callV (y1 := iX1_wetDoors) dX1_wetDoorsTold_3 lX1_56 vX1_wetDoors rc_4 (mX1_wetDoors hI ha hb) rfl rfl (Nat.le_of_ble_eq_true rfl) ?_
  refine zk_i ?_
  refine zx_callS (y1 := iJ6_bitCount_0f7a4) dX1_wetDoorsTold_6 lX1_59 sJ6_bitCount_0f7a4 (mJ6_bitCount h30) rfl rfl (Nat.le_of_ble_eq_true rfl) ?_
  refine zk_i ?_
  refine zx_iret (st := []) dX1_wetDoorsTold_9 rfl rfl ?_
  exact ⟨rfl, rfl⟩
theorem zt_pb_8 {M : zw_M} {n : Nat} {τ : zQ} (hT : zT M n τ) : zt_pb τ τ.1 < 256 := by
  have h1 := zt_pb_lt τ τ.1
  have h2 : 2 ^ τ.1 ≤ 2 ^ 8 := Nat.pow_le_pow_right (by decide) hT.1
  omega
set_option maxRecDepth 100000 in
set_option maxHeartbeats 4000000 in
theorem mX8_people {l : Launch} {d : Nat} {M : zw_M} {n : Nat} {τ : zQ} (hT : zT M n τ) : zw_C l (d + 4) iX8_people [.ref 8] M (zw_i (zn_I (zb_pop 32 (zt_pb τ τ.1) : Nat)) M) := by
  have h30 := zt_pb_8 hT
  refine zw_of (by decide +kernel) (Nat.le_of_ble_eq_true rfl) ?_
  refine zy_loc (L1 := [.ref 8]) rfl ?_
  refine zx_aload_n dX8_people_0 rfl ?_
  refine zx_callV (y1 := iX8_peopleBits) dX8_people_1 lX8_43 vX8_peopleBits rc_8 (mX8_peopleBits hT) rfl rfl (Nat.le_of_ble_eq_true rfl) ?_
  refine zk_i ?_
  refine zx_callS (y1 := iJ6_bitCount_0f7a4) dX8_people_4 lX8_47 sJ6_bitCount_0f7a4 (mJ6_bitCount (by omega)) rfl rfl (Nat.le_of_ble_eq_true rfl) ?_
  refine zk_i ?_
  refine zx_iret (st := []) dX8_people_7 rfl rfl ?_
  exact ⟨rfl, rfl⟩
end
