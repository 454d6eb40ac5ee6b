theorem dX0_init_0 : decode cX0_init 0 = .ok (.aload_n 0, 1) := by decide +kernel
theorem dX0_init_1 : decode cX0_init 1 = .ok (.invokespecial 3, 3) := by decide +kernel
theorem dX0_init_4 : decode cX0_init 4 = .ok (.aload_n 0, 1) := by decide +kernel
theorem dX0_init_5 : decode cX0_init 5 = .ok (.bipush 8, 2) := by decide +kernel
theorem dX0_init_7 : decode cX0_init 7 = .ok (.newarray .int, 2) := by decide +kernel
theorem dX0_init_9 : decode cX0_init 9 = .ok (.putfield 9, 3) := by decide +kernel
theorem dX0_init_12 : decode cX0_init 12 = .ok (.aload_n 0, 1) := by decide +kernel
theorem dX0_init_13 : decode cX0_init 13 = .ok (.bipush 8, 2) := by decide +kernel
theorem dX0_init_15 : decode cX0_init 15 = .ok (.newarray .int, 2) := by decide +kernel
theorem dX0_init_17 : decode cX0_init 17 = .ok (.putfield 15, 3) := by decide +kernel
theorem dX0_init_20 : decode cX0_init 20 = .ok (.aload_n 0, 1) := by decide +kernel
theorem dX0_init_21 : decode cX0_init 21 = .ok (.aload_n 1, 1) := by decide +kernel
theorem dX0_init_22 : decode cX0_init 22 = .ok (.putfield 18, 3) := by decide +kernel
theorem dX0_init_25 : decode cX0_init 25 = .ok (.aload_n 0, 1) := by decide +kernel
theorem dX0_init_26 : decode cX0_init 26 = .ok (.aload_n 2, 1) := by decide +kernel
theorem dX0_init_27 : decode cX0_init 27 = .ok (.putfield 22, 3) := by decide +kernel
theorem dX0_init_30 : decode cX0_init 30 = .ok (.return_, 1) := by decide +kernel
theorem dX0_leanEast_0 : decode cX0_leanEast 0 = .ok (.iconst 0, 1) := by decide +kernel
theorem dX0_leanEast_1 : decode cX0_leanEast 1 = .ok (.istore_n 2, 1) := by decide +kernel
theorem dX0_leanEast_2 : decode cX0_leanEast 2 = .ok (.iconst 0, 1) := by decide +kernel
theorem dX0_leanEast_3 : decode cX0_leanEast 3 = .ok (.istore_n 3, 1) := by decide +kernel
theorem dX0_leanEast_4 : decode cX0_leanEast 4 = .ok (.iload_n 3, 1) := by decide +kernel
theorem dX0_leanEast_5 : decode cX0_leanEast 5 = .ok (.aload_n 0, 1) := by decide +kernel
theorem dX0_leanEast_6 : decode cX0_leanEast 6 = .ok (.getfield 22, 3) := by decide +kernel
theorem dX0_leanEast_9 : decode cX0_leanEast 9 = .ok (.invokevirtual 26, 3) := by decide +kernel
theorem dX0_leanEast_12 : decode cX0_leanEast 12 = .ok (.if_icmp .ge 37, 3) := by decide +kernel
theorem dX0_leanEast_15 : decode cX0_leanEast 15 = .ok (.iload_n 2, 1) := by decide +kernel
theorem dX0_leanEast_16 : decode cX0_leanEast 16 = .ok (.aload_n 0, 1) := by decide +kernel
theorem dX0_leanEast_17 : decode cX0_leanEast 17 = .ok (.getfield 22, 3) := by decide +kernel
theorem dX0_leanEast_20 : decode cX0_leanEast 20 = .ok (.iload_n 3, 1) := by decide +kernel
theorem dX0_leanEast_21 : decode cX0_leanEast 21 = .ok (.invokevirtual 32, 3) := by decide +kernel
theorem dX0_leanEast_24 : decode cX0_leanEast 24 = .ok (.aload_n 0, 1) := by decide +kernel
theorem dX0_leanEast_25 : decode cX0_leanEast 25 = .ok (.getfield 18, 3) := by decide +kernel
theorem dX0_leanEast_28 : decode cX0_leanEast 28 = .ok (.aload_n 0, 1) := by decide +kernel
theorem dX0_leanEast_29 : decode cX0_leanEast 29 = .ok (.getfield 22, 3) := by decide +kernel
theorem dX0_leanEast_32 : decode cX0_leanEast 32 = .ok (.iload_n 3, 1) := by decide +kernel
theorem dX0_leanEast_33 : decode cX0_leanEast 33 = .ok (.iload_n 1, 1) := by decide +kernel
theorem dX0_leanEast_34 : decode cX0_leanEast 34 = .ok (.invokevirtual 36, 3) := by decide +kernel
theorem dX0_leanEast_37 : decode cX0_leanEast 37 = .ok (.invokevirtual 40, 3) := by decide +kernel
theorem dX0_leanEast_40 : decode cX0_leanEast 40 = .ok (.imul, 1) := by decide +kernel
theorem dX0_leanEast_41 : decode cX0_leanEast 41 = .ok (.iadd, 1) := by decide +kernel
theorem dX0_leanEast_42 : decode cX0_leanEast 42 = .ok (.istore_n 2, 1) := by decide +kernel
theorem dX0_leanEast_43 : decode cX0_leanEast 43 = .ok (.iinc 3 1, 3) := by decide +kernel
theorem dX0_leanEast_46 : decode cX0_leanEast 46 = .ok (.goto (-42), 3) := by decide +kernel
theorem dX0_leanEast_49 : decode cX0_leanEast 49 = .ok (.iload_n 2, 1) := by decide +kernel
theorem dX0_leanEast_50 : decode cX0_leanEast 50 = .ok (.ireturn, 1) := by decide +kernel
theorem dX0_leanSouth_0 : decode cX0_leanSouth 0 = .ok (.iconst 0, 1) := by decide +kernel
theorem dX0_leanSouth_1 : decode cX0_leanSouth 1 = .ok (.istore_n 2, 1) := by decide +kernel
theorem dX0_leanSouth_2 : decode cX0_leanSouth 2 = .ok (.iconst 0, 1) := by decide +kernel
theorem dX0_leanSouth_3 : decode cX0_leanSouth 3 = .ok (.istore_n 3, 1) := by decide +kernel
theorem dX0_leanSouth_4 : decode cX0_leanSouth 4 = .ok (.iload_n 3, 1) := by decide +kernel
theorem dX0_leanSouth_5 : decode cX0_leanSouth 5 = .ok (.aload_n 0, 1) := by decide +kernel
theorem dX0_leanSouth_6 : decode cX0_leanSouth 6 = .ok (.getfield 22, 3) := by decide +kernel
theorem dX0_leanSouth_9 : decode cX0_leanSouth 9 = .ok (.invokevirtual 26, 3) := by decide +kernel
theorem dX0_leanSouth_12 : decode cX0_leanSouth 12 = .ok (.if_icmp .ge 37, 3) := by decide +kernel
theorem dX0_leanSouth_15 : decode cX0_leanSouth 15 = .ok (.iload_n 2, 1) := by decide +kernel
theorem dX0_leanSouth_16 : decode cX0_leanSouth 16 = .ok (.aload_n 0, 1) := by decide +kernel
theorem dX0_leanSouth_17 : decode cX0_leanSouth 17 = .ok (.getfield 22, 3) := by decide +kernel
theorem dX0_leanSouth_20 : decode cX0_leanSouth 20 = .ok (.iload_n 3, 1) := by decide +kernel
theorem dX0_leanSouth_21 : decode cX0_leanSouth 21 = .ok (.invokevirtual 32, 3) := by decide +kernel
theorem dX0_leanSouth_24 : decode cX0_leanSouth 24 = .ok (.aload_n 0, 1) := by decide +kernel
theorem dX0_leanSouth_25 : decode cX0_leanSouth 25 = .ok (.getfield 18, 3) := by decide +kernel
theorem dX0_leanSouth_28 : decode cX0_leanSouth 28 = .ok (.aload_n 0, 1) := by decide +kernel
theorem dX0_leanSouth_29 : decode cX0_leanSouth 29 = .ok (.getfield 22, 3) := by decide +kernel
theorem dX0_leanSouth_32 : decode cX0_leanSouth 32 = .ok (.iload_n 3, 1) := by decide +kernel
theorem dX0_leanSouth_33 : decode cX0_leanSouth 33 = .ok (.iload_n 1, 1) := by decide +kernel
theorem dX0_leanSouth_34 : decode cX0_leanSouth 34 = .ok (.invokevirtual 36, 3) := by decide +kernel
theorem dX0_leanSouth_37 : decode cX0_leanSouth 37 = .ok (.invokevirtual 45, 3) := by decide +kernel
theorem dX0_leanSouth_40 : decode cX0_leanSouth 40 = .ok (.imul, 1) := by decide +kernel
theorem dX0_leanSouth_41 : decode cX0_leanSouth 41 = .ok (.iadd, 1) := by decide +kernel
theorem dX0_leanSouth_42 : decode cX0_leanSouth 42 = .ok (.istore_n 2, 1) := by decide +kernel
theorem dX0_leanSouth_43 : decode cX0_leanSouth 43 = .ok (.iinc 3 1, 3) := by decide +kernel
theorem dX0_leanSouth_46 : decode cX0_leanSouth 46 = .ok (.goto (-42), 3) := by decide +kernel
theorem dX0_leanSouth_49 : decode cX0_leanSouth 49 = .ok (.iload_n 2, 1) := by decide +kernel
theorem dX0_leanSouth_50 : decode cX0_leanSouth 50 = .ok (.ireturn, 1) := by decide +kernel
theorem dX0_wetIn_0 : decode cX0_wetIn 0 = .ok (.aload_n 0, 1) := by decide +kernel
theorem dX0_wetIn_1 : decode cX0_wetIn 1 = .ok (.getfield 18, 3) := by decide +kernel
theorem dX0_wetIn_4 : decode cX0_wetIn 4 = .ok (.aload_n 0, 1) := by decide +kernel
theorem dX0_wetIn_5 : decode cX0_wetIn 5 = .ok (.iload_n 1, 1) := by decide +kernel
theorem dX0_wetIn_6 : decode cX0_wetIn 6 = .ok (.invokevirtual 48, 3) := by decide +kernel
theorem dX0_wetIn_9 : decode cX0_wetIn 9 = .ok (.aload_n 0, 1) := by decide +kernel
theorem dX0_wetIn_10 : decode cX0_wetIn 10 = .ok (.iload_n 1, 1) := by decide +kernel
theorem dX0_wetIn_11 : decode cX0_wetIn 11 = .ok (.invokevirtual 51, 3) := by decide +kernel
theorem dX0_wetIn_14 : decode cX0_wetIn 14 = .ok (.invokevirtual 54, 3) := by decide +kernel
theorem dX0_wetIn_17 : decode cX0_wetIn 17 = .ok (.ireturn, 1) := by decide +kernel
theorem dX0_weigh_0 : decode cX0_weigh 0 = .ok (.iconst 0, 1) := by decide +kernel
theorem dX0_weigh_1 : decode cX0_weigh 1 = .ok (.istore_n 1, 1) := by decide +kernel
theorem dX0_weigh_2 : decode cX0_weigh 2 = .ok (.iload_n 1, 1) := by decide +kernel
theorem dX0_weigh_3 : decode cX0_weigh 3 = .ok (.bipush 8, 2) := by decide +kernel
theorem dX0_weigh_5 : decode cX0_weigh 5 = .ok (.if_icmp .ge 31, 3) := by decide +kernel
theorem dX0_weigh_8 : decode cX0_weigh 8 = .ok (.aload_n 0, 1) := by decide +kernel
theorem dX0_weigh_9 : decode cX0_weigh 9 = .ok (.getfield 9, 3) := by decide +kernel
theorem dX0_weigh_12 : decode cX0_weigh 12 = .ok (.iload_n 1, 1) := by decide +kernel
theorem dX0_weigh_13 : decode cX0_weigh 13 = .ok (.aload_n 0, 1) := by decide +kernel
theorem dX0_weigh_14 : decode cX0_weigh 14 = .ok (.iload_n 1, 1) := by decide +kernel
theorem dX0_weigh_15 : decode cX0_weigh 15 = .ok (.invokevirtual 48, 3) := by decide +kernel
theorem dX0_weigh_18 : decode cX0_weigh 18 = .ok (.iastore, 1) := by decide +kernel
theorem dX0_weigh_19 : decode cX0_weigh 19 = .ok (.aload_n 0, 1) := by decide +kernel
theorem dX0_weigh_20 : decode cX0_weigh 20 = .ok (.getfield 15, 3) := by decide +kernel
theorem dX0_weigh_23 : decode cX0_weigh 23 = .ok (.iload_n 1, 1) := by decide +kernel
theorem dX0_weigh_24 : decode cX0_weigh 24 = .ok (.aload_n 0, 1) := by decide +kernel
theorem dX0_weigh_25 : decode cX0_weigh 25 = .ok (.iload_n 1, 1) := by decide +kernel
theorem dX0_weigh_26 : decode cX0_weigh 26 = .ok (.invokevirtual 51, 3) := by decide +kernel
theorem dX0_weigh_29 : decode cX0_weigh 29 = .ok (.iastore, 1) := by decide +kernel
theorem dX0_weigh_30 : decode cX0_weigh 30 = .ok (.iinc 1 1, 3) := by decide +kernel
theorem dX0_weigh_33 : decode cX0_weigh 33 = .ok (.goto (-31), 3) := by decide +kernel
theorem dX0_weigh_36 : decode cX0_weigh 36 = .ok (.return_, 1) := by decide +kernel
theorem dX0_wetDoorsWith_0 : decode cX0_wetDoorsWith 0 = .ok (.iload_n 1, 1) := by decide +kernel
theorem dX0_wetDoorsWith_1 : decode cX0_wetDoorsWith 1 = .ok (.invokestatic 57, 3) := by decide +kernel
theorem dX0_wetDoorsWith_4 : decode cX0_wetDoorsWith 4 = .ok (.ifCond .ne 5, 3) := by decide +kernel
theorem dX0_wetDoorsWith_7 : decode cX0_wetDoorsWith 7 = .ok (.iconst 0, 1) := by decide +kernel
theorem dX0_wetDoorsWith_8 : decode cX0_wetDoorsWith 8 = .ok (.ireturn, 1) := by decide +kernel
theorem dX0_wetDoorsWith_9 : decode cX0_wetDoorsWith 9 = .ok (.aload_n 0, 1) := by decide +kernel
theorem dX0_wetDoorsWith_10 : decode cX0_wetDoorsWith 10 = .ok (.getfield 18, 3) := by decide +kernel
theorem dX0_wetDoorsWith_13 : decode cX0_wetDoorsWith 13 = .ok (.aload_n 0, 1) := by decide +kernel
theorem dX0_wetDoorsWith_14 : decode cX0_wetDoorsWith 14 = .ok (.getfield 9, 3) := by decide +kernel
theorem dX0_wetDoorsWith_17 : decode cX0_wetDoorsWith 17 = .ok (.iload_n 1, 1) := by decide +kernel
theorem dX0_wetDoorsWith_18 : decode cX0_wetDoorsWith 18 = .ok (.iaload, 1) := by decide +kernel
theorem dX0_wetDoorsWith_19 : decode cX0_wetDoorsWith 19 = .ok (.iload_n 2, 1) := by decide +kernel
theorem dX0_wetDoorsWith_20 : decode cX0_wetDoorsWith 20 = .ok (.iadd, 1) := by decide +kernel
theorem dX0_wetDoorsWith_21 : decode cX0_wetDoorsWith 21 = .ok (.aload_n 0, 1) := by decide +kernel
theorem dX0_wetDoorsWith_22 : decode cX0_wetDoorsWith 22 = .ok (.getfield 15, 3) := by decide +kernel
theorem dX0_wetDoorsWith_25 : decode cX0_wetDoorsWith 25 = .ok (.iload_n 1, 1) := by decide +kernel
theorem dX0_wetDoorsWith_26 : decode cX0_wetDoorsWith 26 = .ok (.iaload, 1) := by decide +kernel
theorem dX0_wetDoorsWith_27 : decode cX0_wetDoorsWith 27 = .ok (.iload_n 3, 1) := by decide +kernel
theorem dX0_wetDoorsWith_28 : decode cX0_wetDoorsWith 28 = .ok (.iadd, 1) := by decide +kernel
theorem dX0_wetDoorsWith_29 : decode cX0_wetDoorsWith 29 = .ok (.invokevirtual 61, 3) := by decide +kernel
theorem dX0_wetDoorsWith_32 : decode cX0_wetDoorsWith 32 = .ok (.ireturn, 1) := by decide +kernel
theorem dX0_greatestDip_0 : decode cX0_greatestDip 0 = .ok (.aload_n 0, 1) := by decide +kernel
theorem dX0_greatestDip_1 : decode cX0_greatestDip 1 = .ok (.getfield 18, 3) := by decide +kernel
theorem dX0_greatestDip_4 : decode cX0_greatestDip 4 = .ok (.iload_n 1, 1) := by decide +kernel
theorem dX0_greatestDip_5 : decode cX0_greatestDip 5 = .ok (.aload_n 0, 1) := by decide +kernel
theorem dX0_greatestDip_6 : decode cX0_greatestDip 6 = .ok (.getfield 9, 3) := by decide +kernel
theorem dX0_greatestDip_9 : decode cX0_greatestDip 9 = .ok (.iconst 0, 1) := by decide +kernel
theorem dX0_greatestDip_10 : decode cX0_greatestDip 10 = .ok (.iaload, 1) := by decide +kernel
theorem dX0_greatestDip_11 : decode cX0_greatestDip 11 = .ok (.aload_n 0, 1) := by decide +kernel
theorem dX0_greatestDip_12 : decode cX0_greatestDip 12 = .ok (.getfield 15, 3) := by decide +kernel
theorem dX0_greatestDip_15 : decode cX0_greatestDip 15 = .ok (.iconst 0, 1) := by decide +kernel
theorem dX0_greatestDip_16 : decode cX0_greatestDip 16 = .ok (.iaload, 1) := by decide +kernel
theorem dX0_greatestDip_17 : decode cX0_greatestDip 17 = .ok (.invokevirtual 64, 3) := by decide +kernel
theorem dX0_greatestDip_20 : decode cX0_greatestDip 20 = .ok (.istore_n 2, 1) := by decide +kernel
theorem dX0_greatestDip_21 : decode cX0_greatestDip 21 = .ok (.iconst 1, 1) := by decide +kernel
theorem dX0_greatestDip_22 : decode cX0_greatestDip 22 = .ok (.istore_n 3, 1) := by decide +kernel
theorem dX0_greatestDip_23 : decode cX0_greatestDip 23 = .ok (.iload_n 3, 1) := by decide +kernel
theorem dX0_greatestDip_24 : decode cX0_greatestDip 24 = .ok (.bipush 8, 2) := by decide +kernel
theorem dX0_greatestDip_26 : decode cX0_greatestDip 26 = .ok (.if_icmp .ge 34, 3) := by decide +kernel
theorem dX0_greatestDip_29 : decode cX0_greatestDip 29 = .ok (.iload_n 2, 1) := by decide +kernel
theorem dX0_greatestDip_30 : decode cX0_greatestDip 30 = .ok (.aload_n 0, 1) := by decide +kernel
theorem dX0_greatestDip_31 : decode cX0_greatestDip 31 = .ok (.getfield 18, 3) := by decide +kernel
theorem dX0_greatestDip_34 : decode cX0_greatestDip 34 = .ok (.iload_n 1, 1) := by decide +kernel
theorem dX0_greatestDip_35 : decode cX0_greatestDip 35 = .ok (.aload_n 0, 1) := by decide +kernel
theorem dX0_greatestDip_36 : decode cX0_greatestDip 36 = .ok (.getfield 9, 3) := by decide +kernel
theorem dX0_greatestDip_39 : decode cX0_greatestDip 39 = .ok (.iload_n 3, 1) := by decide +kernel
theorem dX0_greatestDip_40 : decode cX0_greatestDip 40 = .ok (.iaload, 1) := by decide +kernel
theorem dX0_greatestDip_41 : decode cX0_greatestDip 41 = .ok (.aload_n 0, 1) := by decide +kernel
theorem dX0_greatestDip_42 : decode cX0_greatestDip 42 = .ok (.getfield 15, 3) := by decide +kernel
theorem dX0_greatestDip_45 : decode cX0_greatestDip 45 = .ok (.iload_n 3, 1) := by decide +kernel
theorem dX0_greatestDip_46 : decode cX0_greatestDip 46 = .ok (.iaload, 1) := by decide +kernel
theorem dX0_greatestDip_47 : decode cX0_greatestDip 47 = .ok (.invokevirtual 64, 3) := by decide +kernel
theorem dX0_greatestDip_50 : decode cX0_greatestDip 50 = .ok (.invokestatic 68, 3) := by decide +kernel
theorem dX0_greatestDip_53 : decode cX0_greatestDip 53 = .ok (.istore_n 2, 1) := by decide +kernel
theorem dX0_greatestDip_54 : decode cX0_greatestDip 54 = .ok (.iinc 3 1, 3) := by decide +kernel
theorem dX0_greatestDip_57 : decode cX0_greatestDip 57 = .ok (.goto (-34), 3) := by decide +kernel
theorem dX0_greatestDip_60 : decode cX0_greatestDip 60 = .ok (.iload_n 2, 1) := by decide +kernel
theorem dX0_greatestDip_61 : decode cX0_greatestDip 61 = .ok (.ireturn, 1) := by decide +kernel
theorem dX0_driestSquareFor_0 : decode cX0_driestSquareFor 0 = .ok (.aload_n 0, 1) := by decide +kernel
theorem dX0_driestSquareFor_1 : decode cX0_driestSquareFor 1 = .ok (.invokevirtual 73, 3) := by decide +kernel
theorem dX0_driestSquareFor_4 : decode cX0_driestSquareFor 4 = .ok (.iconst (-1), 1) := by decide +kernel
theorem dX0_driestSquareFor_5 : decode cX0_driestSquareFor 5 = .ok (.istore_n 2, 1) := by decide +kernel
theorem dX0_driestSquareFor_6 : decode cX0_driestSquareFor 6 = .ok (.iconst 0, 1) := by decide +kernel
theorem dX0_driestSquareFor_7 : decode cX0_driestSquareFor 7 = .ok (.istore_n 3, 1) := by decide +kernel
theorem dX0_driestSquareFor_8 : decode cX0_driestSquareFor 8 = .ok (.iconst 0, 1) := by decide +kernel
theorem dX0_driestSquareFor_9 : decode cX0_driestSquareFor 9 = .ok (.istore 4, 2) := by decide +kernel
theorem dX0_driestSquareFor_11 : decode cX0_driestSquareFor 11 = .ok (.iload 4, 2) := by decide +kernel
theorem dX0_driestSquareFor_13 : decode cX0_driestSquareFor 13 = .ok (.aload_n 0, 1) := by decide +kernel
theorem dX0_driestSquareFor_14 : decode cX0_driestSquareFor 14 = .ok (.getfield 18, 3) := by decide +kernel
theorem dX0_driestSquareFor_17 : decode cX0_driestSquareFor 17 = .ok (.invokevirtual 76, 3) := by decide +kernel
theorem dX0_driestSquareFor_20 : decode cX0_driestSquareFor 20 = .ok (.if_icmp .ge 54, 3) := by decide +kernel
theorem dX0_driestSquareFor_23 : decode cX0_driestSquareFor 23 = .ok (.aload_n 0, 1) := by decide +kernel
theorem dX0_driestSquareFor_24 : decode cX0_driestSquareFor 24 = .ok (.iload_n 1, 1) := by decide +kernel
theorem dX0_driestSquareFor_25 : decode cX0_driestSquareFor 25 = .ok (.aload_n 0, 1) := by decide +kernel
theorem dX0_driestSquareFor_26 : decode cX0_driestSquareFor 26 = .ok (.getfield 18, 3) := by decide +kernel
theorem dX0_driestSquareFor_29 : decode cX0_driestSquareFor 29 = .ok (.iload 4, 2) := by decide +kernel
theorem dX0_driestSquareFor_31 : decode cX0_driestSquareFor 31 = .ok (.invokevirtual 40, 3) := by decide +kernel
theorem dX0_driestSquareFor_34 : decode cX0_driestSquareFor 34 = .ok (.imul, 1) := by decide +kernel
theorem dX0_driestSquareFor_35 : decode cX0_driestSquareFor 35 = .ok (.iload_n 1, 1) := by decide +kernel
theorem dX0_driestSquareFor_36 : decode cX0_driestSquareFor 36 = .ok (.aload_n 0, 1) := by decide +kernel
theorem dX0_driestSquareFor_37 : decode cX0_driestSquareFor 37 = .ok (.getfield 18, 3) := by decide +kernel
theorem dX0_driestSquareFor_40 : decode cX0_driestSquareFor 40 = .ok (.iload 4, 2) := by decide +kernel
theorem dX0_driestSquareFor_42 : decode cX0_driestSquareFor 42 = .ok (.invokevirtual 45, 3) := by decide +kernel
theorem dX0_driestSquareFor_45 : decode cX0_driestSquareFor 45 = .ok (.imul, 1) := by decide +kernel
theorem dX0_driestSquareFor_46 : decode cX0_driestSquareFor 46 = .ok (.invokevirtual 79, 3) := by decide +kernel
theorem dX0_driestSquareFor_49 : decode cX0_driestSquareFor 49 = .ok (.istore 5, 2) := by decide +kernel
theorem dX0_driestSquareFor_51 : decode cX0_driestSquareFor 51 = .ok (.iload_n 2, 1) := by decide +kernel
theorem dX0_driestSquareFor_52 : decode cX0_driestSquareFor 52 = .ok (.iconst (-1), 1) := by decide +kernel
theorem dX0_driestSquareFor_53 : decode cX0_driestSquareFor 53 = .ok (.if_icmp .eq 9, 3) := by decide +kernel
theorem dX0_driestSquareFor_56 : decode cX0_driestSquareFor 56 = .ok (.iload 5, 2) := by decide +kernel
theorem dX0_driestSquareFor_58 : decode cX0_driestSquareFor 58 = .ok (.iload_n 3, 1) := by decide +kernel
theorem dX0_driestSquareFor_59 : decode cX0_driestSquareFor 59 = .ok (.if_icmp .ge 9, 3) := by decide +kernel
theorem dX0_driestSquareFor_62 : decode cX0_driestSquareFor 62 = .ok (.iload 4, 2) := by decide +kernel
theorem dX0_driestSquareFor_64 : decode cX0_driestSquareFor 64 = .ok (.istore_n 2, 1) := by decide +kernel
theorem dX0_driestSquareFor_65 : decode cX0_driestSquareFor 65 = .ok (.iload 5, 2) := by decide +kernel
theorem dX0_driestSquareFor_67 : decode cX0_driestSquareFor 67 = .ok (.istore_n 3, 1) := by decide +kernel
theorem dX0_driestSquareFor_68 : decode cX0_driestSquareFor 68 = .ok (.iinc 4 1, 3) := by decide +kernel
theorem dX0_driestSquareFor_71 : decode cX0_driestSquareFor 71 = .ok (.goto (-60), 3) := by decide +kernel
theorem dX0_driestSquareFor_74 : decode cX0_driestSquareFor 74 = .ok (.iload_n 2, 1) := by decide +kernel
theorem dX0_driestSquareFor_75 : decode cX0_driestSquareFor 75 = .ok (.ireturn, 1) := by decide +kernel
theorem dX0_wetDoorsAllDayWith_0 : decode cX0_wetDoorsAllDayWith 0 = .ok (.iconst 0, 1) := by decide +kernel
theorem dX0_wetDoorsAllDayWith_1 : decode cX0_wetDoorsAllDayWith 1 = .ok (.istore_n 3, 1) := by decide +kernel
theorem dX0_wetDoorsAllDayWith_2 : decode cX0_wetDoorsAllDayWith 2 = .ok (.iconst 0, 1) := by decide +kernel
theorem dX0_wetDoorsAllDayWith_3 : decode cX0_wetDoorsAllDayWith 3 = .ok (.istore 4, 2) := by decide +kernel
theorem dX0_wetDoorsAllDayWith_5 : decode cX0_wetDoorsAllDayWith 5 = .ok (.iload 4, 2) := by decide +kernel
theorem dX0_wetDoorsAllDayWith_7 : decode cX0_wetDoorsAllDayWith 7 = .ok (.bipush 8, 2) := by decide +kernel
theorem dX0_wetDoorsAllDayWith_9 : decode cX0_wetDoorsAllDayWith 9 = .ok (.if_icmp .ge 20, 3) := by decide +kernel
theorem dX0_wetDoorsAllDayWith_12 : decode cX0_wetDoorsAllDayWith 12 = .ok (.iload_n 3, 1) := by decide +kernel
theorem dX0_wetDoorsAllDayWith_13 : decode cX0_wetDoorsAllDayWith 13 = .ok (.aload_n 0, 1) := by decide +kernel
theorem dX0_wetDoorsAllDayWith_14 : decode cX0_wetDoorsAllDayWith 14 = .ok (.iload 4, 2) := by decide +kernel
theorem dX0_wetDoorsAllDayWith_16 : decode cX0_wetDoorsAllDayWith 16 = .ok (.iload_n 1, 1) := by decide +kernel
theorem dX0_wetDoorsAllDayWith_17 : decode cX0_wetDoorsAllDayWith 17 = .ok (.iload_n 2, 1) := by decide +kernel
theorem dX0_wetDoorsAllDayWith_18 : decode cX0_wetDoorsAllDayWith 18 = .ok (.invokevirtual 82, 3) := by decide +kernel
theorem dX0_wetDoorsAllDayWith_21 : decode cX0_wetDoorsAllDayWith 21 = .ok (.iadd, 1) := by decide +kernel
theorem dX0_wetDoorsAllDayWith_22 : decode cX0_wetDoorsAllDayWith 22 = .ok (.istore_n 3, 1) := by decide +kernel
theorem dX0_wetDoorsAllDayWith_23 : decode cX0_wetDoorsAllDayWith 23 = .ok (.iinc 4 1, 3) := by decide +kernel
theorem dX0_wetDoorsAllDayWith_26 : decode cX0_wetDoorsAllDayWith 26 = .ok (.goto (-21), 3) := by decide +kernel
theorem dX0_wetDoorsAllDayWith_29 : decode cX0_wetDoorsAllDayWith 29 = .ok (.iload_n 3, 1) := by decide +kernel
theorem dX0_wetDoorsAllDayWith_30 : decode cX0_wetDoorsAllDayWith 30 = .ok (.ireturn, 1) := by decide +kernel
theorem dX1_init_0 : decode cX1_init 0 = .ok (.aload_n 0, 1) := by decide +kernel
theorem dX1_init_1 : decode cX1_init 1 = .ok (.invokespecial 3, 3) := by decide +kernel
theorem dX1_init_4 : decode cX1_init 4 = .ok (.aload_n 0, 1) := by decide +kernel
theorem dX1_init_5 : decode cX1_init 5 = .ok (.bipush 30, 2) := by decide +kernel
theorem dX1_init_7 : decode cX1_init 7 = .ok (.newarray .int, 2) := by decide +kernel
theorem dX1_init_9 : decode cX1_init 9 = .ok (.putfield 9, 3) := by decide +kernel
theorem dX1_init_12 : decode cX1_init 12 = .ok (.aload_n 0, 1) := by decide +kernel
theorem dX1_init_13 : decode cX1_init 13 = .ok (.bipush 30, 2) := by decide +kernel
theorem dX1_init_15 : decode cX1_init 15 = .ok (.newarray .int, 2) := by decide +kernel
theorem dX1_init_17 : decode cX1_init 17 = .ok (.putfield 15, 3) := by decide +kernel
theorem dX1_init_20 : decode cX1_init 20 = .ok (.aload_n 0, 1) := by decide +kernel
theorem dX1_init_21 : decode cX1_init 21 = .ok (.bipush 30, 2) := by decide +kernel
theorem dX1_init_23 : decode cX1_init 23 = .ok (.newarray .int, 2) := by decide +kernel
theorem dX1_init_25 : decode cX1_init 25 = .ok (.putfield 18, 3) := by decide +kernel
theorem dX1_init_28 : decode cX1_init 28 = .ok (.return_, 1) := by decide +kernel
theorem dX1_read_0 : decode cX1_read 0 = .ok (.aload_n 0, 1) := by decide +kernel
theorem dX1_read_1 : decode cX1_read 1 = .ok (.iload_n 2, 1) := by decide +kernel
theorem dX1_read_2 : decode cX1_read 2 = .ok (.putfield 21, 3) := by decide +kernel
theorem dX1_read_5 : decode cX1_read 5 = .ok (.aload_n 0, 1) := by decide +kernel
theorem dX1_read_6 : decode cX1_read 6 = .ok (.iload_n 3, 1) := by decide +kernel
theorem dX1_read_7 : decode cX1_read 7 = .ok (.putfield 25, 3) := by decide +kernel
theorem dX1_read_10 : decode cX1_read 10 = .ok (.aload_n 0, 1) := by decide +kernel
theorem dX1_read_11 : decode cX1_read 11 = .ok (.iconst 0, 1) := by decide +kernel
theorem dX1_read_12 : decode cX1_read 12 = .ok (.putfield 28, 3) := by decide +kernel
theorem dX1_read_15 : decode cX1_read 15 = .ok (.aload_n 0, 1) := by decide +kernel
theorem dX1_read_16 : decode cX1_read 16 = .ok (.iconst 0, 1) := by decide +kernel
theorem dX1_read_17 : decode cX1_read 17 = .ok (.putfield 31, 3) := by decide +kernel
theorem dX1_read_20 : decode cX1_read 20 = .ok (.iconst 0, 1) := by decide +kernel
theorem dX1_read_21 : decode cX1_read 21 = .ok (.istore 4, 2) := by decide +kernel
theorem dX1_read_23 : decode cX1_read 23 = .ok (.iconst 0, 1) := by decide +kernel
theorem dX1_read_24 : decode cX1_read 24 = .ok (.istore 5, 2) := by decide +kernel
theorem dX1_read_26 : decode cX1_read 26 = .ok (.iconst 0, 1) := by decide +kernel
theorem dX1_read_27 : decode cX1_read 27 = .ok (.istore 6, 2) := by decide +kernel
theorem dX1_read_29 : decode cX1_read 29 = .ok (.iload 6, 2) := by decide +kernel
theorem dX1_read_31 : decode cX1_read 31 = .ok (.aload_n 1, 1) := by decide +kernel
theorem dX1_read_32 : decode cX1_read 32 = .ok (.invokevirtual 34, 3) := by decide +kernel
theorem dX1_read_35 : decode cX1_read 35 = .ok (.if_icmp .ge 60, 3) := by decide +kernel
theorem dX1_read_38 : decode cX1_read 38 = .ok (.aload_n 1, 1) := by decide +kernel
theorem dX1_read_39 : decode cX1_read 39 = .ok (.iload 6, 2) := by decide +kernel
theorem dX1_read_41 : decode cX1_read 41 = .ok (.invokevirtual 40, 3) := by decide +kernel
theorem dX1_read_44 : decode cX1_read 44 = .ok (.istore 7, 2) := by decide +kernel
theorem dX1_read_46 : decode cX1_read 46 = .ok (.iload 7, 2) := by decide +kernel
theorem dX1_read_48 : decode cX1_read 48 = .ok (.bipush 47, 2) := by decide +kernel
theorem dX1_read_50 : decode cX1_read 50 = .ok (.if_icmp .ne 12, 3) := by decide +kernel
theorem dX1_read_53 : decode cX1_read 53 = .ok (.iinc 4 1, 3) := by decide +kernel
theorem dX1_read_56 : decode cX1_read 56 = .ok (.iconst 0, 1) := by decide +kernel
theorem dX1_read_57 : decode cX1_read 57 = .ok (.istore 5, 2) := by decide +kernel
theorem dX1_read_59 : decode cX1_read 59 = .ok (.goto 30, 3) := by decide +kernel
theorem dX1_read_62 : decode cX1_read 62 = .ok (.aload_n 0, 1) := by decide +kernel
theorem dX1_read_63 : decode cX1_read 63 = .ok (.iload 7, 2) := by decide +kernel
theorem dX1_read_65 : decode cX1_read 65 = .ok (.bipush 46, 2) := by decide +kernel
theorem dX1_read_67 : decode cX1_read 67 = .ok (.if_icmp .ne 7, 3) := by decide +kernel
theorem dX1_read_70 : decode cX1_read 70 = .ok (.iconst 0, 1) := by decide +kernel
theorem dX1_read_71 : decode cX1_read 71 = .ok (.goto 8, 3) := by decide +kernel
theorem dX1_read_74 : decode cX1_read 74 = .ok (.iload 7, 2) := by decide +kernel
theorem dX1_read_76 : decode cX1_read 76 = .ok (.bipush 48, 2) := by decide +kernel
theorem dX1_read_78 : decode cX1_read 78 = .ok (.isub, 1) := by decide +kernel
theorem dX1_read_79 : decode cX1_read 79 = .ok (.iload 4, 2) := by decide +kernel
theorem dX1_read_81 : decode cX1_read 81 = .ok (.iload 5, 2) := by decide +kernel
theorem dX1_read_83 : decode cX1_read 83 = .ok (.invokevirtual 44, 3) := by decide +kernel
theorem dX1_read_86 : decode cX1_read 86 = .ok (.iinc 5 1, 3) := by decide +kernel
theorem dX1_read_89 : decode cX1_read 89 = .ok (.iinc 6 1, 3) := by decide +kernel
theorem dX1_read_92 : decode cX1_read 92 = .ok (.goto (-63), 3) := by decide +kernel
theorem dX1_read_95 : decode cX1_read 95 = .ok (.return_, 1) := by decide +kernel
theorem dX1_addSquare_0 : decode cX1_addSquare 0 = .ok (.aload_n 0, 1) := by decide +kernel
theorem dX1_addSquare_1 : decode cX1_addSquare 1 = .ok (.getfield 28, 3) := by decide +kernel
theorem dX1_addSquare_4 : decode cX1_addSquare 4 = .ok (.bipush 30, 2) := by decide +kernel
theorem dX1_addSquare_6 : decode cX1_addSquare 6 = .ok (.if_icmp .lt 4, 3) := by decide +kernel
theorem dX1_addSquare_9 : decode cX1_addSquare 9 = .ok (.return_, 1) := by decide +kernel
theorem dX1_addSquare_10 : decode cX1_addSquare 10 = .ok (.aload_n 0, 1) := by decide +kernel
theorem dX1_addSquare_11 : decode cX1_addSquare 11 = .ok (.getfield 9, 3) := by decide +kernel
theorem dX1_addSquare_14 : decode cX1_addSquare 14 = .ok (.aload_n 0, 1) := by decide +kernel
theorem dX1_addSquare_15 : decode cX1_addSquare 15 = .ok (.getfield 28, 3) := by decide +kernel
theorem dX1_addSquare_18 : decode cX1_addSquare 18 = .ok (.iload_n 1, 1) := by decide +kernel
theorem dX1_addSquare_19 : decode cX1_addSquare 19 = .ok (.iastore, 1) := by decide +kernel
theorem dX1_addSquare_20 : decode cX1_addSquare 20 = .ok (.aload_n 0, 1) := by decide +kernel
theorem dX1_addSquare_21 : decode cX1_addSquare 21 = .ok (.getfield 15, 3) := by decide +kernel
theorem dX1_addSquare_24 : decode cX1_addSquare 24 = .ok (.aload_n 0, 1) := by decide +kernel
theorem dX1_addSquare_25 : decode cX1_addSquare 25 = .ok (.getfield 28, 3) := by decide +kernel
theorem dX1_addSquare_28 : decode cX1_addSquare 28 = .ok (.iload_n 3, 1) := by decide +kernel
theorem dX1_addSquare_29 : decode cX1_addSquare 29 = .ok (.aload_n 0, 1) := by decide +kernel
theorem dX1_addSquare_30 : decode cX1_addSquare 30 = .ok (.getfield 25, 3) := by decide +kernel
theorem dX1_addSquare_33 : decode cX1_addSquare 33 = .ok (.invokestatic 48, 3) := by decide +kernel
theorem dX1_addSquare_36 : decode cX1_addSquare 36 = .ok (.iastore, 1) := by decide +kernel
theorem dX1_addSquare_37 : decode cX1_addSquare 37 = .ok (.aload_n 0, 1) := by decide +kernel
theorem dX1_addSquare_38 : decode cX1_addSquare 38 = .ok (.getfield 18, 3) := by decide +kernel
theorem dX1_addSquare_41 : decode cX1_addSquare 41 = .ok (.aload_n 0, 1) := by decide +kernel
theorem dX1_addSquare_42 : decode cX1_addSquare 42 = .ok (.getfield 28, 3) := by decide +kernel
theorem dX1_addSquare_45 : decode cX1_addSquare 45 = .ok (.iload_n 2, 1) := by decide +kernel
theorem dX1_addSquare_46 : decode cX1_addSquare 46 = .ok (.aload_n 0, 1) := by decide +kernel
theorem dX1_addSquare_47 : decode cX1_addSquare 47 = .ok (.getfield 21, 3) := by decide +kernel
theorem dX1_addSquare_50 : decode cX1_addSquare 50 = .ok (.invokestatic 48, 3) := by decide +kernel
theorem dX1_addSquare_53 : decode cX1_addSquare 53 = .ok (.iastore, 1) := by decide +kernel
theorem dX1_addSquare_54 : decode cX1_addSquare 54 = .ok (.aload_n 0, 1) := by decide +kernel
theorem dX1_addSquare_55 : decode cX1_addSquare 55 = .ok (.dup, 1) := by decide +kernel
theorem dX1_addSquare_56 : decode cX1_addSquare 56 = .ok (.getfield 28, 3) := by decide +kernel
theorem dX1_addSquare_59 : decode cX1_addSquare 59 = .ok (.iconst 1, 1) := by decide +kernel
theorem dX1_addSquare_60 : decode cX1_addSquare 60 = .ok (.iadd, 1) := by decide +kernel
theorem dX1_addSquare_61 : decode cX1_addSquare 61 = .ok (.putfield 28, 3) := by decide +kernel
theorem dX1_addSquare_64 : decode cX1_addSquare 64 = .ok (.iload_n 1, 1) := by decide +kernel
theorem dX1_addSquare_65 : decode cX1_addSquare 65 = .ok (.ifCond .le 13, 3) := by decide +kernel
theorem dX1_addSquare_68 : decode cX1_addSquare 68 = .ok (.aload_n 0, 1) := by decide +kernel
theorem dX1_addSquare_69 : decode cX1_addSquare 69 = .ok (.dup, 1) := by decide +kernel
theorem dX1_addSquare_70 : decode cX1_addSquare 70 = .ok (.getfield 31, 3) := by decide +kernel
theorem dX1_addSquare_73 : decode cX1_addSquare 73 = .ok (.iconst 1, 1) := by decide +kernel
theorem dX1_addSquare_74 : decode cX1_addSquare 74 = .ok (.iadd, 1) := by decide +kernel
theorem dX1_addSquare_75 : decode cX1_addSquare 75 = .ok (.putfield 31, 3) := by decide +kernel
theorem dX1_addSquare_78 : decode cX1_addSquare 78 = .ok (.return_, 1) := by decide +kernel
theorem dX1_fromCentre_0 : decode cX1_fromCentre 0 = .ok (.iconst 2, 1) := by decide +kernel
theorem dX1_fromCentre_1 : decode cX1_fromCentre 1 = .ok (.iload_n 0, 1) := by decide +kernel
theorem dX1_fromCentre_2 : decode cX1_fromCentre 2 = .ok (.imul, 1) := by decide +kernel
theorem dX1_fromCentre_3 : decode cX1_fromCentre 3 = .ok (.iload_n 1, 1) := by decide +kernel
theorem dX1_fromCentre_4 : decode cX1_fromCentre 4 = .ok (.iconst 1, 1) := by decide +kernel
theorem dX1_fromCentre_5 : decode cX1_fromCentre 5 = .ok (.isub, 1) := by decide +kernel
theorem dX1_fromCentre_6 : decode cX1_fromCentre 6 = .ok (.isub, 1) := by decide +kernel
theorem dX1_fromCentre_7 : decode cX1_fromCentre 7 = .ok (.ireturn, 1) := by decide +kernel
theorem dX1_isThere_0 : decode cX1_isThere 0 = .ok (.aload_n 0, 1) := by decide +kernel
theorem dX1_isThere_1 : decode cX1_isThere 1 = .ok (.getfield 28, 3) := by decide +kernel
theorem dX1_isThere_4 : decode cX1_isThere 4 = .ok (.ifCond .le 7, 3) := by decide +kernel
theorem dX1_isThere_7 : decode cX1_isThere 7 = .ok (.iconst 1, 1) := by decide +kernel
theorem dX1_isThere_8 : decode cX1_isThere 8 = .ok (.goto 4, 3) := by decide +kernel
theorem dX1_isThere_11 : decode cX1_isThere 11 = .ok (.iconst 0, 1) := by decide +kernel
theorem dX1_isThere_12 : decode cX1_isThere 12 = .ok (.ireturn, 1) := by decide +kernel
theorem dX1_squares_0 : decode cX1_squares 0 = .ok (.aload_n 0, 1) := by decide +kernel
theorem dX1_squares_1 : decode cX1_squares 1 = .ok (.getfield 28, 3) := by decide +kernel
theorem dX1_squares_4 : decode cX1_squares 4 = .ok (.ireturn, 1) := by decide +kernel
theorem dX1_doors_0 : decode cX1_doors 0 = .ok (.aload_n 0, 1) := by decide +kernel
theorem dX1_doors_1 : decode cX1_doors 1 = .ok (.getfield 31, 3) := by decide +kernel
theorem dX1_doors_4 : decode cX1_doors 4 = .ok (.ireturn, 1) := by decide +kernel
theorem dX1_has_0 : decode cX1_has 0 = .ok (.iload_n 1, 1) := by decide +kernel
theorem dX1_has_1 : decode cX1_has 1 = .ok (.ifCond .lt 15, 3) := by decide +kernel
theorem dX1_has_4 : decode cX1_has 4 = .ok (.iload_n 1, 1) := by decide +kernel
theorem dX1_has_5 : decode cX1_has 5 = .ok (.aload_n 0, 1) := by decide +kernel
theorem dX1_has_6 : decode cX1_has 6 = .ok (.getfield 28, 3) := by decide +kernel
theorem dX1_has_9 : decode cX1_has 9 = .ok (.if_icmp .ge 7, 3) := by decide +kernel
theorem dX1_has_12 : decode cX1_has 12 = .ok (.iconst 1, 1) := by decide +kernel
theorem dX1_has_13 : decode cX1_has 13 = .ok (.goto 4, 3) := by decide +kernel
theorem dX1_has_16 : decode cX1_has 16 = .ok (.iconst 0, 1) := by decide +kernel
theorem dX1_has_17 : decode cX1_has 17 = .ok (.ireturn, 1) := by decide +kernel
theorem dX1_hasAll_0 : decode cX1_hasAll 0 = .ok (.iload_n 1, 1) := by decide +kernel
theorem dX1_hasAll_1 : decode cX1_hasAll 1 = .ok (.ifCond .lt 16, 3) := by decide +kernel
theorem dX1_hasAll_4 : decode cX1_hasAll 4 = .ok (.iload_n 1, 1) := by decide +kernel
theorem dX1_hasAll_5 : decode cX1_hasAll 5 = .ok (.aload_n 0, 1) := by decide +kernel
theorem dX1_hasAll_6 : decode cX1_hasAll 6 = .ok (.getfield 28, 3) := by decide +kernel
theorem dX1_hasAll_9 : decode cX1_hasAll 9 = .ok (.iushr, 1) := by decide +kernel
theorem dX1_hasAll_10 : decode cX1_hasAll 10 = .ok (.ifCond .ne 7, 3) := by decide +kernel
theorem dX1_hasAll_13 : decode cX1_hasAll 13 = .ok (.iconst 1, 1) := by decide +kernel
theorem dX1_hasAll_14 : decode cX1_hasAll 14 = .ok (.goto 4, 3) := by decide +kernel
theorem dX1_hasAll_17 : decode cX1_hasAll 17 = .ok (.iconst 0, 1) := by decide +kernel
theorem dX1_hasAll_18 : decode cX1_hasAll 18 = .ok (.ireturn, 1) := by decide +kernel
theorem dX1_height_0 : decode cX1_height 0 = .ok (.aload_n 0, 1) := by decide +kernel
theorem dX1_height_1 : decode cX1_height 1 = .ok (.iload_n 1, 1) := by decide +kernel
theorem dX1_height_2 : decode cX1_height 2 = .ok (.invokevirtual 52, 3) := by decide +kernel
theorem dX1_height_5 : decode cX1_height 5 = .ok (.ifCond .eq 12, 3) := by decide +kernel
theorem dX1_height_8 : decode cX1_height 8 = .ok (.aload_n 0, 1) := by decide +kernel
theorem dX1_height_9 : decode cX1_height 9 = .ok (.getfield 9, 3) := by decide +kernel
theorem dX1_height_12 : decode cX1_height 12 = .ok (.iload_n 1, 1) := by decide +kernel
theorem dX1_height_13 : decode cX1_height 13 = .ok (.iaload, 1) := by decide +kernel
theorem dX1_height_14 : decode cX1_height 14 = .ok (.goto 4, 3) := by decide +kernel
theorem dX1_height_17 : decode cX1_height 17 = .ok (.iconst 0, 1) := by decide +kernel
theorem dX1_height_18 : decode cX1_height 18 = .ok (.ireturn, 1) := by decide +kernel
theorem dX1_east_0 : decode cX1_east 0 = .ok (.aload_n 0, 1) := by decide +kernel
theorem dX1_east_1 : decode cX1_east 1 = .ok (.iload_n 1, 1) := by decide +kernel
theorem dX1_east_2 : decode cX1_east 2 = .ok (.invokevirtual 52, 3) := by decide +kernel
theorem dX1_east_5 : decode cX1_east 5 = .ok (.ifCond .eq 12, 3) := by decide +kernel
theorem dX1_east_8 : decode cX1_east 8 = .ok (.aload_n 0, 1) := by decide +kernel
theorem dX1_east_9 : decode cX1_east 9 = .ok (.getfield 15, 3) := by decide +kernel
theorem dX1_east_12 : decode cX1_east 12 = .ok (.iload_n 1, 1) := by decide +kernel
theorem dX1_east_13 : decode cX1_east 13 = .ok (.iaload, 1) := by decide +kernel
theorem dX1_east_14 : decode cX1_east 14 = .ok (.goto 4, 3) := by decide +kernel
theorem dX1_east_17 : decode cX1_east 17 = .ok (.iconst 0, 1) := by decide +kernel
theorem dX1_east_18 : decode cX1_east 18 = .ok (.ireturn, 1) := by decide +kernel
theorem dX1_south_0 : decode cX1_south 0 = .ok (.aload_n 0, 1) := by decide +kernel
theorem dX1_south_1 : decode cX1_south 1 = .ok (.iload_n 1, 1) := by decide +kernel
theorem dX1_south_2 : decode cX1_south 2 = .ok (.invokevirtual 52, 3) := by decide +kernel
theorem dX1_south_5 : decode cX1_south 5 = .ok (.ifCond .eq 12, 3) := by decide +kernel
theorem dX1_south_8 : decode cX1_south 8 = .ok (.aload_n 0, 1) := by decide +kernel
theorem dX1_south_9 : decode cX1_south 9 = .ok (.getfield 18, 3) := by decide +kernel
theorem dX1_south_12 : decode cX1_south 12 = .ok (.iload_n 1, 1) := by decide +kernel
theorem dX1_south_13 : decode cX1_south 13 = .ok (.iaload, 1) := by decide +kernel
theorem dX1_south_14 : decode cX1_south 14 = .ok (.goto 4, 3) := by decide +kernel
theorem dX1_south_17 : decode cX1_south 17 = .ok (.iconst 0, 1) := by decide +kernel
theorem dX1_south_18 : decode cX1_south 18 = .ok (.ireturn, 1) := by decide +kernel
theorem dX1_dipOf_0 : decode cX1_dipOf 0 = .ok (.aload_n 0, 1) := by decide +kernel
theorem dX1_dipOf_1 : decode cX1_dipOf 1 = .ok (.iload_n 1, 1) := by decide +kernel
theorem dX1_dipOf_2 : decode cX1_dipOf 2 = .ok (.invokevirtual 52, 3) := by decide +kernel
theorem dX1_dipOf_5 : decode cX1_dipOf 5 = .ok (.ifCond .eq 23, 3) := by decide +kernel
theorem dX1_dipOf_8 : decode cX1_dipOf 8 = .ok (.iload_n 2, 1) := by decide +kernel
theorem dX1_dipOf_9 : decode cX1_dipOf 9 = .ok (.aload_n 0, 1) := by decide +kernel
theorem dX1_dipOf_10 : decode cX1_dipOf 10 = .ok (.getfield 15, 3) := by decide +kernel
theorem dX1_dipOf_13 : decode cX1_dipOf 13 = .ok (.iload_n 1, 1) := by decide +kernel
theorem dX1_dipOf_14 : decode cX1_dipOf 14 = .ok (.iaload, 1) := by decide +kernel
theorem dX1_dipOf_15 : decode cX1_dipOf 15 = .ok (.imul, 1) := by decide +kernel
theorem dX1_dipOf_16 : decode cX1_dipOf 16 = .ok (.iload_n 3, 1) := by decide +kernel
theorem dX1_dipOf_17 : decode cX1_dipOf 17 = .ok (.aload_n 0, 1) := by decide +kernel
theorem dX1_dipOf_18 : decode cX1_dipOf 18 = .ok (.getfield 18, 3) := by decide +kernel
theorem dX1_dipOf_21 : decode cX1_dipOf 21 = .ok (.iload_n 1, 1) := by decide +kernel
theorem dX1_dipOf_22 : decode cX1_dipOf 22 = .ok (.iaload, 1) := by decide +kernel
theorem dX1_dipOf_23 : decode cX1_dipOf 23 = .ok (.imul, 1) := by decide +kernel
theorem dX1_dipOf_24 : decode cX1_dipOf 24 = .ok (.iadd, 1) := by decide +kernel
theorem dX1_dipOf_25 : decode cX1_dipOf 25 = .ok (.goto 4, 3) := by decide +kernel
theorem dX1_dipOf_28 : decode cX1_dipOf 28 = .ok (.iconst 0, 1) := by decide +kernel
theorem dX1_dipOf_29 : decode cX1_dipOf 29 = .ok (.ireturn, 1) := by decide +kernel
theorem dX1_wetDoors_0 : decode cX1_wetDoors 0 = .ok (.iconst 0, 1) := by decide +kernel
theorem dX1_wetDoors_1 : decode cX1_wetDoors 1 = .ok (.istore_n 3, 1) := by decide +kernel
theorem dX1_wetDoors_2 : decode cX1_wetDoors 2 = .ok (.iconst 0, 1) := by decide +kernel
theorem dX1_wetDoors_3 : decode cX1_wetDoors 3 = .ok (.istore 4, 2) := by decide +kernel
theorem dX1_wetDoors_5 : decode cX1_wetDoors 5 = .ok (.iload 4, 2) := by decide +kernel
theorem dX1_wetDoors_7 : decode cX1_wetDoors 7 = .ok (.aload_n 0, 1) := by decide +kernel
theorem dX1_wetDoors_8 : decode cX1_wetDoors 8 = .ok (.getfield 28, 3) := by decide +kernel
theorem dX1_wetDoors_11 : decode cX1_wetDoors 11 = .ok (.if_icmp .ge 61, 3) := by decide +kernel
theorem dX1_wetDoors_14 : decode cX1_wetDoors 14 = .ok (.aload_n 0, 1) := by decide +kernel
theorem dX1_wetDoors_15 : decode cX1_wetDoors 15 = .ok (.getfield 9, 3) := by decide +kernel
theorem dX1_wetDoors_18 : decode cX1_wetDoors 18 = .ok (.iload 4, 2) := by decide +kernel
theorem dX1_wetDoors_20 : decode cX1_wetDoors 20 = .ok (.iaload, 1) := by decide +kernel
theorem dX1_wetDoors_21 : decode cX1_wetDoors 21 = .ok (.istore 5, 2) := by decide +kernel
theorem dX1_wetDoors_23 : decode cX1_wetDoors 23 = .ok (.iload_n 1, 1) := by decide +kernel
theorem dX1_wetDoors_24 : decode cX1_wetDoors 24 = .ok (.aload_n 0, 1) := by decide +kernel
theorem dX1_wetDoors_25 : decode cX1_wetDoors 25 = .ok (.getfield 15, 3) := by decide +kernel
theorem dX1_wetDoors_28 : decode cX1_wetDoors 28 = .ok (.iload 4, 2) := by decide +kernel
theorem dX1_wetDoors_30 : decode cX1_wetDoors 30 = .ok (.iaload, 1) := by decide +kernel
theorem dX1_wetDoors_31 : decode cX1_wetDoors 31 = .ok (.imul, 1) := by decide +kernel
theorem dX1_wetDoors_32 : decode cX1_wetDoors 32 = .ok (.iload_n 2, 1) := by decide +kernel
theorem dX1_wetDoors_33 : decode cX1_wetDoors 33 = .ok (.aload_n 0, 1) := by decide +kernel
theorem dX1_wetDoors_34 : decode cX1_wetDoors 34 = .ok (.getfield 18, 3) := by decide +kernel
theorem dX1_wetDoors_37 : decode cX1_wetDoors 37 = .ok (.iload 4, 2) := by decide +kernel
theorem dX1_wetDoors_39 : decode cX1_wetDoors 39 = .ok (.iaload, 1) := by decide +kernel
theorem dX1_wetDoors_40 : decode cX1_wetDoors 40 = .ok (.imul, 1) := by decide +kernel
theorem dX1_wetDoors_41 : decode cX1_wetDoors 41 = .ok (.iadd, 1) := by decide +kernel
theorem dX1_wetDoors_42 : decode cX1_wetDoors 42 = .ok (.istore 6, 2) := by decide +kernel
theorem dX1_wetDoors_44 : decode cX1_wetDoors 44 = .ok (.iload 5, 2) := by decide +kernel
theorem dX1_wetDoors_46 : decode cX1_wetDoors 46 = .ok (.ifCond .le 20, 3) := by decide +kernel
theorem dX1_wetDoors_49 : decode cX1_wetDoors 49 = .ok (.iload 6, 2) := by decide +kernel
theorem dX1_wetDoors_51 : decode cX1_wetDoors 51 = .ok (.bipush 50, 2) := by decide +kernel
theorem dX1_wetDoors_53 : decode cX1_wetDoors 53 = .ok (.iload 5, 2) := by decide +kernel
theorem dX1_wetDoors_55 : decode cX1_wetDoors 55 = .ok (.imul, 1) := by decide +kernel
theorem dX1_wetDoors_56 : decode cX1_wetDoors 56 = .ok (.if_icmp .lt 10, 3) := by decide +kernel
theorem dX1_wetDoors_59 : decode cX1_wetDoors 59 = .ok (.iload_n 3, 1) := by decide +kernel
theorem dX1_wetDoors_60 : decode cX1_wetDoors 60 = .ok (.iconst 1, 1) := by decide +kernel
theorem dX1_wetDoors_61 : decode cX1_wetDoors 61 = .ok (.iload 4, 2) := by decide +kernel
theorem dX1_wetDoors_63 : decode cX1_wetDoors 63 = .ok (.ishl, 1) := by decide +kernel
theorem dX1_wetDoors_64 : decode cX1_wetDoors 64 = .ok (.ior, 1) := by decide +kernel
theorem dX1_wetDoors_65 : decode cX1_wetDoors 65 = .ok (.istore_n 3, 1) := by decide +kernel
theorem dX1_wetDoors_66 : decode cX1_wetDoors 66 = .ok (.iinc 4 1, 3) := by decide +kernel
theorem dX1_wetDoors_69 : decode cX1_wetDoors 69 = .ok (.goto (-64), 3) := by decide +kernel
theorem dX1_wetDoors_72 : decode cX1_wetDoors 72 = .ok (.iload_n 3, 1) := by decide +kernel
theorem dX1_wetDoors_73 : decode cX1_wetDoors 73 = .ok (.ireturn, 1) := by decide +kernel
theorem dX1_wetDoorsTold_0 : decode cX1_wetDoorsTold 0 = .ok (.aload_n 0, 1) := by decide +kernel
theorem dX1_wetDoorsTold_1 : decode cX1_wetDoorsTold 1 = .ok (.iload_n 1, 1) := by decide +kernel
theorem dX1_wetDoorsTold_2 : decode cX1_wetDoorsTold 2 = .ok (.iload_n 2, 1) := by decide +kernel
theorem dX1_wetDoorsTold_3 : decode cX1_wetDoorsTold 3 = .ok (.invokevirtual 56, 3) := by decide +kernel
theorem dX1_wetDoorsTold_6 : decode cX1_wetDoorsTold 6 = .ok (.invokestatic 59, 3) := by decide +kernel
theorem dX1_wetDoorsTold_9 : decode cX1_wetDoorsTold 9 = .ok (.ireturn, 1) := by decide +kernel
theorem dX1_step_0 : decode cX1_step 0 = .ok (.aload_n 0, 1) := by decide +kernel
theorem dX1_step_1 : decode cX1_step 1 = .ok (.iload_n 1, 1) := by decide +kernel
theorem dX1_step_2 : decode cX1_step 2 = .ok (.invokevirtual 52, 3) := by decide +kernel
theorem dX1_step_5 : decode cX1_step 5 = .ok (.ifCond .ne 5, 3) := by decide +kernel
theorem dX1_step_8 : decode cX1_step 8 = .ok (.iconst (-1), 1) := by decide +kernel
theorem dX1_step_9 : decode cX1_step 9 = .ok (.ireturn, 1) := by decide +kernel
theorem dX1_step_10 : decode cX1_step 10 = .ok (.iload_n 2, 1) := by decide +kernel
theorem dX1_step_11 : decode cX1_step 11 = .ok (.tableswitch 119 1 4 #[29, 49, 72, 96], 29) := by decide +kernel
theorem dX1_step_40 : decode cX1_step 40 = .ok (.iload_n 1, 1) := by decide +kernel
theorem dX1_step_41 : decode cX1_step 41 = .ok (.aload_n 0, 1) := by decide +kernel
theorem dX1_step_42 : decode cX1_step 42 = .ok (.getfield 25, 3) := by decide +kernel
theorem dX1_step_45 : decode cX1_step 45 = .ok (.isub, 1) := by decide +kernel
theorem dX1_step_46 : decode cX1_step 46 = .ok (.ifCond .lt 12, 3) := by decide +kernel
theorem dX1_step_49 : decode cX1_step 49 = .ok (.iload_n 1, 1) := by decide +kernel
theorem dX1_step_50 : decode cX1_step 50 = .ok (.aload_n 0, 1) := by decide +kernel
theorem dX1_step_51 : decode cX1_step 51 = .ok (.getfield 25, 3) := by decide +kernel
theorem dX1_step_54 : decode cX1_step 54 = .ok (.isub, 1) := by decide +kernel
theorem dX1_step_55 : decode cX1_step 55 = .ok (.goto 4, 3) := by decide +kernel
theorem dX1_step_58 : decode cX1_step 58 = .ok (.iconst (-1), 1) := by decide +kernel
theorem dX1_step_59 : decode cX1_step 59 = .ok (.ireturn, 1) := by decide +kernel
theorem dX1_step_60 : decode cX1_step 60 = .ok (.aload_n 0, 1) := by decide +kernel
theorem dX1_step_61 : decode cX1_step 61 = .ok (.getfield 15, 3) := by decide +kernel
theorem dX1_step_64 : decode cX1_step 64 = .ok (.iload_n 1, 1) := by decide +kernel
theorem dX1_step_65 : decode cX1_step 65 = .ok (.iaload, 1) := by decide +kernel
theorem dX1_step_66 : decode cX1_step 66 = .ok (.aload_n 0, 1) := by decide +kernel
theorem dX1_step_67 : decode cX1_step 67 = .ok (.getfield 25, 3) := by decide +kernel
theorem dX1_step_70 : decode cX1_step 70 = .ok (.iconst 1, 1) := by decide +kernel
theorem dX1_step_71 : decode cX1_step 71 = .ok (.isub, 1) := by decide +kernel
theorem dX1_step_72 : decode cX1_step 72 = .ok (.if_icmp .ge 9, 3) := by decide +kernel
theorem dX1_step_75 : decode cX1_step 75 = .ok (.iload_n 1, 1) := by decide +kernel
theorem dX1_step_76 : decode cX1_step 76 = .ok (.iconst 1, 1) := by decide +kernel
theorem dX1_step_77 : decode cX1_step 77 = .ok (.iadd, 1) := by decide +kernel
theorem dX1_step_78 : decode cX1_step 78 = .ok (.goto 4, 3) := by decide +kernel
theorem dX1_step_81 : decode cX1_step 81 = .ok (.iconst (-1), 1) := by decide +kernel
theorem dX1_step_82 : decode cX1_step 82 = .ok (.ireturn, 1) := by decide +kernel
theorem dX1_step_83 : decode cX1_step 83 = .ok (.iload_n 1, 1) := by decide +kernel
theorem dX1_step_84 : decode cX1_step 84 = .ok (.aload_n 0, 1) := by decide +kernel
theorem dX1_step_85 : decode cX1_step 85 = .ok (.getfield 25, 3) := by decide +kernel
theorem dX1_step_88 : decode cX1_step 88 = .ok (.iadd, 1) := by decide +kernel
theorem dX1_step_89 : decode cX1_step 89 = .ok (.aload_n 0, 1) := by decide +kernel
theorem dX1_step_90 : decode cX1_step 90 = .ok (.getfield 28, 3) := by decide +kernel
theorem dX1_step_93 : decode cX1_step 93 = .ok (.if_icmp .ge 12, 3) := by decide +kernel
theorem dX1_step_96 : decode cX1_step 96 = .ok (.iload_n 1, 1) := by decide +kernel
theorem dX1_step_97 : decode cX1_step 97 = .ok (.aload_n 0, 1) := by decide +kernel
theorem dX1_step_98 : decode cX1_step 98 = .ok (.getfield 25, 3) := by decide +kernel
theorem dX1_step_101 : decode cX1_step 101 = .ok (.iadd, 1) := by decide +kernel
theorem dX1_step_102 : decode cX1_step 102 = .ok (.goto 4, 3) := by decide +kernel
theorem dX1_step_105 : decode cX1_step 105 = .ok (.iconst (-1), 1) := by decide +kernel
theorem dX1_step_106 : decode cX1_step 106 = .ok (.ireturn, 1) := by decide +kernel
theorem dX1_step_107 : decode cX1_step 107 = .ok (.aload_n 0, 1) := by decide +kernel
theorem dX1_step_108 : decode cX1_step 108 = .ok (.getfield 15, 3) := by decide +kernel
theorem dX1_step_111 : decode cX1_step 111 = .ok (.iload_n 1, 1) := by decide +kernel
theorem dX1_step_112 : decode cX1_step 112 = .ok (.iaload, 1) := by decide +kernel
theorem dX1_step_113 : decode cX1_step 113 = .ok (.iconst 1, 1) := by decide +kernel
theorem dX1_step_114 : decode cX1_step 114 = .ok (.aload_n 0, 1) := by decide +kernel
theorem dX1_step_115 : decode cX1_step 115 = .ok (.getfield 25, 3) := by decide +kernel
theorem dX1_step_118 : decode cX1_step 118 = .ok (.isub, 1) := by decide +kernel
theorem dX1_step_119 : decode cX1_step 119 = .ok (.if_icmp .le 9, 3) := by decide +kernel
theorem dX1_step_122 : decode cX1_step 122 = .ok (.iload_n 1, 1) := by decide +kernel
theorem dX1_step_123 : decode cX1_step 123 = .ok (.iconst 1, 1) := by decide +kernel
theorem dX1_step_124 : decode cX1_step 124 = .ok (.isub, 1) := by decide +kernel
theorem dX1_step_125 : decode cX1_step 125 = .ok (.goto 4, 3) := by decide +kernel
theorem dX1_step_128 : decode cX1_step 128 = .ok (.iconst (-1), 1) := by decide +kernel
theorem dX1_step_129 : decode cX1_step 129 = .ok (.ireturn, 1) := by decide +kernel
theorem dX1_step_130 : decode cX1_step 130 = .ok (.iload_n 1, 1) := by decide +kernel
theorem dX1_step_131 : decode cX1_step 131 = .ok (.ireturn, 1) := by decide +kernel
theorem dX1_towardsMiddle_0 : decode cX1_towardsMiddle 0 = .ok (.aload_n 0, 1) := by decide +kernel
theorem dX1_towardsMiddle_1 : decode cX1_towardsMiddle 1 = .ok (.getfield 21, 3) := by decide +kernel
theorem dX1_towardsMiddle_4 : decode cX1_towardsMiddle 4 = .ok (.iconst 2, 1) := by decide +kernel
theorem dX1_towardsMiddle_5 : decode cX1_towardsMiddle 5 = .ok (.idiv, 1) := by decide +kernel
theorem dX1_towardsMiddle_6 : decode cX1_towardsMiddle 6 = .ok (.aload_n 0, 1) := by decide +kernel
theorem dX1_towardsMiddle_7 : decode cX1_towardsMiddle 7 = .ok (.getfield 21, 3) := by decide +kernel
theorem dX1_towardsMiddle_10 : decode cX1_towardsMiddle 10 = .ok (.invokestatic 48, 3) := by decide +kernel
theorem dX1_towardsMiddle_13 : decode cX1_towardsMiddle 13 = .ok (.aload_n 0, 1) := by decide +kernel
theorem dX1_towardsMiddle_14 : decode cX1_towardsMiddle 14 = .ok (.iload_n 1, 1) := by decide +kernel
theorem dX1_towardsMiddle_15 : decode cX1_towardsMiddle 15 = .ok (.invokevirtual 64, 3) := by decide +kernel
theorem dX1_towardsMiddle_18 : decode cX1_towardsMiddle 18 = .ok (.isub, 1) := by decide +kernel
theorem dX1_towardsMiddle_19 : decode cX1_towardsMiddle 19 = .ok (.istore_n 2, 1) := by decide +kernel
theorem dX1_towardsMiddle_20 : decode cX1_towardsMiddle 20 = .ok (.aload_n 0, 1) := by decide +kernel
theorem dX1_towardsMiddle_21 : decode cX1_towardsMiddle 21 = .ok (.getfield 25, 3) := by decide +kernel
theorem dX1_towardsMiddle_24 : decode cX1_towardsMiddle 24 = .ok (.iconst 2, 1) := by decide +kernel
theorem dX1_towardsMiddle_25 : decode cX1_towardsMiddle 25 = .ok (.idiv, 1) := by decide +kernel
theorem dX1_towardsMiddle_26 : decode cX1_towardsMiddle 26 = .ok (.aload_n 0, 1) := by decide +kernel
theorem dX1_towardsMiddle_27 : decode cX1_towardsMiddle 27 = .ok (.getfield 25, 3) := by decide +kernel
theorem dX1_towardsMiddle_30 : decode cX1_towardsMiddle 30 = .ok (.invokestatic 48, 3) := by decide +kernel
theorem dX1_towardsMiddle_33 : decode cX1_towardsMiddle 33 = .ok (.aload_n 0, 1) := by decide +kernel
theorem dX1_towardsMiddle_34 : decode cX1_towardsMiddle 34 = .ok (.iload_n 1, 1) := by decide +kernel
theorem dX1_towardsMiddle_35 : decode cX1_towardsMiddle 35 = .ok (.invokevirtual 67, 3) := by decide +kernel
theorem dX1_towardsMiddle_38 : decode cX1_towardsMiddle 38 = .ok (.isub, 1) := by decide +kernel
theorem dX1_towardsMiddle_39 : decode cX1_towardsMiddle 39 = .ok (.istore_n 3, 1) := by decide +kernel
theorem dX1_towardsMiddle_40 : decode cX1_towardsMiddle 40 = .ok (.iload_n 2, 1) := by decide +kernel
theorem dX1_towardsMiddle_41 : decode cX1_towardsMiddle 41 = .ok (.ifCond .eq 18, 3) := by decide +kernel
theorem dX1_towardsMiddle_44 : decode cX1_towardsMiddle 44 = .ok (.aload_n 0, 1) := by decide +kernel
theorem dX1_towardsMiddle_45 : decode cX1_towardsMiddle 45 = .ok (.iload_n 1, 1) := by decide +kernel
theorem dX1_towardsMiddle_46 : decode cX1_towardsMiddle 46 = .ok (.iload_n 2, 1) := by decide +kernel
theorem dX1_towardsMiddle_47 : decode cX1_towardsMiddle 47 = .ok (.ifCond .ge 7, 3) := by decide +kernel
theorem dX1_towardsMiddle_50 : decode cX1_towardsMiddle 50 = .ok (.iconst 1, 1) := by decide +kernel
theorem dX1_towardsMiddle_51 : decode cX1_towardsMiddle 51 = .ok (.goto 4, 3) := by decide +kernel
theorem dX1_towardsMiddle_54 : decode cX1_towardsMiddle 54 = .ok (.iconst 3, 1) := by decide +kernel
theorem dX1_towardsMiddle_55 : decode cX1_towardsMiddle 55 = .ok (.invokevirtual 70, 3) := by decide +kernel
theorem dX1_towardsMiddle_58 : decode cX1_towardsMiddle 58 = .ok (.ireturn, 1) := by decide +kernel
theorem dX1_towardsMiddle_59 : decode cX1_towardsMiddle 59 = .ok (.iload_n 3, 1) := by decide +kernel
theorem dX1_towardsMiddle_60 : decode cX1_towardsMiddle 60 = .ok (.ifCond .eq 18, 3) := by decide +kernel
theorem dX1_towardsMiddle_63 : decode cX1_towardsMiddle 63 = .ok (.aload_n 0, 1) := by decide +kernel
theorem dX1_towardsMiddle_64 : decode cX1_towardsMiddle 64 = .ok (.iload_n 1, 1) := by decide +kernel
theorem dX1_towardsMiddle_65 : decode cX1_towardsMiddle 65 = .ok (.iload_n 3, 1) := by decide +kernel
theorem dX1_towardsMiddle_66 : decode cX1_towardsMiddle 66 = .ok (.ifCond .ge 7, 3) := by decide +kernel
theorem dX1_towardsMiddle_69 : decode cX1_towardsMiddle 69 = .ok (.iconst 4, 1) := by decide +kernel
theorem dX1_towardsMiddle_70 : decode cX1_towardsMiddle 70 = .ok (.goto 4, 3) := by decide +kernel
theorem dX1_towardsMiddle_73 : decode cX1_towardsMiddle 73 = .ok (.iconst 2, 1) := by decide +kernel
theorem dX1_towardsMiddle_74 : decode cX1_towardsMiddle 74 = .ok (.invokevirtual 70, 3) := by decide +kernel
theorem dX1_towardsMiddle_77 : decode cX1_towardsMiddle 77 = .ok (.ireturn, 1) := by decide +kernel
theorem dX1_towardsMiddle_78 : decode cX1_towardsMiddle 78 = .ok (.iload_n 1, 1) := by decide +kernel
theorem dX1_towardsMiddle_79 : decode cX1_towardsMiddle 79 = .ok (.ireturn, 1) := by decide +kernel
theorem dX2_init_0 : decode cX2_init 0 = .ok (.aload_n 0, 1) := by decide +kernel
theorem dX2_init_1 : decode cX2_init 1 = .ok (.invokespecial 3, 3) := by decide +kernel
theorem dX2_init_4 : decode cX2_init 4 = .ok (.aload_n 0, 1) := by decide +kernel
theorem dX2_init_5 : decode cX2_init 5 = .ok (.iconst 3, 1) := by decide +kernel
theorem dX2_init_6 : decode cX2_init 6 = .ok (.newarray .int, 2) := by decide +kernel
theorem dX2_init_8 : decode cX2_init 8 = .ok (.putfield 11, 3) := by decide +kernel
theorem dX2_init_11 : decode cX2_init 11 = .ok (.aload_n 0, 1) := by decide +kernel
theorem dX2_init_12 : decode cX2_init 12 = .ok (.bipush 8, 2) := by decide +kernel
theorem dX2_init_14 : decode cX2_init 14 = .ok (.newarray .int, 2) := by decide +kernel
theorem dX2_init_16 : decode cX2_init 16 = .ok (.putfield 15, 3) := by decide +kernel
theorem dX2_init_19 : decode cX2_init 19 = .ok (.aload_n 0, 1) := by decide +kernel
theorem dX2_init_20 : decode cX2_init 20 = .ok (.bipush 8, 2) := by decide +kernel
theorem dX2_init_22 : decode cX2_init 22 = .ok (.newarray .int, 2) := by decide +kernel
theorem dX2_init_24 : decode cX2_init 24 = .ok (.putfield 18, 3) := by decide +kernel
theorem dX2_init_27 : decode cX2_init 27 = .ok (.aload_n 0, 1) := by decide +kernel
theorem dX2_init_28 : decode cX2_init 28 = .ok (.aload_n 1, 1) := by decide +kernel
theorem dX2_init_29 : decode cX2_init 29 = .ok (.putfield 21, 3) := by decide +kernel
theorem dX2_init_32 : decode cX2_init 32 = .ok (.aload_n 0, 1) := by decide +kernel
theorem dX2_init_33 : decode cX2_init 33 = .ok (.aload_n 2, 1) := by decide +kernel
theorem dX2_init_34 : decode cX2_init 34 = .ok (.putfield 25, 3) := by decide +kernel
theorem dX2_init_37 : decode cX2_init 37 = .ok (.aload_n 0, 1) := by decide +kernel
theorem dX2_init_38 : decode cX2_init 38 = .ok (.aload_n 3, 1) := by decide +kernel
theorem dX2_init_39 : decode cX2_init 39 = .ok (.putfield 29, 3) := by decide +kernel
theorem dX2_init_42 : decode cX2_init 42 = .ok (.return_, 1) := by decide +kernel
theorem dX2_found_0 : decode cX2_found 0 = .ok (.iload_n 1, 1) := by decide +kernel
theorem dX2_found_1 : decode cX2_found 1 = .ok (.ifCond .lt 17, 3) := by decide +kernel
theorem dX2_found_4 : decode cX2_found 4 = .ok (.iload_n 1, 1) := by decide +kernel
theorem dX2_found_5 : decode cX2_found 5 = .ok (.iconst 3, 1) := by decide +kernel
theorem dX2_found_6 : decode cX2_found 6 = .ok (.if_icmp .ge 12, 3) := by decide +kernel
theorem dX2_found_9 : decode cX2_found 9 = .ok (.aload_n 0, 1) := by decide +kernel
theorem dX2_found_10 : decode cX2_found 10 = .ok (.getfield 11, 3) := by decide +kernel
theorem dX2_found_13 : decode cX2_found 13 = .ok (.iload_n 1, 1) := by decide +kernel
theorem dX2_found_14 : decode cX2_found 14 = .ok (.iaload, 1) := by decide +kernel
theorem dX2_found_15 : decode cX2_found 15 = .ok (.goto 4, 3) := by decide +kernel
theorem dX2_found_18 : decode cX2_found 18 = .ok (.iconst (-1), 1) := by decide +kernel
theorem dX2_found_19 : decode cX2_found 19 = .ok (.ireturn, 1) := by decide +kernel
theorem dX2_search_0 : decode cX2_search 0 = .ok (.aload_n 0, 1) := by decide +kernel
theorem dX2_search_1 : decode cX2_search 1 = .ok (.iload_n 1, 1) := by decide +kernel
theorem dX2_search_2 : decode cX2_search 2 = .ok (.invokevirtual 33, 3) := by decide +kernel
theorem dX2_search_5 : decode cX2_search 5 = .ok (.aload_n 0, 1) := by decide +kernel
theorem dX2_search_6 : decode cX2_search 6 = .ok (.getfield 25, 3) := by decide +kernel
theorem dX2_search_9 : decode cX2_search 9 = .ok (.invokevirtual 37, 3) := by decide +kernel
theorem dX2_search_12 : decode cX2_search 12 = .ok (.istore_n 3, 1) := by decide +kernel
theorem dX2_search_13 : decode cX2_search 13 = .ok (.aload_n 0, 1) := by decide +kernel
theorem dX2_search_14 : decode cX2_search 14 = .ok (.getfield 29, 3) := by decide +kernel
theorem dX2_search_17 : decode cX2_search 17 = .ok (.iload_n 1, 1) := by decide +kernel
theorem dX2_search_18 : decode cX2_search 18 = .ok (.invokevirtual 43, 3) := by decide +kernel
theorem dX2_search_21 : decode cX2_search 21 = .ok (.istore 4, 2) := by decide +kernel
theorem dX2_search_23 : decode cX2_search 23 = .ok (.aload_n 0, 1) := by decide +kernel
theorem dX2_search_24 : decode cX2_search 24 = .ok (.getfield 29, 3) := by decide +kernel
theorem dX2_search_27 : decode cX2_search 27 = .ok (.iload_n 1, 1) := by decide +kernel
theorem dX2_search_28 : decode cX2_search 28 = .ok (.invokevirtual 49, 3) := by decide +kernel
theorem dX2_search_31 : decode cX2_search 31 = .ok (.istore 5, 2) := by decide +kernel
theorem dX2_search_33 : decode cX2_search 33 = .ok (.iconst 0, 1) := by decide +kernel
theorem dX2_search_34 : decode cX2_search 34 = .ok (.istore 6, 2) := by decide +kernel
theorem dX2_search_36 : decode cX2_search 36 = .ok (.iload_n 3, 1) := by decide +kernel
theorem dX2_search_37 : decode cX2_search 37 = .ok (.istore 7, 2) := by decide +kernel
theorem dX2_search_39 : decode cX2_search 39 = .ok (.iconst 0, 1) := by decide +kernel
theorem dX2_search_40 : decode cX2_search 40 = .ok (.istore 8, 2) := by decide +kernel
theorem dX2_search_42 : decode cX2_search 42 = .ok (.iconst 0, 1) := by decide +kernel
theorem dX2_search_43 : decode cX2_search 43 = .ok (.istore 9, 2) := by decide +kernel
theorem dX2_search_45 : decode cX2_search 45 = .ok (.iload 9, 2) := by decide +kernel
theorem dX2_search_47 : decode cX2_search 47 = .ok (.iload_n 3, 1) := by decide +kernel
theorem dX2_search_48 : decode cX2_search 48 = .ok (.if_icmp .gt 49, 3) := by decide +kernel
theorem dX2_search_51 : decode cX2_search 51 = .ok (.iload 9, 2) := by decide +kernel
theorem dX2_search_53 : decode cX2_search 53 = .ok (.iload_n 3, 1) := by decide +kernel
theorem dX2_search_54 : decode cX2_search 54 = .ok (.iconst (-1), 1) := by decide +kernel
theorem dX2_search_55 : decode cX2_search 55 = .ok (.ixor, 1) := by decide +kernel
theorem dX2_search_56 : decode cX2_search 56 = .ok (.iand, 1) := by decide +kernel
theorem dX2_search_57 : decode cX2_search 57 = .ok (.ifCond .ne 34, 3) := by decide +kernel
theorem dX2_search_60 : decode cX2_search 60 = .ok (.aload_n 0, 1) := by decide +kernel
theorem dX2_search_61 : decode cX2_search 61 = .ok (.iload 9, 2) := by decide +kernel
theorem dX2_search_63 : decode cX2_search 63 = .ok (.iload 4, 2) := by decide +kernel
theorem dX2_search_65 : decode cX2_search 65 = .ok (.iload 5, 2) := by decide +kernel
theorem dX2_search_67 : decode cX2_search 67 = .ok (.invokevirtual 52, 3) := by decide +kernel
theorem dX2_search_70 : decode cX2_search 70 = .ok (.iload_n 2, 1) := by decide +kernel
theorem dX2_search_71 : decode cX2_search 71 = .ok (.if_icmp .ne 20, 3) := by decide +kernel
theorem dX2_search_74 : decode cX2_search 74 = .ok (.iinc 6 1, 3) := by decide +kernel
theorem dX2_search_77 : decode cX2_search 77 = .ok (.iload 7, 2) := by decide +kernel
theorem dX2_search_79 : decode cX2_search 79 = .ok (.iload 9, 2) := by decide +kernel
theorem dX2_search_81 : decode cX2_search 81 = .ok (.iand, 1) := by decide +kernel
theorem dX2_search_82 : decode cX2_search 82 = .ok (.istore 7, 2) := by decide +kernel
theorem dX2_search_84 : decode cX2_search 84 = .ok (.iload 8, 2) := by decide +kernel
theorem dX2_search_86 : decode cX2_search 86 = .ok (.iload 9, 2) := by decide +kernel
theorem dX2_search_88 : decode cX2_search 88 = .ok (.ior, 1) := by decide +kernel
theorem dX2_search_89 : decode cX2_search 89 = .ok (.istore 8, 2) := by decide +kernel
theorem dX2_search_91 : decode cX2_search 91 = .ok (.iinc 9 1, 3) := by decide +kernel
theorem dX2_search_94 : decode cX2_search 94 = .ok (.goto (-49), 3) := by decide +kernel
theorem dX2_search_97 : decode cX2_search 97 = .ok (.aload_n 0, 1) := by decide +kernel
theorem dX2_search_98 : decode cX2_search 98 = .ok (.getfield 11, 3) := by decide +kernel
theorem dX2_search_101 : decode cX2_search 101 = .ok (.iconst 0, 1) := by decide +kernel
theorem dX2_search_102 : decode cX2_search 102 = .ok (.iload 6, 2) := by decide +kernel
theorem dX2_search_104 : decode cX2_search 104 = .ok (.iastore, 1) := by decide +kernel
theorem dX2_search_105 : decode cX2_search 105 = .ok (.aload_n 0, 1) := by decide +kernel
theorem dX2_search_106 : decode cX2_search 106 = .ok (.getfield 11, 3) := by decide +kernel
theorem dX2_search_109 : decode cX2_search 109 = .ok (.iconst 1, 1) := by decide +kernel
theorem dX2_search_110 : decode cX2_search 110 = .ok (.iload 6, 2) := by decide +kernel
theorem dX2_search_112 : decode cX2_search 112 = .ok (.ifCond .ne 7, 3) := by decide +kernel
theorem dX2_search_115 : decode cX2_search 115 = .ok (.iconst 0, 1) := by decide +kernel
theorem dX2_search_116 : decode cX2_search 116 = .ok (.goto 5, 3) := by decide +kernel
theorem dX2_search_119 : decode cX2_search 119 = .ok (.iload 7, 2) := by decide +kernel
theorem dX2_search_121 : decode cX2_search 121 = .ok (.iastore, 1) := by decide +kernel
theorem dX2_search_122 : decode cX2_search 122 = .ok (.aload_n 0, 1) := by decide +kernel
theorem dX2_search_123 : decode cX2_search 123 = .ok (.getfield 11, 3) := by decide +kernel
theorem dX2_search_126 : decode cX2_search 126 = .ok (.iconst 2, 1) := by decide +kernel
theorem dX2_search_127 : decode cX2_search 127 = .ok (.iload 8, 2) := by decide +kernel
theorem dX2_search_129 : decode cX2_search 129 = .ok (.iastore, 1) := by decide +kernel
theorem dX2_search_130 : decode cX2_search 130 = .ok (.return_, 1) := by decide +kernel
theorem dX2_measureChanges_0 : decode cX2_measureChanges 0 = .ok (.iconst 0, 1) := by decide +kernel
theorem dX2_measureChanges_1 : decode cX2_measureChanges 1 = .ok (.istore_n 2, 1) := by decide +kernel
theorem dX2_measureChanges_2 : decode cX2_measureChanges 2 = .ok (.iload_n 2, 1) := by decide +kernel
theorem dX2_measureChanges_3 : decode cX2_measureChanges 3 = .ok (.bipush 8, 2) := by decide +kernel
theorem dX2_measureChanges_5 : decode cX2_measureChanges 5 = .ok (.if_icmp .ge 96, 3) := by decide +kernel
theorem dX2_measureChanges_8 : decode cX2_measureChanges 8 = .ok (.aload_n 0, 1) := by decide +kernel
theorem dX2_measureChanges_9 : decode cX2_measureChanges 9 = .ok (.getfield 25, 3) := by decide +kernel
theorem dX2_measureChanges_12 : decode cX2_measureChanges 12 = .ok (.iload_n 2, 1) := by decide +kernel
theorem dX2_measureChanges_13 : decode cX2_measureChanges 13 = .ok (.iload_n 1, 1) := by decide +kernel
theorem dX2_measureChanges_14 : decode cX2_measureChanges 14 = .ok (.invokevirtual 56, 3) := by decide +kernel
theorem dX2_measureChanges_17 : decode cX2_measureChanges 17 = .ok (.istore_n 3, 1) := by decide +kernel
theorem dX2_measureChanges_18 : decode cX2_measureChanges 18 = .ok (.aload_n 0, 1) := by decide +kernel
theorem dX2_measureChanges_19 : decode cX2_measureChanges 19 = .ok (.getfield 25, 3) := by decide +kernel
theorem dX2_measureChanges_22 : decode cX2_measureChanges 22 = .ok (.iload_n 2, 1) := by decide +kernel
theorem dX2_measureChanges_23 : decode cX2_measureChanges 23 = .ok (.iload_n 1, 1) := by decide +kernel
theorem dX2_measureChanges_24 : decode cX2_measureChanges 24 = .ok (.iconst 1, 1) := by decide +kernel
theorem dX2_measureChanges_25 : decode cX2_measureChanges 25 = .ok (.isub, 1) := by decide +kernel
theorem dX2_measureChanges_26 : decode cX2_measureChanges 26 = .ok (.invokevirtual 56, 3) := by decide +kernel
theorem dX2_measureChanges_29 : decode cX2_measureChanges 29 = .ok (.istore 4, 2) := by decide +kernel
theorem dX2_measureChanges_31 : decode cX2_measureChanges 31 = .ok (.aload_n 0, 1) := by decide +kernel
theorem dX2_measureChanges_32 : decode cX2_measureChanges 32 = .ok (.getfield 25, 3) := by decide +kernel
theorem dX2_measureChanges_35 : decode cX2_measureChanges 35 = .ok (.iload_n 2, 1) := by decide +kernel
theorem dX2_measureChanges_36 : decode cX2_measureChanges 36 = .ok (.invokevirtual 60, 3) := by decide +kernel
theorem dX2_measureChanges_39 : decode cX2_measureChanges 39 = .ok (.istore 5, 2) := by decide +kernel
theorem dX2_measureChanges_41 : decode cX2_measureChanges 41 = .ok (.aload_n 0, 1) := by decide +kernel
theorem dX2_measureChanges_42 : decode cX2_measureChanges 42 = .ok (.getfield 15, 3) := by decide +kernel
theorem dX2_measureChanges_45 : decode cX2_measureChanges 45 = .ok (.iload_n 2, 1) := by decide +kernel
theorem dX2_measureChanges_46 : decode cX2_measureChanges 46 = .ok (.iload 5, 2) := by decide +kernel
theorem dX2_measureChanges_48 : decode cX2_measureChanges 48 = .ok (.aload_n 0, 1) := by decide +kernel
theorem dX2_measureChanges_49 : decode cX2_measureChanges 49 = .ok (.getfield 21, 3) := by decide +kernel
theorem dX2_measureChanges_52 : decode cX2_measureChanges 52 = .ok (.iload 4, 2) := by decide +kernel
theorem dX2_measureChanges_54 : decode cX2_measureChanges 54 = .ok (.invokevirtual 63, 3) := by decide +kernel
theorem dX2_measureChanges_57 : decode cX2_measureChanges 57 = .ok (.aload_n 0, 1) := by decide +kernel
theorem dX2_measureChanges_58 : decode cX2_measureChanges 58 = .ok (.getfield 21, 3) := by decide +kernel
theorem dX2_measureChanges_61 : decode cX2_measureChanges 61 = .ok (.iload_n 3, 1) := by decide +kernel
theorem dX2_measureChanges_62 : decode cX2_measureChanges 62 = .ok (.invokevirtual 63, 3) := by decide +kernel
theorem dX2_measureChanges_65 : decode cX2_measureChanges 65 = .ok (.isub, 1) := by decide +kernel
theorem dX2_measureChanges_66 : decode cX2_measureChanges 66 = .ok (.imul, 1) := by decide +kernel
theorem dX2_measureChanges_67 : decode cX2_measureChanges 67 = .ok (.iastore, 1) := by decide +kernel
theorem dX2_measureChanges_68 : decode cX2_measureChanges 68 = .ok (.aload_n 0, 1) := by decide +kernel
theorem dX2_measureChanges_69 : decode cX2_measureChanges 69 = .ok (.getfield 18, 3) := by decide +kernel
theorem dX2_measureChanges_72 : decode cX2_measureChanges 72 = .ok (.iload_n 2, 1) := by decide +kernel
theorem dX2_measureChanges_73 : decode cX2_measureChanges 73 = .ok (.iload 5, 2) := by decide +kernel
theorem dX2_measureChanges_75 : decode cX2_measureChanges 75 = .ok (.aload_n 0, 1) := by decide +kernel
theorem dX2_measureChanges_76 : decode cX2_measureChanges 76 = .ok (.getfield 21, 3) := by decide +kernel
theorem dX2_measureChanges_79 : decode cX2_measureChanges 79 = .ok (.iload 4, 2) := by decide +kernel
theorem dX2_measureChanges_81 : decode cX2_measureChanges 81 = .ok (.invokevirtual 68, 3) := by decide +kernel
theorem dX2_measureChanges_84 : decode cX2_measureChanges 84 = .ok (.aload_n 0, 1) := by decide +kernel
theorem dX2_measureChanges_85 : decode cX2_measureChanges 85 = .ok (.getfield 21, 3) := by decide +kernel
theorem dX2_measureChanges_88 : decode cX2_measureChanges 88 = .ok (.iload_n 3, 1) := by decide +kernel
theorem dX2_measureChanges_89 : decode cX2_measureChanges 89 = .ok (.invokevirtual 68, 3) := by decide +kernel
theorem dX2_measureChanges_92 : decode cX2_measureChanges 92 = .ok (.isub, 1) := by decide +kernel
theorem dX2_measureChanges_93 : decode cX2_measureChanges 93 = .ok (.imul, 1) := by decide +kernel
theorem dX2_measureChanges_94 : decode cX2_measureChanges 94 = .ok (.iastore, 1) := by decide +kernel
theorem dX2_measureChanges_95 : decode cX2_measureChanges 95 = .ok (.iinc 2 1, 3) := by decide +kernel
theorem dX2_measureChanges_98 : decode cX2_measureChanges 98 = .ok (.goto (-96), 3) := by decide +kernel
theorem dX2_measureChanges_101 : decode cX2_measureChanges 101 = .ok (.return_, 1) := by decide +kernel
theorem dX2_wetDoorsIfLate_0 : decode cX2_wetDoorsIfLate 0 = .ok (.iload_n 2, 1) := by decide +kernel
theorem dX2_wetDoorsIfLate_1 : decode cX2_wetDoorsIfLate 1 = .ok (.istore 4, 2) := by decide +kernel
theorem dX2_wetDoorsIfLate_3 : decode cX2_wetDoorsIfLate 3 = .ok (.iload_n 3, 1) := by decide +kernel
theorem dX2_wetDoorsIfLate_4 : decode cX2_wetDoorsIfLate 4 = .ok (.istore 5, 2) := by decide +kernel
theorem dX2_wetDoorsIfLate_6 : decode cX2_wetDoorsIfLate 6 = .ok (.iconst 0, 1) := by decide +kernel
theorem dX2_wetDoorsIfLate_7 : decode cX2_wetDoorsIfLate 7 = .ok (.istore 6, 2) := by decide +kernel
theorem dX2_wetDoorsIfLate_9 : decode cX2_wetDoorsIfLate 9 = .ok (.iload 6, 2) := by decide +kernel
theorem dX2_wetDoorsIfLate_11 : decode cX2_wetDoorsIfLate 11 = .ok (.bipush 8, 2) := by decide +kernel
theorem dX2_wetDoorsIfLate_13 : decode cX2_wetDoorsIfLate 13 = .ok (.if_icmp .ge 42, 3) := by decide +kernel
theorem dX2_wetDoorsIfLate_16 : decode cX2_wetDoorsIfLate 16 = .ok (.iload_n 1, 1) := by decide +kernel
theorem dX2_wetDoorsIfLate_17 : decode cX2_wetDoorsIfLate 17 = .ok (.iconst 1, 1) := by decide +kernel
theorem dX2_wetDoorsIfLate_18 : decode cX2_wetDoorsIfLate 18 = .ok (.iload 6, 2) := by decide +kernel
theorem dX2_wetDoorsIfLate_20 : decode cX2_wetDoorsIfLate 20 = .ok (.ishl, 1) := by decide +kernel
theorem dX2_wetDoorsIfLate_21 : decode cX2_wetDoorsIfLate 21 = .ok (.iand, 1) := by decide +kernel
theorem dX2_wetDoorsIfLate_22 : decode cX2_wetDoorsIfLate 22 = .ok (.ifCond .eq 27, 3) := by decide +kernel
theorem dX2_wetDoorsIfLate_25 : decode cX2_wetDoorsIfLate 25 = .ok (.iload 4, 2) := by decide +kernel
theorem dX2_wetDoorsIfLate_27 : decode cX2_wetDoorsIfLate 27 = .ok (.aload_n 0, 1) := by decide +kernel
theorem dX2_wetDoorsIfLate_28 : decode cX2_wetDoorsIfLate 28 = .ok (.getfield 15, 3) := by decide +kernel
theorem dX2_wetDoorsIfLate_31 : decode cX2_wetDoorsIfLate 31 = .ok (.iload 6, 2) := by decide +kernel
theorem dX2_wetDoorsIfLate_33 : decode cX2_wetDoorsIfLate 33 = .ok (.iaload, 1) := by decide +kernel
theorem dX2_wetDoorsIfLate_34 : decode cX2_wetDoorsIfLate 34 = .ok (.iadd, 1) := by decide +kernel
theorem dX2_wetDoorsIfLate_35 : decode cX2_wetDoorsIfLate 35 = .ok (.istore 4, 2) := by decide +kernel
theorem dX2_wetDoorsIfLate_37 : decode cX2_wetDoorsIfLate 37 = .ok (.iload 5, 2) := by decide +kernel
theorem dX2_wetDoorsIfLate_39 : decode cX2_wetDoorsIfLate 39 = .ok (.aload_n 0, 1) := by decide +kernel
theorem dX2_wetDoorsIfLate_40 : decode cX2_wetDoorsIfLate 40 = .ok (.getfield 18, 3) := by decide +kernel
theorem dX2_wetDoorsIfLate_43 : decode cX2_wetDoorsIfLate 43 = .ok (.iload 6, 2) := by decide +kernel
theorem dX2_wetDoorsIfLate_45 : decode cX2_wetDoorsIfLate 45 = .ok (.iaload, 1) := by decide +kernel
theorem dX2_wetDoorsIfLate_46 : decode cX2_wetDoorsIfLate 46 = .ok (.iadd, 1) := by decide +kernel
theorem dX2_wetDoorsIfLate_47 : decode cX2_wetDoorsIfLate 47 = .ok (.istore 5, 2) := by decide +kernel
theorem dX2_wetDoorsIfLate_49 : decode cX2_wetDoorsIfLate 49 = .ok (.iinc 6 1, 3) := by decide +kernel
theorem dX2_wetDoorsIfLate_52 : decode cX2_wetDoorsIfLate 52 = .ok (.goto (-43), 3) := by decide +kernel
theorem dX2_wetDoorsIfLate_55 : decode cX2_wetDoorsIfLate 55 = .ok (.aload_n 0, 1) := by decide +kernel
theorem dX2_wetDoorsIfLate_56 : decode cX2_wetDoorsIfLate 56 = .ok (.getfield 21, 3) := by decide +kernel
theorem dX2_wetDoorsIfLate_59 : decode cX2_wetDoorsIfLate 59 = .ok (.iload 4, 2) := by decide +kernel
theorem dX2_wetDoorsIfLate_61 : decode cX2_wetDoorsIfLate 61 = .ok (.iload 5, 2) := by decide +kernel
theorem dX2_wetDoorsIfLate_63 : decode cX2_wetDoorsIfLate 63 = .ok (.invokevirtual 71, 3) := by decide +kernel
theorem dX2_wetDoorsIfLate_66 : decode cX2_wetDoorsIfLate 66 = .ok (.ireturn, 1) := by decide +kernel
theorem dX3_init_0 : decode cX3_init 0 = .ok (.aload_n 0, 1) := by decide +kernel
theorem dX3_init_1 : decode cX3_init 1 = .ok (.invokespecial 3, 3) := by decide +kernel
theorem dX3_init_4 : decode cX3_init 4 = .ok (.aload_n 0, 1) := by decide +kernel
theorem dX3_init_5 : decode cX3_init 5 = .ok (.bipush 40, 2) := by decide +kernel
theorem dX3_init_7 : decode cX3_init 7 = .ok (.newarray .char, 2) := by decide +kernel
theorem dX3_init_9 : decode cX3_init 9 = .ok (.putfield 9, 3) := by decide +kernel
theorem dX3_init_12 : decode cX3_init 12 = .ok (.return_, 1) := by decide +kernel
theorem dX3_length_0 : decode cX3_length 0 = .ok (.aload_n 0, 1) := by decide +kernel
theorem dX3_length_1 : decode cX3_length 1 = .ok (.getfield 15, 3) := by decide +kernel
theorem dX3_length_4 : decode cX3_length 4 = .ok (.ireturn, 1) := by decide +kernel
theorem dX3_letter_0 : decode cX3_letter 0 = .ok (.iload_n 1, 1) := by decide +kernel
theorem dX3_letter_1 : decode cX3_letter 1 = .ok (.ifCond .lt 20, 3) := by decide +kernel
theorem dX3_letter_4 : decode cX3_letter 4 = .ok (.iload_n 1, 1) := by decide +kernel
theorem dX3_letter_5 : decode cX3_letter 5 = .ok (.aload_n 0, 1) := by decide +kernel
theorem dX3_letter_6 : decode cX3_letter 6 = .ok (.getfield 15, 3) := by decide +kernel
theorem dX3_letter_9 : decode cX3_letter 9 = .ok (.if_icmp .ge 12, 3) := by decide +kernel
theorem dX3_letter_12 : decode cX3_letter 12 = .ok (.aload_n 0, 1) := by decide +kernel
theorem dX3_letter_13 : decode cX3_letter 13 = .ok (.getfield 9, 3) := by decide +kernel
theorem dX3_letter_16 : decode cX3_letter 16 = .ok (.iload_n 1, 1) := by decide +kernel
theorem dX3_letter_17 : decode cX3_letter 17 = .ok (.caload, 1) := by decide +kernel
theorem dX3_letter_18 : decode cX3_letter 18 = .ok (.goto 4, 3) := by decide +kernel
theorem dX3_letter_21 : decode cX3_letter 21 = .ok (.iconst 0, 1) := by decide +kernel
theorem dX3_letter_22 : decode cX3_letter 22 = .ok (.ireturn, 1) := by decide +kernel
theorem dX3_clear_0 : decode cX3_clear 0 = .ok (.aload_n 0, 1) := by decide +kernel
theorem dX3_clear_1 : decode cX3_clear 1 = .ok (.iconst 0, 1) := by decide +kernel
theorem dX3_clear_2 : decode cX3_clear 2 = .ok (.putfield 15, 3) := by decide +kernel
theorem dX3_clear_5 : decode cX3_clear 5 = .ok (.return_, 1) := by decide +kernel
theorem dX3_add_0 : decode cX3_add 0 = .ok (.lload_n 1, 1) := by decide +kernel
theorem dX3_add_1 : decode cX3_add 1 = .ok (.invokestatic 19, 3) := by decide +kernel
theorem dX3_add_4 : decode cX3_add 4 = .ok (.istore_n 3, 1) := by decide +kernel
theorem dX3_add_5 : decode cX3_add 5 = .ok (.iload_n 3, 1) := by decide +kernel
theorem dX3_add_6 : decode cX3_add 6 = .ok (.bipush (-102), 2) := by decide +kernel
theorem dX3_add_8 : decode cX3_add 8 = .ok (.if_icmp .ne 6, 3) := by decide +kernel
theorem dX3_add_11 : decode cX3_add 11 = .ok (.bipush (-102), 2) := by decide +kernel
theorem dX3_add_13 : decode cX3_add 13 = .ok (.ireturn, 1) := by decide +kernel
theorem dX3_add_14 : decode cX3_add 14 = .ok (.aload_n 0, 1) := by decide +kernel
theorem dX3_add_15 : decode cX3_add 15 = .ok (.getfield 15, 3) := by decide +kernel
theorem dX3_add_18 : decode cX3_add 18 = .ok (.iload_n 3, 1) := by decide +kernel
theorem dX3_add_19 : decode cX3_add 19 = .ok (.iadd, 1) := by decide +kernel
theorem dX3_add_20 : decode cX3_add 20 = .ok (.bipush 40, 2) := by decide +kernel
theorem dX3_add_22 : decode cX3_add 22 = .ok (.if_icmp .le 6, 3) := by decide +kernel
theorem dX3_add_25 : decode cX3_add 25 = .ok (.bipush (-104), 2) := by decide +kernel
theorem dX3_add_27 : decode cX3_add 27 = .ok (.ireturn, 1) := by decide +kernel
theorem dX3_add_28 : decode cX3_add 28 = .ok (.iconst 0, 1) := by decide +kernel
theorem dX3_add_29 : decode cX3_add 29 = .ok (.istore 4, 2) := by decide +kernel
theorem dX3_add_31 : decode cX3_add 31 = .ok (.iload 4, 2) := by decide +kernel
theorem dX3_add_33 : decode cX3_add 33 = .ok (.iload_n 3, 1) := by decide +kernel
theorem dX3_add_34 : decode cX3_add 34 = .ok (.if_icmp .ge 28, 3) := by decide +kernel
theorem dX3_add_37 : decode cX3_add 37 = .ok (.aload_n 0, 1) := by decide +kernel
theorem dX3_add_38 : decode cX3_add 38 = .ok (.getfield 9, 3) := by decide +kernel
theorem dX3_add_41 : decode cX3_add 41 = .ok (.aload_n 0, 1) := by decide +kernel
theorem dX3_add_42 : decode cX3_add 42 = .ok (.getfield 15, 3) := by decide +kernel
theorem dX3_add_45 : decode cX3_add 45 = .ok (.iload 4, 2) := by decide +kernel
theorem dX3_add_47 : decode cX3_add 47 = .ok (.iadd, 1) := by decide +kernel
theorem dX3_add_48 : decode cX3_add 48 = .ok (.lload_n 1, 1) := by decide +kernel
theorem dX3_add_49 : decode cX3_add 49 = .ok (.iload 4, 2) := by decide +kernel
theorem dX3_add_51 : decode cX3_add 51 = .ok (.invokestatic 23, 3) := by decide +kernel
theorem dX3_add_54 : decode cX3_add 54 = .ok (.i2c, 1) := by decide +kernel
theorem dX3_add_55 : decode cX3_add 55 = .ok (.castore, 1) := by decide +kernel
theorem dX3_add_56 : decode cX3_add 56 = .ok (.iinc 4 1, 3) := by decide +kernel
theorem dX3_add_59 : decode cX3_add 59 = .ok (.goto (-28), 3) := by decide +kernel
theorem dX3_add_62 : decode cX3_add 62 = .ok (.aload_n 0, 1) := by decide +kernel
theorem dX3_add_63 : decode cX3_add 63 = .ok (.dup, 1) := by decide +kernel
theorem dX3_add_64 : decode cX3_add 64 = .ok (.getfield 15, 3) := by decide +kernel
theorem dX3_add_67 : decode cX3_add 67 = .ok (.iload_n 3, 1) := by decide +kernel
theorem dX3_add_68 : decode cX3_add 68 = .ok (.iadd, 1) := by decide +kernel
theorem dX3_add_69 : decode cX3_add 69 = .ok (.putfield 15, 3) := by decide +kernel
theorem dX3_add_72 : decode cX3_add 72 = .ok (.aload_n 0, 1) := by decide +kernel
theorem dX3_add_73 : decode cX3_add 73 = .ok (.getfield 15, 3) := by decide +kernel
theorem dX3_add_76 : decode cX3_add 76 = .ok (.ireturn, 1) := by decide +kernel
theorem dX3_lettersTold_0 : decode cX3_lettersTold 0 = .ok (.iconst 0, 1) := by decide +kernel
theorem dX3_lettersTold_1 : decode cX3_lettersTold 1 = .ok (.istore_n 2, 1) := by decide +kernel
theorem dX3_lettersTold_2 : decode cX3_lettersTold 2 = .ok (.iconst 0, 1) := by decide +kernel
theorem dX3_lettersTold_3 : decode cX3_lettersTold 3 = .ok (.istore_n 3, 1) := by decide +kernel
theorem dX3_lettersTold_4 : decode cX3_lettersTold 4 = .ok (.iload_n 3, 1) := by decide +kernel
theorem dX3_lettersTold_5 : decode cX3_lettersTold 5 = .ok (.bipush 8, 2) := by decide +kernel
theorem dX3_lettersTold_7 : decode cX3_lettersTold 7 = .ok (.if_icmp .ge 56, 3) := by decide +kernel
theorem dX3_lettersTold_10 : decode cX3_lettersTold 10 = .ok (.lload_n 0, 1) := by decide +kernel
theorem dX3_lettersTold_11 : decode cX3_lettersTold 11 = .ok (.iload_n 3, 1) := by decide +kernel
theorem dX3_lettersTold_12 : decode cX3_lettersTold 12 = .ok (.invokestatic 23, 3) := by decide +kernel
theorem dX3_lettersTold_15 : decode cX3_lettersTold 15 = .ok (.istore 4, 2) := by decide +kernel
theorem dX3_lettersTold_17 : decode cX3_lettersTold 17 = .ok (.iload 4, 2) := by decide +kernel
theorem dX3_lettersTold_19 : decode cX3_lettersTold 19 = .ok (.ifCond .eq 12, 3) := by decide +kernel
theorem dX3_lettersTold_22 : decode cX3_lettersTold 22 = .ok (.iload_n 2, 1) := by decide +kernel
theorem dX3_lettersTold_23 : decode cX3_lettersTold 23 = .ok (.iload_n 3, 1) := by decide +kernel
theorem dX3_lettersTold_24 : decode cX3_lettersTold 24 = .ok (.if_icmp .ge 7, 3) := by decide +kernel
theorem dX3_lettersTold_27 : decode cX3_lettersTold 27 = .ok (.iconst 1, 1) := by decide +kernel
theorem dX3_lettersTold_28 : decode cX3_lettersTold 28 = .ok (.goto 4, 3) := by decide +kernel
theorem dX3_lettersTold_31 : decode cX3_lettersTold 31 = .ok (.iconst 0, 1) := by decide +kernel
theorem dX3_lettersTold_32 : decode cX3_lettersTold 32 = .ok (.istore 5, 2) := by decide +kernel
theorem dX3_lettersTold_34 : decode cX3_lettersTold 34 = .ok (.iload 4, 2) := by decide +kernel
theorem dX3_lettersTold_36 : decode cX3_lettersTold 36 = .ok (.bipush 126, 2) := by decide +kernel
theorem dX3_lettersTold_38 : decode cX3_lettersTold 38 = .ok (.if_icmp .gt 8, 3) := by decide +kernel
theorem dX3_lettersTold_41 : decode cX3_lettersTold 41 = .ok (.iload 5, 2) := by decide +kernel
theorem dX3_lettersTold_43 : decode cX3_lettersTold 43 = .ok (.ifCond .eq 6, 3) := by decide +kernel
theorem dX3_lettersTold_46 : decode cX3_lettersTold 46 = .ok (.bipush (-102), 2) := by decide +kernel
theorem dX3_lettersTold_48 : decode cX3_lettersTold 48 = .ok (.ireturn, 1) := by decide +kernel
theorem dX3_lettersTold_49 : decode cX3_lettersTold 49 = .ok (.iload 4, 2) := by decide +kernel
theorem dX3_lettersTold_51 : decode cX3_lettersTold 51 = .ok (.ifCond .eq 6, 3) := by decide +kernel
theorem dX3_lettersTold_54 : decode cX3_lettersTold 54 = .ok (.iinc 2 1, 3) := by decide +kernel
theorem dX3_lettersTold_57 : decode cX3_lettersTold 57 = .ok (.iinc 3 1, 3) := by decide +kernel
theorem dX3_lettersTold_60 : decode cX3_lettersTold 60 = .ok (.goto (-56), 3) := by decide +kernel
theorem dX3_lettersTold_63 : decode cX3_lettersTold 63 = .ok (.iload_n 2, 1) := by decide +kernel
theorem dX3_lettersTold_64 : decode cX3_lettersTold 64 = .ok (.ireturn, 1) := by decide +kernel
theorem dX3_codeAt_0 : decode cX3_codeAt 0 = .ok (.lload_n 0, 1) := by decide +kernel
theorem dX3_codeAt_1 : decode cX3_codeAt 1 = .ok (.bipush 8, 2) := by decide +kernel
theorem dX3_codeAt_3 : decode cX3_codeAt 3 = .ok (.iload_n 2, 1) := by decide +kernel
theorem dX3_codeAt_4 : decode cX3_codeAt 4 = .ok (.imul, 1) := by decide +kernel
theorem dX3_codeAt_5 : decode cX3_codeAt 5 = .ok (.lushr, 1) := by decide +kernel
theorem dX3_codeAt_6 : decode cX3_codeAt 6 = .ok (.ldc2_w 27, 3) := by decide +kernel
theorem dX3_codeAt_9 : decode cX3_codeAt 9 = .ok (.land, 1) := by decide +kernel
theorem dX3_codeAt_10 : decode cX3_codeAt 10 = .ok (.l2i, 1) := by decide +kernel
theorem dX3_codeAt_11 : decode cX3_codeAt 11 = .ok (.ireturn, 1) := by decide +kernel
theorem dX3_isWay_0 : decode cX3_isWay 0 = .ok (.aload_n 0, 1) := by decide +kernel
theorem dX3_isWay_1 : decode cX3_isWay 1 = .ok (.getfield 15, 3) := by decide +kernel
theorem dX3_isWay_4 : decode cX3_isWay 4 = .ok (.ifCond .le 18, 3) := by decide +kernel
theorem dX3_isWay_7 : decode cX3_isWay 7 = .ok (.aload_n 0, 1) := by decide +kernel
theorem dX3_isWay_8 : decode cX3_isWay 8 = .ok (.invokevirtual 29, 3) := by decide +kernel
theorem dX3_isWay_11 : decode cX3_isWay 11 = .ok (.aload_n 0, 1) := by decide +kernel
theorem dX3_isWay_12 : decode cX3_isWay 12 = .ok (.getfield 15, 3) := by decide +kernel
theorem dX3_isWay_15 : decode cX3_isWay 15 = .ok (.if_icmp .ne 7, 3) := by decide +kernel
theorem dX3_isWay_18 : decode cX3_isWay 18 = .ok (.iconst 1, 1) := by decide +kernel
theorem dX3_isWay_19 : decode cX3_isWay 19 = .ok (.goto 4, 3) := by decide +kernel
theorem dX3_isWay_22 : decode cX3_isWay 22 = .ok (.iconst 0, 1) := by decide +kernel
theorem dX3_isWay_23 : decode cX3_isWay 23 = .ok (.ireturn, 1) := by decide +kernel
theorem dX3_wayFault_0 : decode cX3_wayFault 0 = .ok (.iconst 0, 1) := by decide +kernel
theorem dX3_wayFault_1 : decode cX3_wayFault 1 = .ok (.istore_n 1, 1) := by decide +kernel
theorem dX3_wayFault_2 : decode cX3_wayFault 2 = .ok (.iload_n 1, 1) := by decide +kernel
theorem dX3_wayFault_3 : decode cX3_wayFault 3 = .ok (.aload_n 0, 1) := by decide +kernel
theorem dX3_wayFault_4 : decode cX3_wayFault 4 = .ok (.getfield 15, 3) := by decide +kernel
theorem dX3_wayFault_7 : decode cX3_wayFault 7 = .ok (.if_icmp .ge 25, 3) := by decide +kernel
theorem dX3_wayFault_10 : decode cX3_wayFault 10 = .ok (.iload_n 1, 1) := by decide +kernel
theorem dX3_wayFault_11 : decode cX3_wayFault 11 = .ok (.bipush 7, 2) := by decide +kernel
theorem dX3_wayFault_13 : decode cX3_wayFault 13 = .ok (.if_icmp .ge 11, 3) := by decide +kernel
theorem dX3_wayFault_16 : decode cX3_wayFault 16 = .ok (.aload_n 0, 1) := by decide +kernel
theorem dX3_wayFault_17 : decode cX3_wayFault 17 = .ok (.iload_n 1, 1) := by decide +kernel
theorem dX3_wayFault_18 : decode cX3_wayFault 18 = .ok (.invokevirtual 33, 3) := by decide +kernel
theorem dX3_wayFault_21 : decode cX3_wayFault 21 = .ok (.ifCond .ne 5, 3) := by decide +kernel
theorem dX3_wayFault_24 : decode cX3_wayFault 24 = .ok (.iload_n 1, 1) := by decide +kernel
theorem dX3_wayFault_25 : decode cX3_wayFault 25 = .ok (.ireturn, 1) := by decide +kernel
theorem dX3_wayFault_26 : decode cX3_wayFault 26 = .ok (.iinc 1 1, 3) := by decide +kernel
theorem dX3_wayFault_29 : decode cX3_wayFault 29 = .ok (.goto (-27), 3) := by decide +kernel
theorem dX3_wayFault_32 : decode cX3_wayFault 32 = .ok (.aload_n 0, 1) := by decide +kernel
theorem dX3_wayFault_33 : decode cX3_wayFault 33 = .ok (.getfield 15, 3) := by decide +kernel
theorem dX3_wayFault_36 : decode cX3_wayFault 36 = .ok (.ireturn, 1) := by decide +kernel
theorem dX3_wayAt_0 : decode cX3_wayAt 0 = .ok (.aload_n 0, 1) := by decide +kernel
theorem dX3_wayAt_1 : decode cX3_wayAt 1 = .ok (.iload_n 1, 1) := by decide +kernel
theorem dX3_wayAt_2 : decode cX3_wayAt 2 = .ok (.invokevirtual 37, 3) := by decide +kernel
theorem dX3_wayAt_5 : decode cX3_wayAt 5 = .ok (.lookupswitch 51 #[(101, 45), (110, 43), (115, 47), (119, 49)], 43) := by decide +kernel
theorem dX3_wayAt_48 : decode cX3_wayAt 48 = .ok (.iconst 1, 1) := by decide +kernel
theorem dX3_wayAt_49 : decode cX3_wayAt 49 = .ok (.ireturn, 1) := by decide +kernel
theorem dX3_wayAt_50 : decode cX3_wayAt 50 = .ok (.iconst 2, 1) := by decide +kernel
theorem dX3_wayAt_51 : decode cX3_wayAt 51 = .ok (.ireturn, 1) := by decide +kernel
theorem dX3_wayAt_52 : decode cX3_wayAt 52 = .ok (.iconst 3, 1) := by decide +kernel
theorem dX3_wayAt_53 : decode cX3_wayAt 53 = .ok (.ireturn, 1) := by decide +kernel
theorem dX3_wayAt_54 : decode cX3_wayAt 54 = .ok (.iconst 4, 1) := by decide +kernel
theorem dX3_wayAt_55 : decode cX3_wayAt 55 = .ok (.ireturn, 1) := by decide +kernel
theorem dX3_wayAt_56 : decode cX3_wayAt 56 = .ok (.iconst 0, 1) := by decide +kernel
theorem dX3_wayAt_57 : decode cX3_wayAt 57 = .ok (.ireturn, 1) := by decide +kernel
theorem dX4_init_0 : decode cX4_init 0 = .ok (.aload_n 0, 1) := by decide +kernel
theorem dX4_init_1 : decode cX4_init 1 = .ok (.invokespecial 3, 3) := by decide +kernel
theorem dX4_init_4 : decode cX4_init 4 = .ok (.return_, 1) := by decide +kernel
theorem dX4_rows_0 : decode cX4_rows 0 = .ok (.aload_n 0, 1) := by decide +kernel
theorem dX4_rows_1 : decode cX4_rows 1 = .ok (.getfield 9, 3) := by decide +kernel
theorem dX4_rows_4 : decode cX4_rows 4 = .ok (.ireturn, 1) := by decide +kernel
theorem dX4_columns_0 : decode cX4_columns 0 = .ok (.aload_n 0, 1) := by decide +kernel
theorem dX4_columns_1 : decode cX4_columns 1 = .ok (.getfield 15, 3) := by decide +kernel
theorem dX4_columns_4 : decode cX4_columns 4 = .ok (.ireturn, 1) := by decide +kernel
theorem dX4_isWhole_0 : decode cX4_isWhole 0 = .ok (.aload_n 0, 1) := by decide +kernel
theorem dX4_isWhole_1 : decode cX4_isWhole 1 = .ok (.aload_n 1, 1) := by decide +kernel
theorem dX4_isWhole_2 : decode cX4_isWhole 2 = .ok (.invokevirtual 18, 3) := by decide +kernel
theorem dX4_isWhole_5 : decode cX4_isWhole 5 = .ok (.aload_n 1, 1) := by decide +kernel
theorem dX4_isWhole_6 : decode cX4_isWhole 6 = .ok (.invokevirtual 22, 3) := by decide +kernel
theorem dX4_isWhole_9 : decode cX4_isWhole 9 = .ok (.if_icmp .ne 26, 3) := by decide +kernel
theorem dX4_isWhole_12 : decode cX4_isWhole 12 = .ok (.aload_n 0, 1) := by decide +kernel
theorem dX4_isWhole_13 : decode cX4_isWhole 13 = .ok (.getfield 9, 3) := by decide +kernel
theorem dX4_isWhole_16 : decode cX4_isWhole 16 = .ok (.iconst 2, 1) := by decide +kernel
theorem dX4_isWhole_17 : decode cX4_isWhole 17 = .ok (.if_icmp .lt 18, 3) := by decide +kernel
theorem dX4_isWhole_20 : decode cX4_isWhole 20 = .ok (.aload_n 0, 1) := by decide +kernel
theorem dX4_isWhole_21 : decode cX4_isWhole 21 = .ok (.getfield 28, 3) := by decide +kernel
theorem dX4_isWhole_24 : decode cX4_isWhole 24 = .ok (.aload_n 0, 1) := by decide +kernel
theorem dX4_isWhole_25 : decode cX4_isWhole 25 = .ok (.getfield 15, 3) := by decide +kernel
theorem dX4_isWhole_28 : decode cX4_isWhole 28 = .ok (.if_icmp .ne 7, 3) := by decide +kernel
theorem dX4_isWhole_31 : decode cX4_isWhole 31 = .ok (.iconst 1, 1) := by decide +kernel
theorem dX4_isWhole_32 : decode cX4_isWhole 32 = .ok (.goto 4, 3) := by decide +kernel
theorem dX4_isWhole_35 : decode cX4_isWhole 35 = .ok (.iconst 0, 1) := by decide +kernel
theorem dX4_isWhole_36 : decode cX4_isWhole 36 = .ok (.ireturn, 1) := by decide +kernel
theorem dX4_faultIn_0 : decode cX4_faultIn 0 = .ok (.aload_n 0, 1) := by decide +kernel
theorem dX4_faultIn_1 : decode cX4_faultIn 1 = .ok (.iconst 1, 1) := by decide +kernel
theorem dX4_faultIn_2 : decode cX4_faultIn 2 = .ok (.putfield 9, 3) := by decide +kernel
theorem dX4_faultIn_5 : decode cX4_faultIn 5 = .ok (.aload_n 0, 1) := by decide +kernel
theorem dX4_faultIn_6 : decode cX4_faultIn 6 = .ok (.iconst 0, 1) := by decide +kernel
theorem dX4_faultIn_7 : decode cX4_faultIn 7 = .ok (.putfield 15, 3) := by decide +kernel
theorem dX4_faultIn_10 : decode cX4_faultIn 10 = .ok (.aload_n 0, 1) := by decide +kernel
theorem dX4_faultIn_11 : decode cX4_faultIn 11 = .ok (.iconst 0, 1) := by decide +kernel
theorem dX4_faultIn_12 : decode cX4_faultIn 12 = .ok (.putfield 28, 3) := by decide +kernel
theorem dX4_faultIn_15 : decode cX4_faultIn 15 = .ok (.iconst 0, 1) := by decide +kernel
theorem dX4_faultIn_16 : decode cX4_faultIn 16 = .ok (.istore_n 2, 1) := by decide +kernel
theorem dX4_faultIn_17 : decode cX4_faultIn 17 = .ok (.iload_n 2, 1) := by decide +kernel
theorem dX4_faultIn_18 : decode cX4_faultIn 18 = .ok (.aload_n 1, 1) := by decide +kernel
theorem dX4_faultIn_19 : decode cX4_faultIn 19 = .ok (.invokevirtual 22, 3) := by decide +kernel
theorem dX4_faultIn_22 : decode cX4_faultIn 22 = .ok (.if_icmp .ge 23, 3) := by decide +kernel
theorem dX4_faultIn_25 : decode cX4_faultIn 25 = .ok (.aload_n 0, 1) := by decide +kernel
theorem dX4_faultIn_26 : decode cX4_faultIn 26 = .ok (.aload_n 1, 1) := by decide +kernel
theorem dX4_faultIn_27 : decode cX4_faultIn 27 = .ok (.iload_n 2, 1) := by decide +kernel
theorem dX4_faultIn_28 : decode cX4_faultIn 28 = .ok (.invokevirtual 31, 3) := by decide +kernel
theorem dX4_faultIn_31 : decode cX4_faultIn 31 = .ok (.invokevirtual 35, 3) := by decide +kernel
theorem dX4_faultIn_34 : decode cX4_faultIn 34 = .ok (.ifCond .ne 5, 3) := by decide +kernel
theorem dX4_faultIn_37 : decode cX4_faultIn 37 = .ok (.iload_n 2, 1) := by decide +kernel
theorem dX4_faultIn_38 : decode cX4_faultIn 38 = .ok (.ireturn, 1) := by decide +kernel
theorem dX4_faultIn_39 : decode cX4_faultIn 39 = .ok (.iinc 2 1, 3) := by decide +kernel
theorem dX4_faultIn_42 : decode cX4_faultIn 42 = .ok (.goto (-25), 3) := by decide +kernel
theorem dX4_faultIn_45 : decode cX4_faultIn 45 = .ok (.aload_n 1, 1) := by decide +kernel
theorem dX4_faultIn_46 : decode cX4_faultIn 46 = .ok (.invokevirtual 22, 3) := by decide +kernel
theorem dX4_faultIn_49 : decode cX4_faultIn 49 = .ok (.ireturn, 1) := by decide +kernel
theorem dX4_takes_0 : decode cX4_takes 0 = .ok (.iload_n 1, 1) := by decide +kernel
theorem dX4_takes_1 : decode cX4_takes 1 = .ok (.bipush 47, 2) := by decide +kernel
theorem dX4_takes_3 : decode cX4_takes 3 = .ok (.if_icmp .ne 8, 3) := by decide +kernel
theorem dX4_takes_6 : decode cX4_takes 6 = .ok (.aload_n 0, 1) := by decide +kernel
theorem dX4_takes_7 : decode cX4_takes 7 = .ok (.invokevirtual 39, 3) := by decide +kernel
theorem dX4_takes_10 : decode cX4_takes 10 = .ok (.ireturn, 1) := by decide +kernel
theorem dX4_takes_11 : decode cX4_takes 11 = .ok (.iload_n 1, 1) := by decide +kernel
theorem dX4_takes_12 : decode cX4_takes 12 = .ok (.bipush 46, 2) := by decide +kernel
theorem dX4_takes_14 : decode cX4_takes 14 = .ok (.if_icmp .eq 15, 3) := by decide +kernel
theorem dX4_takes_17 : decode cX4_takes 17 = .ok (.iload_n 1, 1) := by decide +kernel
theorem dX4_takes_18 : decode cX4_takes 18 = .ok (.bipush 49, 2) := by decide +kernel
theorem dX4_takes_20 : decode cX4_takes 20 = .ok (.if_icmp .lt 13, 3) := by decide +kernel
theorem dX4_takes_23 : decode cX4_takes 23 = .ok (.iload_n 1, 1) := by decide +kernel
theorem dX4_takes_24 : decode cX4_takes 24 = .ok (.bipush 57, 2) := by decide +kernel
theorem dX4_takes_26 : decode cX4_takes 26 = .ok (.if_icmp .gt 7, 3) := by decide +kernel
theorem dX4_takes_29 : decode cX4_takes 29 = .ok (.iconst 1, 1) := by decide +kernel
theorem dX4_takes_30 : decode cX4_takes 30 = .ok (.goto 4, 3) := by decide +kernel
theorem dX4_takes_33 : decode cX4_takes 33 = .ok (.iconst 0, 1) := by decide +kernel
theorem dX4_takes_34 : decode cX4_takes 34 = .ok (.istore_n 2, 1) := by decide +kernel
theorem dX4_takes_35 : decode cX4_takes 35 = .ok (.aload_n 0, 1) := by decide +kernel
theorem dX4_takes_36 : decode cX4_takes 36 = .ok (.getfield 9, 3) := by decide +kernel
theorem dX4_takes_39 : decode cX4_takes 39 = .ok (.iconst 1, 1) := by decide +kernel
theorem dX4_takes_40 : decode cX4_takes 40 = .ok (.if_icmp .ne 8, 3) := by decide +kernel
theorem dX4_takes_43 : decode cX4_takes 43 = .ok (.bipush 6, 2) := by decide +kernel
theorem dX4_takes_45 : decode cX4_takes 45 = .ok (.goto 7, 3) := by decide +kernel
theorem dX4_takes_48 : decode cX4_takes 48 = .ok (.aload_n 0, 1) := by decide +kernel
theorem dX4_takes_49 : decode cX4_takes 49 = .ok (.getfield 15, 3) := by decide +kernel
theorem dX4_takes_52 : decode cX4_takes 52 = .ok (.istore_n 3, 1) := by decide +kernel
theorem dX4_takes_53 : decode cX4_takes 53 = .ok (.iload_n 2, 1) := by decide +kernel
theorem dX4_takes_54 : decode cX4_takes 54 = .ok (.ifCond .eq 11, 3) := by decide +kernel
theorem dX4_takes_57 : decode cX4_takes 57 = .ok (.aload_n 0, 1) := by decide +kernel
theorem dX4_takes_58 : decode cX4_takes 58 = .ok (.getfield 28, 3) := by decide +kernel
theorem dX4_takes_61 : decode cX4_takes 61 = .ok (.iload_n 3, 1) := by decide +kernel
theorem dX4_takes_62 : decode cX4_takes 62 = .ok (.if_icmp .lt 5, 3) := by decide +kernel
theorem dX4_takes_65 : decode cX4_takes 65 = .ok (.iconst 0, 1) := by decide +kernel
theorem dX4_takes_66 : decode cX4_takes 66 = .ok (.ireturn, 1) := by decide +kernel
theorem dX4_takes_67 : decode cX4_takes 67 = .ok (.aload_n 0, 1) := by decide +kernel
theorem dX4_takes_68 : decode cX4_takes 68 = .ok (.dup, 1) := by decide +kernel
theorem dX4_takes_69 : decode cX4_takes 69 = .ok (.getfield 28, 3) := by decide +kernel
theorem dX4_takes_72 : decode cX4_takes 72 = .ok (.iconst 1, 1) := by decide +kernel
theorem dX4_takes_73 : decode cX4_takes 73 = .ok (.iadd, 1) := by decide +kernel
theorem dX4_takes_74 : decode cX4_takes 74 = .ok (.putfield 28, 3) := by decide +kernel
theorem dX4_takes_77 : decode cX4_takes 77 = .ok (.iconst 1, 1) := by decide +kernel
theorem dX4_takes_78 : decode cX4_takes 78 = .ok (.ireturn, 1) := by decide +kernel
theorem dX4_endsRow_0 : decode cX4_endsRow 0 = .ok (.aload_n 0, 1) := by decide +kernel
theorem dX4_endsRow_1 : decode cX4_endsRow 1 = .ok (.getfield 9, 3) := by decide +kernel
theorem dX4_endsRow_4 : decode cX4_endsRow 4 = .ok (.iconst 1, 1) := by decide +kernel
theorem dX4_endsRow_5 : decode cX4_endsRow 5 = .ok (.if_icmp .ne 19, 3) := by decide +kernel
theorem dX4_endsRow_8 : decode cX4_endsRow 8 = .ok (.aload_n 0, 1) := by decide +kernel
theorem dX4_endsRow_9 : decode cX4_endsRow 9 = .ok (.getfield 28, 3) := by decide +kernel
theorem dX4_endsRow_12 : decode cX4_endsRow 12 = .ok (.iconst 2, 1) := by decide +kernel
theorem dX4_endsRow_13 : decode cX4_endsRow 13 = .ok (.if_icmp .lt 7, 3) := by decide +kernel
theorem dX4_endsRow_16 : decode cX4_endsRow 16 = .ok (.iconst 1, 1) := by decide +kernel
theorem dX4_endsRow_17 : decode cX4_endsRow 17 = .ok (.goto 23, 3) := by decide +kernel
theorem dX4_endsRow_20 : decode cX4_endsRow 20 = .ok (.iconst 0, 1) := by decide +kernel
theorem dX4_endsRow_21 : decode cX4_endsRow 21 = .ok (.goto 19, 3) := by decide +kernel
theorem dX4_endsRow_24 : decode cX4_endsRow 24 = .ok (.aload_n 0, 1) := by decide +kernel
theorem dX4_endsRow_25 : decode cX4_endsRow 25 = .ok (.getfield 28, 3) := by decide +kernel
theorem dX4_endsRow_28 : decode cX4_endsRow 28 = .ok (.aload_n 0, 1) := by decide +kernel
theorem dX4_endsRow_29 : decode cX4_endsRow 29 = .ok (.getfield 15, 3) := by decide +kernel
theorem dX4_endsRow_32 : decode cX4_endsRow 32 = .ok (.if_icmp .ne 7, 3) := by decide +kernel
theorem dX4_endsRow_35 : decode cX4_endsRow 35 = .ok (.iconst 1, 1) := by decide +kernel
theorem dX4_endsRow_36 : decode cX4_endsRow 36 = .ok (.goto 4, 3) := by decide +kernel
theorem dX4_endsRow_39 : decode cX4_endsRow 39 = .ok (.iconst 0, 1) := by decide +kernel
theorem dX4_endsRow_40 : decode cX4_endsRow 40 = .ok (.istore_n 1, 1) := by decide +kernel
theorem dX4_endsRow_41 : decode cX4_endsRow 41 = .ok (.iload_n 1, 1) := by decide +kernel
theorem dX4_endsRow_42 : decode cX4_endsRow 42 = .ok (.ifCond .eq 11, 3) := by decide +kernel
theorem dX4_endsRow_45 : decode cX4_endsRow 45 = .ok (.aload_n 0, 1) := by decide +kernel
theorem dX4_endsRow_46 : decode cX4_endsRow 46 = .ok (.getfield 9, 3) := by decide +kernel
theorem dX4_endsRow_49 : decode cX4_endsRow 49 = .ok (.iconst 5, 1) := by decide +kernel
theorem dX4_endsRow_50 : decode cX4_endsRow 50 = .ok (.if_icmp .lt 5, 3) := by decide +kernel
theorem dX4_endsRow_53 : decode cX4_endsRow 53 = .ok (.iconst 0, 1) := by decide +kernel
theorem dX4_endsRow_54 : decode cX4_endsRow 54 = .ok (.ireturn, 1) := by decide +kernel
theorem dX4_endsRow_55 : decode cX4_endsRow 55 = .ok (.aload_n 0, 1) := by decide +kernel
theorem dX4_endsRow_56 : decode cX4_endsRow 56 = .ok (.aload_n 0, 1) := by decide +kernel
theorem dX4_endsRow_57 : decode cX4_endsRow 57 = .ok (.getfield 28, 3) := by decide +kernel
theorem dX4_endsRow_60 : decode cX4_endsRow 60 = .ok (.putfield 15, 3) := by decide +kernel
theorem dX4_endsRow_63 : decode cX4_endsRow 63 = .ok (.aload_n 0, 1) := by decide +kernel
theorem dX4_endsRow_64 : decode cX4_endsRow 64 = .ok (.dup, 1) := by decide +kernel
theorem dX4_endsRow_65 : decode cX4_endsRow 65 = .ok (.getfield 9, 3) := by decide +kernel
theorem dX4_endsRow_68 : decode cX4_endsRow 68 = .ok (.iconst 1, 1) := by decide +kernel
theorem dX4_endsRow_69 : decode cX4_endsRow 69 = .ok (.iadd, 1) := by decide +kernel
theorem dX4_endsRow_70 : decode cX4_endsRow 70 = .ok (.putfield 9, 3) := by decide +kernel
theorem dX4_endsRow_73 : decode cX4_endsRow 73 = .ok (.aload_n 0, 1) := by decide +kernel
theorem dX4_endsRow_74 : decode cX4_endsRow 74 = .ok (.iconst 0, 1) := by decide +kernel
theorem dX4_endsRow_75 : decode cX4_endsRow 75 = .ok (.putfield 28, 3) := by decide +kernel
theorem dX4_endsRow_78 : decode cX4_endsRow 78 = .ok (.iconst 1, 1) := by decide +kernel
theorem dX4_endsRow_79 : decode cX4_endsRow 79 = .ok (.ireturn, 1) := by decide +kernel
theorem dX5_init_0 : decode cX5_init 0 = .ok (.aload_n 0, 1) := by decide +kernel
theorem dX5_init_1 : decode cX5_init 1 = .ok (.invokespecial 3, 3) := by decide +kernel
theorem dX5_init_4 : decode cX5_init 4 = .ok (.aload_n 0, 1) := by decide +kernel
theorem dX5_init_5 : decode cX5_init 5 = .ok (.bipush 8, 2) := by decide +kernel
theorem dX5_init_7 : decode cX5_init 7 = .ok (.newarray .int, 2) := by decide +kernel
theorem dX5_init_9 : decode cX5_init 9 = .ok (.putfield 9, 3) := by decide +kernel
theorem dX5_init_12 : decode cX5_init 12 = .ok (.aload_n 0, 1) := by decide +kernel
theorem dX5_init_13 : decode cX5_init 13 = .ok (.bipush 8, 2) := by decide +kernel
theorem dX5_init_15 : decode cX5_init 15 = .ok (.newarray .int, 2) := by decide +kernel
theorem dX5_init_17 : decode cX5_init 17 = .ok (.putfield 15, 3) := by decide +kernel
theorem dX5_init_20 : decode cX5_init 20 = .ok (.aload_n 0, 1) := by decide +kernel
theorem dX5_init_21 : decode cX5_init 21 = .ok (.aload_n 1, 1) := by decide +kernel
theorem dX5_init_22 : decode cX5_init 22 = .ok (.putfield 18, 3) := by decide +kernel
theorem dX5_init_25 : decode cX5_init 25 = .ok (.aload_n 0, 1) := by decide +kernel
theorem dX5_init_26 : decode cX5_init 26 = .ok (.aload_n 2, 1) := by decide +kernel
theorem dX5_init_27 : decode cX5_init 27 = .ok (.putfield 22, 3) := by decide +kernel
theorem dX5_init_30 : decode cX5_init 30 = .ok (.aload_n 0, 1) := by decide +kernel
theorem dX5_init_31 : decode cX5_init 31 = .ok (.aload_n 3, 1) := by decide +kernel
theorem dX5_init_32 : decode cX5_init 32 = .ok (.putfield 26, 3) := by decide +kernel
theorem dX5_init_35 : decode cX5_init 35 = .ok (.return_, 1) := by decide +kernel
theorem dX5_start_0 : decode cX5_start 0 = .ok (.aload_n 0, 1) := by decide +kernel
theorem dX5_start_1 : decode cX5_start 1 = .ok (.getfield 30, 3) := by decide +kernel
theorem dX5_start_4 : decode cX5_start 4 = .ok (.ireturn, 1) := by decide +kernel
theorem dX5_wetDoors_0 : decode cX5_wetDoors 0 = .ok (.aload_n 0, 1) := by decide +kernel
theorem dX5_wetDoors_1 : decode cX5_wetDoors 1 = .ok (.getfield 34, 3) := by decide +kernel
theorem dX5_wetDoors_4 : decode cX5_wetDoors 4 = .ok (.ireturn, 1) := by decide +kernel
theorem dX5_firstGoesFrom_0 : decode cX5_firstGoesFrom 0 = .ok (.iload_n 1, 1) := by decide +kernel
theorem dX5_firstGoesFrom_1 : decode cX5_firstGoesFrom 1 = .ok (.istore_n 2, 1) := by decide +kernel
theorem dX5_firstGoesFrom_2 : decode cX5_firstGoesFrom 2 = .ok (.iconst 0, 1) := by decide +kernel
theorem dX5_firstGoesFrom_3 : decode cX5_firstGoesFrom 3 = .ok (.istore_n 3, 1) := by decide +kernel
theorem dX5_firstGoesFrom_4 : decode cX5_firstGoesFrom 4 = .ok (.iload_n 3, 1) := by decide +kernel
theorem dX5_firstGoesFrom_5 : decode cX5_firstGoesFrom 5 = .ok (.bipush 8, 2) := by decide +kernel
theorem dX5_firstGoesFrom_7 : decode cX5_firstGoesFrom 7 = .ok (.if_icmp .ge 50, 3) := by decide +kernel
theorem dX5_firstGoesFrom_10 : decode cX5_firstGoesFrom 10 = .ok (.iload_n 3, 1) := by decide +kernel
theorem dX5_firstGoesFrom_11 : decode cX5_firstGoesFrom 11 = .ok (.ifCond .ne 7, 3) := by decide +kernel
theorem dX5_firstGoesFrom_14 : decode cX5_firstGoesFrom 14 = .ok (.iload_n 2, 1) := by decide +kernel
theorem dX5_firstGoesFrom_15 : decode cX5_firstGoesFrom 15 = .ok (.goto 21, 3) := by decide +kernel
theorem dX5_firstGoesFrom_18 : decode cX5_firstGoesFrom 18 = .ok (.aload_n 0, 1) := by decide +kernel
theorem dX5_firstGoesFrom_19 : decode cX5_firstGoesFrom 19 = .ok (.getfield 22, 3) := by decide +kernel
theorem dX5_firstGoesFrom_22 : decode cX5_firstGoesFrom 22 = .ok (.iload_n 2, 1) := by decide +kernel
theorem dX5_firstGoesFrom_23 : decode cX5_firstGoesFrom 23 = .ok (.aload_n 0, 1) := by decide +kernel
theorem dX5_firstGoesFrom_24 : decode cX5_firstGoesFrom 24 = .ok (.getfield 18, 3) := by decide +kernel
theorem dX5_firstGoesFrom_27 : decode cX5_firstGoesFrom 27 = .ok (.iload_n 3, 1) := by decide +kernel
theorem dX5_firstGoesFrom_28 : decode cX5_firstGoesFrom 28 = .ok (.iconst 1, 1) := by decide +kernel
theorem dX5_firstGoesFrom_29 : decode cX5_firstGoesFrom 29 = .ok (.isub, 1) := by decide +kernel
theorem dX5_firstGoesFrom_30 : decode cX5_firstGoesFrom 30 = .ok (.invokevirtual 37, 3) := by decide +kernel
theorem dX5_firstGoesFrom_33 : decode cX5_firstGoesFrom 33 = .ok (.invokevirtual 43, 3) := by decide +kernel
theorem dX5_firstGoesFrom_36 : decode cX5_firstGoesFrom 36 = .ok (.istore_n 2, 1) := by decide +kernel
theorem dX5_firstGoesFrom_37 : decode cX5_firstGoesFrom 37 = .ok (.iload_n 2, 1) := by decide +kernel
theorem dX5_firstGoesFrom_38 : decode cX5_firstGoesFrom 38 = .ok (.iconst (-1), 1) := by decide +kernel
theorem dX5_firstGoesFrom_39 : decode cX5_firstGoesFrom 39 = .ok (.if_icmp .ne 5, 3) := by decide +kernel
theorem dX5_firstGoesFrom_42 : decode cX5_firstGoesFrom 42 = .ok (.iconst 0, 1) := by decide +kernel
theorem dX5_firstGoesFrom_43 : decode cX5_firstGoesFrom 43 = .ok (.ireturn, 1) := by decide +kernel
theorem dX5_firstGoesFrom_44 : decode cX5_firstGoesFrom 44 = .ok (.aload_n 0, 1) := by decide +kernel
theorem dX5_firstGoesFrom_45 : decode cX5_firstGoesFrom 45 = .ok (.getfield 9, 3) := by decide +kernel
theorem dX5_firstGoesFrom_48 : decode cX5_firstGoesFrom 48 = .ok (.iload_n 3, 1) := by decide +kernel
theorem dX5_firstGoesFrom_49 : decode cX5_firstGoesFrom 49 = .ok (.iload_n 2, 1) := by decide +kernel
theorem dX5_firstGoesFrom_50 : decode cX5_firstGoesFrom 50 = .ok (.iastore, 1) := by decide +kernel
theorem dX5_firstGoesFrom_51 : decode cX5_firstGoesFrom 51 = .ok (.iinc 3 1, 3) := by decide +kernel
theorem dX5_firstGoesFrom_54 : decode cX5_firstGoesFrom 54 = .ok (.goto (-50), 3) := by decide +kernel
theorem dX5_firstGoesFrom_57 : decode cX5_firstGoesFrom 57 = .ok (.iconst 1, 1) := by decide +kernel
theorem dX5_firstGoesFrom_58 : decode cX5_firstGoesFrom 58 = .ok (.ireturn, 1) := by decide +kernel
theorem dX5_secondGoesFrom_0 : decode cX5_secondGoesFrom 0 = .ok (.iload_n 1, 1) := by decide +kernel
theorem dX5_secondGoesFrom_1 : decode cX5_secondGoesFrom 1 = .ok (.istore_n 2, 1) := by decide +kernel
theorem dX5_secondGoesFrom_2 : decode cX5_secondGoesFrom 2 = .ok (.iconst 0, 1) := by decide +kernel
theorem dX5_secondGoesFrom_3 : decode cX5_secondGoesFrom 3 = .ok (.istore_n 3, 1) := by decide +kernel
theorem dX5_secondGoesFrom_4 : decode cX5_secondGoesFrom 4 = .ok (.iload_n 3, 1) := by decide +kernel
theorem dX5_secondGoesFrom_5 : decode cX5_secondGoesFrom 5 = .ok (.bipush 8, 2) := by decide +kernel
theorem dX5_secondGoesFrom_7 : decode cX5_secondGoesFrom 7 = .ok (.if_icmp .ge 53, 3) := by decide +kernel
theorem dX5_secondGoesFrom_10 : decode cX5_secondGoesFrom 10 = .ok (.iload_n 3, 1) := by decide +kernel
theorem dX5_secondGoesFrom_11 : decode cX5_secondGoesFrom 11 = .ok (.ifCond .ne 7, 3) := by decide +kernel
theorem dX5_secondGoesFrom_14 : decode cX5_secondGoesFrom 14 = .ok (.iload_n 2, 1) := by decide +kernel
theorem dX5_secondGoesFrom_15 : decode cX5_secondGoesFrom 15 = .ok (.goto 24, 3) := by decide +kernel
theorem dX5_secondGoesFrom_18 : decode cX5_secondGoesFrom 18 = .ok (.aload_n 0, 1) := by decide +kernel
theorem dX5_secondGoesFrom_19 : decode cX5_secondGoesFrom 19 = .ok (.getfield 22, 3) := by decide +kernel
theorem dX5_secondGoesFrom_22 : decode cX5_secondGoesFrom 22 = .ok (.iload_n 2, 1) := by decide +kernel
theorem dX5_secondGoesFrom_23 : decode cX5_secondGoesFrom 23 = .ok (.aload_n 0, 1) := by decide +kernel
theorem dX5_secondGoesFrom_24 : decode cX5_secondGoesFrom 24 = .ok (.getfield 18, 3) := by decide +kernel
theorem dX5_secondGoesFrom_27 : decode cX5_secondGoesFrom 27 = .ok (.iload_n 3, 1) := by decide +kernel
theorem dX5_secondGoesFrom_28 : decode cX5_secondGoesFrom 28 = .ok (.iconst 1, 1) := by decide +kernel
theorem dX5_secondGoesFrom_29 : decode cX5_secondGoesFrom 29 = .ok (.isub, 1) := by decide +kernel
theorem dX5_secondGoesFrom_30 : decode cX5_secondGoesFrom 30 = .ok (.invokevirtual 37, 3) := by decide +kernel
theorem dX5_secondGoesFrom_33 : decode cX5_secondGoesFrom 33 = .ok (.invokestatic 49, 3) := by decide +kernel
theorem dX5_secondGoesFrom_36 : decode cX5_secondGoesFrom 36 = .ok (.invokevirtual 43, 3) := by decide +kernel
theorem dX5_secondGoesFrom_39 : decode cX5_secondGoesFrom 39 = .ok (.istore_n 2, 1) := by decide +kernel
theorem dX5_secondGoesFrom_40 : decode cX5_secondGoesFrom 40 = .ok (.iload_n 2, 1) := by decide +kernel
theorem dX5_secondGoesFrom_41 : decode cX5_secondGoesFrom 41 = .ok (.iconst (-1), 1) := by decide +kernel
theorem dX5_secondGoesFrom_42 : decode cX5_secondGoesFrom 42 = .ok (.if_icmp .ne 5, 3) := by decide +kernel
theorem dX5_secondGoesFrom_45 : decode cX5_secondGoesFrom 45 = .ok (.iconst 0, 1) := by decide +kernel
theorem dX5_secondGoesFrom_46 : decode cX5_secondGoesFrom 46 = .ok (.ireturn, 1) := by decide +kernel
theorem dX5_secondGoesFrom_47 : decode cX5_secondGoesFrom 47 = .ok (.aload_n 0, 1) := by decide +kernel
theorem dX5_secondGoesFrom_48 : decode cX5_secondGoesFrom 48 = .ok (.getfield 15, 3) := by decide +kernel
theorem dX5_secondGoesFrom_51 : decode cX5_secondGoesFrom 51 = .ok (.iload_n 3, 1) := by decide +kernel
theorem dX5_secondGoesFrom_52 : decode cX5_secondGoesFrom 52 = .ok (.iload_n 2, 1) := by decide +kernel
theorem dX5_secondGoesFrom_53 : decode cX5_secondGoesFrom 53 = .ok (.iastore, 1) := by decide +kernel
theorem dX5_secondGoesFrom_54 : decode cX5_secondGoesFrom 54 = .ok (.iinc 3 1, 3) := by decide +kernel
theorem dX5_secondGoesFrom_57 : decode cX5_secondGoesFrom 57 = .ok (.goto (-53), 3) := by decide +kernel
theorem dX5_secondGoesFrom_60 : decode cX5_secondGoesFrom 60 = .ok (.iconst 1, 1) := by decide +kernel
theorem dX5_secondGoesFrom_61 : decode cX5_secondGoesFrom 61 = .ok (.ireturn, 1) := by decide +kernel
theorem dX5_turnedRound_0 : decode cX5_turnedRound 0 = .ok (.iload_n 0, 1) := by decide +kernel
theorem dX5_turnedRound_1 : decode cX5_turnedRound 1 = .ok (.tableswitch 39 1 4 #[31, 33, 35, 37], 31) := by decide +kernel
theorem dX5_turnedRound_32 : decode cX5_turnedRound 32 = .ok (.iconst 3, 1) := by decide +kernel
theorem dX5_turnedRound_33 : decode cX5_turnedRound 33 = .ok (.ireturn, 1) := by decide +kernel
theorem dX5_turnedRound_34 : decode cX5_turnedRound 34 = .ok (.iconst 4, 1) := by decide +kernel
theorem dX5_turnedRound_35 : decode cX5_turnedRound 35 = .ok (.ireturn, 1) := by decide +kernel
theorem dX5_turnedRound_36 : decode cX5_turnedRound 36 = .ok (.iconst 1, 1) := by decide +kernel
theorem dX5_turnedRound_37 : decode cX5_turnedRound 37 = .ok (.ireturn, 1) := by decide +kernel
theorem dX5_turnedRound_38 : decode cX5_turnedRound 38 = .ok (.iconst 2, 1) := by decide +kernel
theorem dX5_turnedRound_39 : decode cX5_turnedRound 39 = .ok (.ireturn, 1) := by decide +kernel
theorem dX5_turnedRound_40 : decode cX5_turnedRound 40 = .ok (.iconst 0, 1) := by decide +kernel
theorem dX5_turnedRound_41 : decode cX5_turnedRound 41 = .ok (.ireturn, 1) := by decide +kernel
theorem dX5_search_0 : decode cX5_search 0 = .ok (.aload_n 0, 1) := by decide +kernel
theorem dX5_search_1 : decode cX5_search 1 = .ok (.getfield 26, 3) := by decide +kernel
theorem dX5_search_4 : decode cX5_search 4 = .ok (.invokevirtual 52, 3) := by decide +kernel
theorem dX5_search_7 : decode cX5_search 7 = .ok (.aload_n 0, 1) := by decide +kernel
theorem dX5_search_8 : decode cX5_search 8 = .ok (.iconst (-1), 1) := by decide +kernel
theorem dX5_search_9 : decode cX5_search 9 = .ok (.putfield 30, 3) := by decide +kernel
theorem dX5_search_12 : decode cX5_search 12 = .ok (.aload_n 0, 1) := by decide +kernel
theorem dX5_search_13 : decode cX5_search 13 = .ok (.iconst 0, 1) := by decide +kernel
theorem dX5_search_14 : decode cX5_search 14 = .ok (.putfield 34, 3) := by decide +kernel
theorem dX5_search_17 : decode cX5_search 17 = .ok (.iconst 0, 1) := by decide +kernel
theorem dX5_search_18 : decode cX5_search 18 = .ok (.istore_n 2, 1) := by decide +kernel
theorem dX5_search_19 : decode cX5_search 19 = .ok (.iload_n 2, 1) := by decide +kernel
theorem dX5_search_20 : decode cX5_search 20 = .ok (.aload_n 0, 1) := by decide +kernel
theorem dX5_search_21 : decode cX5_search 21 = .ok (.getfield 22, 3) := by decide +kernel
theorem dX5_search_24 : decode cX5_search 24 = .ok (.invokevirtual 57, 3) := by decide +kernel
theorem dX5_search_27 : decode cX5_search 27 = .ok (.if_icmp .ge 49, 3) := by decide +kernel
theorem dX5_search_30 : decode cX5_search 30 = .ok (.aload_n 0, 1) := by decide +kernel
theorem dX5_search_31 : decode cX5_search 31 = .ok (.iload_n 2, 1) := by decide +kernel
theorem dX5_search_32 : decode cX5_search 32 = .ok (.invokevirtual 61, 3) := by decide +kernel
theorem dX5_search_35 : decode cX5_search 35 = .ok (.ifCond .eq 35, 3) := by decide +kernel
theorem dX5_search_38 : decode cX5_search 38 = .ok (.aload_n 0, 1) := by decide +kernel
theorem dX5_search_39 : decode cX5_search 39 = .ok (.iload_n 1, 1) := by decide +kernel
theorem dX5_search_40 : decode cX5_search 40 = .ok (.invokevirtual 65, 3) := by decide +kernel
theorem dX5_search_43 : decode cX5_search 43 = .ok (.istore_n 3, 1) := by decide +kernel
theorem dX5_search_44 : decode cX5_search 44 = .ok (.aload_n 0, 1) := by decide +kernel
theorem dX5_search_45 : decode cX5_search 45 = .ok (.getfield 30, 3) := by decide +kernel
theorem dX5_search_48 : decode cX5_search 48 = .ok (.iconst (-1), 1) := by decide +kernel
theorem dX5_search_49 : decode cX5_search 49 = .ok (.if_icmp .eq 11, 3) := by decide +kernel
theorem dX5_search_52 : decode cX5_search 52 = .ok (.iload_n 3, 1) := by decide +kernel
theorem dX5_search_53 : decode cX5_search 53 = .ok (.aload_n 0, 1) := by decide +kernel
theorem dX5_search_54 : decode cX5_search 54 = .ok (.getfield 34, 3) := by decide +kernel
theorem dX5_search_57 : decode cX5_search 57 = .ok (.if_icmp .ge 13, 3) := by decide +kernel
theorem dX5_search_60 : decode cX5_search 60 = .ok (.aload_n 0, 1) := by decide +kernel
theorem dX5_search_61 : decode cX5_search 61 = .ok (.iload_n 2, 1) := by decide +kernel
theorem dX5_search_62 : decode cX5_search 62 = .ok (.putfield 30, 3) := by decide +kernel
theorem dX5_search_65 : decode cX5_search 65 = .ok (.aload_n 0, 1) := by decide +kernel
theorem dX5_search_66 : decode cX5_search 66 = .ok (.iload_n 3, 1) := by decide +kernel
theorem dX5_search_67 : decode cX5_search 67 = .ok (.putfield 34, 3) := by decide +kernel
theorem dX5_search_70 : decode cX5_search 70 = .ok (.iinc 2 1, 3) := by decide +kernel
theorem dX5_search_73 : decode cX5_search 73 = .ok (.goto (-54), 3) := by decide +kernel
theorem dX5_search_76 : decode cX5_search 76 = .ok (.return_, 1) := by decide +kernel
theorem dX5_wetDoorsWithBoth_0 : decode cX5_wetDoorsWithBoth 0 = .ok (.iconst 0, 1) := by decide +kernel
theorem dX5_wetDoorsWithBoth_1 : decode cX5_wetDoorsWithBoth 1 = .ok (.istore_n 2, 1) := by decide +kernel
theorem dX5_wetDoorsWithBoth_2 : decode cX5_wetDoorsWithBoth 2 = .ok (.iconst 0, 1) := by decide +kernel
theorem dX5_wetDoorsWithBoth_3 : decode cX5_wetDoorsWithBoth 3 = .ok (.istore_n 3, 1) := by decide +kernel
theorem dX5_wetDoorsWithBoth_4 : decode cX5_wetDoorsWithBoth 4 = .ok (.iload_n 3, 1) := by decide +kernel
theorem dX5_wetDoorsWithBoth_5 : decode cX5_wetDoorsWithBoth 5 = .ok (.bipush 8, 2) := by decide +kernel
theorem dX5_wetDoorsWithBoth_7 : decode cX5_wetDoorsWithBoth 7 = .ok (.if_icmp .ge 86, 3) := by decide +kernel
theorem dX5_wetDoorsWithBoth_10 : decode cX5_wetDoorsWithBoth 10 = .ok (.aload_n 0, 1) := by decide +kernel
theorem dX5_wetDoorsWithBoth_11 : decode cX5_wetDoorsWithBoth 11 = .ok (.getfield 9, 3) := by decide +kernel
theorem dX5_wetDoorsWithBoth_14 : decode cX5_wetDoorsWithBoth 14 = .ok (.iload_n 3, 1) := by decide +kernel
theorem dX5_wetDoorsWithBoth_15 : decode cX5_wetDoorsWithBoth 15 = .ok (.iaload, 1) := by decide +kernel
theorem dX5_wetDoorsWithBoth_16 : decode cX5_wetDoorsWithBoth 16 = .ok (.istore 4, 2) := by decide +kernel
theorem dX5_wetDoorsWithBoth_18 : decode cX5_wetDoorsWithBoth 18 = .ok (.aload_n 0, 1) := by decide +kernel
theorem dX5_wetDoorsWithBoth_19 : decode cX5_wetDoorsWithBoth 19 = .ok (.getfield 15, 3) := by decide +kernel
theorem dX5_wetDoorsWithBoth_22 : decode cX5_wetDoorsWithBoth 22 = .ok (.iload_n 3, 1) := by decide +kernel
theorem dX5_wetDoorsWithBoth_23 : decode cX5_wetDoorsWithBoth 23 = .ok (.iaload, 1) := by decide +kernel
theorem dX5_wetDoorsWithBoth_24 : decode cX5_wetDoorsWithBoth 24 = .ok (.istore 5, 2) := by decide +kernel
theorem dX5_wetDoorsWithBoth_26 : decode cX5_wetDoorsWithBoth 26 = .ok (.iload_n 1, 1) := by decide +kernel
theorem dX5_wetDoorsWithBoth_27 : decode cX5_wetDoorsWithBoth 27 = .ok (.aload_n 0, 1) := by decide +kernel
theorem dX5_wetDoorsWithBoth_28 : decode cX5_wetDoorsWithBoth 28 = .ok (.getfield 22, 3) := by decide +kernel
theorem dX5_wetDoorsWithBoth_31 : decode cX5_wetDoorsWithBoth 31 = .ok (.iload 4, 2) := by decide +kernel
theorem dX5_wetDoorsWithBoth_33 : decode cX5_wetDoorsWithBoth 33 = .ok (.invokevirtual 68, 3) := by decide +kernel
theorem dX5_wetDoorsWithBoth_36 : decode cX5_wetDoorsWithBoth 36 = .ok (.aload_n 0, 1) := by decide +kernel
theorem dX5_wetDoorsWithBoth_37 : decode cX5_wetDoorsWithBoth 37 = .ok (.getfield 22, 3) := by decide +kernel
theorem dX5_wetDoorsWithBoth_40 : decode cX5_wetDoorsWithBoth 40 = .ok (.iload 5, 2) := by decide +kernel
theorem dX5_wetDoorsWithBoth_42 : decode cX5_wetDoorsWithBoth 42 = .ok (.invokevirtual 68, 3) := by decide +kernel
theorem dX5_wetDoorsWithBoth_45 : decode cX5_wetDoorsWithBoth 45 = .ok (.iadd, 1) := by decide +kernel
theorem dX5_wetDoorsWithBoth_46 : decode cX5_wetDoorsWithBoth 46 = .ok (.imul, 1) := by decide +kernel
theorem dX5_wetDoorsWithBoth_47 : decode cX5_wetDoorsWithBoth 47 = .ok (.istore 6, 2) := by decide +kernel
theorem dX5_wetDoorsWithBoth_49 : decode cX5_wetDoorsWithBoth 49 = .ok (.iload_n 1, 1) := by decide +kernel
theorem dX5_wetDoorsWithBoth_50 : decode cX5_wetDoorsWithBoth 50 = .ok (.aload_n 0, 1) := by decide +kernel
theorem dX5_wetDoorsWithBoth_51 : decode cX5_wetDoorsWithBoth 51 = .ok (.getfield 22, 3) := by decide +kernel
theorem dX5_wetDoorsWithBoth_54 : decode cX5_wetDoorsWithBoth 54 = .ok (.iload 4, 2) := by decide +kernel
theorem dX5_wetDoorsWithBoth_56 : decode cX5_wetDoorsWithBoth 56 = .ok (.invokevirtual 71, 3) := by decide +kernel
theorem dX5_wetDoorsWithBoth_59 : decode cX5_wetDoorsWithBoth 59 = .ok (.aload_n 0, 1) := by decide +kernel
theorem dX5_wetDoorsWithBoth_60 : decode cX5_wetDoorsWithBoth 60 = .ok (.getfield 22, 3) := by decide +kernel
theorem dX5_wetDoorsWithBoth_63 : decode cX5_wetDoorsWithBoth 63 = .ok (.iload 5, 2) := by decide +kernel
theorem dX5_wetDoorsWithBoth_65 : decode cX5_wetDoorsWithBoth 65 = .ok (.invokevirtual 71, 3) := by decide +kernel
theorem dX5_wetDoorsWithBoth_68 : decode cX5_wetDoorsWithBoth 68 = .ok (.iadd, 1) := by decide +kernel
theorem dX5_wetDoorsWithBoth_69 : decode cX5_wetDoorsWithBoth 69 = .ok (.imul, 1) := by decide +kernel
theorem dX5_wetDoorsWithBoth_70 : decode cX5_wetDoorsWithBoth 70 = .ok (.istore 7, 2) := by decide +kernel
theorem dX5_wetDoorsWithBoth_72 : decode cX5_wetDoorsWithBoth 72 = .ok (.iload_n 2, 1) := by decide +kernel
theorem dX5_wetDoorsWithBoth_73 : decode cX5_wetDoorsWithBoth 73 = .ok (.aload_n 0, 1) := by decide +kernel
theorem dX5_wetDoorsWithBoth_74 : decode cX5_wetDoorsWithBoth 74 = .ok (.getfield 26, 3) := by decide +kernel
theorem dX5_wetDoorsWithBoth_77 : decode cX5_wetDoorsWithBoth 77 = .ok (.iload_n 3, 1) := by decide +kernel
theorem dX5_wetDoorsWithBoth_78 : decode cX5_wetDoorsWithBoth 78 = .ok (.iload 6, 2) := by decide +kernel
theorem dX5_wetDoorsWithBoth_80 : decode cX5_wetDoorsWithBoth 80 = .ok (.iload 7, 2) := by decide +kernel
theorem dX5_wetDoorsWithBoth_82 : decode cX5_wetDoorsWithBoth 82 = .ok (.invokevirtual 74, 3) := by decide +kernel
theorem dX5_wetDoorsWithBoth_85 : decode cX5_wetDoorsWithBoth 85 = .ok (.iadd, 1) := by decide +kernel
theorem dX5_wetDoorsWithBoth_86 : decode cX5_wetDoorsWithBoth 86 = .ok (.istore_n 2, 1) := by decide +kernel
theorem dX5_wetDoorsWithBoth_87 : decode cX5_wetDoorsWithBoth 87 = .ok (.iinc 3 1, 3) := by decide +kernel
theorem dX5_wetDoorsWithBoth_90 : decode cX5_wetDoorsWithBoth 90 = .ok (.goto (-86), 3) := by decide +kernel
theorem dX5_wetDoorsWithBoth_93 : decode cX5_wetDoorsWithBoth 93 = .ok (.iload_n 2, 1) := by decide +kernel
theorem dX5_wetDoorsWithBoth_94 : decode cX5_wetDoorsWithBoth 94 = .ok (.ireturn, 1) := by decide +kernel
theorem dX6_init_0 : decode cX6_init 0 = .ok (.aload_n 0, 1) := by decide +kernel
theorem dX6_init_1 : decode cX6_init 1 = .ok (.invokespecial 3, 3) := by decide +kernel
theorem dX6_init_4 : decode cX6_init 4 = .ok (.aload_n 0, 1) := by decide +kernel
theorem dX6_init_5 : decode cX6_init 5 = .ok (.bipush 8, 2) := by decide +kernel
theorem dX6_init_7 : decode cX6_init 7 = .ok (.newarray .int, 2) := by decide +kernel
theorem dX6_init_9 : decode cX6_init 9 = .ok (.putfield 9, 3) := by decide +kernel
theorem dX6_init_12 : decode cX6_init 12 = .ok (.aload_n 0, 1) := by decide +kernel
theorem dX6_init_13 : decode cX6_init 13 = .ok (.aload_n 1, 1) := by decide +kernel
theorem dX6_init_14 : decode cX6_init 14 = .ok (.putfield 15, 3) := by decide +kernel
theorem dX6_init_17 : decode cX6_init 17 = .ok (.aload_n 0, 1) := by decide +kernel
theorem dX6_init_18 : decode cX6_init 18 = .ok (.aload_n 2, 1) := by decide +kernel
theorem dX6_init_19 : decode cX6_init 19 = .ok (.putfield 19, 3) := by decide +kernel
theorem dX6_init_22 : decode cX6_init 22 = .ok (.return_, 1) := by decide +kernel
theorem dX6_placeOf_0 : decode cX6_placeOf 0 = .ok (.aload_n 0, 1) := by decide +kernel
theorem dX6_placeOf_1 : decode cX6_placeOf 1 = .ok (.getfield 19, 3) := by decide +kernel
theorem dX6_placeOf_4 : decode cX6_placeOf 4 = .ok (.iload_n 1, 1) := by decide +kernel
theorem dX6_placeOf_5 : decode cX6_placeOf 5 = .ok (.invokevirtual 23, 3) := by decide +kernel
theorem dX6_placeOf_8 : decode cX6_placeOf 8 = .ok (.ifCond .eq 18, 3) := by decide +kernel
theorem dX6_placeOf_11 : decode cX6_placeOf 11 = .ok (.iload_n 1, 1) := by decide +kernel
theorem dX6_placeOf_12 : decode cX6_placeOf 12 = .ok (.bipush 8, 2) := by decide +kernel
theorem dX6_placeOf_14 : decode cX6_placeOf 14 = .ok (.if_icmp .ge 12, 3) := by decide +kernel
theorem dX6_placeOf_17 : decode cX6_placeOf 17 = .ok (.aload_n 0, 1) := by decide +kernel
theorem dX6_placeOf_18 : decode cX6_placeOf 18 = .ok (.getfield 9, 3) := by decide +kernel
theorem dX6_placeOf_21 : decode cX6_placeOf 21 = .ok (.iload_n 1, 1) := by decide +kernel
theorem dX6_placeOf_22 : decode cX6_placeOf 22 = .ok (.iaload, 1) := by decide +kernel
theorem dX6_placeOf_23 : decode cX6_placeOf 23 = .ok (.goto 4, 3) := by decide +kernel
theorem dX6_placeOf_26 : decode cX6_placeOf 26 = .ok (.iconst (-1), 1) := by decide +kernel
theorem dX6_placeOf_27 : decode cX6_placeOf 27 = .ok (.ireturn, 1) := by decide +kernel
theorem dX6_seed_0 : decode cX6_seed 0 = .ok (.aload_n 0, 1) := by decide +kernel
theorem dX6_seed_1 : decode cX6_seed 1 = .ok (.getfield 29, 3) := by decide +kernel
theorem dX6_seed_4 : decode cX6_seed 4 = .ok (.l2i, 1) := by decide +kernel
theorem dX6_seed_5 : decode cX6_seed 5 = .ok (.ireturn, 1) := by decide +kernel
theorem dX6_standAsIn_0 : decode cX6_standAsIn 0 = .ok (.iconst 0, 1) := by decide +kernel
theorem dX6_standAsIn_1 : decode cX6_standAsIn 1 = .ok (.istore_n 2, 1) := by decide +kernel
theorem dX6_standAsIn_2 : decode cX6_standAsIn 2 = .ok (.iload_n 2, 1) := by decide +kernel
theorem dX6_standAsIn_3 : decode cX6_standAsIn 3 = .ok (.bipush 8, 2) := by decide +kernel
theorem dX6_standAsIn_5 : decode cX6_standAsIn 5 = .ok (.if_icmp .ge 24, 3) := by decide +kernel
theorem dX6_standAsIn_8 : decode cX6_standAsIn 8 = .ok (.aload_n 0, 1) := by decide +kernel
theorem dX6_standAsIn_9 : decode cX6_standAsIn 9 = .ok (.getfield 9, 3) := by decide +kernel
theorem dX6_standAsIn_12 : decode cX6_standAsIn 12 = .ok (.iload_n 2, 1) := by decide +kernel
theorem dX6_standAsIn_13 : decode cX6_standAsIn 13 = .ok (.aload_n 0, 1) := by decide +kernel
theorem dX6_standAsIn_14 : decode cX6_standAsIn 14 = .ok (.getfield 19, 3) := by decide +kernel
theorem dX6_standAsIn_17 : decode cX6_standAsIn 17 = .ok (.iload_n 2, 1) := by decide +kernel
theorem dX6_standAsIn_18 : decode cX6_standAsIn 18 = .ok (.iload_n 1, 1) := by decide +kernel
theorem dX6_standAsIn_19 : decode cX6_standAsIn 19 = .ok (.invokevirtual 33, 3) := by decide +kernel
theorem dX6_standAsIn_22 : decode cX6_standAsIn 22 = .ok (.iastore, 1) := by decide +kernel
theorem dX6_standAsIn_23 : decode cX6_standAsIn 23 = .ok (.iinc 2 1, 3) := by decide +kernel
theorem dX6_standAsIn_26 : decode cX6_standAsIn 26 = .ok (.goto (-24), 3) := by decide +kernel
theorem dX6_standAsIn_29 : decode cX6_standAsIn 29 = .ok (.return_, 1) := by decide +kernel
theorem dX6_isSomeDoorWet_0 : decode cX6_isSomeDoorWet 0 = .ok (.iconst 0, 1) := by decide +kernel
theorem dX6_isSomeDoorWet_1 : decode cX6_isSomeDoorWet 1 = .ok (.istore_n 1, 1) := by decide +kernel
theorem dX6_isSomeDoorWet_2 : decode cX6_isSomeDoorWet 2 = .ok (.iconst 0, 1) := by decide +kernel
theorem dX6_isSomeDoorWet_3 : decode cX6_isSomeDoorWet 3 = .ok (.istore_n 2, 1) := by decide +kernel
theorem dX6_isSomeDoorWet_4 : decode cX6_isSomeDoorWet 4 = .ok (.iconst 0, 1) := by decide +kernel
theorem dX6_isSomeDoorWet_5 : decode cX6_isSomeDoorWet 5 = .ok (.istore_n 3, 1) := by decide +kernel
theorem dX6_isSomeDoorWet_6 : decode cX6_isSomeDoorWet 6 = .ok (.iload_n 3, 1) := by decide +kernel
theorem dX6_isSomeDoorWet_7 : decode cX6_isSomeDoorWet 7 = .ok (.bipush 8, 2) := by decide +kernel
theorem dX6_isSomeDoorWet_9 : decode cX6_isSomeDoorWet 9 = .ok (.if_icmp .ge 59, 3) := by decide +kernel
theorem dX6_isSomeDoorWet_12 : decode cX6_isSomeDoorWet 12 = .ok (.iload_n 1, 1) := by decide +kernel
theorem dX6_isSomeDoorWet_13 : decode cX6_isSomeDoorWet 13 = .ok (.aload_n 0, 1) := by decide +kernel
theorem dX6_isSomeDoorWet_14 : decode cX6_isSomeDoorWet 14 = .ok (.getfield 19, 3) := by decide +kernel
theorem dX6_isSomeDoorWet_17 : decode cX6_isSomeDoorWet 17 = .ok (.iload_n 3, 1) := by decide +kernel
theorem dX6_isSomeDoorWet_18 : decode cX6_isSomeDoorWet 18 = .ok (.invokevirtual 37, 3) := by decide +kernel
theorem dX6_isSomeDoorWet_21 : decode cX6_isSomeDoorWet 21 = .ok (.aload_n 0, 1) := by decide +kernel
theorem dX6_isSomeDoorWet_22 : decode cX6_isSomeDoorWet 22 = .ok (.getfield 15, 3) := by decide +kernel
theorem dX6_isSomeDoorWet_25 : decode cX6_isSomeDoorWet 25 = .ok (.aload_n 0, 1) := by decide +kernel
theorem dX6_isSomeDoorWet_26 : decode cX6_isSomeDoorWet 26 = .ok (.getfield 9, 3) := by decide +kernel
theorem dX6_isSomeDoorWet_29 : decode cX6_isSomeDoorWet 29 = .ok (.iload_n 3, 1) := by decide +kernel
theorem dX6_isSomeDoorWet_30 : decode cX6_isSomeDoorWet 30 = .ok (.iaload, 1) := by decide +kernel
theorem dX6_isSomeDoorWet_31 : decode cX6_isSomeDoorWet 31 = .ok (.invokevirtual 41, 3) := by decide +kernel
theorem dX6_isSomeDoorWet_34 : decode cX6_isSomeDoorWet 34 = .ok (.imul, 1) := by decide +kernel
theorem dX6_isSomeDoorWet_35 : decode cX6_isSomeDoorWet 35 = .ok (.iadd, 1) := by decide +kernel
theorem dX6_isSomeDoorWet_36 : decode cX6_isSomeDoorWet 36 = .ok (.istore_n 1, 1) := by decide +kernel
theorem dX6_isSomeDoorWet_37 : decode cX6_isSomeDoorWet 37 = .ok (.iload_n 2, 1) := by decide +kernel
theorem dX6_isSomeDoorWet_38 : decode cX6_isSomeDoorWet 38 = .ok (.aload_n 0, 1) := by decide +kernel
theorem dX6_isSomeDoorWet_39 : decode cX6_isSomeDoorWet 39 = .ok (.getfield 19, 3) := by decide +kernel
theorem dX6_isSomeDoorWet_42 : decode cX6_isSomeDoorWet 42 = .ok (.iload_n 3, 1) := by decide +kernel
theorem dX6_isSomeDoorWet_43 : decode cX6_isSomeDoorWet 43 = .ok (.invokevirtual 37, 3) := by decide +kernel
theorem dX6_isSomeDoorWet_46 : decode cX6_isSomeDoorWet 46 = .ok (.aload_n 0, 1) := by decide +kernel
theorem dX6_isSomeDoorWet_47 : decode cX6_isSomeDoorWet 47 = .ok (.getfield 15, 3) := by decide +kernel
theorem dX6_isSomeDoorWet_50 : decode cX6_isSomeDoorWet 50 = .ok (.aload_n 0, 1) := by decide +kernel
theorem dX6_isSomeDoorWet_51 : decode cX6_isSomeDoorWet 51 = .ok (.getfield 9, 3) := by decide +kernel
theorem dX6_isSomeDoorWet_54 : decode cX6_isSomeDoorWet 54 = .ok (.iload_n 3, 1) := by decide +kernel
theorem dX6_isSomeDoorWet_55 : decode cX6_isSomeDoorWet 55 = .ok (.iaload, 1) := by decide +kernel
theorem dX6_isSomeDoorWet_56 : decode cX6_isSomeDoorWet 56 = .ok (.invokevirtual 46, 3) := by decide +kernel
theorem dX6_isSomeDoorWet_59 : decode cX6_isSomeDoorWet 59 = .ok (.imul, 1) := by decide +kernel
theorem dX6_isSomeDoorWet_60 : decode cX6_isSomeDoorWet 60 = .ok (.iadd, 1) := by decide +kernel
theorem dX6_isSomeDoorWet_61 : decode cX6_isSomeDoorWet 61 = .ok (.istore_n 2, 1) := by decide +kernel
theorem dX6_isSomeDoorWet_62 : decode cX6_isSomeDoorWet 62 = .ok (.iinc 3 1, 3) := by decide +kernel
theorem dX6_isSomeDoorWet_65 : decode cX6_isSomeDoorWet 65 = .ok (.goto (-59), 3) := by decide +kernel
theorem dX6_isSomeDoorWet_68 : decode cX6_isSomeDoorWet 68 = .ok (.aload_n 0, 1) := by decide +kernel
theorem dX6_isSomeDoorWet_69 : decode cX6_isSomeDoorWet 69 = .ok (.getfield 15, 3) := by decide +kernel
theorem dX6_isSomeDoorWet_72 : decode cX6_isSomeDoorWet 72 = .ok (.iload_n 1, 1) := by decide +kernel
theorem dX6_isSomeDoorWet_73 : decode cX6_isSomeDoorWet 73 = .ok (.iload_n 2, 1) := by decide +kernel
theorem dX6_isSomeDoorWet_74 : decode cX6_isSomeDoorWet 74 = .ok (.invokevirtual 49, 3) := by decide +kernel
theorem dX6_isSomeDoorWet_77 : decode cX6_isSomeDoorWet 77 = .ok (.ifCond .eq 7, 3) := by decide +kernel
theorem dX6_isSomeDoorWet_80 : decode cX6_isSomeDoorWet 80 = .ok (.iconst 1, 1) := by decide +kernel
theorem dX6_isSomeDoorWet_81 : decode cX6_isSomeDoorWet 81 = .ok (.goto 4, 3) := by decide +kernel
theorem dX6_isSomeDoorWet_84 : decode cX6_isSomeDoorWet 84 = .ok (.iconst 0, 1) := by decide +kernel
theorem dX6_isSomeDoorWet_85 : decode cX6_isSomeDoorWet 85 = .ok (.ireturn, 1) := by decide +kernel
theorem dX6_dryMinuteOfStorm_0 : decode cX6_dryMinuteOfStorm 0 = .ok (.aload_n 0, 1) := by decide +kernel
theorem dX6_dryMinuteOfStorm_1 : decode cX6_dryMinuteOfStorm 1 = .ok (.iload_n 1, 1) := by decide +kernel
theorem dX6_dryMinuteOfStorm_2 : decode cX6_dryMinuteOfStorm 2 = .ok (.invokevirtual 52, 3) := by decide +kernel
theorem dX6_dryMinuteOfStorm_5 : decode cX6_dryMinuteOfStorm 5 = .ok (.iconst 0, 1) := by decide +kernel
theorem dX6_dryMinuteOfStorm_6 : decode cX6_dryMinuteOfStorm 6 = .ok (.istore_n 2, 1) := by decide +kernel
theorem dX6_dryMinuteOfStorm_7 : decode cX6_dryMinuteOfStorm 7 = .ok (.iload_n 2, 1) := by decide +kernel
theorem dX6_dryMinuteOfStorm_8 : decode cX6_dryMinuteOfStorm 8 = .ok (.bipush 9, 2) := by decide +kernel
theorem dX6_dryMinuteOfStorm_10 : decode cX6_dryMinuteOfStorm 10 = .ok (.if_icmp .gt 22, 3) := by decide +kernel
theorem dX6_dryMinuteOfStorm_13 : decode cX6_dryMinuteOfStorm 13 = .ok (.aload_n 0, 1) := by decide +kernel
theorem dX6_dryMinuteOfStorm_14 : decode cX6_dryMinuteOfStorm 14 = .ok (.invokevirtual 56, 3) := by decide +kernel
theorem dX6_dryMinuteOfStorm_17 : decode cX6_dryMinuteOfStorm 17 = .ok (.ifCond .ne 5, 3) := by decide +kernel
theorem dX6_dryMinuteOfStorm_20 : decode cX6_dryMinuteOfStorm 20 = .ok (.iload_n 2, 1) := by decide +kernel
theorem dX6_dryMinuteOfStorm_21 : decode cX6_dryMinuteOfStorm 21 = .ok (.ireturn, 1) := by decide +kernel
theorem dX6_dryMinuteOfStorm_22 : decode cX6_dryMinuteOfStorm 22 = .ok (.aload_n 0, 1) := by decide +kernel
theorem dX6_dryMinuteOfStorm_23 : decode cX6_dryMinuteOfStorm 23 = .ok (.invokevirtual 60, 3) := by decide +kernel
theorem dX6_dryMinuteOfStorm_26 : decode cX6_dryMinuteOfStorm 26 = .ok (.iinc 2 1, 3) := by decide +kernel
theorem dX6_dryMinuteOfStorm_29 : decode cX6_dryMinuteOfStorm 29 = .ok (.goto (-22), 3) := by decide +kernel
theorem dX6_dryMinuteOfStorm_32 : decode cX6_dryMinuteOfStorm 32 = .ok (.iconst (-1), 1) := by decide +kernel
theorem dX6_dryMinuteOfStorm_33 : decode cX6_dryMinuteOfStorm 33 = .ok (.ireturn, 1) := by decide +kernel
theorem dX6_peopleGoToMiddle_0 : decode cX6_peopleGoToMiddle 0 = .ok (.iconst 0, 1) := by decide +kernel
theorem dX6_peopleGoToMiddle_1 : decode cX6_peopleGoToMiddle 1 = .ok (.istore_n 1, 1) := by decide +kernel
theorem dX6_peopleGoToMiddle_2 : decode cX6_peopleGoToMiddle 2 = .ok (.iload_n 1, 1) := by decide +kernel
theorem dX6_peopleGoToMiddle_3 : decode cX6_peopleGoToMiddle 3 = .ok (.bipush 8, 2) := by decide +kernel
theorem dX6_peopleGoToMiddle_5 : decode cX6_peopleGoToMiddle 5 = .ok (.if_icmp .ge 40, 3) := by decide +kernel
theorem dX6_peopleGoToMiddle_8 : decode cX6_peopleGoToMiddle 8 = .ok (.aload_n 0, 1) := by decide +kernel
theorem dX6_peopleGoToMiddle_9 : decode cX6_peopleGoToMiddle 9 = .ok (.getfield 19, 3) := by decide +kernel
theorem dX6_peopleGoToMiddle_12 : decode cX6_peopleGoToMiddle 12 = .ok (.iload_n 1, 1) := by decide +kernel
theorem dX6_peopleGoToMiddle_13 : decode cX6_peopleGoToMiddle 13 = .ok (.iconst 3, 1) := by decide +kernel
theorem dX6_peopleGoToMiddle_14 : decode cX6_peopleGoToMiddle 14 = .ok (.invokevirtual 63, 3) := by decide +kernel
theorem dX6_peopleGoToMiddle_17 : decode cX6_peopleGoToMiddle 17 = .ok (.ifCond .eq 22, 3) := by decide +kernel
theorem dX6_peopleGoToMiddle_20 : decode cX6_peopleGoToMiddle 20 = .ok (.aload_n 0, 1) := by decide +kernel
theorem dX6_peopleGoToMiddle_21 : decode cX6_peopleGoToMiddle 21 = .ok (.getfield 9, 3) := by decide +kernel
theorem dX6_peopleGoToMiddle_24 : decode cX6_peopleGoToMiddle 24 = .ok (.iload_n 1, 1) := by decide +kernel
theorem dX6_peopleGoToMiddle_25 : decode cX6_peopleGoToMiddle 25 = .ok (.aload_n 0, 1) := by decide +kernel
theorem dX6_peopleGoToMiddle_26 : decode cX6_peopleGoToMiddle 26 = .ok (.getfield 15, 3) := by decide +kernel
theorem dX6_peopleGoToMiddle_29 : decode cX6_peopleGoToMiddle 29 = .ok (.aload_n 0, 1) := by decide +kernel
theorem dX6_peopleGoToMiddle_30 : decode cX6_peopleGoToMiddle 30 = .ok (.getfield 9, 3) := by decide +kernel
theorem dX6_peopleGoToMiddle_33 : decode cX6_peopleGoToMiddle 33 = .ok (.iload_n 1, 1) := by decide +kernel
theorem dX6_peopleGoToMiddle_34 : decode cX6_peopleGoToMiddle 34 = .ok (.iaload, 1) := by decide +kernel
theorem dX6_peopleGoToMiddle_35 : decode cX6_peopleGoToMiddle 35 = .ok (.invokevirtual 67, 3) := by decide +kernel
theorem dX6_peopleGoToMiddle_38 : decode cX6_peopleGoToMiddle 38 = .ok (.iastore, 1) := by decide +kernel
theorem dX6_peopleGoToMiddle_39 : decode cX6_peopleGoToMiddle 39 = .ok (.iinc 1 1, 3) := by decide +kernel
theorem dX6_peopleGoToMiddle_42 : decode cX6_peopleGoToMiddle 42 = .ok (.goto (-40), 3) := by decide +kernel
theorem dX6_peopleGoToMiddle_45 : decode cX6_peopleGoToMiddle 45 = .ok (.return_, 1) := by decide +kernel
theorem dX6_stray_0 : decode cX6_stray 0 = .ok (.aload_n 0, 1) := by decide +kernel
theorem dX6_stray_1 : decode cX6_stray 1 = .ok (.iload_n 1, 1) := by decide +kernel
theorem dX6_stray_2 : decode cX6_stray 2 = .ok (.invokevirtual 52, 3) := by decide +kernel
theorem dX6_stray_5 : decode cX6_stray 5 = .ok (.aload_n 0, 1) := by decide +kernel
theorem dX6_stray_6 : decode cX6_stray 6 = .ok (.iload_n 3, 1) := by decide +kernel
theorem dX6_stray_7 : decode cX6_stray 7 = .ok (.i2l, 1) := by decide +kernel
theorem dX6_stray_8 : decode cX6_stray 8 = .ok (.putfield 29, 3) := by decide +kernel
theorem dX6_stray_11 : decode cX6_stray 11 = .ok (.iconst 0, 1) := by decide +kernel
theorem dX6_stray_12 : decode cX6_stray 12 = .ok (.istore 4, 2) := by decide +kernel
theorem dX6_stray_14 : decode cX6_stray 14 = .ok (.iconst 0, 1) := by decide +kernel
theorem dX6_stray_15 : decode cX6_stray 15 = .ok (.istore 5, 2) := by decide +kernel
theorem dX6_stray_17 : decode cX6_stray 17 = .ok (.iload 5, 2) := by decide +kernel
theorem dX6_stray_19 : decode cX6_stray 19 = .ok (.iload_n 2, 1) := by decide +kernel
theorem dX6_stray_20 : decode cX6_stray 20 = .ok (.if_icmp .ge 23, 3) := by decide +kernel
theorem dX6_stray_23 : decode cX6_stray 23 = .ok (.aload_n 0, 1) := by decide +kernel
theorem dX6_stray_24 : decode cX6_stray 24 = .ok (.invokevirtual 70, 3) := by decide +kernel
theorem dX6_stray_27 : decode cX6_stray 27 = .ok (.aload_n 0, 1) := by decide +kernel
theorem dX6_stray_28 : decode cX6_stray 28 = .ok (.invokevirtual 56, 3) := by decide +kernel
theorem dX6_stray_31 : decode cX6_stray 31 = .ok (.ifCond .eq 6, 3) := by decide +kernel
theorem dX6_stray_34 : decode cX6_stray 34 = .ok (.iinc 4 1, 3) := by decide +kernel
theorem dX6_stray_37 : decode cX6_stray 37 = .ok (.iinc 5 1, 3) := by decide +kernel
theorem dX6_stray_40 : decode cX6_stray 40 = .ok (.goto (-23), 3) := by decide +kernel
theorem dX6_stray_43 : decode cX6_stray 43 = .ok (.iload 4, 2) := by decide +kernel
theorem dX6_stray_45 : decode cX6_stray 45 = .ok (.ireturn, 1) := by decide +kernel
theorem dX6_cowsGoAstray_0 : decode cX6_cowsGoAstray 0 = .ok (.iconst 0, 1) := by decide +kernel
theorem dX6_cowsGoAstray_1 : decode cX6_cowsGoAstray 1 = .ok (.istore_n 1, 1) := by decide +kernel
theorem dX6_cowsGoAstray_2 : decode cX6_cowsGoAstray 2 = .ok (.iload_n 1, 1) := by decide +kernel
theorem dX6_cowsGoAstray_3 : decode cX6_cowsGoAstray 3 = .ok (.bipush 8, 2) := by decide +kernel
theorem dX6_cowsGoAstray_5 : decode cX6_cowsGoAstray 5 = .ok (.if_icmp .ge 60, 3) := by decide +kernel
theorem dX6_cowsGoAstray_8 : decode cX6_cowsGoAstray 8 = .ok (.aload_n 0, 1) := by decide +kernel
theorem dX6_cowsGoAstray_9 : decode cX6_cowsGoAstray 9 = .ok (.getfield 19, 3) := by decide +kernel
theorem dX6_cowsGoAstray_12 : decode cX6_cowsGoAstray 12 = .ok (.iload_n 1, 1) := by decide +kernel
theorem dX6_cowsGoAstray_13 : decode cX6_cowsGoAstray 13 = .ok (.iconst 2, 1) := by decide +kernel
theorem dX6_cowsGoAstray_14 : decode cX6_cowsGoAstray 14 = .ok (.invokevirtual 63, 3) := by decide +kernel
theorem dX6_cowsGoAstray_17 : decode cX6_cowsGoAstray 17 = .ok (.ifCond .eq 42, 3) := by decide +kernel
theorem dX6_cowsGoAstray_20 : decode cX6_cowsGoAstray 20 = .ok (.aload_n 0, 1) := by decide +kernel
theorem dX6_cowsGoAstray_21 : decode cX6_cowsGoAstray 21 = .ok (.getfield 15, 3) := by decide +kernel
theorem dX6_cowsGoAstray_24 : decode cX6_cowsGoAstray 24 = .ok (.aload_n 0, 1) := by decide +kernel
theorem dX6_cowsGoAstray_25 : decode cX6_cowsGoAstray 25 = .ok (.getfield 9, 3) := by decide +kernel
theorem dX6_cowsGoAstray_28 : decode cX6_cowsGoAstray 28 = .ok (.iload_n 1, 1) := by decide +kernel
theorem dX6_cowsGoAstray_29 : decode cX6_cowsGoAstray 29 = .ok (.iaload, 1) := by decide +kernel
theorem dX6_cowsGoAstray_30 : decode cX6_cowsGoAstray 30 = .ok (.aload_n 0, 1) := by decide +kernel
theorem dX6_cowsGoAstray_31 : decode cX6_cowsGoAstray 31 = .ok (.invokevirtual 73, 3) := by decide +kernel
theorem dX6_cowsGoAstray_34 : decode cX6_cowsGoAstray 34 = .ok (.invokevirtual 77, 3) := by decide +kernel
theorem dX6_cowsGoAstray_37 : decode cX6_cowsGoAstray 37 = .ok (.istore_n 2, 1) := by decide +kernel
theorem dX6_cowsGoAstray_38 : decode cX6_cowsGoAstray 38 = .ok (.aload_n 0, 1) := by decide +kernel
theorem dX6_cowsGoAstray_39 : decode cX6_cowsGoAstray 39 = .ok (.getfield 9, 3) := by decide +kernel
theorem dX6_cowsGoAstray_42 : decode cX6_cowsGoAstray 42 = .ok (.iload_n 1, 1) := by decide +kernel
theorem dX6_cowsGoAstray_43 : decode cX6_cowsGoAstray 43 = .ok (.iload_n 2, 1) := by decide +kernel
theorem dX6_cowsGoAstray_44 : decode cX6_cowsGoAstray 44 = .ok (.iconst (-1), 1) := by decide +kernel
theorem dX6_cowsGoAstray_45 : decode cX6_cowsGoAstray 45 = .ok (.if_icmp .ne 12, 3) := by decide +kernel
theorem dX6_cowsGoAstray_48 : decode cX6_cowsGoAstray 48 = .ok (.aload_n 0, 1) := by decide +kernel
theorem dX6_cowsGoAstray_49 : decode cX6_cowsGoAstray 49 = .ok (.getfield 9, 3) := by decide +kernel
theorem dX6_cowsGoAstray_52 : decode cX6_cowsGoAstray 52 = .ok (.iload_n 1, 1) := by decide +kernel
theorem dX6_cowsGoAstray_53 : decode cX6_cowsGoAstray 53 = .ok (.iaload, 1) := by decide +kernel
theorem dX6_cowsGoAstray_54 : decode cX6_cowsGoAstray 54 = .ok (.goto 4, 3) := by decide +kernel
theorem dX6_cowsGoAstray_57 : decode cX6_cowsGoAstray 57 = .ok (.iload_n 2, 1) := by decide +kernel
theorem dX6_cowsGoAstray_58 : decode cX6_cowsGoAstray 58 = .ok (.iastore, 1) := by decide +kernel
theorem dX6_cowsGoAstray_59 : decode cX6_cowsGoAstray 59 = .ok (.iinc 1 1, 3) := by decide +kernel
theorem dX6_cowsGoAstray_62 : decode cX6_cowsGoAstray 62 = .ok (.goto (-60), 3) := by decide +kernel
theorem dX6_cowsGoAstray_65 : decode cX6_cowsGoAstray 65 = .ok (.return_, 1) := by decide +kernel
theorem dX6_drawOfACow_0 : decode cX6_drawOfACow 0 = .ok (.aload_n 0, 1) := by decide +kernel
theorem dX6_drawOfACow_1 : decode cX6_drawOfACow 1 = .ok (.ldc2_w 80, 3) := by decide +kernel
theorem dX6_drawOfACow_4 : decode cX6_drawOfACow 4 = .ok (.aload_n 0, 1) := by decide +kernel
theorem dX6_drawOfACow_5 : decode cX6_drawOfACow 5 = .ok (.getfield 29, 3) := by decide +kernel
theorem dX6_drawOfACow_8 : decode cX6_drawOfACow 8 = .ok (.lmul, 1) := by decide +kernel
theorem dX6_drawOfACow_9 : decode cX6_drawOfACow 9 = .ok (.ldc2_w 82, 3) := by decide +kernel
theorem dX6_drawOfACow_12 : decode cX6_drawOfACow 12 = .ok (.ladd, 1) := by decide +kernel
theorem dX6_drawOfACow_13 : decode cX6_drawOfACow 13 = .ok (.ldc2_w 84, 3) := by decide +kernel
theorem dX6_drawOfACow_16 : decode cX6_drawOfACow 16 = .ok (.land, 1) := by decide +kernel
theorem dX6_drawOfACow_17 : decode cX6_drawOfACow 17 = .ok (.putfield 29, 3) := by decide +kernel
theorem dX6_drawOfACow_20 : decode cX6_drawOfACow 20 = .ok (.aload_n 0, 1) := by decide +kernel
theorem dX6_drawOfACow_21 : decode cX6_drawOfACow 21 = .ok (.getfield 29, 3) := by decide +kernel
theorem dX6_drawOfACow_24 : decode cX6_drawOfACow 24 = .ok (.ldc2_w 86, 3) := by decide +kernel
theorem dX6_drawOfACow_27 : decode cX6_drawOfACow 27 = .ok (.ldiv, 1) := by decide +kernel
theorem dX6_drawOfACow_28 : decode cX6_drawOfACow 28 = .ok (.ldc2_w 88, 3) := by decide +kernel
theorem dX6_drawOfACow_31 : decode cX6_drawOfACow 31 = .ok (.lrem, 1) := by decide +kernel
theorem dX6_drawOfACow_32 : decode cX6_drawOfACow 32 = .ok (.l2i, 1) := by decide +kernel
theorem dX6_drawOfACow_33 : decode cX6_drawOfACow 33 = .ok (.ireturn, 1) := by decide +kernel
theorem dX7_init_0 : decode cX7_init 0 = .ok (.aload_n 0, 1) := by decide +kernel
theorem dX7_init_1 : decode cX7_init 1 = .ok (.invokespecial 3, 3) := by decide +kernel
theorem dX7_init_4 : decode cX7_init 4 = .ok (.aload_n 0, 1) := by decide +kernel
theorem dX7_init_5 : decode cX7_init 5 = .ok (.iconst 5, 1) := by decide +kernel
theorem dX7_init_6 : decode cX7_init 6 = .ok (.newarray .int, 2) := by decide +kernel
theorem dX7_init_8 : decode cX7_init 8 = .ok (.putfield 11, 3) := by decide +kernel
theorem dX7_init_11 : decode cX7_init 11 = .ok (.aload_n 0, 1) := by decide +kernel
theorem dX7_init_12 : decode cX7_init 12 = .ok (.bipush 30, 2) := by decide +kernel
theorem dX7_init_14 : decode cX7_init 14 = .ok (.newarray .int, 2) := by decide +kernel
theorem dX7_init_16 : decode cX7_init 16 = .ok (.putfield 15, 3) := by decide +kernel
theorem dX7_init_19 : decode cX7_init 19 = .ok (.aload_n 0, 1) := by decide +kernel
theorem dX7_init_20 : decode cX7_init 20 = .ok (.aload_n 1, 1) := by decide +kernel
theorem dX7_init_21 : decode cX7_init 21 = .ok (.putfield 18, 3) := by decide +kernel
theorem dX7_init_24 : decode cX7_init 24 = .ok (.aload_n 0, 1) := by decide +kernel
theorem dX7_init_25 : decode cX7_init 25 = .ok (.aload_n 2, 1) := by decide +kernel
theorem dX7_init_26 : decode cX7_init 26 = .ok (.putfield 22, 3) := by decide +kernel
theorem dX7_init_29 : decode cX7_init 29 = .ok (.aload_n 0, 1) := by decide +kernel
theorem dX7_init_30 : decode cX7_init 30 = .ok (.aload_n 3, 1) := by decide +kernel
theorem dX7_init_31 : decode cX7_init 31 = .ok (.putfield 26, 3) := by decide +kernel
theorem dX7_init_34 : decode cX7_init 34 = .ok (.return_, 1) := by decide +kernel
theorem dX7_found_0 : decode cX7_found 0 = .ok (.iload_n 1, 1) := by decide +kernel
theorem dX7_found_1 : decode cX7_found 1 = .ok (.ifCond .lt 17, 3) := by decide +kernel
theorem dX7_found_4 : decode cX7_found 4 = .ok (.iload_n 1, 1) := by decide +kernel
theorem dX7_found_5 : decode cX7_found 5 = .ok (.iconst 5, 1) := by decide +kernel
theorem dX7_found_6 : decode cX7_found 6 = .ok (.if_icmp .ge 12, 3) := by decide +kernel
theorem dX7_found_9 : decode cX7_found 9 = .ok (.aload_n 0, 1) := by decide +kernel
theorem dX7_found_10 : decode cX7_found 10 = .ok (.getfield 11, 3) := by decide +kernel
theorem dX7_found_13 : decode cX7_found 13 = .ok (.iload_n 1, 1) := by decide +kernel
theorem dX7_found_14 : decode cX7_found 14 = .ok (.iaload, 1) := by decide +kernel
theorem dX7_found_15 : decode cX7_found 15 = .ok (.goto 4, 3) := by decide +kernel
theorem dX7_found_18 : decode cX7_found 18 = .ok (.iconst (-1), 1) := by decide +kernel
theorem dX7_found_19 : decode cX7_found 19 = .ok (.ireturn, 1) := by decide +kernel
theorem dX7_search_0 : decode cX7_search 0 = .ok (.aload_n 0, 1) := by decide +kernel
theorem dX7_search_1 : decode cX7_search 1 = .ok (.getfield 26, 3) := by decide +kernel
theorem dX7_search_4 : decode cX7_search 4 = .ok (.invokevirtual 30, 3) := by decide +kernel
theorem dX7_search_7 : decode cX7_search 7 = .ok (.aload_n 0, 1) := by decide +kernel
theorem dX7_search_8 : decode cX7_search 8 = .ok (.invokevirtual 35, 3) := by decide +kernel
theorem dX7_search_11 : decode cX7_search 11 = .ok (.iconst 0, 1) := by decide +kernel
theorem dX7_search_12 : decode cX7_search 12 = .ok (.istore_n 1, 1) := by decide +kernel
theorem dX7_search_13 : decode cX7_search 13 = .ok (.iload_n 1, 1) := by decide +kernel
theorem dX7_search_14 : decode cX7_search 14 = .ok (.iconst 5, 1) := by decide +kernel
theorem dX7_search_15 : decode cX7_search 15 = .ok (.if_icmp .ge 16, 3) := by decide +kernel
theorem dX7_search_18 : decode cX7_search 18 = .ok (.aload_n 0, 1) := by decide +kernel
theorem dX7_search_19 : decode cX7_search 19 = .ok (.getfield 11, 3) := by decide +kernel
theorem dX7_search_22 : decode cX7_search 22 = .ok (.iload_n 1, 1) := by decide +kernel
theorem dX7_search_23 : decode cX7_search 23 = .ok (.iconst (-1), 1) := by decide +kernel
theorem dX7_search_24 : decode cX7_search 24 = .ok (.iastore, 1) := by decide +kernel
theorem dX7_search_25 : decode cX7_search 25 = .ok (.iinc 1 1, 3) := by decide +kernel
theorem dX7_search_28 : decode cX7_search 28 = .ok (.goto (-15), 3) := by decide +kernel
theorem dX7_search_31 : decode cX7_search 31 = .ok (.iconst 0, 1) := by decide +kernel
theorem dX7_search_32 : decode cX7_search 32 = .ok (.istore_n 1, 1) := by decide +kernel
theorem dX7_search_33 : decode cX7_search 33 = .ok (.iload_n 1, 1) := by decide +kernel
theorem dX7_search_34 : decode cX7_search 34 = .ok (.iconst 2, 1) := by decide +kernel
theorem dX7_search_35 : decode cX7_search 35 = .ok (.if_icmp .gt 29, 3) := by decide +kernel
theorem dX7_search_38 : decode cX7_search 38 = .ok (.aload_n 0, 1) := by decide +kernel
theorem dX7_search_39 : decode cX7_search 39 = .ok (.iload_n 1, 1) := by decide +kernel
theorem dX7_search_40 : decode cX7_search 40 = .ok (.iconst 0, 1) := by decide +kernel
theorem dX7_search_41 : decode cX7_search 41 = .ok (.iconst 0, 1) := by decide +kernel
theorem dX7_search_42 : decode cX7_search 42 = .ok (.iconst 0, 1) := by decide +kernel
theorem dX7_search_43 : decode cX7_search 43 = .ok (.iconst 0, 1) := by decide +kernel
theorem dX7_search_44 : decode cX7_search 44 = .ok (.invokevirtual 38, 3) := by decide +kernel
theorem dX7_search_47 : decode cX7_search 47 = .ok (.ifCond .eq 11, 3) := by decide +kernel
theorem dX7_search_50 : decode cX7_search 50 = .ok (.aload_n 0, 1) := by decide +kernel
theorem dX7_search_51 : decode cX7_search 51 = .ok (.getfield 11, 3) := by decide +kernel
theorem dX7_search_54 : decode cX7_search 54 = .ok (.iconst 0, 1) := by decide +kernel
theorem dX7_search_55 : decode cX7_search 55 = .ok (.iload_n 1, 1) := by decide +kernel
theorem dX7_search_56 : decode cX7_search 56 = .ok (.iastore, 1) := by decide +kernel
theorem dX7_search_57 : decode cX7_search 57 = .ok (.return_, 1) := by decide +kernel
theorem dX7_search_58 : decode cX7_search 58 = .ok (.iinc 1 1, 3) := by decide +kernel
theorem dX7_search_61 : decode cX7_search 61 = .ok (.goto (-28), 3) := by decide +kernel
theorem dX7_search_64 : decode cX7_search 64 = .ok (.return_, 1) := by decide +kernel
theorem dX7_movesKeepDry_0 : decode cX7_movesKeepDry 0 = .ok (.iload_n 2, 1) := by decide +kernel
theorem dX7_movesKeepDry_1 : decode cX7_movesKeepDry 1 = .ok (.iload_n 1, 1) := by decide +kernel
theorem dX7_movesKeepDry_2 : decode cX7_movesKeepDry 2 = .ok (.if_icmp .lt 12, 3) := by decide +kernel
theorem dX7_movesKeepDry_5 : decode cX7_movesKeepDry 5 = .ok (.aload_n 0, 1) := by decide +kernel
theorem dX7_movesKeepDry_6 : decode cX7_movesKeepDry 6 = .ok (.iload 4, 2) := by decide +kernel
theorem dX7_movesKeepDry_8 : decode cX7_movesKeepDry 8 = .ok (.iload 5, 2) := by decide +kernel
theorem dX7_movesKeepDry_10 : decode cX7_movesKeepDry 10 = .ok (.invokevirtual 42, 3) := by decide +kernel
theorem dX7_movesKeepDry_13 : decode cX7_movesKeepDry 13 = .ok (.ireturn, 1) := by decide +kernel
theorem dX7_movesKeepDry_14 : decode cX7_movesKeepDry 14 = .ok (.iload_n 3, 1) := by decide +kernel
theorem dX7_movesKeepDry_15 : decode cX7_movesKeepDry 15 = .ok (.istore 6, 2) := by decide +kernel
theorem dX7_movesKeepDry_17 : decode cX7_movesKeepDry 17 = .ok (.iload 6, 2) := by decide +kernel
theorem dX7_movesKeepDry_19 : decode cX7_movesKeepDry 19 = .ok (.aload_n 0, 1) := by decide +kernel
theorem dX7_movesKeepDry_20 : decode cX7_movesKeepDry 20 = .ok (.getfield 22, 3) := by decide +kernel
theorem dX7_movesKeepDry_23 : decode cX7_movesKeepDry 23 = .ok (.invokevirtual 46, 3) := by decide +kernel
theorem dX7_movesKeepDry_26 : decode cX7_movesKeepDry 26 = .ok (.if_icmp .ge 39, 3) := by decide +kernel
theorem dX7_movesKeepDry_29 : decode cX7_movesKeepDry 29 = .ok (.aload_n 0, 1) := by decide +kernel
theorem dX7_movesKeepDry_30 : decode cX7_movesKeepDry 30 = .ok (.getfield 22, 3) := by decide +kernel
theorem dX7_movesKeepDry_33 : decode cX7_movesKeepDry 33 = .ok (.iload 6, 2) := by decide +kernel
theorem dX7_movesKeepDry_35 : decode cX7_movesKeepDry 35 = .ok (.iconst 1, 1) := by decide +kernel
theorem dX7_movesKeepDry_36 : decode cX7_movesKeepDry 36 = .ok (.invokevirtual 52, 3) := by decide +kernel
theorem dX7_movesKeepDry_39 : decode cX7_movesKeepDry 39 = .ok (.ifCond .eq 20, 3) := by decide +kernel
theorem dX7_movesKeepDry_42 : decode cX7_movesKeepDry 42 = .ok (.aload_n 0, 1) := by decide +kernel
theorem dX7_movesKeepDry_43 : decode cX7_movesKeepDry 43 = .ok (.iload 6, 2) := by decide +kernel
theorem dX7_movesKeepDry_45 : decode cX7_movesKeepDry 45 = .ok (.iload_n 1, 1) := by decide +kernel
theorem dX7_movesKeepDry_46 : decode cX7_movesKeepDry 46 = .ok (.iload_n 2, 1) := by decide +kernel
theorem dX7_movesKeepDry_47 : decode cX7_movesKeepDry 47 = .ok (.iload 4, 2) := by decide +kernel
theorem dX7_movesKeepDry_49 : decode cX7_movesKeepDry 49 = .ok (.iload 5, 2) := by decide +kernel
theorem dX7_movesKeepDry_51 : decode cX7_movesKeepDry 51 = .ok (.invokevirtual 55, 3) := by decide +kernel
theorem dX7_movesKeepDry_54 : decode cX7_movesKeepDry 54 = .ok (.ifCond .eq 5, 3) := by decide +kernel
theorem dX7_movesKeepDry_57 : decode cX7_movesKeepDry 57 = .ok (.iconst 1, 1) := by decide +kernel
theorem dX7_movesKeepDry_58 : decode cX7_movesKeepDry 58 = .ok (.ireturn, 1) := by decide +kernel
theorem dX7_movesKeepDry_59 : decode cX7_movesKeepDry 59 = .ok (.iinc 6 1, 3) := by decide +kernel
theorem dX7_movesKeepDry_62 : decode cX7_movesKeepDry 62 = .ok (.goto (-45), 3) := by decide +kernel
theorem dX7_movesKeepDry_65 : decode cX7_movesKeepDry 65 = .ok (.iconst 0, 1) := by decide +kernel
theorem dX7_movesKeepDry_66 : decode cX7_movesKeepDry 66 = .ok (.ireturn, 1) := by decide +kernel
theorem dX7_moveOfKeepsDry_0 : decode cX7_moveOfKeepsDry 0 = .ok (.aload_n 0, 1) := by decide +kernel
theorem dX7_moveOfKeepsDry_1 : decode cX7_moveOfKeepsDry 1 = .ok (.getfield 22, 3) := by decide +kernel
theorem dX7_moveOfKeepsDry_4 : decode cX7_moveOfKeepsDry 4 = .ok (.iload_n 1, 1) := by decide +kernel
theorem dX7_moveOfKeepsDry_5 : decode cX7_moveOfKeepsDry 5 = .ok (.iconst 0, 1) := by decide +kernel
theorem dX7_moveOfKeepsDry_6 : decode cX7_moveOfKeepsDry 6 = .ok (.invokevirtual 58, 3) := by decide +kernel
theorem dX7_moveOfKeepsDry_9 : decode cX7_moveOfKeepsDry 9 = .ok (.istore 6, 2) := by decide +kernel
theorem dX7_moveOfKeepsDry_11 : decode cX7_moveOfKeepsDry 11 = .ok (.aload_n 0, 1) := by decide +kernel
theorem dX7_moveOfKeepsDry_12 : decode cX7_moveOfKeepsDry 12 = .ok (.getfield 22, 3) := by decide +kernel
theorem dX7_moveOfKeepsDry_15 : decode cX7_moveOfKeepsDry 15 = .ok (.iload_n 1, 1) := by decide +kernel
theorem dX7_moveOfKeepsDry_16 : decode cX7_moveOfKeepsDry 16 = .ok (.invokevirtual 62, 3) := by decide +kernel
theorem dX7_moveOfKeepsDry_19 : decode cX7_moveOfKeepsDry 19 = .ok (.istore 7, 2) := by decide +kernel
theorem dX7_moveOfKeepsDry_21 : decode cX7_moveOfKeepsDry 21 = .ok (.iload 4, 2) := by decide +kernel
theorem dX7_moveOfKeepsDry_23 : decode cX7_moveOfKeepsDry 23 = .ok (.iload 7, 2) := by decide +kernel
theorem dX7_moveOfKeepsDry_25 : decode cX7_moveOfKeepsDry 25 = .ok (.aload_n 0, 1) := by decide +kernel
theorem dX7_moveOfKeepsDry_26 : decode cX7_moveOfKeepsDry 26 = .ok (.getfield 18, 3) := by decide +kernel
theorem dX7_moveOfKeepsDry_29 : decode cX7_moveOfKeepsDry 29 = .ok (.iload 6, 2) := by decide +kernel
theorem dX7_moveOfKeepsDry_31 : decode cX7_moveOfKeepsDry 31 = .ok (.invokevirtual 66, 3) := by decide +kernel
theorem dX7_moveOfKeepsDry_34 : decode cX7_moveOfKeepsDry 34 = .ok (.imul, 1) := by decide +kernel
theorem dX7_moveOfKeepsDry_35 : decode cX7_moveOfKeepsDry 35 = .ok (.isub, 1) := by decide +kernel
theorem dX7_moveOfKeepsDry_36 : decode cX7_moveOfKeepsDry 36 = .ok (.istore 8, 2) := by decide +kernel
theorem dX7_moveOfKeepsDry_38 : decode cX7_moveOfKeepsDry 38 = .ok (.iload 5, 2) := by decide +kernel
theorem dX7_moveOfKeepsDry_40 : decode cX7_moveOfKeepsDry 40 = .ok (.iload 7, 2) := by decide +kernel
theorem dX7_moveOfKeepsDry_42 : decode cX7_moveOfKeepsDry 42 = .ok (.aload_n 0, 1) := by decide +kernel
theorem dX7_moveOfKeepsDry_43 : decode cX7_moveOfKeepsDry 43 = .ok (.getfield 18, 3) := by decide +kernel
theorem dX7_moveOfKeepsDry_46 : decode cX7_moveOfKeepsDry 46 = .ok (.iload 6, 2) := by decide +kernel
theorem dX7_moveOfKeepsDry_48 : decode cX7_moveOfKeepsDry 48 = .ok (.invokevirtual 71, 3) := by decide +kernel
theorem dX7_moveOfKeepsDry_51 : decode cX7_moveOfKeepsDry 51 = .ok (.imul, 1) := by decide +kernel
theorem dX7_moveOfKeepsDry_52 : decode cX7_moveOfKeepsDry 52 = .ok (.isub, 1) := by decide +kernel
theorem dX7_moveOfKeepsDry_53 : decode cX7_moveOfKeepsDry 53 = .ok (.istore 9, 2) := by decide +kernel
theorem dX7_moveOfKeepsDry_55 : decode cX7_moveOfKeepsDry 55 = .ok (.iconst 0, 1) := by decide +kernel
theorem dX7_moveOfKeepsDry_56 : decode cX7_moveOfKeepsDry 56 = .ok (.istore 10, 2) := by decide +kernel
theorem dX7_moveOfKeepsDry_58 : decode cX7_moveOfKeepsDry 58 = .ok (.iload 10, 2) := by decide +kernel
theorem dX7_moveOfKeepsDry_60 : decode cX7_moveOfKeepsDry 60 = .ok (.aload_n 0, 1) := by decide +kernel
theorem dX7_moveOfKeepsDry_61 : decode cX7_moveOfKeepsDry 61 = .ok (.getfield 18, 3) := by decide +kernel
theorem dX7_moveOfKeepsDry_64 : decode cX7_moveOfKeepsDry 64 = .ok (.invokevirtual 74, 3) := by decide +kernel
theorem dX7_moveOfKeepsDry_67 : decode cX7_moveOfKeepsDry 67 = .ok (.if_icmp .ge 70, 3) := by decide +kernel
theorem dX7_moveOfKeepsDry_70 : decode cX7_moveOfKeepsDry 70 = .ok (.iload 10, 2) := by decide +kernel
theorem dX7_moveOfKeepsDry_72 : decode cX7_moveOfKeepsDry 72 = .ok (.iload 6, 2) := by decide +kernel
theorem dX7_moveOfKeepsDry_74 : decode cX7_moveOfKeepsDry 74 = .ok (.if_icmp .eq 57, 3) := by decide +kernel
theorem dX7_moveOfKeepsDry_77 : decode cX7_moveOfKeepsDry 77 = .ok (.aload_n 0, 1) := by decide +kernel
theorem dX7_moveOfKeepsDry_78 : decode cX7_moveOfKeepsDry 78 = .ok (.iload_n 2, 1) := by decide +kernel
theorem dX7_moveOfKeepsDry_79 : decode cX7_moveOfKeepsDry 79 = .ok (.iload_n 3, 1) := by decide +kernel
theorem dX7_moveOfKeepsDry_80 : decode cX7_moveOfKeepsDry 80 = .ok (.iconst 1, 1) := by decide +kernel
theorem dX7_moveOfKeepsDry_81 : decode cX7_moveOfKeepsDry 81 = .ok (.iadd, 1) := by decide +kernel
theorem dX7_moveOfKeepsDry_82 : decode cX7_moveOfKeepsDry 82 = .ok (.iload_n 1, 1) := by decide +kernel
theorem dX7_moveOfKeepsDry_83 : decode cX7_moveOfKeepsDry 83 = .ok (.iconst 1, 1) := by decide +kernel
theorem dX7_moveOfKeepsDry_84 : decode cX7_moveOfKeepsDry 84 = .ok (.iadd, 1) := by decide +kernel
theorem dX7_moveOfKeepsDry_85 : decode cX7_moveOfKeepsDry 85 = .ok (.iload 8, 2) := by decide +kernel
theorem dX7_moveOfKeepsDry_87 : decode cX7_moveOfKeepsDry 87 = .ok (.iload 7, 2) := by decide +kernel
theorem dX7_moveOfKeepsDry_89 : decode cX7_moveOfKeepsDry 89 = .ok (.aload_n 0, 1) := by decide +kernel
theorem dX7_moveOfKeepsDry_90 : decode cX7_moveOfKeepsDry 90 = .ok (.getfield 18, 3) := by decide +kernel
theorem dX7_moveOfKeepsDry_93 : decode cX7_moveOfKeepsDry 93 = .ok (.iload 10, 2) := by decide +kernel
theorem dX7_moveOfKeepsDry_95 : decode cX7_moveOfKeepsDry 95 = .ok (.invokevirtual 66, 3) := by decide +kernel
theorem dX7_moveOfKeepsDry_98 : decode cX7_moveOfKeepsDry 98 = .ok (.imul, 1) := by decide +kernel
theorem dX7_moveOfKeepsDry_99 : decode cX7_moveOfKeepsDry 99 = .ok (.iadd, 1) := by decide +kernel
theorem dX7_moveOfKeepsDry_100 : decode cX7_moveOfKeepsDry 100 = .ok (.iload 9, 2) := by decide +kernel
theorem dX7_moveOfKeepsDry_102 : decode cX7_moveOfKeepsDry 102 = .ok (.iload 7, 2) := by decide +kernel
theorem dX7_moveOfKeepsDry_104 : decode cX7_moveOfKeepsDry 104 = .ok (.aload_n 0, 1) := by decide +kernel
theorem dX7_moveOfKeepsDry_105 : decode cX7_moveOfKeepsDry 105 = .ok (.getfield 18, 3) := by decide +kernel
theorem dX7_moveOfKeepsDry_108 : decode cX7_moveOfKeepsDry 108 = .ok (.iload 10, 2) := by decide +kernel
theorem dX7_moveOfKeepsDry_110 : decode cX7_moveOfKeepsDry 110 = .ok (.invokevirtual 71, 3) := by decide +kernel
theorem dX7_moveOfKeepsDry_113 : decode cX7_moveOfKeepsDry 113 = .ok (.imul, 1) := by decide +kernel
theorem dX7_moveOfKeepsDry_114 : decode cX7_moveOfKeepsDry 114 = .ok (.iadd, 1) := by decide +kernel
theorem dX7_moveOfKeepsDry_115 : decode cX7_moveOfKeepsDry 115 = .ok (.invokevirtual 38, 3) := by decide +kernel
theorem dX7_moveOfKeepsDry_118 : decode cX7_moveOfKeepsDry 118 = .ok (.ifCond .eq 13, 3) := by decide +kernel
theorem dX7_moveOfKeepsDry_121 : decode cX7_moveOfKeepsDry 121 = .ok (.aload_n 0, 1) := by decide +kernel
theorem dX7_moveOfKeepsDry_122 : decode cX7_moveOfKeepsDry 122 = .ok (.iload_n 3, 1) := by decide +kernel
theorem dX7_moveOfKeepsDry_123 : decode cX7_moveOfKeepsDry 123 = .ok (.iload_n 1, 1) := by decide +kernel
theorem dX7_moveOfKeepsDry_124 : decode cX7_moveOfKeepsDry 124 = .ok (.iload 10, 2) := by decide +kernel
theorem dX7_moveOfKeepsDry_126 : decode cX7_moveOfKeepsDry 126 = .ok (.invokevirtual 77, 3) := by decide +kernel
theorem dX7_moveOfKeepsDry_129 : decode cX7_moveOfKeepsDry 129 = .ok (.iconst 1, 1) := by decide +kernel
theorem dX7_moveOfKeepsDry_130 : decode cX7_moveOfKeepsDry 130 = .ok (.ireturn, 1) := by decide +kernel
theorem dX7_moveOfKeepsDry_131 : decode cX7_moveOfKeepsDry 131 = .ok (.iinc 10 1, 3) := by decide +kernel
theorem dX7_moveOfKeepsDry_134 : decode cX7_moveOfKeepsDry 134 = .ok (.goto (-76), 3) := by decide +kernel
theorem dX7_moveOfKeepsDry_137 : decode cX7_moveOfKeepsDry 137 = .ok (.iconst 0, 1) := by decide +kernel
theorem dX7_moveOfKeepsDry_138 : decode cX7_moveOfKeepsDry 138 = .ok (.ireturn, 1) := by decide +kernel
theorem dX7_keepMove_0 : decode cX7_keepMove 0 = .ok (.iconst 1, 1) := by decide +kernel
theorem dX7_keepMove_1 : decode cX7_keepMove 1 = .ok (.iconst 2, 1) := by decide +kernel
theorem dX7_keepMove_2 : decode cX7_keepMove 2 = .ok (.iload_n 1, 1) := by decide +kernel
theorem dX7_keepMove_3 : decode cX7_keepMove 3 = .ok (.imul, 1) := by decide +kernel
theorem dX7_keepMove_4 : decode cX7_keepMove 4 = .ok (.iadd, 1) := by decide +kernel
theorem dX7_keepMove_5 : decode cX7_keepMove 5 = .ok (.istore 4, 2) := by decide +kernel
theorem dX7_keepMove_7 : decode cX7_keepMove 7 = .ok (.iload 4, 2) := by decide +kernel
theorem dX7_keepMove_9 : decode cX7_keepMove 9 = .ok (.iconst 1, 1) := by decide +kernel
theorem dX7_keepMove_10 : decode cX7_keepMove 10 = .ok (.if_icmp .lt 29, 3) := by decide +kernel
theorem dX7_keepMove_13 : decode cX7_keepMove 13 = .ok (.iload 4, 2) := by decide +kernel
theorem dX7_keepMove_15 : decode cX7_keepMove 15 = .ok (.iconst 1, 1) := by decide +kernel
theorem dX7_keepMove_16 : decode cX7_keepMove 16 = .ok (.iadd, 1) := by decide +kernel
theorem dX7_keepMove_17 : decode cX7_keepMove 17 = .ok (.iconst 5, 1) := by decide +kernel
theorem dX7_keepMove_18 : decode cX7_keepMove 18 = .ok (.if_icmp .ge 21, 3) := by decide +kernel
theorem dX7_keepMove_21 : decode cX7_keepMove 21 = .ok (.aload_n 0, 1) := by decide +kernel
theorem dX7_keepMove_22 : decode cX7_keepMove 22 = .ok (.getfield 11, 3) := by decide +kernel
theorem dX7_keepMove_25 : decode cX7_keepMove 25 = .ok (.iload 4, 2) := by decide +kernel
theorem dX7_keepMove_27 : decode cX7_keepMove 27 = .ok (.iload_n 2, 1) := by decide +kernel
theorem dX7_keepMove_28 : decode cX7_keepMove 28 = .ok (.iastore, 1) := by decide +kernel
theorem dX7_keepMove_29 : decode cX7_keepMove 29 = .ok (.aload_n 0, 1) := by decide +kernel
theorem dX7_keepMove_30 : decode cX7_keepMove 30 = .ok (.getfield 11, 3) := by decide +kernel
theorem dX7_keepMove_33 : decode cX7_keepMove 33 = .ok (.iload 4, 2) := by decide +kernel
theorem dX7_keepMove_35 : decode cX7_keepMove 35 = .ok (.iconst 1, 1) := by decide +kernel
theorem dX7_keepMove_36 : decode cX7_keepMove 36 = .ok (.iadd, 1) := by decide +kernel
theorem dX7_keepMove_37 : decode cX7_keepMove 37 = .ok (.iload_n 3, 1) := by decide +kernel
theorem dX7_keepMove_38 : decode cX7_keepMove 38 = .ok (.iastore, 1) := by decide +kernel
theorem dX7_keepMove_39 : decode cX7_keepMove 39 = .ok (.return_, 1) := by decide +kernel
theorem dX7_wetYear_0 : decode cX7_wetYear 0 = .ok (.aload_n 0, 1) := by decide +kernel
theorem dX7_wetYear_1 : decode cX7_wetYear 1 = .ok (.getfield 26, 3) := by decide +kernel
theorem dX7_wetYear_4 : decode cX7_wetYear 4 = .ok (.invokevirtual 30, 3) := by decide +kernel
theorem dX7_wetYear_7 : decode cX7_wetYear 7 = .ok (.aload_n 0, 1) := by decide +kernel
theorem dX7_wetYear_8 : decode cX7_wetYear 8 = .ok (.invokevirtual 35, 3) := by decide +kernel
theorem dX7_wetYear_11 : decode cX7_wetYear 11 = .ok (.iconst 0, 1) := by decide +kernel
theorem dX7_wetYear_12 : decode cX7_wetYear 12 = .ok (.istore_n 1, 1) := by decide +kernel
theorem dX7_wetYear_13 : decode cX7_wetYear 13 = .ok (.iconst 0, 1) := by decide +kernel
theorem dX7_wetYear_14 : decode cX7_wetYear 14 = .ok (.istore_n 2, 1) := by decide +kernel
theorem dX7_wetYear_15 : decode cX7_wetYear 15 = .ok (.iconst 0, 1) := by decide +kernel
theorem dX7_wetYear_16 : decode cX7_wetYear 16 = .ok (.istore_n 3, 1) := by decide +kernel
theorem dX7_wetYear_17 : decode cX7_wetYear 17 = .ok (.iload_n 3, 1) := by decide +kernel
theorem dX7_wetYear_18 : decode cX7_wetYear 18 = .ok (.aload_n 0, 1) := by decide +kernel
theorem dX7_wetYear_19 : decode cX7_wetYear 19 = .ok (.getfield 22, 3) := by decide +kernel
theorem dX7_wetYear_22 : decode cX7_wetYear 22 = .ok (.invokevirtual 46, 3) := by decide +kernel
theorem dX7_wetYear_25 : decode cX7_wetYear 25 = .ok (.if_icmp .ge 59, 3) := by decide +kernel
theorem dX7_wetYear_28 : decode cX7_wetYear 28 = .ok (.aload_n 0, 1) := by decide +kernel
theorem dX7_wetYear_29 : decode cX7_wetYear 29 = .ok (.getfield 22, 3) := by decide +kernel
theorem dX7_wetYear_32 : decode cX7_wetYear 32 = .ok (.iload_n 3, 1) := by decide +kernel
theorem dX7_wetYear_33 : decode cX7_wetYear 33 = .ok (.iconst 1, 1) := by decide +kernel
theorem dX7_wetYear_34 : decode cX7_wetYear 34 = .ok (.invokevirtual 52, 3) := by decide +kernel
theorem dX7_wetYear_37 : decode cX7_wetYear 37 = .ok (.ifCond .eq 41, 3) := by decide +kernel
theorem dX7_wetYear_40 : decode cX7_wetYear 40 = .ok (.iload_n 1, 1) := by decide +kernel
theorem dX7_wetYear_41 : decode cX7_wetYear 41 = .ok (.aload_n 0, 1) := by decide +kernel
theorem dX7_wetYear_42 : decode cX7_wetYear 42 = .ok (.getfield 18, 3) := by decide +kernel
theorem dX7_wetYear_45 : decode cX7_wetYear 45 = .ok (.aload_n 0, 1) := by decide +kernel
theorem dX7_wetYear_46 : decode cX7_wetYear 46 = .ok (.getfield 22, 3) := by decide +kernel
theorem dX7_wetYear_49 : decode cX7_wetYear 49 = .ok (.iload_n 3, 1) := by decide +kernel
theorem dX7_wetYear_50 : decode cX7_wetYear 50 = .ok (.iconst 0, 1) := by decide +kernel
theorem dX7_wetYear_51 : decode cX7_wetYear 51 = .ok (.invokevirtual 58, 3) := by decide +kernel
theorem dX7_wetYear_54 : decode cX7_wetYear 54 = .ok (.invokevirtual 66, 3) := by decide +kernel
theorem dX7_wetYear_57 : decode cX7_wetYear 57 = .ok (.iadd, 1) := by decide +kernel
theorem dX7_wetYear_58 : decode cX7_wetYear 58 = .ok (.istore_n 1, 1) := by decide +kernel
theorem dX7_wetYear_59 : decode cX7_wetYear 59 = .ok (.iload_n 2, 1) := by decide +kernel
theorem dX7_wetYear_60 : decode cX7_wetYear 60 = .ok (.aload_n 0, 1) := by decide +kernel
theorem dX7_wetYear_61 : decode cX7_wetYear 61 = .ok (.getfield 18, 3) := by decide +kernel
theorem dX7_wetYear_64 : decode cX7_wetYear 64 = .ok (.aload_n 0, 1) := by decide +kernel
theorem dX7_wetYear_65 : decode cX7_wetYear 65 = .ok (.getfield 22, 3) := by decide +kernel
theorem dX7_wetYear_68 : decode cX7_wetYear 68 = .ok (.iload_n 3, 1) := by decide +kernel
theorem dX7_wetYear_69 : decode cX7_wetYear 69 = .ok (.iconst 0, 1) := by decide +kernel
theorem dX7_wetYear_70 : decode cX7_wetYear 70 = .ok (.invokevirtual 58, 3) := by decide +kernel
theorem dX7_wetYear_73 : decode cX7_wetYear 73 = .ok (.invokevirtual 71, 3) := by decide +kernel
theorem dX7_wetYear_76 : decode cX7_wetYear 76 = .ok (.iadd, 1) := by decide +kernel
theorem dX7_wetYear_77 : decode cX7_wetYear 77 = .ok (.istore_n 2, 1) := by decide +kernel
theorem dX7_wetYear_78 : decode cX7_wetYear 78 = .ok (.iinc 3 1, 3) := by decide +kernel
theorem dX7_wetYear_81 : decode cX7_wetYear 81 = .ok (.goto (-64), 3) := by decide +kernel
theorem dX7_wetYear_84 : decode cX7_wetYear 84 = .ok (.iconst 0, 1) := by decide +kernel
theorem dX7_wetYear_85 : decode cX7_wetYear 85 = .ok (.istore_n 3, 1) := by decide +kernel
theorem dX7_wetYear_86 : decode cX7_wetYear 86 = .ok (.iload_n 3, 1) := by decide +kernel
theorem dX7_wetYear_87 : decode cX7_wetYear 87 = .ok (.bipush 99, 2) := by decide +kernel
theorem dX7_wetYear_89 : decode cX7_wetYear 89 = .ok (.if_icmp .gt 24, 3) := by decide +kernel
theorem dX7_wetYear_92 : decode cX7_wetYear 92 = .ok (.aload_n 0, 1) := by decide +kernel
theorem dX7_wetYear_93 : decode cX7_wetYear 93 = .ok (.iload_n 3, 1) := by decide +kernel
theorem dX7_wetYear_94 : decode cX7_wetYear 94 = .ok (.iload_n 1, 1) := by decide +kernel
theorem dX7_wetYear_95 : decode cX7_wetYear 95 = .ok (.imul, 1) := by decide +kernel
theorem dX7_wetYear_96 : decode cX7_wetYear 96 = .ok (.iload_n 3, 1) := by decide +kernel
theorem dX7_wetYear_97 : decode cX7_wetYear 97 = .ok (.iload_n 2, 1) := by decide +kernel
theorem dX7_wetYear_98 : decode cX7_wetYear 98 = .ok (.imul, 1) := by decide +kernel
theorem dX7_wetYear_99 : decode cX7_wetYear 99 = .ok (.invokevirtual 42, 3) := by decide +kernel
theorem dX7_wetYear_102 : decode cX7_wetYear 102 = .ok (.ifCond .ne 5, 3) := by decide +kernel
theorem dX7_wetYear_105 : decode cX7_wetYear 105 = .ok (.iload_n 3, 1) := by decide +kernel
theorem dX7_wetYear_106 : decode cX7_wetYear 106 = .ok (.ireturn, 1) := by decide +kernel
theorem dX7_wetYear_107 : decode cX7_wetYear 107 = .ok (.iinc 3 1, 3) := by decide +kernel
theorem dX7_wetYear_110 : decode cX7_wetYear 110 = .ok (.goto (-24), 3) := by decide +kernel
theorem dX7_wetYear_113 : decode cX7_wetYear 113 = .ok (.iconst (-1), 1) := by decide +kernel
theorem dX7_wetYear_114 : decode cX7_wetYear 114 = .ok (.ireturn, 1) := by decide +kernel
theorem dX7_measureRooms_0 : decode cX7_measureRooms 0 = .ok (.aload_n 0, 1) := by decide +kernel
theorem dX7_measureRooms_1 : decode cX7_measureRooms 1 = .ok (.iconst 0, 1) := by decide +kernel
theorem dX7_measureRooms_2 : decode cX7_measureRooms 2 = .ok (.putfield 81, 3) := by decide +kernel
theorem dX7_measureRooms_5 : decode cX7_measureRooms 5 = .ok (.iconst 0, 1) := by decide +kernel
theorem dX7_measureRooms_6 : decode cX7_measureRooms 6 = .ok (.istore_n 1, 1) := by decide +kernel
theorem dX7_measureRooms_7 : decode cX7_measureRooms 7 = .ok (.iload_n 1, 1) := by decide +kernel
theorem dX7_measureRooms_8 : decode cX7_measureRooms 8 = .ok (.bipush 30, 2) := by decide +kernel
theorem dX7_measureRooms_10 : decode cX7_measureRooms 10 = .ok (.if_icmp .ge 46, 3) := by decide +kernel
theorem dX7_measureRooms_13 : decode cX7_measureRooms 13 = .ok (.aload_n 0, 1) := by decide +kernel
theorem dX7_measureRooms_14 : decode cX7_measureRooms 14 = .ok (.getfield 18, 3) := by decide +kernel
theorem dX7_measureRooms_17 : decode cX7_measureRooms 17 = .ok (.iload_n 1, 1) := by decide +kernel
theorem dX7_measureRooms_18 : decode cX7_measureRooms 18 = .ok (.invokevirtual 85, 3) := by decide +kernel
theorem dX7_measureRooms_21 : decode cX7_measureRooms 21 = .ok (.istore_n 2, 1) := by decide +kernel
theorem dX7_measureRooms_22 : decode cX7_measureRooms 22 = .ok (.aload_n 0, 1) := by decide +kernel
theorem dX7_measureRooms_23 : decode cX7_measureRooms 23 = .ok (.getfield 15, 3) := by decide +kernel
theorem dX7_measureRooms_26 : decode cX7_measureRooms 26 = .ok (.iload_n 1, 1) := by decide +kernel
theorem dX7_measureRooms_27 : decode cX7_measureRooms 27 = .ok (.iload_n 2, 1) := by decide +kernel
theorem dX7_measureRooms_28 : decode cX7_measureRooms 28 = .ok (.ifCond .ne 8, 3) := by decide +kernel
theorem dX7_measureRooms_31 : decode cX7_measureRooms 31 = .ok (.ldc 88, 2) := by decide +kernel
theorem dX7_measureRooms_33 : decode cX7_measureRooms 33 = .ok (.goto 16, 3) := by decide +kernel
theorem dX7_measureRooms_36 : decode cX7_measureRooms 36 = .ok (.bipush 50, 2) := by decide +kernel
theorem dX7_measureRooms_38 : decode cX7_measureRooms 38 = .ok (.iload_n 2, 1) := by decide +kernel
theorem dX7_measureRooms_39 : decode cX7_measureRooms 39 = .ok (.imul, 1) := by decide +kernel
theorem dX7_measureRooms_40 : decode cX7_measureRooms 40 = .ok (.aload_n 0, 1) := by decide +kernel
theorem dX7_measureRooms_41 : decode cX7_measureRooms 41 = .ok (.getfield 26, 3) := by decide +kernel
theorem dX7_measureRooms_44 : decode cX7_measureRooms 44 = .ok (.iload_n 1, 1) := by decide +kernel
theorem dX7_measureRooms_45 : decode cX7_measureRooms 45 = .ok (.invokevirtual 89, 3) := by decide +kernel
theorem dX7_measureRooms_48 : decode cX7_measureRooms 48 = .ok (.isub, 1) := by decide +kernel
theorem dX7_measureRooms_49 : decode cX7_measureRooms 49 = .ok (.iastore, 1) := by decide +kernel
theorem dX7_measureRooms_50 : decode cX7_measureRooms 50 = .ok (.iinc 1 1, 3) := by decide +kernel
theorem dX7_measureRooms_53 : decode cX7_measureRooms 53 = .ok (.goto (-46), 3) := by decide +kernel
theorem dX7_measureRooms_56 : decode cX7_measureRooms 56 = .ok (.return_, 1) := by decide +kernel
theorem dX7_isDryWith_0 : decode cX7_isDryWith 0 = .ok (.aload_n 0, 1) := by decide +kernel
theorem dX7_isDryWith_1 : decode cX7_isDryWith 1 = .ok (.aload_n 0, 1) := by decide +kernel
theorem dX7_isDryWith_2 : decode cX7_isDryWith 2 = .ok (.getfield 81, 3) := by decide +kernel
theorem dX7_isDryWith_5 : decode cX7_isDryWith 5 = .ok (.iload_n 1, 1) := by decide +kernel
theorem dX7_isDryWith_6 : decode cX7_isDryWith 6 = .ok (.iload_n 2, 1) := by decide +kernel
theorem dX7_isDryWith_7 : decode cX7_isDryWith 7 = .ok (.invokevirtual 92, 3) := by decide +kernel
theorem dX7_isDryWith_10 : decode cX7_isDryWith 10 = .ok (.ifCond .eq 5, 3) := by decide +kernel
theorem dX7_isDryWith_13 : decode cX7_isDryWith 13 = .ok (.iconst 0, 1) := by decide +kernel
theorem dX7_isDryWith_14 : decode cX7_isDryWith 14 = .ok (.ireturn, 1) := by decide +kernel
theorem dX7_isDryWith_15 : decode cX7_isDryWith 15 = .ok (.iconst 0, 1) := by decide +kernel
theorem dX7_isDryWith_16 : decode cX7_isDryWith 16 = .ok (.istore_n 3, 1) := by decide +kernel
theorem dX7_isDryWith_17 : decode cX7_isDryWith 17 = .ok (.iload_n 3, 1) := by decide +kernel
theorem dX7_isDryWith_18 : decode cX7_isDryWith 18 = .ok (.aload_n 0, 1) := by decide +kernel
theorem dX7_isDryWith_19 : decode cX7_isDryWith 19 = .ok (.getfield 18, 3) := by decide +kernel
theorem dX7_isDryWith_22 : decode cX7_isDryWith 22 = .ok (.invokevirtual 74, 3) := by decide +kernel
theorem dX7_isDryWith_25 : decode cX7_isDryWith 25 = .ok (.if_icmp .ge 26, 3) := by decide +kernel
theorem dX7_isDryWith_28 : decode cX7_isDryWith 28 = .ok (.aload_n 0, 1) := by decide +kernel
theorem dX7_isDryWith_29 : decode cX7_isDryWith 29 = .ok (.iload_n 3, 1) := by decide +kernel
theorem dX7_isDryWith_30 : decode cX7_isDryWith 30 = .ok (.iload_n 1, 1) := by decide +kernel
theorem dX7_isDryWith_31 : decode cX7_isDryWith 31 = .ok (.iload_n 2, 1) := by decide +kernel
theorem dX7_isDryWith_32 : decode cX7_isDryWith 32 = .ok (.invokevirtual 92, 3) := by decide +kernel
theorem dX7_isDryWith_35 : decode cX7_isDryWith 35 = .ok (.ifCond .eq 10, 3) := by decide +kernel
theorem dX7_isDryWith_38 : decode cX7_isDryWith 38 = .ok (.aload_n 0, 1) := by decide +kernel
theorem dX7_isDryWith_39 : decode cX7_isDryWith 39 = .ok (.iload_n 3, 1) := by decide +kernel
theorem dX7_isDryWith_40 : decode cX7_isDryWith 40 = .ok (.putfield 81, 3) := by decide +kernel
theorem dX7_isDryWith_43 : decode cX7_isDryWith 43 = .ok (.iconst 0, 1) := by decide +kernel
theorem dX7_isDryWith_44 : decode cX7_isDryWith 44 = .ok (.ireturn, 1) := by decide +kernel
theorem dX7_isDryWith_45 : decode cX7_isDryWith 45 = .ok (.iinc 3 1, 3) := by decide +kernel
theorem dX7_isDryWith_48 : decode cX7_isDryWith 48 = .ok (.goto (-31), 3) := by decide +kernel
theorem dX7_isDryWith_51 : decode cX7_isDryWith 51 = .ok (.iconst 1, 1) := by decide +kernel
theorem dX7_isDryWith_52 : decode cX7_isDryWith 52 = .ok (.ireturn, 1) := by decide +kernel
theorem dX7_isWetWith_0 : decode cX7_isWetWith 0 = .ok (.aload_n 0, 1) := by decide +kernel
theorem dX7_isWetWith_1 : decode cX7_isWetWith 1 = .ok (.getfield 18, 3) := by decide +kernel
theorem dX7_isWetWith_4 : decode cX7_isWetWith 4 = .ok (.iload_n 1, 1) := by decide +kernel
theorem dX7_isWetWith_5 : decode cX7_isWetWith 5 = .ok (.invokevirtual 96, 3) := by decide +kernel
theorem dX7_isWetWith_8 : decode cX7_isWetWith 8 = .ok (.ifCond .eq 26, 3) := by decide +kernel
theorem dX7_isWetWith_11 : decode cX7_isWetWith 11 = .ok (.aload_n 0, 1) := by decide +kernel
theorem dX7_isWetWith_12 : decode cX7_isWetWith 12 = .ok (.getfield 18, 3) := by decide +kernel
theorem dX7_isWetWith_15 : decode cX7_isWetWith 15 = .ok (.iload_n 1, 1) := by decide +kernel
theorem dX7_isWetWith_16 : decode cX7_isWetWith 16 = .ok (.iload_n 2, 1) := by decide +kernel
theorem dX7_isWetWith_17 : decode cX7_isWetWith 17 = .ok (.iload_n 3, 1) := by decide +kernel
theorem dX7_isWetWith_18 : decode cX7_isWetWith 18 = .ok (.invokevirtual 100, 3) := by decide +kernel
theorem dX7_isWetWith_21 : decode cX7_isWetWith 21 = .ok (.aload_n 0, 1) := by decide +kernel
theorem dX7_isWetWith_22 : decode cX7_isWetWith 22 = .ok (.getfield 15, 3) := by decide +kernel
theorem dX7_isWetWith_25 : decode cX7_isWetWith 25 = .ok (.iload_n 1, 1) := by decide +kernel
theorem dX7_isWetWith_26 : decode cX7_isWetWith 26 = .ok (.iaload, 1) := by decide +kernel
theorem dX7_isWetWith_27 : decode cX7_isWetWith 27 = .ok (.if_icmp .lt 7, 3) := by decide +kernel
theorem dX7_isWetWith_30 : decode cX7_isWetWith 30 = .ok (.iconst 1, 1) := by decide +kernel
theorem dX7_isWetWith_31 : decode cX7_isWetWith 31 = .ok (.goto 4, 3) := by decide +kernel
theorem dX7_isWetWith_34 : decode cX7_isWetWith 34 = .ok (.iconst 0, 1) := by decide +kernel
theorem dX7_isWetWith_35 : decode cX7_isWetWith 35 = .ok (.ireturn, 1) := by decide +kernel
theorem dX8_init_0 : decode cX8_init 0 = .ok (.aload_n 0, 1) := by decide +kernel
theorem dX8_init_1 : decode cX8_init 1 = .ok (.invokespecial 3, 3) := by decide +kernel
theorem dX8_init_4 : decode cX8_init 4 = .ok (.aload_n 0, 1) := by decide +kernel
theorem dX8_init_5 : decode cX8_init 5 = .ok (.bipush 8, 2) := by decide +kernel
theorem dX8_init_7 : decode cX8_init 7 = .ok (.newarray .int, 2) := by decide +kernel
theorem dX8_init_9 : decode cX8_init 9 = .ok (.putfield 9, 3) := by decide +kernel
theorem dX8_init_12 : decode cX8_init 12 = .ok (.aload_n 0, 1) := by decide +kernel
theorem dX8_init_13 : decode cX8_init 13 = .ok (.bipush 8, 2) := by decide +kernel
theorem dX8_init_15 : decode cX8_init 15 = .ok (.newarray .int, 2) := by decide +kernel
theorem dX8_init_17 : decode cX8_init 17 = .ok (.putfield 15, 3) := by decide +kernel
theorem dX8_init_20 : decode cX8_init 20 = .ok (.aload_n 0, 1) := by decide +kernel
theorem dX8_init_21 : decode cX8_init 21 = .ok (.bipush 64, 2) := by decide +kernel
theorem dX8_init_23 : decode cX8_init 23 = .ok (.newarray .int, 2) := by decide +kernel
theorem dX8_init_25 : decode cX8_init 25 = .ok (.putfield 18, 3) := by decide +kernel
theorem dX8_init_28 : decode cX8_init 28 = .ok (.aload_n 0, 1) := by decide +kernel
theorem dX8_init_29 : decode cX8_init 29 = .ok (.bipush 64, 2) := by decide +kernel
theorem dX8_init_31 : decode cX8_init 31 = .ok (.newarray .int, 2) := by decide +kernel
theorem dX8_init_33 : decode cX8_init 33 = .ok (.putfield 21, 3) := by decide +kernel
theorem dX8_init_36 : decode cX8_init 36 = .ok (.aload_n 0, 1) := by decide +kernel
theorem dX8_init_37 : decode cX8_init 37 = .ok (.iconst (-1), 1) := by decide +kernel
theorem dX8_init_38 : decode cX8_init 38 = .ok (.putfield 24, 3) := by decide +kernel
theorem dX8_init_41 : decode cX8_init 41 = .ok (.return_, 1) := by decide +kernel
theorem dX8_clear_0 : decode cX8_clear 0 = .ok (.aload_n 0, 1) := by decide +kernel
theorem dX8_clear_1 : decode cX8_clear 1 = .ok (.iconst 0, 1) := by decide +kernel
theorem dX8_clear_2 : decode cX8_clear 2 = .ok (.putfield 28, 3) := by decide +kernel
theorem dX8_clear_5 : decode cX8_clear 5 = .ok (.aload_n 0, 1) := by decide +kernel
theorem dX8_clear_6 : decode cX8_clear 6 = .ok (.iconst (-1), 1) := by decide +kernel
theorem dX8_clear_7 : decode cX8_clear 7 = .ok (.putfield 24, 3) := by decide +kernel
theorem dX8_clear_10 : decode cX8_clear 10 = .ok (.return_, 1) := by decide +kernel
theorem dX8_size_0 : decode cX8_size 0 = .ok (.aload_n 0, 1) := by decide +kernel
theorem dX8_size_1 : decode cX8_size 1 = .ok (.getfield 28, 3) := by decide +kernel
theorem dX8_size_4 : decode cX8_size 4 = .ok (.ireturn, 1) := by decide +kernel
theorem dX8_has_0 : decode cX8_has 0 = .ok (.iload_n 1, 1) := by decide +kernel
theorem dX8_has_1 : decode cX8_has 1 = .ok (.ifCond .lt 15, 3) := by decide +kernel
theorem dX8_has_4 : decode cX8_has 4 = .ok (.iload_n 1, 1) := by decide +kernel
theorem dX8_has_5 : decode cX8_has 5 = .ok (.aload_n 0, 1) := by decide +kernel
theorem dX8_has_6 : decode cX8_has 6 = .ok (.getfield 28, 3) := by decide +kernel
theorem dX8_has_9 : decode cX8_has 9 = .ok (.if_icmp .ge 7, 3) := by decide +kernel
theorem dX8_has_12 : decode cX8_has 12 = .ok (.iconst 1, 1) := by decide +kernel
theorem dX8_has_13 : decode cX8_has 13 = .ok (.goto 4, 3) := by decide +kernel
theorem dX8_has_16 : decode cX8_has 16 = .ok (.iconst 0, 1) := by decide +kernel
theorem dX8_has_17 : decode cX8_has 17 = .ok (.ireturn, 1) := by decide +kernel
theorem dX8_add_0 : decode cX8_add 0 = .ok (.aload_n 0, 1) := by decide +kernel
theorem dX8_add_1 : decode cX8_add 1 = .ok (.getfield 28, 3) := by decide +kernel
theorem dX8_add_4 : decode cX8_add 4 = .ok (.bipush 8, 2) := by decide +kernel
theorem dX8_add_6 : decode cX8_add 6 = .ok (.if_icmp .lt 6, 3) := by decide +kernel
theorem dX8_add_9 : decode cX8_add 9 = .ok (.bipush (-104), 2) := by decide +kernel
theorem dX8_add_11 : decode cX8_add 11 = .ok (.ireturn, 1) := by decide +kernel
theorem dX8_add_12 : decode cX8_add 12 = .ok (.aload_n 0, 1) := by decide +kernel
theorem dX8_add_13 : decode cX8_add 13 = .ok (.getfield 28, 3) := by decide +kernel
theorem dX8_add_16 : decode cX8_add 16 = .ok (.istore 4, 2) := by decide +kernel
theorem dX8_add_18 : decode cX8_add 18 = .ok (.aload_n 0, 1) := by decide +kernel
theorem dX8_add_19 : decode cX8_add 19 = .ok (.getfield 9, 3) := by decide +kernel
theorem dX8_add_22 : decode cX8_add 22 = .ok (.iload 4, 2) := by decide +kernel
theorem dX8_add_24 : decode cX8_add 24 = .ok (.iload_n 1, 1) := by decide +kernel
theorem dX8_add_25 : decode cX8_add 25 = .ok (.iastore, 1) := by decide +kernel
theorem dX8_add_26 : decode cX8_add 26 = .ok (.aload_n 0, 1) := by decide +kernel
theorem dX8_add_27 : decode cX8_add 27 = .ok (.getfield 15, 3) := by decide +kernel
theorem dX8_add_30 : decode cX8_add 30 = .ok (.iload 4, 2) := by decide +kernel
theorem dX8_add_32 : decode cX8_add 32 = .ok (.iload_n 2, 1) := by decide +kernel
theorem dX8_add_33 : decode cX8_add 33 = .ok (.iastore, 1) := by decide +kernel
theorem dX8_add_34 : decode cX8_add 34 = .ok (.aload_n 0, 1) := by decide +kernel
theorem dX8_add_35 : decode cX8_add 35 = .ok (.dup, 1) := by decide +kernel
theorem dX8_add_36 : decode cX8_add 36 = .ok (.getfield 28, 3) := by decide +kernel
theorem dX8_add_39 : decode cX8_add 39 = .ok (.iconst 1, 1) := by decide +kernel
theorem dX8_add_40 : decode cX8_add 40 = .ok (.iadd, 1) := by decide +kernel
theorem dX8_add_41 : decode cX8_add 41 = .ok (.putfield 28, 3) := by decide +kernel
theorem dX8_add_44 : decode cX8_add 44 = .ok (.aload_n 0, 1) := by decide +kernel
theorem dX8_add_45 : decode cX8_add 45 = .ok (.iload 4, 2) := by decide +kernel
theorem dX8_add_47 : decode cX8_add 47 = .ok (.iload_n 3, 1) := by decide +kernel
theorem dX8_add_48 : decode cX8_add 48 = .ok (.invokevirtual 31, 3) := by decide +kernel
theorem dX8_add_51 : decode cX8_add 51 = .ok (.iload 4, 2) := by decide +kernel
theorem dX8_add_53 : decode cX8_add 53 = .ok (.ireturn, 1) := by decide +kernel
theorem dX8_kind_0 : decode cX8_kind 0 = .ok (.aload_n 0, 1) := by decide +kernel
theorem dX8_kind_1 : decode cX8_kind 1 = .ok (.iload_n 1, 1) := by decide +kernel
theorem dX8_kind_2 : decode cX8_kind 2 = .ok (.invokevirtual 35, 3) := by decide +kernel
theorem dX8_kind_5 : decode cX8_kind 5 = .ok (.ifCond .eq 12, 3) := by decide +kernel
theorem dX8_kind_8 : decode cX8_kind 8 = .ok (.aload_n 0, 1) := by decide +kernel
theorem dX8_kind_9 : decode cX8_kind 9 = .ok (.getfield 9, 3) := by decide +kernel
theorem dX8_kind_12 : decode cX8_kind 12 = .ok (.iload_n 1, 1) := by decide +kernel
theorem dX8_kind_13 : decode cX8_kind 13 = .ok (.iaload, 1) := by decide +kernel
theorem dX8_kind_14 : decode cX8_kind 14 = .ok (.goto 4, 3) := by decide +kernel
theorem dX8_kind_17 : decode cX8_kind 17 = .ok (.iconst (-1), 1) := by decide +kernel
theorem dX8_kind_18 : decode cX8_kind 18 = .ok (.ireturn, 1) := by decide +kernel
theorem dX8_weight_0 : decode cX8_weight 0 = .ok (.aload_n 0, 1) := by decide +kernel
theorem dX8_weight_1 : decode cX8_weight 1 = .ok (.iload_n 1, 1) := by decide +kernel
theorem dX8_weight_2 : decode cX8_weight 2 = .ok (.invokevirtual 35, 3) := by decide +kernel
theorem dX8_weight_5 : decode cX8_weight 5 = .ok (.ifCond .eq 12, 3) := by decide +kernel
theorem dX8_weight_8 : decode cX8_weight 8 = .ok (.aload_n 0, 1) := by decide +kernel
theorem dX8_weight_9 : decode cX8_weight 9 = .ok (.getfield 15, 3) := by decide +kernel
theorem dX8_weight_12 : decode cX8_weight 12 = .ok (.iload_n 1, 1) := by decide +kernel
theorem dX8_weight_13 : decode cX8_weight 13 = .ok (.iaload, 1) := by decide +kernel
theorem dX8_weight_14 : decode cX8_weight 14 = .ok (.goto 4, 3) := by decide +kernel
theorem dX8_weight_17 : decode cX8_weight 17 = .ok (.iconst 0, 1) := by decide +kernel
theorem dX8_weight_18 : decode cX8_weight 18 = .ok (.ireturn, 1) := by decide +kernel
theorem dX8_weighs_0 : decode cX8_weighs 0 = .ok (.aload_n 0, 1) := by decide +kernel
theorem dX8_weighs_1 : decode cX8_weighs 1 = .ok (.iload_n 1, 1) := by decide +kernel
theorem dX8_weighs_2 : decode cX8_weighs 2 = .ok (.invokevirtual 35, 3) := by decide +kernel
theorem dX8_weighs_5 : decode cX8_weighs 5 = .ok (.ifCond .ne 5, 3) := by decide +kernel
theorem dX8_weighs_8 : decode cX8_weighs 8 = .ok (.iconst 0, 1) := by decide +kernel
theorem dX8_weighs_9 : decode cX8_weighs 9 = .ok (.ireturn, 1) := by decide +kernel
theorem dX8_weighs_10 : decode cX8_weighs 10 = .ok (.aload_n 0, 1) := by decide +kernel
theorem dX8_weighs_11 : decode cX8_weighs 11 = .ok (.getfield 9, 3) := by decide +kernel
theorem dX8_weighs_14 : decode cX8_weighs 14 = .ok (.iload_n 1, 1) := by decide +kernel
theorem dX8_weighs_15 : decode cX8_weighs 15 = .ok (.iaload, 1) := by decide +kernel
theorem dX8_weighs_16 : decode cX8_weighs 16 = .ok (.iconst 4, 1) := by decide +kernel
theorem dX8_weighs_17 : decode cX8_weighs 17 = .ok (.if_icmp .ne 14, 3) := by decide +kernel
theorem dX8_weighs_20 : decode cX8_weighs 20 = .ok (.iconst 2, 1) := by decide +kernel
theorem dX8_weighs_21 : decode cX8_weighs 21 = .ok (.aload_n 0, 1) := by decide +kernel
theorem dX8_weighs_22 : decode cX8_weighs 22 = .ok (.getfield 15, 3) := by decide +kernel
theorem dX8_weighs_25 : decode cX8_weighs 25 = .ok (.iload_n 1, 1) := by decide +kernel
theorem dX8_weighs_26 : decode cX8_weighs 26 = .ok (.iaload, 1) := by decide +kernel
theorem dX8_weighs_27 : decode cX8_weighs 27 = .ok (.imul, 1) := by decide +kernel
theorem dX8_weighs_28 : decode cX8_weighs 28 = .ok (.goto 9, 3) := by decide +kernel
theorem dX8_weighs_31 : decode cX8_weighs 31 = .ok (.aload_n 0, 1) := by decide +kernel
theorem dX8_weighs_32 : decode cX8_weighs 32 = .ok (.getfield 15, 3) := by decide +kernel
theorem dX8_weighs_35 : decode cX8_weighs 35 = .ok (.iload_n 1, 1) := by decide +kernel
theorem dX8_weighs_36 : decode cX8_weighs 36 = .ok (.iaload, 1) := by decide +kernel
theorem dX8_weighs_37 : decode cX8_weighs 37 = .ok (.ireturn, 1) := by decide +kernel
theorem dX8_isA_0 : decode cX8_isA 0 = .ok (.aload_n 0, 1) := by decide +kernel
theorem dX8_isA_1 : decode cX8_isA 1 = .ok (.iload_n 1, 1) := by decide +kernel
theorem dX8_isA_2 : decode cX8_isA 2 = .ok (.invokevirtual 39, 3) := by decide +kernel
theorem dX8_isA_5 : decode cX8_isA 5 = .ok (.istore_n 3, 1) := by decide +kernel
theorem dX8_isA_6 : decode cX8_isA 6 = .ok (.iload_n 3, 1) := by decide +kernel
theorem dX8_isA_7 : decode cX8_isA 7 = .ok (.iload_n 2, 1) := by decide +kernel
theorem dX8_isA_8 : decode cX8_isA 8 = .ok (.if_icmp .eq 17, 3) := by decide +kernel
theorem dX8_isA_11 : decode cX8_isA 11 = .ok (.iload_n 2, 1) := by decide +kernel
theorem dX8_isA_12 : decode cX8_isA 12 = .ok (.ifCond .eq 13, 3) := by decide +kernel
theorem dX8_isA_15 : decode cX8_isA 15 = .ok (.iload_n 2, 1) := by decide +kernel
theorem dX8_isA_16 : decode cX8_isA 16 = .ok (.iconst 3, 1) := by decide +kernel
theorem dX8_isA_17 : decode cX8_isA 17 = .ok (.if_icmp .ne 12, 3) := by decide +kernel
theorem dX8_isA_20 : decode cX8_isA 20 = .ok (.iload_n 3, 1) := by decide +kernel
theorem dX8_isA_21 : decode cX8_isA 21 = .ok (.iconst 4, 1) := by decide +kernel
theorem dX8_isA_22 : decode cX8_isA 22 = .ok (.if_icmp .ne 7, 3) := by decide +kernel
theorem dX8_isA_25 : decode cX8_isA 25 = .ok (.iconst 1, 1) := by decide +kernel
theorem dX8_isA_26 : decode cX8_isA 26 = .ok (.goto 4, 3) := by decide +kernel
theorem dX8_isA_29 : decode cX8_isA 29 = .ok (.iconst 0, 1) := by decide +kernel
theorem dX8_isA_30 : decode cX8_isA 30 = .ok (.ireturn, 1) := by decide +kernel
theorem dX8_people_0 : decode cX8_people 0 = .ok (.aload_n 0, 1) := by decide +kernel
theorem dX8_people_1 : decode cX8_people 1 = .ok (.invokevirtual 43, 3) := by decide +kernel
theorem dX8_people_4 : decode cX8_people 4 = .ok (.invokestatic 47, 3) := by decide +kernel
theorem dX8_people_7 : decode cX8_people 7 = .ok (.ireturn, 1) := by decide +kernel
theorem dX8_peopleBits_0 : decode cX8_peopleBits 0 = .ok (.iconst 0, 1) := by decide +kernel
theorem dX8_peopleBits_1 : decode cX8_peopleBits 1 = .ok (.istore_n 1, 1) := by decide +kernel
theorem dX8_peopleBits_2 : decode cX8_peopleBits 2 = .ok (.iconst 0, 1) := by decide +kernel
theorem dX8_peopleBits_3 : decode cX8_peopleBits 3 = .ok (.istore_n 2, 1) := by decide +kernel
theorem dX8_peopleBits_4 : decode cX8_peopleBits 4 = .ok (.iload_n 2, 1) := by decide +kernel
theorem dX8_peopleBits_5 : decode cX8_peopleBits 5 = .ok (.aload_n 0, 1) := by decide +kernel
theorem dX8_peopleBits_6 : decode cX8_peopleBits 6 = .ok (.getfield 28, 3) := by decide +kernel
theorem dX8_peopleBits_9 : decode cX8_peopleBits 9 = .ok (.if_icmp .ge 24, 3) := by decide +kernel
theorem dX8_peopleBits_12 : decode cX8_peopleBits 12 = .ok (.aload_n 0, 1) := by decide +kernel
theorem dX8_peopleBits_13 : decode cX8_peopleBits 13 = .ok (.iload_n 2, 1) := by decide +kernel
theorem dX8_peopleBits_14 : decode cX8_peopleBits 14 = .ok (.iconst 3, 1) := by decide +kernel
theorem dX8_peopleBits_15 : decode cX8_peopleBits 15 = .ok (.invokevirtual 52, 3) := by decide +kernel
theorem dX8_peopleBits_18 : decode cX8_peopleBits 18 = .ok (.ifCond .eq 9, 3) := by decide +kernel
theorem dX8_peopleBits_21 : decode cX8_peopleBits 21 = .ok (.iload_n 1, 1) := by decide +kernel
theorem dX8_peopleBits_22 : decode cX8_peopleBits 22 = .ok (.iconst 1, 1) := by decide +kernel
theorem dX8_peopleBits_23 : decode cX8_peopleBits 23 = .ok (.iload_n 2, 1) := by decide +kernel
theorem dX8_peopleBits_24 : decode cX8_peopleBits 24 = .ok (.ishl, 1) := by decide +kernel
theorem dX8_peopleBits_25 : decode cX8_peopleBits 25 = .ok (.ior, 1) := by decide +kernel
theorem dX8_peopleBits_26 : decode cX8_peopleBits 26 = .ok (.istore_n 1, 1) := by decide +kernel
theorem dX8_peopleBits_27 : decode cX8_peopleBits 27 = .ok (.iinc 2 1, 3) := by decide +kernel
theorem dX8_peopleBits_30 : decode cX8_peopleBits 30 = .ok (.goto (-26), 3) := by decide +kernel
theorem dX8_peopleBits_33 : decode cX8_peopleBits 33 = .ok (.iload_n 1, 1) := by decide +kernel
theorem dX8_peopleBits_34 : decode cX8_peopleBits 34 = .ok (.ireturn, 1) := by decide +kernel
theorem dX8_place_0 : decode cX8_place 0 = .ok (.aload_n 0, 1) := by decide +kernel
theorem dX8_place_1 : decode cX8_place 1 = .ok (.iload_n 1, 1) := by decide +kernel
theorem dX8_place_2 : decode cX8_place 2 = .ok (.invokevirtual 35, 3) := by decide +kernel
theorem dX8_place_5 : decode cX8_place 5 = .ok (.ifCond .eq 24, 3) := by decide +kernel
theorem dX8_place_8 : decode cX8_place 8 = .ok (.iload_n 2, 1) := by decide +kernel
theorem dX8_place_9 : decode cX8_place 9 = .ok (.invokestatic 56, 3) := by decide +kernel
theorem dX8_place_12 : decode cX8_place 12 = .ok (.ifCond .eq 17, 3) := by decide +kernel
theorem dX8_place_15 : decode cX8_place 15 = .ok (.aload_n 0, 1) := by decide +kernel
theorem dX8_place_16 : decode cX8_place 16 = .ok (.getfield 18, 3) := by decide +kernel
theorem dX8_place_19 : decode cX8_place 19 = .ok (.iload_n 1, 1) := by decide +kernel
theorem dX8_place_20 : decode cX8_place 20 = .ok (.bipush 8, 2) := by decide +kernel
theorem dX8_place_22 : decode cX8_place 22 = .ok (.imul, 1) := by decide +kernel
theorem dX8_place_23 : decode cX8_place 23 = .ok (.iload_n 2, 1) := by decide +kernel
theorem dX8_place_24 : decode cX8_place 24 = .ok (.iadd, 1) := by decide +kernel
theorem dX8_place_25 : decode cX8_place 25 = .ok (.iaload, 1) := by decide +kernel
theorem dX8_place_26 : decode cX8_place 26 = .ok (.goto 4, 3) := by decide +kernel
theorem dX8_place_29 : decode cX8_place 29 = .ok (.iconst (-1), 1) := by decide +kernel
theorem dX8_place_30 : decode cX8_place 30 = .ok (.ireturn, 1) := by decide +kernel
theorem dX8_move_0 : decode cX8_move 0 = .ok (.aload_n 0, 1) := by decide +kernel
theorem dX8_move_1 : decode cX8_move 1 = .ok (.iload_n 1, 1) := by decide +kernel
theorem dX8_move_2 : decode cX8_move 2 = .ok (.invokevirtual 35, 3) := by decide +kernel
theorem dX8_move_5 : decode cX8_move 5 = .ok (.ifCond .eq 22, 3) := by decide +kernel
theorem dX8_move_8 : decode cX8_move 8 = .ok (.iload_n 2, 1) := by decide +kernel
theorem dX8_move_9 : decode cX8_move 9 = .ok (.invokestatic 56, 3) := by decide +kernel
theorem dX8_move_12 : decode cX8_move 12 = .ok (.ifCond .eq 15, 3) := by decide +kernel
theorem dX8_move_15 : decode cX8_move 15 = .ok (.aload_n 0, 1) := by decide +kernel
theorem dX8_move_16 : decode cX8_move 16 = .ok (.getfield 18, 3) := by decide +kernel
theorem dX8_move_19 : decode cX8_move 19 = .ok (.iload_n 1, 1) := by decide +kernel
theorem dX8_move_20 : decode cX8_move 20 = .ok (.bipush 8, 2) := by decide +kernel
theorem dX8_move_22 : decode cX8_move 22 = .ok (.imul, 1) := by decide +kernel
theorem dX8_move_23 : decode cX8_move 23 = .ok (.iload_n 2, 1) := by decide +kernel
theorem dX8_move_24 : decode cX8_move 24 = .ok (.iadd, 1) := by decide +kernel
theorem dX8_move_25 : decode cX8_move 25 = .ok (.iload_n 3, 1) := by decide +kernel
theorem dX8_move_26 : decode cX8_move 26 = .ok (.iastore, 1) := by decide +kernel
theorem dX8_move_27 : decode cX8_move 27 = .ok (.return_, 1) := by decide +kernel
theorem dX8_moveAllDay_0 : decode cX8_moveAllDay 0 = .ok (.iconst 0, 1) := by decide +kernel
theorem dX8_moveAllDay_1 : decode cX8_moveAllDay 1 = .ok (.istore_n 3, 1) := by decide +kernel
theorem dX8_moveAllDay_2 : decode cX8_moveAllDay 2 = .ok (.iload_n 3, 1) := by decide +kernel
theorem dX8_moveAllDay_3 : decode cX8_moveAllDay 3 = .ok (.bipush 8, 2) := by decide +kernel
theorem dX8_moveAllDay_5 : decode cX8_moveAllDay 5 = .ok (.if_icmp .ge 16, 3) := by decide +kernel
theorem dX8_moveAllDay_8 : decode cX8_moveAllDay 8 = .ok (.aload_n 0, 1) := by decide +kernel
theorem dX8_moveAllDay_9 : decode cX8_moveAllDay 9 = .ok (.iload_n 1, 1) := by decide +kernel
theorem dX8_moveAllDay_10 : decode cX8_moveAllDay 10 = .ok (.iload_n 3, 1) := by decide +kernel
theorem dX8_moveAllDay_11 : decode cX8_moveAllDay 11 = .ok (.iload_n 2, 1) := by decide +kernel
theorem dX8_moveAllDay_12 : decode cX8_moveAllDay 12 = .ok (.invokevirtual 59, 3) := by decide +kernel
theorem dX8_moveAllDay_15 : decode cX8_moveAllDay 15 = .ok (.iinc 3 1, 3) := by decide +kernel
theorem dX8_moveAllDay_18 : decode cX8_moveAllDay 18 = .ok (.goto (-16), 3) := by decide +kernel
theorem dX8_moveAllDay_21 : decode cX8_moveAllDay 21 = .ok (.return_, 1) := by decide +kernel
theorem dX8_keep_0 : decode cX8_keep 0 = .ok (.aload_n 0, 1) := by decide +kernel
theorem dX8_keep_1 : decode cX8_keep 1 = .ok (.getfield 18, 3) := by decide +kernel
theorem dX8_keep_4 : decode cX8_keep 4 = .ok (.iconst 0, 1) := by decide +kernel
theorem dX8_keep_5 : decode cX8_keep 5 = .ok (.aload_n 0, 1) := by decide +kernel
theorem dX8_keep_6 : decode cX8_keep 6 = .ok (.getfield 21, 3) := by decide +kernel
theorem dX8_keep_9 : decode cX8_keep 9 = .ok (.iconst 0, 1) := by decide +kernel
theorem dX8_keep_10 : decode cX8_keep 10 = .ok (.bipush 64, 2) := by decide +kernel
theorem dX8_keep_12 : decode cX8_keep 12 = .ok (.invokestatic 63, 3) := by decide +kernel
theorem dX8_keep_15 : decode cX8_keep 15 = .ok (.aload_n 0, 1) := by decide +kernel
theorem dX8_keep_16 : decode cX8_keep 16 = .ok (.aload_n 0, 1) := by decide +kernel
theorem dX8_keep_17 : decode cX8_keep 17 = .ok (.getfield 28, 3) := by decide +kernel
theorem dX8_keep_20 : decode cX8_keep 20 = .ok (.putfield 24, 3) := by decide +kernel
theorem dX8_keep_23 : decode cX8_keep 23 = .ok (.return_, 1) := by decide +kernel
theorem dX8_isKept_0 : decode cX8_isKept 0 = .ok (.aload_n 0, 1) := by decide +kernel
theorem dX8_isKept_1 : decode cX8_isKept 1 = .ok (.getfield 24, 3) := by decide +kernel
theorem dX8_isKept_4 : decode cX8_isKept 4 = .ok (.iconst (-1), 1) := by decide +kernel
theorem dX8_isKept_5 : decode cX8_isKept 5 = .ok (.if_icmp .eq 7, 3) := by decide +kernel
theorem dX8_isKept_8 : decode cX8_isKept 8 = .ok (.iconst 1, 1) := by decide +kernel
theorem dX8_isKept_9 : decode cX8_isKept 9 = .ok (.goto 4, 3) := by decide +kernel
theorem dX8_isKept_12 : decode cX8_isKept 12 = .ok (.iconst 0, 1) := by decide +kernel
theorem dX8_isKept_13 : decode cX8_isKept 13 = .ok (.ireturn, 1) := by decide +kernel
theorem dX8_goBack_0 : decode cX8_goBack 0 = .ok (.aload_n 0, 1) := by decide +kernel
theorem dX8_goBack_1 : decode cX8_goBack 1 = .ok (.getfield 21, 3) := by decide +kernel
theorem dX8_goBack_4 : decode cX8_goBack 4 = .ok (.iconst 0, 1) := by decide +kernel
theorem dX8_goBack_5 : decode cX8_goBack 5 = .ok (.aload_n 0, 1) := by decide +kernel
theorem dX8_goBack_6 : decode cX8_goBack 6 = .ok (.getfield 18, 3) := by decide +kernel
theorem dX8_goBack_9 : decode cX8_goBack 9 = .ok (.iconst 0, 1) := by decide +kernel
theorem dX8_goBack_10 : decode cX8_goBack 10 = .ok (.bipush 64, 2) := by decide +kernel
theorem dX8_goBack_12 : decode cX8_goBack 12 = .ok (.invokestatic 63, 3) := by decide +kernel
theorem dX8_goBack_15 : decode cX8_goBack 15 = .ok (.aload_n 0, 1) := by decide +kernel
theorem dX8_goBack_16 : decode cX8_goBack 16 = .ok (.aload_n 0, 1) := by decide +kernel
theorem dX8_goBack_17 : decode cX8_goBack 17 = .ok (.getfield 24, 3) := by decide +kernel
theorem dX8_goBack_20 : decode cX8_goBack 20 = .ok (.putfield 28, 3) := by decide +kernel
theorem dX8_goBack_23 : decode cX8_goBack 23 = .ok (.return_, 1) := by decide +kernel
theorem dX9_init_0 : decode cX9_init 0 = .ok (.aload_n 0, 1) := by decide +kernel
theorem dX9_init_1 : decode cX9_init 1 = .ok (.invokespecial 3, 3) := by decide +kernel
theorem dX9_init_4 : decode cX9_init 4 = .ok (.aload_n 0, 1) := by decide +kernel
theorem dX9_init_5 : decode cX9_init 5 = .ok (.bipush 6, 2) := by decide +kernel
theorem dX9_init_7 : decode cX9_init 7 = .ok (.newarray .int, 2) := by decide +kernel
theorem dX9_init_9 : decode cX9_init 9 = .ok (.putfield 9, 3) := by decide +kernel
theorem dX9_init_12 : decode cX9_init 12 = .ok (.aload_n 0, 1) := by decide +kernel
theorem dX9_init_13 : decode cX9_init 13 = .ok (.bipush 6, 2) := by decide +kernel
theorem dX9_init_15 : decode cX9_init 15 = .ok (.newarray .int, 2) := by decide +kernel
theorem dX9_init_17 : decode cX9_init 17 = .ok (.putfield 15, 3) := by decide +kernel
theorem dX9_init_20 : decode cX9_init 20 = .ok (.aload_n 0, 1) := by decide +kernel
theorem dX9_init_21 : decode cX9_init 21 = .ok (.bipush 6, 2) := by decide +kernel
theorem dX9_init_23 : decode cX9_init 23 = .ok (.newarray .int, 2) := by decide +kernel
theorem dX9_init_25 : decode cX9_init 25 = .ok (.putfield 18, 3) := by decide +kernel
theorem dX9_init_28 : decode cX9_init 28 = .ok (.aload_n 0, 1) := by decide +kernel
theorem dX9_init_29 : decode cX9_init 29 = .ok (.bipush 6, 2) := by decide +kernel
theorem dX9_init_31 : decode cX9_init 31 = .ok (.newarray .int, 2) := by decide +kernel
theorem dX9_init_33 : decode cX9_init 33 = .ok (.putfield 21, 3) := by decide +kernel
theorem dX9_init_36 : decode cX9_init 36 = .ok (.aload_n 0, 1) := by decide +kernel
theorem dX9_init_37 : decode cX9_init 37 = .ok (.aload_n 1, 1) := by decide +kernel
theorem dX9_init_38 : decode cX9_init 38 = .ok (.putfield 24, 3) := by decide +kernel
theorem dX9_init_41 : decode cX9_init 41 = .ok (.aload_n 0, 1) := by decide +kernel
theorem dX9_init_42 : decode cX9_init 42 = .ok (.aload_n 2, 1) := by decide +kernel
theorem dX9_init_43 : decode cX9_init 43 = .ok (.putfield 28, 3) := by decide +kernel
theorem dX9_init_46 : decode cX9_init 46 = .ok (.aload_n 0, 1) := by decide +kernel
theorem dX9_init_47 : decode cX9_init 47 = .ok (.aload_n 3, 1) := by decide +kernel
theorem dX9_init_48 : decode cX9_init 48 = .ok (.putfield 32, 3) := by decide +kernel
theorem dX9_init_51 : decode cX9_init 51 = .ok (.return_, 1) := by decide +kernel
theorem dX9_wetDoors_0 : decode cX9_wetDoors 0 = .ok (.aload_n 0, 1) := by decide +kernel
theorem dX9_wetDoors_1 : decode cX9_wetDoors 1 = .ok (.getfield 36, 3) := by decide +kernel
theorem dX9_wetDoors_4 : decode cX9_wetDoors 4 = .ok (.ireturn, 1) := by decide +kernel
theorem dX9_elsewhere_0 : decode cX9_elsewhere 0 = .ok (.aload_n 0, 1) := by decide +kernel
theorem dX9_elsewhere_1 : decode cX9_elsewhere 1 = .ok (.getfield 40, 3) := by decide +kernel
theorem dX9_elsewhere_4 : decode cX9_elsewhere 4 = .ok (.ireturn, 1) := by decide +kernel
theorem dX9_placeOf_0 : decode cX9_placeOf 0 = .ok (.iconst 0, 1) := by decide +kernel
theorem dX9_placeOf_1 : decode cX9_placeOf 1 = .ok (.istore_n 2, 1) := by decide +kernel
theorem dX9_placeOf_2 : decode cX9_placeOf 2 = .ok (.iload_n 2, 1) := by decide +kernel
theorem dX9_placeOf_3 : decode cX9_placeOf 3 = .ok (.aload_n 0, 1) := by decide +kernel
theorem dX9_placeOf_4 : decode cX9_placeOf 4 = .ok (.getfield 43, 3) := by decide +kernel
theorem dX9_placeOf_7 : decode cX9_placeOf 7 = .ok (.if_icmp .ge 26, 3) := by decide +kernel
theorem dX9_placeOf_10 : decode cX9_placeOf 10 = .ok (.aload_n 0, 1) := by decide +kernel
theorem dX9_placeOf_11 : decode cX9_placeOf 11 = .ok (.getfield 9, 3) := by decide +kernel
theorem dX9_placeOf_14 : decode cX9_placeOf 14 = .ok (.iload_n 2, 1) := by decide +kernel
theorem dX9_placeOf_15 : decode cX9_placeOf 15 = .ok (.iaload, 1) := by decide +kernel
theorem dX9_placeOf_16 : decode cX9_placeOf 16 = .ok (.iload_n 1, 1) := by decide +kernel
theorem dX9_placeOf_17 : decode cX9_placeOf 17 = .ok (.if_icmp .ne 10, 3) := by decide +kernel
theorem dX9_placeOf_20 : decode cX9_placeOf 20 = .ok (.aload_n 0, 1) := by decide +kernel
theorem dX9_placeOf_21 : decode cX9_placeOf 21 = .ok (.getfield 21, 3) := by decide +kernel
theorem dX9_placeOf_24 : decode cX9_placeOf 24 = .ok (.iload_n 2, 1) := by decide +kernel
theorem dX9_placeOf_25 : decode cX9_placeOf 25 = .ok (.iaload, 1) := by decide +kernel
theorem dX9_placeOf_26 : decode cX9_placeOf 26 = .ok (.ireturn, 1) := by decide +kernel
theorem dX9_placeOf_27 : decode cX9_placeOf 27 = .ok (.iinc 2 1, 3) := by decide +kernel
theorem dX9_placeOf_30 : decode cX9_placeOf 30 = .ok (.goto (-28), 3) := by decide +kernel
theorem dX9_placeOf_33 : decode cX9_placeOf 33 = .ok (.iconst (-1), 1) := by decide +kernel
theorem dX9_placeOf_34 : decode cX9_placeOf 34 = .ok (.ireturn, 1) := by decide +kernel
theorem dX9_search_0 : decode cX9_search 0 = .ok (.aload_n 0, 1) := by decide +kernel
theorem dX9_search_1 : decode cX9_search 1 = .ok (.iconst 0, 1) := by decide +kernel
theorem dX9_search_2 : decode cX9_search 2 = .ok (.putfield 43, 3) := by decide +kernel
theorem dX9_search_5 : decode cX9_search 5 = .ok (.aload_n 0, 1) := by decide +kernel
theorem dX9_search_6 : decode cX9_search 6 = .ok (.iconst 0, 1) := by decide +kernel
theorem dX9_search_7 : decode cX9_search 7 = .ok (.putfield 46, 3) := by decide +kernel
theorem dX9_search_10 : decode cX9_search 10 = .ok (.aload_n 0, 1) := by decide +kernel
theorem dX9_search_11 : decode cX9_search 11 = .ok (.getfield 32, 3) := by decide +kernel
theorem dX9_search_14 : decode cX9_search 14 = .ok (.iload_n 1, 1) := by decide +kernel
theorem dX9_search_15 : decode cX9_search 15 = .ok (.invokevirtual 50, 3) := by decide +kernel
theorem dX9_search_18 : decode cX9_search 18 = .ok (.istore_n 2, 1) := by decide +kernel
theorem dX9_search_19 : decode cX9_search 19 = .ok (.aload_n 0, 1) := by decide +kernel
theorem dX9_search_20 : decode cX9_search 20 = .ok (.getfield 32, 3) := by decide +kernel
theorem dX9_search_23 : decode cX9_search 23 = .ok (.iload_n 1, 1) := by decide +kernel
theorem dX9_search_24 : decode cX9_search 24 = .ok (.invokevirtual 56, 3) := by decide +kernel
theorem dX9_search_27 : decode cX9_search 27 = .ok (.istore_n 3, 1) := by decide +kernel
theorem dX9_search_28 : decode cX9_search 28 = .ok (.iconst 0, 1) := by decide +kernel
theorem dX9_search_29 : decode cX9_search 29 = .ok (.istore 4, 2) := by decide +kernel
theorem dX9_search_31 : decode cX9_search 31 = .ok (.iload 4, 2) := by decide +kernel
theorem dX9_search_33 : decode cX9_search 33 = .ok (.aload_n 0, 1) := by decide +kernel
theorem dX9_search_34 : decode cX9_search 34 = .ok (.getfield 28, 3) := by decide +kernel
theorem dX9_search_37 : decode cX9_search 37 = .ok (.invokevirtual 59, 3) := by decide +kernel
theorem dX9_search_40 : decode cX9_search 40 = .ok (.if_icmp .ge 129, 3) := by decide +kernel
theorem dX9_search_43 : decode cX9_search 43 = .ok (.aload_n 0, 1) := by decide +kernel
theorem dX9_search_44 : decode cX9_search 44 = .ok (.getfield 28, 3) := by decide +kernel
theorem dX9_search_47 : decode cX9_search 47 = .ok (.iload 4, 2) := by decide +kernel
theorem dX9_search_49 : decode cX9_search 49 = .ok (.iconst 3, 1) := by decide +kernel
theorem dX9_search_50 : decode cX9_search 50 = .ok (.invokevirtual 64, 3) := by decide +kernel
theorem dX9_search_53 : decode cX9_search 53 = .ok (.ifCond .eq 110, 3) := by decide +kernel
theorem dX9_search_56 : decode cX9_search 56 = .ok (.aload_n 0, 1) := by decide +kernel
theorem dX9_search_57 : decode cX9_search 57 = .ok (.getfield 43, 3) := by decide +kernel
theorem dX9_search_60 : decode cX9_search 60 = .ok (.bipush 6, 2) := by decide +kernel
theorem dX9_search_62 : decode cX9_search 62 = .ok (.if_icmp .ge 101, 3) := by decide +kernel
theorem dX9_search_65 : decode cX9_search 65 = .ok (.aload_n 0, 1) := by decide +kernel
theorem dX9_search_66 : decode cX9_search 66 = .ok (.getfield 9, 3) := by decide +kernel
theorem dX9_search_69 : decode cX9_search 69 = .ok (.aload_n 0, 1) := by decide +kernel
theorem dX9_search_70 : decode cX9_search 70 = .ok (.getfield 43, 3) := by decide +kernel
theorem dX9_search_73 : decode cX9_search 73 = .ok (.iload 4, 2) := by decide +kernel
theorem dX9_search_75 : decode cX9_search 75 = .ok (.iastore, 1) := by decide +kernel
theorem dX9_search_76 : decode cX9_search 76 = .ok (.aload_n 0, 1) := by decide +kernel
theorem dX9_search_77 : decode cX9_search 77 = .ok (.getfield 15, 3) := by decide +kernel
theorem dX9_search_80 : decode cX9_search 80 = .ok (.aload_n 0, 1) := by decide +kernel
theorem dX9_search_81 : decode cX9_search 81 = .ok (.getfield 43, 3) := by decide +kernel
theorem dX9_search_84 : decode cX9_search 84 = .ok (.aload_n 0, 1) := by decide +kernel
theorem dX9_search_85 : decode cX9_search 85 = .ok (.getfield 28, 3) := by decide +kernel
theorem dX9_search_88 : decode cX9_search 88 = .ok (.iload 4, 2) := by decide +kernel
theorem dX9_search_90 : decode cX9_search 90 = .ok (.iload_n 1, 1) := by decide +kernel
theorem dX9_search_91 : decode cX9_search 91 = .ok (.invokevirtual 68, 3) := by decide +kernel
theorem dX9_search_94 : decode cX9_search 94 = .ok (.iastore, 1) := by decide +kernel
theorem dX9_search_95 : decode cX9_search 95 = .ok (.iload_n 2, 1) := by decide +kernel
theorem dX9_search_96 : decode cX9_search 96 = .ok (.aload_n 0, 1) := by decide +kernel
theorem dX9_search_97 : decode cX9_search 97 = .ok (.getfield 28, 3) := by decide +kernel
theorem dX9_search_100 : decode cX9_search 100 = .ok (.iload 4, 2) := by decide +kernel
theorem dX9_search_102 : decode cX9_search 102 = .ok (.invokevirtual 72, 3) := by decide +kernel
theorem dX9_search_105 : decode cX9_search 105 = .ok (.aload_n 0, 1) := by decide +kernel
theorem dX9_search_106 : decode cX9_search 106 = .ok (.getfield 24, 3) := by decide +kernel
theorem dX9_search_109 : decode cX9_search 109 = .ok (.aload_n 0, 1) := by decide +kernel
theorem dX9_search_110 : decode cX9_search 110 = .ok (.getfield 15, 3) := by decide +kernel
theorem dX9_search_113 : decode cX9_search 113 = .ok (.aload_n 0, 1) := by decide +kernel
theorem dX9_search_114 : decode cX9_search 114 = .ok (.getfield 43, 3) := by decide +kernel
theorem dX9_search_117 : decode cX9_search 117 = .ok (.iaload, 1) := by decide +kernel
theorem dX9_search_118 : decode cX9_search 118 = .ok (.invokevirtual 75, 3) := by decide +kernel
theorem dX9_search_121 : decode cX9_search 121 = .ok (.imul, 1) := by decide +kernel
theorem dX9_search_122 : decode cX9_search 122 = .ok (.isub, 1) := by decide +kernel
theorem dX9_search_123 : decode cX9_search 123 = .ok (.istore_n 2, 1) := by decide +kernel
theorem dX9_search_124 : decode cX9_search 124 = .ok (.iload_n 3, 1) := by decide +kernel
theorem dX9_search_125 : decode cX9_search 125 = .ok (.aload_n 0, 1) := by decide +kernel
theorem dX9_search_126 : decode cX9_search 126 = .ok (.getfield 28, 3) := by decide +kernel
theorem dX9_search_129 : decode cX9_search 129 = .ok (.iload 4, 2) := by decide +kernel
theorem dX9_search_131 : decode cX9_search 131 = .ok (.invokevirtual 72, 3) := by decide +kernel
theorem dX9_search_134 : decode cX9_search 134 = .ok (.aload_n 0, 1) := by decide +kernel
theorem dX9_search_135 : decode cX9_search 135 = .ok (.getfield 24, 3) := by decide +kernel
theorem dX9_search_138 : decode cX9_search 138 = .ok (.aload_n 0, 1) := by decide +kernel
theorem dX9_search_139 : decode cX9_search 139 = .ok (.getfield 15, 3) := by decide +kernel
theorem dX9_search_142 : decode cX9_search 142 = .ok (.aload_n 0, 1) := by decide +kernel
theorem dX9_search_143 : decode cX9_search 143 = .ok (.getfield 43, 3) := by decide +kernel
theorem dX9_search_146 : decode cX9_search 146 = .ok (.iaload, 1) := by decide +kernel
theorem dX9_search_147 : decode cX9_search 147 = .ok (.invokevirtual 80, 3) := by decide +kernel
theorem dX9_search_150 : decode cX9_search 150 = .ok (.imul, 1) := by decide +kernel
theorem dX9_search_151 : decode cX9_search 151 = .ok (.isub, 1) := by decide +kernel
theorem dX9_search_152 : decode cX9_search 152 = .ok (.istore_n 3, 1) := by decide +kernel
theorem dX9_search_153 : decode cX9_search 153 = .ok (.aload_n 0, 1) := by decide +kernel
theorem dX9_search_154 : decode cX9_search 154 = .ok (.dup, 1) := by decide +kernel
theorem dX9_search_155 : decode cX9_search 155 = .ok (.getfield 43, 3) := by decide +kernel
theorem dX9_search_158 : decode cX9_search 158 = .ok (.iconst 1, 1) := by decide +kernel
theorem dX9_search_159 : decode cX9_search 159 = .ok (.iadd, 1) := by decide +kernel
theorem dX9_search_160 : decode cX9_search 160 = .ok (.putfield 43, 3) := by decide +kernel
theorem dX9_search_163 : decode cX9_search 163 = .ok (.iinc 4 1, 3) := by decide +kernel
theorem dX9_search_166 : decode cX9_search 166 = .ok (.goto (-135), 3) := by decide +kernel
theorem dX9_search_169 : decode cX9_search 169 = .ok (.aload_n 0, 1) := by decide +kernel
theorem dX9_search_170 : decode cX9_search 170 = .ok (.iconst 0, 1) := by decide +kernel
theorem dX9_search_171 : decode cX9_search 171 = .ok (.iconst 0, 1) := by decide +kernel
theorem dX9_search_172 : decode cX9_search 172 = .ok (.iload_n 2, 1) := by decide +kernel
theorem dX9_search_173 : decode cX9_search 173 = .ok (.iload_n 3, 1) := by decide +kernel
theorem dX9_search_174 : decode cX9_search 174 = .ok (.iconst 0, 1) := by decide +kernel
theorem dX9_search_175 : decode cX9_search 175 = .ok (.invokevirtual 83, 3) := by decide +kernel
theorem dX9_search_178 : decode cX9_search 178 = .ok (.return_, 1) := by decide +kernel
theorem dX9_takeSquares_0 : decode cX9_takeSquares 0 = .ok (.iload_n 1, 1) := by decide +kernel
theorem dX9_takeSquares_1 : decode cX9_takeSquares 1 = .ok (.aload_n 0, 1) := by decide +kernel
theorem dX9_takeSquares_2 : decode cX9_takeSquares 2 = .ok (.getfield 43, 3) := by decide +kernel
theorem dX9_takeSquares_5 : decode cX9_takeSquares 5 = .ok (.if_icmp .ge 9, 3) := by decide +kernel
theorem dX9_takeSquares_8 : decode cX9_takeSquares 8 = .ok (.iload_n 1, 1) := by decide +kernel
theorem dX9_takeSquares_9 : decode cX9_takeSquares 9 = .ok (.bipush 6, 2) := by decide +kernel
theorem dX9_takeSquares_11 : decode cX9_takeSquares 11 = .ok (.if_icmp .lt 13, 3) := by decide +kernel
theorem dX9_takeSquares_14 : decode cX9_takeSquares 14 = .ok (.aload_n 0, 1) := by decide +kernel
theorem dX9_takeSquares_15 : decode cX9_takeSquares 15 = .ok (.iload_n 3, 1) := by decide +kernel
theorem dX9_takeSquares_16 : decode cX9_takeSquares 16 = .ok (.iload 4, 2) := by decide +kernel
theorem dX9_takeSquares_18 : decode cX9_takeSquares 18 = .ok (.iload 5, 2) := by decide +kernel
theorem dX9_takeSquares_20 : decode cX9_takeSquares 20 = .ok (.invokevirtual 87, 3) := by decide +kernel
theorem dX9_takeSquares_23 : decode cX9_takeSquares 23 = .ok (.return_, 1) := by decide +kernel
theorem dX9_takeSquares_24 : decode cX9_takeSquares 24 = .ok (.iconst 0, 1) := by decide +kernel
theorem dX9_takeSquares_25 : decode cX9_takeSquares 25 = .ok (.istore 6, 2) := by decide +kernel
theorem dX9_takeSquares_27 : decode cX9_takeSquares 27 = .ok (.iload 6, 2) := by decide +kernel
theorem dX9_takeSquares_29 : decode cX9_takeSquares 29 = .ok (.aload_n 0, 1) := by decide +kernel
theorem dX9_takeSquares_30 : decode cX9_takeSquares 30 = .ok (.getfield 43, 3) := by decide +kernel
theorem dX9_takeSquares_33 : decode cX9_takeSquares 33 = .ok (.if_icmp .ge 31, 3) := by decide +kernel
theorem dX9_takeSquares_36 : decode cX9_takeSquares 36 = .ok (.iload_n 2, 1) := by decide +kernel
theorem dX9_takeSquares_37 : decode cX9_takeSquares 37 = .ok (.iconst 1, 1) := by decide +kernel
theorem dX9_takeSquares_38 : decode cX9_takeSquares 38 = .ok (.iload 6, 2) := by decide +kernel
theorem dX9_takeSquares_40 : decode cX9_takeSquares 40 = .ok (.ishl, 1) := by decide +kernel
theorem dX9_takeSquares_41 : decode cX9_takeSquares 41 = .ok (.iand, 1) := by decide +kernel
theorem dX9_takeSquares_42 : decode cX9_takeSquares 42 = .ok (.ifCond .ne 16, 3) := by decide +kernel
theorem dX9_takeSquares_45 : decode cX9_takeSquares 45 = .ok (.aload_n 0, 1) := by decide +kernel
theorem dX9_takeSquares_46 : decode cX9_takeSquares 46 = .ok (.iload 6, 2) := by decide +kernel
theorem dX9_takeSquares_48 : decode cX9_takeSquares 48 = .ok (.iload_n 1, 1) := by decide +kernel
theorem dX9_takeSquares_49 : decode cX9_takeSquares 49 = .ok (.iload_n 2, 1) := by decide +kernel
theorem dX9_takeSquares_50 : decode cX9_takeSquares 50 = .ok (.iload_n 3, 1) := by decide +kernel
theorem dX9_takeSquares_51 : decode cX9_takeSquares 51 = .ok (.iload 4, 2) := by decide +kernel
theorem dX9_takeSquares_53 : decode cX9_takeSquares 53 = .ok (.iload 5, 2) := by decide +kernel
theorem dX9_takeSquares_55 : decode cX9_takeSquares 55 = .ok (.invokevirtual 91, 3) := by decide +kernel
theorem dX9_takeSquares_58 : decode cX9_takeSquares 58 = .ok (.iinc 6 1, 3) := by decide +kernel
theorem dX9_takeSquares_61 : decode cX9_takeSquares 61 = .ok (.goto (-34), 3) := by decide +kernel
theorem dX9_takeSquares_64 : decode cX9_takeSquares 64 = .ok (.return_, 1) := by decide +kernel
theorem dX9_takeSquareOf_0 : decode cX9_takeSquareOf 0 = .ok (.aload_n 0, 1) := by decide +kernel
theorem dX9_takeSquareOf_1 : decode cX9_takeSquareOf 1 = .ok (.getfield 15, 3) := by decide +kernel
theorem dX9_takeSquareOf_4 : decode cX9_takeSquareOf 4 = .ok (.iload_n 1, 1) := by decide +kernel
theorem dX9_takeSquareOf_5 : decode cX9_takeSquareOf 5 = .ok (.iaload, 1) := by decide +kernel
theorem dX9_takeSquareOf_6 : decode cX9_takeSquareOf 6 = .ok (.istore 7, 2) := by decide +kernel
theorem dX9_takeSquareOf_8 : decode cX9_takeSquareOf 8 = .ok (.aload_n 0, 1) := by decide +kernel
theorem dX9_takeSquareOf_9 : decode cX9_takeSquareOf 9 = .ok (.getfield 28, 3) := by decide +kernel
theorem dX9_takeSquareOf_12 : decode cX9_takeSquareOf 12 = .ok (.aload_n 0, 1) := by decide +kernel
theorem dX9_takeSquareOf_13 : decode cX9_takeSquareOf 13 = .ok (.getfield 9, 3) := by decide +kernel
theorem dX9_takeSquareOf_16 : decode cX9_takeSquareOf 16 = .ok (.iload_n 2, 1) := by decide +kernel
theorem dX9_takeSquareOf_17 : decode cX9_takeSquareOf 17 = .ok (.iaload, 1) := by decide +kernel
theorem dX9_takeSquareOf_18 : decode cX9_takeSquareOf 18 = .ok (.invokevirtual 72, 3) := by decide +kernel
theorem dX9_takeSquareOf_21 : decode cX9_takeSquareOf 21 = .ok (.istore 8, 2) := by decide +kernel
theorem dX9_takeSquareOf_23 : decode cX9_takeSquareOf 23 = .ok (.aload_n 0, 1) := by decide +kernel
theorem dX9_takeSquareOf_24 : decode cX9_takeSquareOf 24 = .ok (.getfield 18, 3) := by decide +kernel
theorem dX9_takeSquareOf_27 : decode cX9_takeSquareOf 27 = .ok (.iload_n 2, 1) := by decide +kernel
theorem dX9_takeSquareOf_28 : decode cX9_takeSquareOf 28 = .ok (.iload 7, 2) := by decide +kernel
theorem dX9_takeSquareOf_30 : decode cX9_takeSquareOf 30 = .ok (.iastore, 1) := by decide +kernel
theorem dX9_takeSquareOf_31 : decode cX9_takeSquareOf 31 = .ok (.aload_n 0, 1) := by decide +kernel
theorem dX9_takeSquareOf_32 : decode cX9_takeSquareOf 32 = .ok (.iload_n 2, 1) := by decide +kernel
theorem dX9_takeSquareOf_33 : decode cX9_takeSquareOf 33 = .ok (.iconst 1, 1) := by decide +kernel
theorem dX9_takeSquareOf_34 : decode cX9_takeSquareOf 34 = .ok (.iadd, 1) := by decide +kernel
theorem dX9_takeSquareOf_35 : decode cX9_takeSquareOf 35 = .ok (.iload_n 3, 1) := by decide +kernel
theorem dX9_takeSquareOf_36 : decode cX9_takeSquareOf 36 = .ok (.iconst 1, 1) := by decide +kernel
theorem dX9_takeSquareOf_37 : decode cX9_takeSquareOf 37 = .ok (.iload_n 1, 1) := by decide +kernel
theorem dX9_takeSquareOf_38 : decode cX9_takeSquareOf 38 = .ok (.ishl, 1) := by decide +kernel
theorem dX9_takeSquareOf_39 : decode cX9_takeSquareOf 39 = .ok (.ior, 1) := by decide +kernel
theorem dX9_takeSquareOf_40 : decode cX9_takeSquareOf 40 = .ok (.iload 4, 2) := by decide +kernel
theorem dX9_takeSquareOf_42 : decode cX9_takeSquareOf 42 = .ok (.iload 8, 2) := by decide +kernel
theorem dX9_takeSquareOf_44 : decode cX9_takeSquareOf 44 = .ok (.aload_n 0, 1) := by decide +kernel
theorem dX9_takeSquareOf_45 : decode cX9_takeSquareOf 45 = .ok (.getfield 24, 3) := by decide +kernel
theorem dX9_takeSquareOf_48 : decode cX9_takeSquareOf 48 = .ok (.iload 7, 2) := by decide +kernel
theorem dX9_takeSquareOf_50 : decode cX9_takeSquareOf 50 = .ok (.invokevirtual 75, 3) := by decide +kernel
theorem dX9_takeSquareOf_53 : decode cX9_takeSquareOf 53 = .ok (.imul, 1) := by decide +kernel
theorem dX9_takeSquareOf_54 : decode cX9_takeSquareOf 54 = .ok (.iadd, 1) := by decide +kernel
theorem dX9_takeSquareOf_55 : decode cX9_takeSquareOf 55 = .ok (.iload 5, 2) := by decide +kernel
theorem dX9_takeSquareOf_57 : decode cX9_takeSquareOf 57 = .ok (.iload 8, 2) := by decide +kernel
theorem dX9_takeSquareOf_59 : decode cX9_takeSquareOf 59 = .ok (.aload_n 0, 1) := by decide +kernel
theorem dX9_takeSquareOf_60 : decode cX9_takeSquareOf 60 = .ok (.getfield 24, 3) := by decide +kernel
theorem dX9_takeSquareOf_63 : decode cX9_takeSquareOf 63 = .ok (.iload 7, 2) := by decide +kernel
theorem dX9_takeSquareOf_65 : decode cX9_takeSquareOf 65 = .ok (.invokevirtual 80, 3) := by decide +kernel
theorem dX9_takeSquareOf_68 : decode cX9_takeSquareOf 68 = .ok (.imul, 1) := by decide +kernel
theorem dX9_takeSquareOf_69 : decode cX9_takeSquareOf 69 = .ok (.iadd, 1) := by decide +kernel
theorem dX9_takeSquareOf_70 : decode cX9_takeSquareOf 70 = .ok (.iload 7, 2) := by decide +kernel
theorem dX9_takeSquareOf_72 : decode cX9_takeSquareOf 72 = .ok (.aload_n 0, 1) := by decide +kernel
theorem dX9_takeSquareOf_73 : decode cX9_takeSquareOf 73 = .ok (.getfield 15, 3) := by decide +kernel
theorem dX9_takeSquareOf_76 : decode cX9_takeSquareOf 76 = .ok (.iload_n 2, 1) := by decide +kernel
theorem dX9_takeSquareOf_77 : decode cX9_takeSquareOf 77 = .ok (.iaload, 1) := by decide +kernel
theorem dX9_takeSquareOf_78 : decode cX9_takeSquareOf 78 = .ok (.if_icmp .ne 8, 3) := by decide +kernel
theorem dX9_takeSquareOf_81 : decode cX9_takeSquareOf 81 = .ok (.iload 6, 2) := by decide +kernel
theorem dX9_takeSquareOf_83 : decode cX9_takeSquareOf 83 = .ok (.goto 7, 3) := by decide +kernel
theorem dX9_takeSquareOf_86 : decode cX9_takeSquareOf 86 = .ok (.iload 6, 2) := by decide +kernel
theorem dX9_takeSquareOf_88 : decode cX9_takeSquareOf 88 = .ok (.iconst 1, 1) := by decide +kernel
theorem dX9_takeSquareOf_89 : decode cX9_takeSquareOf 89 = .ok (.iadd, 1) := by decide +kernel
theorem dX9_takeSquareOf_90 : decode cX9_takeSquareOf 90 = .ok (.invokevirtual 83, 3) := by decide +kernel
theorem dX9_takeSquareOf_93 : decode cX9_takeSquareOf 93 = .ok (.return_, 1) := by decide +kernel
theorem dX9_judge_0 : decode cX9_judge 0 = .ok (.aload_n 0, 1) := by decide +kernel
theorem dX9_judge_1 : decode cX9_judge 1 = .ok (.getfield 24, 3) := by decide +kernel
theorem dX9_judge_4 : decode cX9_judge 4 = .ok (.iload_n 1, 1) := by decide +kernel
theorem dX9_judge_5 : decode cX9_judge 5 = .ok (.iload_n 2, 1) := by decide +kernel
theorem dX9_judge_6 : decode cX9_judge 6 = .ok (.invokevirtual 95, 3) := by decide +kernel
theorem dX9_judge_9 : decode cX9_judge 9 = .ok (.istore 4, 2) := by decide +kernel
theorem dX9_judge_11 : decode cX9_judge 11 = .ok (.iload 4, 2) := by decide +kernel
theorem dX9_judge_13 : decode cX9_judge 13 = .ok (.aload_n 0, 1) := by decide +kernel
theorem dX9_judge_14 : decode cX9_judge 14 = .ok (.getfield 36, 3) := by decide +kernel
theorem dX9_judge_17 : decode cX9_judge 17 = .ok (.if_icmp .lt 20, 3) := by decide +kernel
theorem dX9_judge_20 : decode cX9_judge 20 = .ok (.iload 4, 2) := by decide +kernel
theorem dX9_judge_22 : decode cX9_judge 22 = .ok (.aload_n 0, 1) := by decide +kernel
theorem dX9_judge_23 : decode cX9_judge 23 = .ok (.getfield 36, 3) := by decide +kernel
theorem dX9_judge_26 : decode cX9_judge 26 = .ok (.if_icmp .ne 15, 3) := by decide +kernel
theorem dX9_judge_29 : decode cX9_judge 29 = .ok (.iload_n 3, 1) := by decide +kernel
theorem dX9_judge_30 : decode cX9_judge 30 = .ok (.aload_n 0, 1) := by decide +kernel
theorem dX9_judge_31 : decode cX9_judge 31 = .ok (.getfield 40, 3) := by decide +kernel
theorem dX9_judge_34 : decode cX9_judge 34 = .ok (.if_icmp .ge 7, 3) := by decide +kernel
theorem dX9_judge_37 : decode cX9_judge 37 = .ok (.iconst 1, 1) := by decide +kernel
theorem dX9_judge_38 : decode cX9_judge 38 = .ok (.goto 4, 3) := by decide +kernel
theorem dX9_judge_41 : decode cX9_judge 41 = .ok (.iconst 0, 1) := by decide +kernel
theorem dX9_judge_42 : decode cX9_judge 42 = .ok (.istore 5, 2) := by decide +kernel
theorem dX9_judge_44 : decode cX9_judge 44 = .ok (.aload_n 0, 1) := by decide +kernel
theorem dX9_judge_45 : decode cX9_judge 45 = .ok (.getfield 46, 3) := by decide +kernel
theorem dX9_judge_48 : decode cX9_judge 48 = .ok (.ifCond .eq 9, 3) := by decide +kernel
theorem dX9_judge_51 : decode cX9_judge 51 = .ok (.iload 5, 2) := by decide +kernel
theorem dX9_judge_53 : decode cX9_judge 53 = .ok (.ifCond .ne 4, 3) := by decide +kernel
theorem dX9_judge_56 : decode cX9_judge 56 = .ok (.return_, 1) := by decide +kernel
theorem dX9_judge_57 : decode cX9_judge 57 = .ok (.aload_n 0, 1) := by decide +kernel
theorem dX9_judge_58 : decode cX9_judge 58 = .ok (.iconst 1, 1) := by decide +kernel
theorem dX9_judge_59 : decode cX9_judge 59 = .ok (.putfield 46, 3) := by decide +kernel
theorem dX9_judge_62 : decode cX9_judge 62 = .ok (.aload_n 0, 1) := by decide +kernel
theorem dX9_judge_63 : decode cX9_judge 63 = .ok (.iload 4, 2) := by decide +kernel
theorem dX9_judge_65 : decode cX9_judge 65 = .ok (.putfield 36, 3) := by decide +kernel
theorem dX9_judge_68 : decode cX9_judge 68 = .ok (.aload_n 0, 1) := by decide +kernel
theorem dX9_judge_69 : decode cX9_judge 69 = .ok (.iload_n 3, 1) := by decide +kernel
theorem dX9_judge_70 : decode cX9_judge 70 = .ok (.putfield 40, 3) := by decide +kernel
theorem dX9_judge_73 : decode cX9_judge 73 = .ok (.aload_n 0, 1) := by decide +kernel
theorem dX9_judge_74 : decode cX9_judge 74 = .ok (.getfield 18, 3) := by decide +kernel
theorem dX9_judge_77 : decode cX9_judge 77 = .ok (.iconst 0, 1) := by decide +kernel
theorem dX9_judge_78 : decode cX9_judge 78 = .ok (.aload_n 0, 1) := by decide +kernel
theorem dX9_judge_79 : decode cX9_judge 79 = .ok (.getfield 21, 3) := by decide +kernel
theorem dX9_judge_82 : decode cX9_judge 82 = .ok (.iconst 0, 1) := by decide +kernel
theorem dX9_judge_83 : decode cX9_judge 83 = .ok (.bipush 6, 2) := by decide +kernel
theorem dX9_judge_85 : decode cX9_judge 85 = .ok (.invokestatic 98, 3) := by decide +kernel
theorem dX9_judge_88 : decode cX9_judge 88 = .ok (.return_, 1) := by decide +kernel
theorem dJ6_bitCount_0f7a4_0 : decode cJ6_bitCount_0f7a4 0 = .ok (.iload_n 0, 1) := by decide +kernel
theorem dJ6_bitCount_0f7a4_1 : decode cJ6_bitCount_0f7a4 1 = .ok (.iload_n 0, 1) := by decide +kernel
theorem dJ6_bitCount_0f7a4_2 : decode cJ6_bitCount_0f7a4 2 = .ok (.iconst 1, 1) := by decide +kernel
theorem dJ6_bitCount_0f7a4_3 : decode cJ6_bitCount_0f7a4 3 = .ok (.iushr, 1) := by decide +kernel
theorem dJ6_bitCount_0f7a4_4 : decode cJ6_bitCount_0f7a4 4 = .ok (.ldc_w 265, 3) := by decide +kernel
theorem dJ6_bitCount_0f7a4_7 : decode cJ6_bitCount_0f7a4 7 = .ok (.iand, 1) := by decide +kernel
theorem dJ6_bitCount_0f7a4_8 : decode cJ6_bitCount_0f7a4 8 = .ok (.isub, 1) := by decide +kernel
theorem dJ6_bitCount_0f7a4_9 : decode cJ6_bitCount_0f7a4 9 = .ok (.istore_n 0, 1) := by decide +kernel
theorem dJ6_bitCount_0f7a4_10 : decode cJ6_bitCount_0f7a4 10 = .ok (.iload_n 0, 1) := by decide +kernel
theorem dJ6_bitCount_0f7a4_11 : decode cJ6_bitCount_0f7a4 11 = .ok (.ldc_w 266, 3) := by decide +kernel
theorem dJ6_bitCount_0f7a4_14 : decode cJ6_bitCount_0f7a4 14 = .ok (.iand, 1) := by decide +kernel
theorem dJ6_bitCount_0f7a4_15 : decode cJ6_bitCount_0f7a4 15 = .ok (.iload_n 0, 1) := by decide +kernel
theorem dJ6_bitCount_0f7a4_16 : decode cJ6_bitCount_0f7a4 16 = .ok (.iconst 2, 1) := by decide +kernel
theorem dJ6_bitCount_0f7a4_17 : decode cJ6_bitCount_0f7a4 17 = .ok (.iushr, 1) := by decide +kernel
theorem dJ6_bitCount_0f7a4_18 : decode cJ6_bitCount_0f7a4 18 = .ok (.ldc_w 266, 3) := by decide +kernel
theorem dJ6_bitCount_0f7a4_21 : decode cJ6_bitCount_0f7a4 21 = .ok (.iand, 1) := by decide +kernel
theorem dJ6_bitCount_0f7a4_22 : decode cJ6_bitCount_0f7a4 22 = .ok (.iadd, 1) := by decide +kernel
theorem dJ6_bitCount_0f7a4_23 : decode cJ6_bitCount_0f7a4 23 = .ok (.istore_n 0, 1) := by decide +kernel
theorem dJ6_bitCount_0f7a4_24 : decode cJ6_bitCount_0f7a4 24 = .ok (.iload_n 0, 1) := by decide +kernel
theorem dJ6_bitCount_0f7a4_25 : decode cJ6_bitCount_0f7a4 25 = .ok (.iload_n 0, 1) := by decide +kernel
theorem dJ6_bitCount_0f7a4_26 : decode cJ6_bitCount_0f7a4 26 = .ok (.iconst 4, 1) := by decide +kernel
theorem dJ6_bitCount_0f7a4_27 : decode cJ6_bitCount_0f7a4 27 = .ok (.iushr, 1) := by decide +kernel
theorem dJ6_bitCount_0f7a4_28 : decode cJ6_bitCount_0f7a4 28 = .ok (.iadd, 1) := by decide +kernel
theorem dJ6_bitCount_0f7a4_29 : decode cJ6_bitCount_0f7a4 29 = .ok (.ldc_w 267, 3) := by decide +kernel
theorem dJ6_bitCount_0f7a4_32 : decode cJ6_bitCount_0f7a4 32 = .ok (.iand, 1) := by decide +kernel
theorem dJ6_bitCount_0f7a4_33 : decode cJ6_bitCount_0f7a4 33 = .ok (.istore_n 0, 1) := by decide +kernel
theorem dJ6_bitCount_0f7a4_34 : decode cJ6_bitCount_0f7a4 34 = .ok (.iload_n 0, 1) := by decide +kernel
theorem dJ6_bitCount_0f7a4_35 : decode cJ6_bitCount_0f7a4 35 = .ok (.iload_n 0, 1) := by decide +kernel
theorem dJ6_bitCount_0f7a4_36 : decode cJ6_bitCount_0f7a4 36 = .ok (.bipush 8, 2) := by decide +kernel
theorem dJ6_bitCount_0f7a4_38 : decode cJ6_bitCount_0f7a4 38 = .ok (.iushr, 1) := by decide +kernel
theorem dJ6_bitCount_0f7a4_39 : decode cJ6_bitCount_0f7a4 39 = .ok (.iadd, 1) := by decide +kernel
theorem dJ6_bitCount_0f7a4_40 : decode cJ6_bitCount_0f7a4 40 = .ok (.istore_n 0, 1) := by decide +kernel
theorem dJ6_bitCount_0f7a4_41 : decode cJ6_bitCount_0f7a4 41 = .ok (.iload_n 0, 1) := by decide +kernel
theorem dJ6_bitCount_0f7a4_42 : decode cJ6_bitCount_0f7a4 42 = .ok (.iload_n 0, 1) := by decide +kernel
theorem dJ6_bitCount_0f7a4_43 : decode cJ6_bitCount_0f7a4 43 = .ok (.bipush 16, 2) := by decide +kernel
theorem dJ6_bitCount_0f7a4_45 : decode cJ6_bitCount_0f7a4 45 = .ok (.iushr, 1) := by decide +kernel
theorem dJ6_bitCount_0f7a4_46 : decode cJ6_bitCount_0f7a4 46 = .ok (.iadd, 1) := by decide +kernel
theorem dJ6_bitCount_0f7a4_47 : decode cJ6_bitCount_0f7a4 47 = .ok (.istore_n 0, 1) := by decide +kernel
theorem dJ6_bitCount_0f7a4_48 : decode cJ6_bitCount_0f7a4 48 = .ok (.iload_n 0, 1) := by decide +kernel
theorem dJ6_bitCount_0f7a4_49 : decode cJ6_bitCount_0f7a4 49 = .ok (.bipush 63, 2) := by decide +kernel
theorem dJ6_bitCount_0f7a4_51 : decode cJ6_bitCount_0f7a4 51 = .ok (.iand, 1) := by decide +kernel
theorem dJ6_bitCount_0f7a4_52 : decode cJ6_bitCount_0f7a4 52 = .ok (.ireturn, 1) := by decide +kernel
theorem dJ9_max_7cf53_0 : decode cJ9_max_7cf53 0 = .ok (.iload_n 0, 1) := by decide +kernel
theorem dJ9_max_7cf53_1 : decode cJ9_max_7cf53 1 = .ok (.iload_n 1, 1) := by decide +kernel
theorem dJ9_max_7cf53_2 : decode cJ9_max_7cf53 2 = .ok (.if_icmp .lt 7, 3) := by decide +kernel
theorem dJ9_max_7cf53_5 : decode cJ9_max_7cf53 5 = .ok (.iload_n 0, 1) := by decide +kernel
theorem dJ9_max_7cf53_6 : decode cJ9_max_7cf53 6 = .ok (.goto 4, 3) := by decide +kernel
theorem dJ9_max_7cf53_9 : decode cJ9_max_7cf53 9 = .ok (.iload_n 1, 1) := by decide +kernel
theorem dJ9_max_7cf53_10 : decode cJ9_max_7cf53 10 = .ok (.ireturn, 1) := by decide +kernel
