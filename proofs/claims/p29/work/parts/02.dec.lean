theorem dX0_init_0 : decode cX0_init 0 = .ok (.aload_n 0, 1) := by decide +kernel
theorem dX0_init_1 : decode cX0_init 1 = .ok (.invokespecial 3, 3) := by decide +kernel
theorem dX0_init_4 : decode cX0_init 4 = .ok (.aload_n 0, 1) := by decide +kernel
theorem dX0_init_5 : decode cX0_init 5 = .ok (.bipush 8, 2) := by decide +kernel
theorem dX0_init_7 : decode cX0_init 7 = .ok (.newarray .int, 2) := by decide +kernel
theorem dX0_init_9 : decode cX0_init 9 = .ok (.putfield 9, 3) := by decide +kernel
theorem dX0_init_12 : decode cX0_init 12 = .ok (.aload_n 0, 1) := by decide +kernel
theorem dX0_init_13 : decode cX0_init 13 = .ok (.bipush 8, 2) := by decide +kernel
theorem dX0_init_15 : decode cX0_init 15 = .ok (.newarray .int, 2) := by decide +kernel
theorem dX0_init_17 : decode cX0_init 17 = .ok (.putfield 15, 3) := by decide +kernel
theorem dX0_init_20 : decode cX0_init 20 = .ok (.aload_n 0, 1) := by decide +kernel
theorem dX0_init_21 : decode cX0_init 21 = .ok (.aload_n 1, 1) := by decide +kernel
theorem dX0_init_22 : decode cX0_init 22 = .ok (.putfield 18, 3) := by decide +kernel
theorem dX0_init_25 : decode cX0_init 25 = .ok (.aload_n 0, 1) := by decide +kernel
theorem dX0_init_26 : decode cX0_init 26 = .ok (.aload_n 2, 1) := by decide +kernel
theorem dX0_init_27 : decode cX0_init 27 = .ok (.putfield 22, 3) := by decide +kernel
theorem dX0_init_30 : decode cX0_init 30 = .ok (.return_, 1) := by decide +kernel
theorem dX0_leanEast_0 : decode cX0_leanEast 0 = .ok (.iconst 0, 1) := by decide +kernel
theorem dX0_leanEast_1 : decode cX0_leanEast 1 = .ok (.istore_n 2, 1) := by decide +kernel
theorem dX0_leanEast_2 : decode cX0_leanEast 2 = .ok (.iconst 0, 1) := by decide +kernel
theorem dX0_leanEast_3 : decode cX0_leanEast 3 = .ok (.istore_n 3, 1) := by decide +kernel
theorem dX0_leanEast_4 : decode cX0_leanEast 4 = .ok (.iload_n 3, 1) := by decide +kernel
theorem dX0_leanEast_5 : decode cX0_leanEast 5 = .ok (.aload_n 0, 1) := by decide +kernel
theorem dX0_leanEast_6 : decode cX0_leanEast 6 = .ok (.getfield 22, 3) := by decide +kernel
theorem dX0_leanEast_9 : decode cX0_leanEast 9 = .ok (.invokevirtual 26, 3) := by decide +kernel
theorem dX0_leanEast_12 : decode cX0_leanEast 12 = .ok (.if_icmp .ge 37, 3) := by decide +kernel
theorem dX0_leanEast_15 : decode cX0_leanEast 15 = .ok (.iload_n 2, 1) := by decide +kernel
theorem dX0_leanEast_16 : decode cX0_leanEast 16 = .ok (.aload_n 0, 1) := by decide +kernel
theorem dX0_leanEast_17 : decode cX0_leanEast 17 = .ok (.getfield 22, 3) := by decide +kernel
theorem dX0_leanEast_20 : decode cX0_leanEast 20 = .ok (.iload_n 3, 1) := by decide +kernel
theorem dX0_leanEast_21 : decode cX0_leanEast 21 = .ok (.invokevirtual 32, 3) := by decide +kernel
theorem dX0_leanEast_24 : decode cX0_leanEast 24 = .ok (.aload_n 0, 1) := by decide +kernel
theorem dX0_leanEast_25 : decode cX0_leanEast 25 = .ok (.getfield 18, 3) := by decide +kernel
theorem dX0_leanEast_28 : decode cX0_leanEast 28 = .ok (.aload_n 0, 1) := by decide +kernel
theorem dX0_leanEast_29 : decode cX0_leanEast 29 = .ok (.getfield 22, 3) := by decide +kernel
theorem dX0_leanEast_32 : decode cX0_leanEast 32 = .ok (.iload_n 3, 1) := by decide +kernel
theorem dX0_leanEast_33 : decode cX0_leanEast 33 = .ok (.iload_n 1, 1) := by decide +kernel
theorem dX0_leanEast_34 : decode cX0_leanEast 34 = .ok (.invokevirtual 36, 3) := by decide +kernel
theorem dX0_leanEast_37 : decode cX0_leanEast 37 = .ok (.invokevirtual 40, 3) := by decide +kernel
theorem dX0_leanEast_40 : decode cX0_leanEast 40 = .ok (.imul, 1) := by decide +kernel
theorem dX0_leanEast_41 : decode cX0_leanEast 41 = .ok (.iadd, 1) := by decide +kernel
theorem dX0_leanEast_42 : decode cX0_leanEast 42 = .ok (.istore_n 2, 1) := by decide +kernel
theorem dX0_leanEast_43 : decode cX0_leanEast 43 = .ok (.iinc 3 1, 3) := by decide +kernel
theorem dX0_leanEast_46 : decode cX0_leanEast 46 = .ok (.goto (-42), 3) := by decide +kernel
theorem dX0_leanEast_49 : decode cX0_leanEast 49 = .ok (.iload_n 2, 1) := by decide +kernel
theorem dX0_leanEast_50 : decode cX0_leanEast 50 = .ok (.ireturn, 1) := by decide +kernel
theorem dX0_leanSouth_0 : decode cX0_leanSouth 0 = .ok (.iconst 0, 1) := by decide +kernel
theorem dX0_leanSouth_1 : decode cX0_leanSouth 1 = .ok (.istore_n 2, 1) := by decide +kernel
theorem dX0_leanSouth_2 : decode cX0_leanSouth 2 = .ok (.iconst 0, 1) := by decide +kernel
theorem dX0_leanSouth_3 : decode cX0_leanSouth 3 = .ok (.istore_n 3, 1) := by decide +kernel
theorem dX0_leanSouth_4 : decode cX0_leanSouth 4 = .ok (.iload_n 3, 1) := by decide +kernel
theorem dX0_leanSouth_5 : decode cX0_leanSouth 5 = .ok (.aload_n 0, 1) := by decide +kernel
theorem dX0_leanSouth_6 : decode cX0_leanSouth 6 = .ok (.getfield 22, 3) := by decide +kernel
theorem dX0_leanSouth_9 : decode cX0_leanSouth 9 = .ok (.invokevirtual 26, 3) := by decide +kernel
theorem dX0_leanSouth_12 : decode cX0_leanSouth 12 = .ok (.if_icmp .ge 37, 3) := by decide +kernel
theorem dX0_leanSouth_15 : decode cX0_leanSouth 15 = .ok (.iload_n 2, 1) := by decide +kernel
theorem dX0_leanSouth_16 : decode cX0_leanSouth 16 = .ok (.aload_n 0, 1) := by decide +kernel
theorem dX0_leanSouth_17 : decode cX0_leanSouth 17 = .ok (.getfield 22, 3) := by decide +kernel
theorem dX0_leanSouth_20 : decode cX0_leanSouth 20 = .ok (.iload_n 3, 1) := by decide +kernel
theorem dX0_leanSouth_21 : decode cX0_leanSouth 21 = .ok (.invokevirtual 32, 3) := by decide +kernel
theorem dX0_leanSouth_24 : decode cX0_leanSouth 24 = .ok (.aload_n 0, 1) := by decide +kernel
theorem dX0_leanSouth_25 : decode cX0_leanSouth 25 = .ok (.getfield 18, 3) := by decide +kernel
theorem dX0_leanSouth_28 : decode cX0_leanSouth 28 = .ok (.aload_n 0, 1) := by decide +kernel
theorem dX0_leanSouth_29 : decode cX0_leanSouth 29 = .ok (.getfield 22, 3) := by decide +kernel
theorem dX0_leanSouth_32 : decode cX0_leanSouth 32 = .ok (.iload_n 3, 1) := by decide +kernel
theorem dX0_leanSouth_33 : decode cX0_leanSouth 33 = .ok (.iload_n 1, 1) := by decide +kernel
theorem dX0_leanSouth_34 : decode cX0_leanSouth 34 = .ok (.invokevirtual 36, 3) := by decide +kernel
theorem dX0_leanSouth_37 : decode cX0_leanSouth 37 = .ok (.invokevirtual 45, 3) := by decide +kernel
theorem dX0_leanSouth_40 : decode cX0_leanSouth 40 = .ok (.imul, 1) := by decide +kernel
theorem dX0_leanSouth_41 : decode cX0_leanSouth 41 = .ok (.iadd, 1) := by decide +kernel
theorem dX0_leanSouth_42 : decode cX0_leanSouth 42 = .ok (.istore_n 2, 1) := by decide +kernel
theorem dX0_leanSouth_43 : decode cX0_leanSouth 43 = .ok (.iinc 3 1, 3) := by decide +kernel
theorem dX0_leanSouth_46 : decode cX0_leanSouth 46 = .ok (.goto (-42), 3) := by decide +kernel
theorem dX0_leanSouth_49 : decode cX0_leanSouth 49 = .ok (.iload_n 2, 1) := by decide +kernel
theorem dX0_leanSouth_50 : decode cX0_leanSouth 50 = .ok (.ireturn, 1) := by decide +kernel
theorem dX0_wetIn_0 : decode cX0_wetIn 0 = .ok (.aload_n 0, 1) := by decide +kernel
theorem dX0_wetIn_1 : decode cX0_wetIn 1 = .ok (.getfield 18, 3) := by decide +kernel
theorem dX0_wetIn_4 : decode cX0_wetIn 4 = .ok (.aload_n 0, 1) := by decide +kernel
theorem dX0_wetIn_5 : decode cX0_wetIn 5 = .ok (.iload_n 1, 1) := by decide +kernel
theorem dX0_wetIn_6 : decode cX0_wetIn 6 = .ok (.invokevirtual 48, 3) := by decide +kernel
theorem dX0_wetIn_9 : decode cX0_wetIn 9 = .ok (.aload_n 0, 1) := by decide +kernel
theorem dX0_wetIn_10 : decode cX0_wetIn 10 = .ok (.iload_n 1, 1) := by decide +kernel
theorem dX0_wetIn_11 : decode cX0_wetIn 11 = .ok (.invokevirtual 51, 3) := by decide +kernel
theorem dX0_wetIn_14 : decode cX0_wetIn 14 = .ok (.invokevirtual 54, 3) := by decide +kernel
theorem dX0_wetIn_17 : decode cX0_wetIn 17 = .ok (.ireturn, 1) := by decide +kernel
theorem dX1_init_0 : decode cX1_init 0 = .ok (.aload_n 0, 1) := by decide +kernel
theorem dX1_init_1 : decode cX1_init 1 = .ok (.invokespecial 3, 3) := by decide +kernel
theorem dX1_init_4 : decode cX1_init 4 = .ok (.aload_n 0, 1) := by decide +kernel
theorem dX1_init_5 : decode cX1_init 5 = .ok (.bipush 30, 2) := by decide +kernel
theorem dX1_init_7 : decode cX1_init 7 = .ok (.newarray .int, 2) := by decide +kernel
theorem dX1_init_9 : decode cX1_init 9 = .ok (.putfield 9, 3) := by decide +kernel
theorem dX1_init_12 : decode cX1_init 12 = .ok (.aload_n 0, 1) := by decide +kernel
theorem dX1_init_13 : decode cX1_init 13 = .ok (.bipush 30, 2) := by decide +kernel
theorem dX1_init_15 : decode cX1_init 15 = .ok (.newarray .int, 2) := by decide +kernel
theorem dX1_init_17 : decode cX1_init 17 = .ok (.putfield 15, 3) := by decide +kernel
theorem dX1_init_20 : decode cX1_init 20 = .ok (.aload_n 0, 1) := by decide +kernel
theorem dX1_init_21 : decode cX1_init 21 = .ok (.bipush 30, 2) := by decide +kernel
theorem dX1_init_23 : decode cX1_init 23 = .ok (.newarray .int, 2) := by decide +kernel
theorem dX1_init_25 : decode cX1_init 25 = .ok (.putfield 18, 3) := by decide +kernel
theorem dX1_init_28 : decode cX1_init 28 = .ok (.return_, 1) := by decide +kernel
theorem dX1_read_0 : decode cX1_read 0 = .ok (.aload_n 0, 1) := by decide +kernel
theorem dX1_read_1 : decode cX1_read 1 = .ok (.iload_n 2, 1) := by decide +kernel
theorem dX1_read_2 : decode cX1_read 2 = .ok (.putfield 21, 3) := by decide +kernel
theorem dX1_read_5 : decode cX1_read 5 = .ok (.aload_n 0, 1) := by decide +kernel
theorem dX1_read_6 : decode cX1_read 6 = .ok (.iload_n 3, 1) := by decide +kernel
theorem dX1_read_7 : decode cX1_read 7 = .ok (.putfield 25, 3) := by decide +kernel
theorem dX1_read_10 : decode cX1_read 10 = .ok (.aload_n 0, 1) := by decide +kernel
theorem dX1_read_11 : decode cX1_read 11 = .ok (.iconst 0, 1) := by decide +kernel
theorem dX1_read_12 : decode cX1_read 12 = .ok (.putfield 28, 3) := by decide +kernel
theorem dX1_read_15 : decode cX1_read 15 = .ok (.aload_n 0, 1) := by decide +kernel
theorem dX1_read_16 : decode cX1_read 16 = .ok (.iconst 0, 1) := by decide +kernel
theorem dX1_read_17 : decode cX1_read 17 = .ok (.putfield 31, 3) := by decide +kernel
theorem dX1_read_20 : decode cX1_read 20 = .ok (.iconst 0, 1) := by decide +kernel
theorem dX1_read_21 : decode cX1_read 21 = .ok (.istore 4, 2) := by decide +kernel
theorem dX1_read_23 : decode cX1_read 23 = .ok (.iconst 0, 1) := by decide +kernel
theorem dX1_read_24 : decode cX1_read 24 = .ok (.istore 5, 2) := by decide +kernel
theorem dX1_read_26 : decode cX1_read 26 = .ok (.iconst 0, 1) := by decide +kernel
theorem dX1_read_27 : decode cX1_read 27 = .ok (.istore 6, 2) := by decide +kernel
theorem dX1_read_29 : decode cX1_read 29 = .ok (.iload 6, 2) := by decide +kernel
theorem dX1_read_31 : decode cX1_read 31 = .ok (.aload_n 1, 1) := by decide +kernel
theorem dX1_read_32 : decode cX1_read 32 = .ok (.invokevirtual 34, 3) := by decide +kernel
theorem dX1_read_35 : decode cX1_read 35 = .ok (.if_icmp .ge 60, 3) := by decide +kernel
theorem dX1_read_38 : decode cX1_read 38 = .ok (.aload_n 1, 1) := by decide +kernel
theorem dX1_read_39 : decode cX1_read 39 = .ok (.iload 6, 2) := by decide +kernel
theorem dX1_read_41 : decode cX1_read 41 = .ok (.invokevirtual 40, 3) := by decide +kernel
theorem dX1_read_44 : decode cX1_read 44 = .ok (.istore 7, 2) := by decide +kernel
theorem dX1_read_46 : decode cX1_read 46 = .ok (.iload 7, 2) := by decide +kernel
theorem dX1_read_48 : decode cX1_read 48 = .ok (.bipush 47, 2) := by decide +kernel
theorem dX1_read_50 : decode cX1_read 50 = .ok (.if_icmp .ne 12, 3) := by decide +kernel
theorem dX1_read_53 : decode cX1_read 53 = .ok (.iinc 4 1, 3) := by decide +kernel
theorem dX1_read_56 : decode cX1_read 56 = .ok (.iconst 0, 1) := by decide +kernel
theorem dX1_read_57 : decode cX1_read 57 = .ok (.istore 5, 2) := by decide +kernel
theorem dX1_read_59 : decode cX1_read 59 = .ok (.goto 30, 3) := by decide +kernel
theorem dX1_read_62 : decode cX1_read 62 = .ok (.aload_n 0, 1) := by decide +kernel
theorem dX1_read_63 : decode cX1_read 63 = .ok (.iload 7, 2) := by decide +kernel
theorem dX1_read_65 : decode cX1_read 65 = .ok (.bipush 46, 2) := by decide +kernel
theorem dX1_read_67 : decode cX1_read 67 = .ok (.if_icmp .ne 7, 3) := by decide +kernel
theorem dX1_read_70 : decode cX1_read 70 = .ok (.iconst 0, 1) := by decide +kernel
theorem dX1_read_71 : decode cX1_read 71 = .ok (.goto 8, 3) := by decide +kernel
theorem dX1_read_74 : decode cX1_read 74 = .ok (.iload 7, 2) := by decide +kernel
theorem dX1_read_76 : decode cX1_read 76 = .ok (.bipush 48, 2) := by decide +kernel
theorem dX1_read_78 : decode cX1_read 78 = .ok (.isub, 1) := by decide +kernel
theorem dX1_read_79 : decode cX1_read 79 = .ok (.iload 4, 2) := by decide +kernel
theorem dX1_read_81 : decode cX1_read 81 = .ok (.iload 5, 2) := by decide +kernel
theorem dX1_read_83 : decode cX1_read 83 = .ok (.invokevirtual 44, 3) := by decide +kernel
theorem dX1_read_86 : decode cX1_read 86 = .ok (.iinc 5 1, 3) := by decide +kernel
theorem dX1_read_89 : decode cX1_read 89 = .ok (.iinc 6 1, 3) := by decide +kernel
theorem dX1_read_92 : decode cX1_read 92 = .ok (.goto (-63), 3) := by decide +kernel
theorem dX1_read_95 : decode cX1_read 95 = .ok (.return_, 1) := by decide +kernel
theorem dX1_addSquare_0 : decode cX1_addSquare 0 = .ok (.aload_n 0, 1) := by decide +kernel
theorem dX1_addSquare_1 : decode cX1_addSquare 1 = .ok (.getfield 28, 3) := by decide +kernel
theorem dX1_addSquare_4 : decode cX1_addSquare 4 = .ok (.bipush 30, 2) := by decide +kernel
theorem dX1_addSquare_6 : decode cX1_addSquare 6 = .ok (.if_icmp .lt 4, 3) := by decide +kernel
theorem dX1_addSquare_9 : decode cX1_addSquare 9 = .ok (.return_, 1) := by decide +kernel
theorem dX1_addSquare_10 : decode cX1_addSquare 10 = .ok (.aload_n 0, 1) := by decide +kernel
theorem dX1_addSquare_11 : decode cX1_addSquare 11 = .ok (.getfield 9, 3) := by decide +kernel
theorem dX1_addSquare_14 : decode cX1_addSquare 14 = .ok (.aload_n 0, 1) := by decide +kernel
theorem dX1_addSquare_15 : decode cX1_addSquare 15 = .ok (.getfield 28, 3) := by decide +kernel
theorem dX1_addSquare_18 : decode cX1_addSquare 18 = .ok (.iload_n 1, 1) := by decide +kernel
theorem dX1_addSquare_19 : decode cX1_addSquare 19 = .ok (.iastore, 1) := by decide +kernel
theorem dX1_addSquare_20 : decode cX1_addSquare 20 = .ok (.aload_n 0, 1) := by decide +kernel
theorem dX1_addSquare_21 : decode cX1_addSquare 21 = .ok (.getfield 15, 3) := by decide +kernel
theorem dX1_addSquare_24 : decode cX1_addSquare 24 = .ok (.aload_n 0, 1) := by decide +kernel
theorem dX1_addSquare_25 : decode cX1_addSquare 25 = .ok (.getfield 28, 3) := by decide +kernel
theorem dX1_addSquare_28 : decode cX1_addSquare 28 = .ok (.iload_n 3, 1) := by decide +kernel
theorem dX1_addSquare_29 : decode cX1_addSquare 29 = .ok (.aload_n 0, 1) := by decide +kernel
theorem dX1_addSquare_30 : decode cX1_addSquare 30 = .ok (.getfield 25, 3) := by decide +kernel
theorem dX1_addSquare_33 : decode cX1_addSquare 33 = .ok (.invokestatic 48, 3) := by decide +kernel
theorem dX1_addSquare_36 : decode cX1_addSquare 36 = .ok (.iastore, 1) := by decide +kernel
theorem dX1_addSquare_37 : decode cX1_addSquare 37 = .ok (.aload_n 0, 1) := by decide +kernel
theorem dX1_addSquare_38 : decode cX1_addSquare 38 = .ok (.getfield 18, 3) := by decide +kernel
theorem dX1_addSquare_41 : decode cX1_addSquare 41 = .ok (.aload_n 0, 1) := by decide +kernel
theorem dX1_addSquare_42 : decode cX1_addSquare 42 = .ok (.getfield 28, 3) := by decide +kernel
theorem dX1_addSquare_45 : decode cX1_addSquare 45 = .ok (.iload_n 2, 1) := by decide +kernel
theorem dX1_addSquare_46 : decode cX1_addSquare 46 = .ok (.aload_n 0, 1) := by decide +kernel
theorem dX1_addSquare_47 : decode cX1_addSquare 47 = .ok (.getfield 21, 3) := by decide +kernel
theorem dX1_addSquare_50 : decode cX1_addSquare 50 = .ok (.invokestatic 48, 3) := by decide +kernel
theorem dX1_addSquare_53 : decode cX1_addSquare 53 = .ok (.iastore, 1) := by decide +kernel
theorem dX1_addSquare_54 : decode cX1_addSquare 54 = .ok (.aload_n 0, 1) := by decide +kernel
theorem dX1_addSquare_55 : decode cX1_addSquare 55 = .ok (.dup, 1) := by decide +kernel
theorem dX1_addSquare_56 : decode cX1_addSquare 56 = .ok (.getfield 28, 3) := by decide +kernel
theorem dX1_addSquare_59 : decode cX1_addSquare 59 = .ok (.iconst 1, 1) := by decide +kernel
theorem dX1_addSquare_60 : decode cX1_addSquare 60 = .ok (.iadd, 1) := by decide +kernel
theorem dX1_addSquare_61 : decode cX1_addSquare 61 = .ok (.putfield 28, 3) := by decide +kernel
theorem dX1_addSquare_64 : decode cX1_addSquare 64 = .ok (.iload_n 1, 1) := by decide +kernel
theorem dX1_addSquare_65 : decode cX1_addSquare 65 = .ok (.ifCond .le 13, 3) := by decide +kernel
theorem dX1_addSquare_68 : decode cX1_addSquare 68 = .ok (.aload_n 0, 1) := by decide +kernel
theorem dX1_addSquare_69 : decode cX1_addSquare 69 = .ok (.dup, 1) := by decide +kernel
theorem dX1_addSquare_70 : decode cX1_addSquare 70 = .ok (.getfield 31, 3) := by decide +kernel
theorem dX1_addSquare_73 : decode cX1_addSquare 73 = .ok (.iconst 1, 1) := by decide +kernel
theorem dX1_addSquare_74 : decode cX1_addSquare 74 = .ok (.iadd, 1) := by decide +kernel
theorem dX1_addSquare_75 : decode cX1_addSquare 75 = .ok (.putfield 31, 3) := by decide +kernel
theorem dX1_addSquare_78 : decode cX1_addSquare 78 = .ok (.return_, 1) := by decide +kernel
theorem dX1_fromCentre_0 : decode cX1_fromCentre 0 = .ok (.iconst 2, 1) := by decide +kernel
theorem dX1_fromCentre_1 : decode cX1_fromCentre 1 = .ok (.iload_n 0, 1) := by decide +kernel
theorem dX1_fromCentre_2 : decode cX1_fromCentre 2 = .ok (.imul, 1) := by decide +kernel
theorem dX1_fromCentre_3 : decode cX1_fromCentre 3 = .ok (.iload_n 1, 1) := by decide +kernel
theorem dX1_fromCentre_4 : decode cX1_fromCentre 4 = .ok (.iconst 1, 1) := by decide +kernel
theorem dX1_fromCentre_5 : decode cX1_fromCentre 5 = .ok (.isub, 1) := by decide +kernel
theorem dX1_fromCentre_6 : decode cX1_fromCentre 6 = .ok (.isub, 1) := by decide +kernel
theorem dX1_fromCentre_7 : decode cX1_fromCentre 7 = .ok (.ireturn, 1) := by decide +kernel
theorem dX1_isThere_0 : decode cX1_isThere 0 = .ok (.aload_n 0, 1) := by decide +kernel
theorem dX1_isThere_1 : decode cX1_isThere 1 = .ok (.getfield 28, 3) := by decide +kernel
theorem dX1_isThere_4 : decode cX1_isThere 4 = .ok (.ifCond .le 7, 3) := by decide +kernel
theorem dX1_isThere_7 : decode cX1_isThere 7 = .ok (.iconst 1, 1) := by decide +kernel
theorem dX1_isThere_8 : decode cX1_isThere 8 = .ok (.goto 4, 3) := by decide +kernel
theorem dX1_isThere_11 : decode cX1_isThere 11 = .ok (.iconst 0, 1) := by decide +kernel
theorem dX1_isThere_12 : decode cX1_isThere 12 = .ok (.ireturn, 1) := by decide +kernel
theorem dX1_squares_0 : decode cX1_squares 0 = .ok (.aload_n 0, 1) := by decide +kernel
theorem dX1_squares_1 : decode cX1_squares 1 = .ok (.getfield 28, 3) := by decide +kernel
theorem dX1_squares_4 : decode cX1_squares 4 = .ok (.ireturn, 1) := by decide +kernel
theorem dX1_doors_0 : decode cX1_doors 0 = .ok (.aload_n 0, 1) := by decide +kernel
theorem dX1_doors_1 : decode cX1_doors 1 = .ok (.getfield 31, 3) := by decide +kernel
theorem dX1_doors_4 : decode cX1_doors 4 = .ok (.ireturn, 1) := by decide +kernel
theorem dX1_has_0 : decode cX1_has 0 = .ok (.iload_n 1, 1) := by decide +kernel
theorem dX1_has_1 : decode cX1_has 1 = .ok (.ifCond .lt 15, 3) := by decide +kernel
theorem dX1_has_4 : decode cX1_has 4 = .ok (.iload_n 1, 1) := by decide +kernel
theorem dX1_has_5 : decode cX1_has 5 = .ok (.aload_n 0, 1) := by decide +kernel
theorem dX1_has_6 : decode cX1_has 6 = .ok (.getfield 28, 3) := by decide +kernel
theorem dX1_has_9 : decode cX1_has 9 = .ok (.if_icmp .ge 7, 3) := by decide +kernel
theorem dX1_has_12 : decode cX1_has 12 = .ok (.iconst 1, 1) := by decide +kernel
theorem dX1_has_13 : decode cX1_has 13 = .ok (.goto 4, 3) := by decide +kernel
theorem dX1_has_16 : decode cX1_has 16 = .ok (.iconst 0, 1) := by decide +kernel
theorem dX1_has_17 : decode cX1_has 17 = .ok (.ireturn, 1) := by decide +kernel
theorem dX1_hasAll_0 : decode cX1_hasAll 0 = .ok (.iload_n 1, 1) := by decide +kernel
theorem dX1_hasAll_1 : decode cX1_hasAll 1 = .ok (.ifCond .lt 16, 3) := by decide +kernel
theorem dX1_hasAll_4 : decode cX1_hasAll 4 = .ok (.iload_n 1, 1) := by decide +kernel
theorem dX1_hasAll_5 : decode cX1_hasAll 5 = .ok (.aload_n 0, 1) := by decide +kernel
theorem dX1_hasAll_6 : decode cX1_hasAll 6 = .ok (.getfield 28, 3) := by decide +kernel
theorem dX1_hasAll_9 : decode cX1_hasAll 9 = .ok (.iushr, 1) := by decide +kernel
theorem dX1_hasAll_10 : decode cX1_hasAll 10 = .ok (.ifCond .ne 7, 3) := by decide +kernel
theorem dX1_hasAll_13 : decode cX1_hasAll 13 = .ok (.iconst 1, 1) := by decide +kernel
theorem dX1_hasAll_14 : decode cX1_hasAll 14 = .ok (.goto 4, 3) := by decide +kernel
theorem dX1_hasAll_17 : decode cX1_hasAll 17 = .ok (.iconst 0, 1) := by decide +kernel
theorem dX1_hasAll_18 : decode cX1_hasAll 18 = .ok (.ireturn, 1) := by decide +kernel
theorem dX1_east_0 : decode cX1_east 0 = .ok (.aload_n 0, 1) := by decide +kernel
theorem dX1_east_1 : decode cX1_east 1 = .ok (.iload_n 1, 1) := by decide +kernel
theorem dX1_east_2 : decode cX1_east 2 = .ok (.invokevirtual 52, 3) := by decide +kernel
theorem dX1_east_5 : decode cX1_east 5 = .ok (.ifCond .eq 12, 3) := by decide +kernel
theorem dX1_east_8 : decode cX1_east 8 = .ok (.aload_n 0, 1) := by decide +kernel
theorem dX1_east_9 : decode cX1_east 9 = .ok (.getfield 15, 3) := by decide +kernel
theorem dX1_east_12 : decode cX1_east 12 = .ok (.iload_n 1, 1) := by decide +kernel
theorem dX1_east_13 : decode cX1_east 13 = .ok (.iaload, 1) := by decide +kernel
theorem dX1_east_14 : decode cX1_east 14 = .ok (.goto 4, 3) := by decide +kernel
theorem dX1_east_17 : decode cX1_east 17 = .ok (.iconst 0, 1) := by decide +kernel
theorem dX1_east_18 : decode cX1_east 18 = .ok (.ireturn, 1) := by decide +kernel
theorem dX1_south_0 : decode cX1_south 0 = .ok (.aload_n 0, 1) := by decide +kernel
theorem dX1_south_1 : decode cX1_south 1 = .ok (.iload_n 1, 1) := by decide +kernel
theorem dX1_south_2 : decode cX1_south 2 = .ok (.invokevirtual 52, 3) := by decide +kernel
theorem dX1_south_5 : decode cX1_south 5 = .ok (.ifCond .eq 12, 3) := by decide +kernel
theorem dX1_south_8 : decode cX1_south 8 = .ok (.aload_n 0, 1) := by decide +kernel
theorem dX1_south_9 : decode cX1_south 9 = .ok (.getfield 18, 3) := by decide +kernel
theorem dX1_south_12 : decode cX1_south 12 = .ok (.iload_n 1, 1) := by decide +kernel
theorem dX1_south_13 : decode cX1_south 13 = .ok (.iaload, 1) := by decide +kernel
theorem dX1_south_14 : decode cX1_south 14 = .ok (.goto 4, 3) := by decide +kernel
theorem dX1_south_17 : decode cX1_south 17 = .ok (.iconst 0, 1) := by decide +kernel
theorem dX1_south_18 : decode cX1_south 18 = .ok (.ireturn, 1) := by decide +kernel
theorem dX1_dipOf_0 : decode cX1_dipOf 0 = .ok (.aload_n 0, 1) := by decide +kernel
theorem dX1_dipOf_1 : decode cX1_dipOf 1 = .ok (.iload_n 1, 1) := by decide +kernel
theorem dX1_dipOf_2 : decode cX1_dipOf 2 = .ok (.invokevirtual 52, 3) := by decide +kernel
theorem dX1_dipOf_5 : decode cX1_dipOf 5 = .ok (.ifCond .eq 23, 3) := by decide +kernel
theorem dX1_dipOf_8 : decode cX1_dipOf 8 = .ok (.iload_n 2, 1) := by decide +kernel
theorem dX1_dipOf_9 : decode cX1_dipOf 9 = .ok (.aload_n 0, 1) := by decide +kernel
theorem dX1_dipOf_10 : decode cX1_dipOf 10 = .ok (.getfield 15, 3) := by decide +kernel
theorem dX1_dipOf_13 : decode cX1_dipOf 13 = .ok (.iload_n 1, 1) := by decide +kernel
theorem dX1_dipOf_14 : decode cX1_dipOf 14 = .ok (.iaload, 1) := by decide +kernel
theorem dX1_dipOf_15 : decode cX1_dipOf 15 = .ok (.imul, 1) := by decide +kernel
theorem dX1_dipOf_16 : decode cX1_dipOf 16 = .ok (.iload_n 3, 1) := by decide +kernel
theorem dX1_dipOf_17 : decode cX1_dipOf 17 = .ok (.aload_n 0, 1) := by decide +kernel
theorem dX1_dipOf_18 : decode cX1_dipOf 18 = .ok (.getfield 18, 3) := by decide +kernel
theorem dX1_dipOf_21 : decode cX1_dipOf 21 = .ok (.iload_n 1, 1) := by decide +kernel
theorem dX1_dipOf_22 : decode cX1_dipOf 22 = .ok (.iaload, 1) := by decide +kernel
theorem dX1_dipOf_23 : decode cX1_dipOf 23 = .ok (.imul, 1) := by decide +kernel
theorem dX1_dipOf_24 : decode cX1_dipOf 24 = .ok (.iadd, 1) := by decide +kernel
theorem dX1_dipOf_25 : decode cX1_dipOf 25 = .ok (.goto 4, 3) := by decide +kernel
theorem dX1_dipOf_28 : decode cX1_dipOf 28 = .ok (.iconst 0, 1) := by decide +kernel
theorem dX1_dipOf_29 : decode cX1_dipOf 29 = .ok (.ireturn, 1) := by decide +kernel
theorem dX1_wetDoors_0 : decode cX1_wetDoors 0 = .ok (.iconst 0, 1) := by decide +kernel
theorem dX1_wetDoors_1 : decode cX1_wetDoors 1 = .ok (.istore_n 3, 1) := by decide +kernel
theorem dX1_wetDoors_2 : decode cX1_wetDoors 2 = .ok (.iconst 0, 1) := by decide +kernel
theorem dX1_wetDoors_3 : decode cX1_wetDoors 3 = .ok (.istore 4, 2) := by decide +kernel
theorem dX1_wetDoors_5 : decode cX1_wetDoors 5 = .ok (.iload 4, 2) := by decide +kernel
theorem dX1_wetDoors_7 : decode cX1_wetDoors 7 = .ok (.aload_n 0, 1) := by decide +kernel
theorem dX1_wetDoors_8 : decode cX1_wetDoors 8 = .ok (.getfield 28, 3) := by decide +kernel
theorem dX1_wetDoors_11 : decode cX1_wetDoors 11 = .ok (.if_icmp .ge 61, 3) := by decide +kernel
theorem dX1_wetDoors_14 : decode cX1_wetDoors 14 = .ok (.aload_n 0, 1) := by decide +kernel
theorem dX1_wetDoors_15 : decode cX1_wetDoors 15 = .ok (.getfield 9, 3) := by decide +kernel
theorem dX1_wetDoors_18 : decode cX1_wetDoors 18 = .ok (.iload 4, 2) := by decide +kernel
theorem dX1_wetDoors_20 : decode cX1_wetDoors 20 = .ok (.iaload, 1) := by decide +kernel
theorem dX1_wetDoors_21 : decode cX1_wetDoors 21 = .ok (.istore 5, 2) := by decide +kernel
theorem dX1_wetDoors_23 : decode cX1_wetDoors 23 = .ok (.iload_n 1, 1) := by decide +kernel
theorem dX1_wetDoors_24 : decode cX1_wetDoors 24 = .ok (.aload_n 0, 1) := by decide +kernel
theorem dX1_wetDoors_25 : decode cX1_wetDoors 25 = .ok (.getfield 15, 3) := by decide +kernel
theorem dX1_wetDoors_28 : decode cX1_wetDoors 28 = .ok (.iload 4, 2) := by decide +kernel
theorem dX1_wetDoors_30 : decode cX1_wetDoors 30 = .ok (.iaload, 1) := by decide +kernel
theorem dX1_wetDoors_31 : decode cX1_wetDoors 31 = .ok (.imul, 1) := by decide +kernel
theorem dX1_wetDoors_32 : decode cX1_wetDoors 32 = .ok (.iload_n 2, 1) := by decide +kernel
theorem dX1_wetDoors_33 : decode cX1_wetDoors 33 = .ok (.aload_n 0, 1) := by decide +kernel
theorem dX1_wetDoors_34 : decode cX1_wetDoors 34 = .ok (.getfield 18, 3) := by decide +kernel
theorem dX1_wetDoors_37 : decode cX1_wetDoors 37 = .ok (.iload 4, 2) := by decide +kernel
theorem dX1_wetDoors_39 : decode cX1_wetDoors 39 = .ok (.iaload, 1) := by decide +kernel
theorem dX1_wetDoors_40 : decode cX1_wetDoors 40 = .ok (.imul, 1) := by decide +kernel
theorem dX1_wetDoors_41 : decode cX1_wetDoors 41 = .ok (.iadd, 1) := by decide +kernel
theorem dX1_wetDoors_42 : decode cX1_wetDoors 42 = .ok (.istore 6, 2) := by decide +kernel
theorem dX1_wetDoors_44 : decode cX1_wetDoors 44 = .ok (.iload 5, 2) := by decide +kernel
theorem dX1_wetDoors_46 : decode cX1_wetDoors 46 = .ok (.ifCond .le 20, 3) := by decide +kernel
theorem dX1_wetDoors_49 : decode cX1_wetDoors 49 = .ok (.iload 6, 2) := by decide +kernel
theorem dX1_wetDoors_51 : decode cX1_wetDoors 51 = .ok (.bipush 50, 2) := by decide +kernel
theorem dX1_wetDoors_53 : decode cX1_wetDoors 53 = .ok (.iload 5, 2) := by decide +kernel
theorem dX1_wetDoors_55 : decode cX1_wetDoors 55 = .ok (.imul, 1) := by decide +kernel
theorem dX1_wetDoors_56 : decode cX1_wetDoors 56 = .ok (.if_icmp .lt 10, 3) := by decide +kernel
theorem dX1_wetDoors_59 : decode cX1_wetDoors 59 = .ok (.iload_n 3, 1) := by decide +kernel
theorem dX1_wetDoors_60 : decode cX1_wetDoors 60 = .ok (.iconst 1, 1) := by decide +kernel
theorem dX1_wetDoors_61 : decode cX1_wetDoors 61 = .ok (.iload 4, 2) := by decide +kernel
theorem dX1_wetDoors_63 : decode cX1_wetDoors 63 = .ok (.ishl, 1) := by decide +kernel
theorem dX1_wetDoors_64 : decode cX1_wetDoors 64 = .ok (.ior, 1) := by decide +kernel
theorem dX1_wetDoors_65 : decode cX1_wetDoors 65 = .ok (.istore_n 3, 1) := by decide +kernel
theorem dX1_wetDoors_66 : decode cX1_wetDoors 66 = .ok (.iinc 4 1, 3) := by decide +kernel
theorem dX1_wetDoors_69 : decode cX1_wetDoors 69 = .ok (.goto (-64), 3) := by decide +kernel
theorem dX1_wetDoors_72 : decode cX1_wetDoors 72 = .ok (.iload_n 3, 1) := by decide +kernel
theorem dX1_wetDoors_73 : decode cX1_wetDoors 73 = .ok (.ireturn, 1) := by decide +kernel
theorem dX2_init_0 : decode cX2_init 0 = .ok (.aload_n 0, 1) := by decide +kernel
theorem dX2_init_1 : decode cX2_init 1 = .ok (.invokespecial 3, 3) := by decide +kernel
theorem dX2_init_4 : decode cX2_init 4 = .ok (.aload_n 0, 1) := by decide +kernel
theorem dX2_init_5 : decode cX2_init 5 = .ok (.iconst 3, 1) := by decide +kernel
theorem dX2_init_6 : decode cX2_init 6 = .ok (.newarray .int, 2) := by decide +kernel
theorem dX2_init_8 : decode cX2_init 8 = .ok (.putfield 11, 3) := by decide +kernel
theorem dX2_init_11 : decode cX2_init 11 = .ok (.aload_n 0, 1) := by decide +kernel
theorem dX2_init_12 : decode cX2_init 12 = .ok (.bipush 8, 2) := by decide +kernel
theorem dX2_init_14 : decode cX2_init 14 = .ok (.newarray .int, 2) := by decide +kernel
theorem dX2_init_16 : decode cX2_init 16 = .ok (.putfield 15, 3) := by decide +kernel
theorem dX2_init_19 : decode cX2_init 19 = .ok (.aload_n 0, 1) := by decide +kernel
theorem dX2_init_20 : decode cX2_init 20 = .ok (.bipush 8, 2) := by decide +kernel
theorem dX2_init_22 : decode cX2_init 22 = .ok (.newarray .int, 2) := by decide +kernel
theorem dX2_init_24 : decode cX2_init 24 = .ok (.putfield 18, 3) := by decide +kernel
theorem dX2_init_27 : decode cX2_init 27 = .ok (.aload_n 0, 1) := by decide +kernel
theorem dX2_init_28 : decode cX2_init 28 = .ok (.aload_n 1, 1) := by decide +kernel
theorem dX2_init_29 : decode cX2_init 29 = .ok (.putfield 21, 3) := by decide +kernel
theorem dX2_init_32 : decode cX2_init 32 = .ok (.aload_n 0, 1) := by decide +kernel
theorem dX2_init_33 : decode cX2_init 33 = .ok (.aload_n 2, 1) := by decide +kernel
theorem dX2_init_34 : decode cX2_init 34 = .ok (.putfield 25, 3) := by decide +kernel
theorem dX2_init_37 : decode cX2_init 37 = .ok (.aload_n 0, 1) := by decide +kernel
theorem dX2_init_38 : decode cX2_init 38 = .ok (.aload_n 3, 1) := by decide +kernel
theorem dX2_init_39 : decode cX2_init 39 = .ok (.putfield 29, 3) := by decide +kernel
theorem dX2_init_42 : decode cX2_init 42 = .ok (.return_, 1) := by decide +kernel
theorem dX2_found_0 : decode cX2_found 0 = .ok (.iload_n 1, 1) := by decide +kernel
theorem dX2_found_1 : decode cX2_found 1 = .ok (.ifCond .lt 17, 3) := by decide +kernel
theorem dX2_found_4 : decode cX2_found 4 = .ok (.iload_n 1, 1) := by decide +kernel
theorem dX2_found_5 : decode cX2_found 5 = .ok (.iconst 3, 1) := by decide +kernel
theorem dX2_found_6 : decode cX2_found 6 = .ok (.if_icmp .ge 12, 3) := by decide +kernel
theorem dX2_found_9 : decode cX2_found 9 = .ok (.aload_n 0, 1) := by decide +kernel
theorem dX2_found_10 : decode cX2_found 10 = .ok (.getfield 11, 3) := by decide +kernel
theorem dX2_found_13 : decode cX2_found 13 = .ok (.iload_n 1, 1) := by decide +kernel
theorem dX2_found_14 : decode cX2_found 14 = .ok (.iaload, 1) := by decide +kernel
theorem dX2_found_15 : decode cX2_found 15 = .ok (.goto 4, 3) := by decide +kernel
theorem dX2_found_18 : decode cX2_found 18 = .ok (.iconst (-1), 1) := by decide +kernel
theorem dX2_found_19 : decode cX2_found 19 = .ok (.ireturn, 1) := by decide +kernel
theorem dX2_search_0 : decode cX2_search 0 = .ok (.aload_n 0, 1) := by decide +kernel
theorem dX2_search_1 : decode cX2_search 1 = .ok (.iload_n 1, 1) := by decide +kernel
theorem dX2_search_2 : decode cX2_search 2 = .ok (.invokevirtual 33, 3) := by decide +kernel
theorem dX2_search_5 : decode cX2_search 5 = .ok (.aload_n 0, 1) := by decide +kernel
theorem dX2_search_6 : decode cX2_search 6 = .ok (.getfield 25, 3) := by decide +kernel
theorem dX2_search_9 : decode cX2_search 9 = .ok (.invokevirtual 37, 3) := by decide +kernel
theorem dX2_search_12 : decode cX2_search 12 = .ok (.istore_n 3, 1) := by decide +kernel
theorem dX2_search_13 : decode cX2_search 13 = .ok (.aload_n 0, 1) := by decide +kernel
theorem dX2_search_14 : decode cX2_search 14 = .ok (.getfield 29, 3) := by decide +kernel
theorem dX2_search_17 : decode cX2_search 17 = .ok (.iload_n 1, 1) := by decide +kernel
theorem dX2_search_18 : decode cX2_search 18 = .ok (.invokevirtual 43, 3) := by decide +kernel
theorem dX2_search_21 : decode cX2_search 21 = .ok (.istore 4, 2) := by decide +kernel
theorem dX2_search_23 : decode cX2_search 23 = .ok (.aload_n 0, 1) := by decide +kernel
theorem dX2_search_24 : decode cX2_search 24 = .ok (.getfield 29, 3) := by decide +kernel
theorem dX2_search_27 : decode cX2_search 27 = .ok (.iload_n 1, 1) := by decide +kernel
theorem dX2_search_28 : decode cX2_search 28 = .ok (.invokevirtual 49, 3) := by decide +kernel
theorem dX2_search_31 : decode cX2_search 31 = .ok (.istore 5, 2) := by decide +kernel
theorem dX2_search_33 : decode cX2_search 33 = .ok (.iconst 0, 1) := by decide +kernel
theorem dX2_search_34 : decode cX2_search 34 = .ok (.istore 6, 2) := by decide +kernel
theorem dX2_search_36 : decode cX2_search 36 = .ok (.iload_n 3, 1) := by decide +kernel
theorem dX2_search_37 : decode cX2_search 37 = .ok (.istore 7, 2) := by decide +kernel
theorem dX2_search_39 : decode cX2_search 39 = .ok (.iconst 0, 1) := by decide +kernel
theorem dX2_search_40 : decode cX2_search 40 = .ok (.istore 8, 2) := by decide +kernel
theorem dX2_search_42 : decode cX2_search 42 = .ok (.iconst 0, 1) := by decide +kernel
theorem dX2_search_43 : decode cX2_search 43 = .ok (.istore 9, 2) := by decide +kernel
theorem dX2_search_45 : decode cX2_search 45 = .ok (.iload 9, 2) := by decide +kernel
theorem dX2_search_47 : decode cX2_search 47 = .ok (.iload_n 3, 1) := by decide +kernel
theorem dX2_search_48 : decode cX2_search 48 = .ok (.if_icmp .gt 49, 3) := by decide +kernel
theorem dX2_search_51 : decode cX2_search 51 = .ok (.iload 9, 2) := by decide +kernel
theorem dX2_search_53 : decode cX2_search 53 = .ok (.iload_n 3, 1) := by decide +kernel
theorem dX2_search_54 : decode cX2_search 54 = .ok (.iconst (-1), 1) := by decide +kernel
theorem dX2_search_55 : decode cX2_search 55 = .ok (.ixor, 1) := by decide +kernel
theorem dX2_search_56 : decode cX2_search 56 = .ok (.iand, 1) := by decide +kernel
theorem dX2_search_57 : decode cX2_search 57 = .ok (.ifCond .ne 34, 3) := by decide +kernel
theorem dX2_search_60 : decode cX2_search 60 = .ok (.aload_n 0, 1) := by decide +kernel
theorem dX2_search_61 : decode cX2_search 61 = .ok (.iload 9, 2) := by decide +kernel
theorem dX2_search_63 : decode cX2_search 63 = .ok (.iload 4, 2) := by decide +kernel
theorem dX2_search_65 : decode cX2_search 65 = .ok (.iload 5, 2) := by decide +kernel
theorem dX2_search_67 : decode cX2_search 67 = .ok (.invokevirtual 52, 3) := by decide +kernel
theorem dX2_search_70 : decode cX2_search 70 = .ok (.iload_n 2, 1) := by decide +kernel
theorem dX2_search_71 : decode cX2_search 71 = .ok (.if_icmp .ne 20, 3) := by decide +kernel
theorem dX2_search_74 : decode cX2_search 74 = .ok (.iinc 6 1, 3) := by decide +kernel
theorem dX2_search_77 : decode cX2_search 77 = .ok (.iload 7, 2) := by decide +kernel
theorem dX2_search_79 : decode cX2_search 79 = .ok (.iload 9, 2) := by decide +kernel
theorem dX2_search_81 : decode cX2_search 81 = .ok (.iand, 1) := by decide +kernel
theorem dX2_search_82 : decode cX2_search 82 = .ok (.istore 7, 2) := by decide +kernel
theorem dX2_search_84 : decode cX2_search 84 = .ok (.iload 8, 2) := by decide +kernel
theorem dX2_search_86 : decode cX2_search 86 = .ok (.iload 9, 2) := by decide +kernel
theorem dX2_search_88 : decode cX2_search 88 = .ok (.ior, 1) := by decide +kernel
theorem dX2_search_89 : decode cX2_search 89 = .ok (.istore 8, 2) := by decide +kernel
theorem dX2_search_91 : decode cX2_search 91 = .ok (.iinc 9 1, 3) := by decide +kernel
theorem dX2_search_94 : decode cX2_search 94 = .ok (.goto (-49), 3) := by decide +kernel
theorem dX2_search_97 : decode cX2_search 97 = .ok (.aload_n 0, 1) := by decide +kernel
theorem dX2_search_98 : decode cX2_search 98 = .ok (.getfield 11, 3) := by decide +kernel
theorem dX2_search_101 : decode cX2_search 101 = .ok (.iconst 0, 1) := by decide +kernel
theorem dX2_search_102 : decode cX2_search 102 = .ok (.iload 6, 2) := by decide +kernel
theorem dX2_search_104 : decode cX2_search 104 = .ok (.iastore, 1) := by decide +kernel
theorem dX2_search_105 : decode cX2_search 105 = .ok (.aload_n 0, 1) := by decide +kernel
theorem dX2_search_106 : decode cX2_search 106 = .ok (.getfield 11, 3) := by decide +kernel
theorem dX2_search_109 : decode cX2_search 109 = .ok (.iconst 1, 1) := by decide +kernel
theorem dX2_search_110 : decode cX2_search 110 = .ok (.iload 6, 2) := by decide +kernel
theorem dX2_search_112 : decode cX2_search 112 = .ok (.ifCond .ne 7, 3) := by decide +kernel
theorem dX2_search_115 : decode cX2_search 115 = .ok (.iconst 0, 1) := by decide +kernel
theorem dX2_search_116 : decode cX2_search 116 = .ok (.goto 5, 3) := by decide +kernel
theorem dX2_search_119 : decode cX2_search 119 = .ok (.iload 7, 2) := by decide +kernel
theorem dX2_search_121 : decode cX2_search 121 = .ok (.iastore, 1) := by decide +kernel
theorem dX2_search_122 : decode cX2_search 122 = .ok (.aload_n 0, 1) := by decide +kernel
theorem dX2_search_123 : decode cX2_search 123 = .ok (.getfield 11, 3) := by decide +kernel
theorem dX2_search_126 : decode cX2_search 126 = .ok (.iconst 2, 1) := by decide +kernel
theorem dX2_search_127 : decode cX2_search 127 = .ok (.iload 8, 2) := by decide +kernel
theorem dX2_search_129 : decode cX2_search 129 = .ok (.iastore, 1) := by decide +kernel
theorem dX2_search_130 : decode cX2_search 130 = .ok (.return_, 1) := by decide +kernel
theorem dX2_measureChanges_0 : decode cX2_measureChanges 0 = .ok (.iconst 0, 1) := by decide +kernel
theorem dX2_measureChanges_1 : decode cX2_measureChanges 1 = .ok (.istore_n 2, 1) := by decide +kernel
theorem dX2_measureChanges_2 : decode cX2_measureChanges 2 = .ok (.iload_n 2, 1) := by decide +kernel
theorem dX2_measureChanges_3 : decode cX2_measureChanges 3 = .ok (.bipush 8, 2) := by decide +kernel
theorem dX2_measureChanges_5 : decode cX2_measureChanges 5 = .ok (.if_icmp .ge 96, 3) := by decide +kernel
theorem dX2_measureChanges_8 : decode cX2_measureChanges 8 = .ok (.aload_n 0, 1) := by decide +kernel
theorem dX2_measureChanges_9 : decode cX2_measureChanges 9 = .ok (.getfield 25, 3) := by decide +kernel
theorem dX2_measureChanges_12 : decode cX2_measureChanges 12 = .ok (.iload_n 2, 1) := by decide +kernel
theorem dX2_measureChanges_13 : decode cX2_measureChanges 13 = .ok (.iload_n 1, 1) := by decide +kernel
theorem dX2_measureChanges_14 : decode cX2_measureChanges 14 = .ok (.invokevirtual 56, 3) := by decide +kernel
theorem dX2_measureChanges_17 : decode cX2_measureChanges 17 = .ok (.istore_n 3, 1) := by decide +kernel
theorem dX2_measureChanges_18 : decode cX2_measureChanges 18 = .ok (.aload_n 0, 1) := by decide +kernel
theorem dX2_measureChanges_19 : decode cX2_measureChanges 19 = .ok (.getfield 25, 3) := by decide +kernel
theorem dX2_measureChanges_22 : decode cX2_measureChanges 22 = .ok (.iload_n 2, 1) := by decide +kernel
theorem dX2_measureChanges_23 : decode cX2_measureChanges 23 = .ok (.iload_n 1, 1) := by decide +kernel
theorem dX2_measureChanges_24 : decode cX2_measureChanges 24 = .ok (.iconst 1, 1) := by decide +kernel
theorem dX2_measureChanges_25 : decode cX2_measureChanges 25 = .ok (.isub, 1) := by decide +kernel
theorem dX2_measureChanges_26 : decode cX2_measureChanges 26 = .ok (.invokevirtual 56, 3) := by decide +kernel
theorem dX2_measureChanges_29 : decode cX2_measureChanges 29 = .ok (.istore 4, 2) := by decide +kernel
theorem dX2_measureChanges_31 : decode cX2_measureChanges 31 = .ok (.aload_n 0, 1) := by decide +kernel
theorem dX2_measureChanges_32 : decode cX2_measureChanges 32 = .ok (.getfield 25, 3) := by decide +kernel
theorem dX2_measureChanges_35 : decode cX2_measureChanges 35 = .ok (.iload_n 2, 1) := by decide +kernel
theorem dX2_measureChanges_36 : decode cX2_measureChanges 36 = .ok (.invokevirtual 60, 3) := by decide +kernel
theorem dX2_measureChanges_39 : decode cX2_measureChanges 39 = .ok (.istore 5, 2) := by decide +kernel
theorem dX2_measureChanges_41 : decode cX2_measureChanges 41 = .ok (.aload_n 0, 1) := by decide +kernel
theorem dX2_measureChanges_42 : decode cX2_measureChanges 42 = .ok (.getfield 15, 3) := by decide +kernel
theorem dX2_measureChanges_45 : decode cX2_measureChanges 45 = .ok (.iload_n 2, 1) := by decide +kernel
theorem dX2_measureChanges_46 : decode cX2_measureChanges 46 = .ok (.iload 5, 2) := by decide +kernel
theorem dX2_measureChanges_48 : decode cX2_measureChanges 48 = .ok (.aload_n 0, 1) := by decide +kernel
theorem dX2_measureChanges_49 : decode cX2_measureChanges 49 = .ok (.getfield 21, 3) := by decide +kernel
theorem dX2_measureChanges_52 : decode cX2_measureChanges 52 = .ok (.iload 4, 2) := by decide +kernel
theorem dX2_measureChanges_54 : decode cX2_measureChanges 54 = .ok (.invokevirtual 63, 3) := by decide +kernel
theorem dX2_measureChanges_57 : decode cX2_measureChanges 57 = .ok (.aload_n 0, 1) := by decide +kernel
theorem dX2_measureChanges_58 : decode cX2_measureChanges 58 = .ok (.getfield 21, 3) := by decide +kernel
theorem dX2_measureChanges_61 : decode cX2_measureChanges 61 = .ok (.iload_n 3, 1) := by decide +kernel
theorem dX2_measureChanges_62 : decode cX2_measureChanges 62 = .ok (.invokevirtual 63, 3) := by decide +kernel
theorem dX2_measureChanges_65 : decode cX2_measureChanges 65 = .ok (.isub, 1) := by decide +kernel
theorem dX2_measureChanges_66 : decode cX2_measureChanges 66 = .ok (.imul, 1) := by decide +kernel
theorem dX2_measureChanges_67 : decode cX2_measureChanges 67 = .ok (.iastore, 1) := by decide +kernel
theorem dX2_measureChanges_68 : decode cX2_measureChanges 68 = .ok (.aload_n 0, 1) := by decide +kernel
theorem dX2_measureChanges_69 : decode cX2_measureChanges 69 = .ok (.getfield 18, 3) := by decide +kernel
theorem dX2_measureChanges_72 : decode cX2_measureChanges 72 = .ok (.iload_n 2, 1) := by decide +kernel
theorem dX2_measureChanges_73 : decode cX2_measureChanges 73 = .ok (.iload 5, 2) := by decide +kernel
theorem dX2_measureChanges_75 : decode cX2_measureChanges 75 = .ok (.aload_n 0, 1) := by decide +kernel
theorem dX2_measureChanges_76 : decode cX2_measureChanges 76 = .ok (.getfield 21, 3) := by decide +kernel
theorem dX2_measureChanges_79 : decode cX2_measureChanges 79 = .ok (.iload 4, 2) := by decide +kernel
theorem dX2_measureChanges_81 : decode cX2_measureChanges 81 = .ok (.invokevirtual 68, 3) := by decide +kernel
theorem dX2_measureChanges_84 : decode cX2_measureChanges 84 = .ok (.aload_n 0, 1) := by decide +kernel
theorem dX2_measureChanges_85 : decode cX2_measureChanges 85 = .ok (.getfield 21, 3) := by decide +kernel
theorem dX2_measureChanges_88 : decode cX2_measureChanges 88 = .ok (.iload_n 3, 1) := by decide +kernel
theorem dX2_measureChanges_89 : decode cX2_measureChanges 89 = .ok (.invokevirtual 68, 3) := by decide +kernel
theorem dX2_measureChanges_92 : decode cX2_measureChanges 92 = .ok (.isub, 1) := by decide +kernel
theorem dX2_measureChanges_93 : decode cX2_measureChanges 93 = .ok (.imul, 1) := by decide +kernel
theorem dX2_measureChanges_94 : decode cX2_measureChanges 94 = .ok (.iastore, 1) := by decide +kernel
theorem dX2_measureChanges_95 : decode cX2_measureChanges 95 = .ok (.iinc 2 1, 3) := by decide +kernel
theorem dX2_measureChanges_98 : decode cX2_measureChanges 98 = .ok (.goto (-96), 3) := by decide +kernel
theorem dX2_measureChanges_101 : decode cX2_measureChanges 101 = .ok (.return_, 1) := by decide +kernel
theorem dX2_wetDoorsIfLate_0 : decode cX2_wetDoorsIfLate 0 = .ok (.iload_n 2, 1) := by decide +kernel
theorem dX2_wetDoorsIfLate_1 : decode cX2_wetDoorsIfLate 1 = .ok (.istore 4, 2) := by decide +kernel
theorem dX2_wetDoorsIfLate_3 : decode cX2_wetDoorsIfLate 3 = .ok (.iload_n 3, 1) := by decide +kernel
theorem dX2_wetDoorsIfLate_4 : decode cX2_wetDoorsIfLate 4 = .ok (.istore 5, 2) := by decide +kernel
theorem dX2_wetDoorsIfLate_6 : decode cX2_wetDoorsIfLate 6 = .ok (.iconst 0, 1) := by decide +kernel
theorem dX2_wetDoorsIfLate_7 : decode cX2_wetDoorsIfLate 7 = .ok (.istore 6, 2) := by decide +kernel
theorem dX2_wetDoorsIfLate_9 : decode cX2_wetDoorsIfLate 9 = .ok (.iload 6, 2) := by decide +kernel
theorem dX2_wetDoorsIfLate_11 : decode cX2_wetDoorsIfLate 11 = .ok (.bipush 8, 2) := by decide +kernel
theorem dX2_wetDoorsIfLate_13 : decode cX2_wetDoorsIfLate 13 = .ok (.if_icmp .ge 42, 3) := by decide +kernel
theorem dX2_wetDoorsIfLate_16 : decode cX2_wetDoorsIfLate 16 = .ok (.iload_n 1, 1) := by decide +kernel
theorem dX2_wetDoorsIfLate_17 : decode cX2_wetDoorsIfLate 17 = .ok (.iconst 1, 1) := by decide +kernel
theorem dX2_wetDoorsIfLate_18 : decode cX2_wetDoorsIfLate 18 = .ok (.iload 6, 2) := by decide +kernel
theorem dX2_wetDoorsIfLate_20 : decode cX2_wetDoorsIfLate 20 = .ok (.ishl, 1) := by decide +kernel
theorem dX2_wetDoorsIfLate_21 : decode cX2_wetDoorsIfLate 21 = .ok (.iand, 1) := by decide +kernel
theorem dX2_wetDoorsIfLate_22 : decode cX2_wetDoorsIfLate 22 = .ok (.ifCond .eq 27, 3) := by decide +kernel
theorem dX2_wetDoorsIfLate_25 : decode cX2_wetDoorsIfLate 25 = .ok (.iload 4, 2) := by decide +kernel
theorem dX2_wetDoorsIfLate_27 : decode cX2_wetDoorsIfLate 27 = .ok (.aload_n 0, 1) := by decide +kernel
theorem dX2_wetDoorsIfLate_28 : decode cX2_wetDoorsIfLate 28 = .ok (.getfield 15, 3) := by decide +kernel
theorem dX2_wetDoorsIfLate_31 : decode cX2_wetDoorsIfLate 31 = .ok (.iload 6, 2) := by decide +kernel
theorem dX2_wetDoorsIfLate_33 : decode cX2_wetDoorsIfLate 33 = .ok (.iaload, 1) := by decide +kernel
theorem dX2_wetDoorsIfLate_34 : decode cX2_wetDoorsIfLate 34 = .ok (.iadd, 1) := by decide +kernel
theorem dX2_wetDoorsIfLate_35 : decode cX2_wetDoorsIfLate 35 = .ok (.istore 4, 2) := by decide +kernel
theorem dX2_wetDoorsIfLate_37 : decode cX2_wetDoorsIfLate 37 = .ok (.iload 5, 2) := by decide +kernel
theorem dX2_wetDoorsIfLate_39 : decode cX2_wetDoorsIfLate 39 = .ok (.aload_n 0, 1) := by decide +kernel
theorem dX2_wetDoorsIfLate_40 : decode cX2_wetDoorsIfLate 40 = .ok (.getfield 18, 3) := by decide +kernel
theorem dX2_wetDoorsIfLate_43 : decode cX2_wetDoorsIfLate 43 = .ok (.iload 6, 2) := by decide +kernel
theorem dX2_wetDoorsIfLate_45 : decode cX2_wetDoorsIfLate 45 = .ok (.iaload, 1) := by decide +kernel
theorem dX2_wetDoorsIfLate_46 : decode cX2_wetDoorsIfLate 46 = .ok (.iadd, 1) := by decide +kernel
theorem dX2_wetDoorsIfLate_47 : decode cX2_wetDoorsIfLate 47 = .ok (.istore 5, 2) := by decide +kernel
theorem dX2_wetDoorsIfLate_49 : decode cX2_wetDoorsIfLate 49 = .ok (.iinc 6 1, 3) := by decide +kernel
theorem dX2_wetDoorsIfLate_52 : decode cX2_wetDoorsIfLate 52 = .ok (.goto (-43), 3) := by decide +kernel
theorem dX2_wetDoorsIfLate_55 : decode cX2_wetDoorsIfLate 55 = .ok (.aload_n 0, 1) := by decide +kernel
theorem dX2_wetDoorsIfLate_56 : decode cX2_wetDoorsIfLate 56 = .ok (.getfield 21, 3) := by decide +kernel
theorem dX2_wetDoorsIfLate_59 : decode cX2_wetDoorsIfLate 59 = .ok (.iload 4, 2) := by decide +kernel
theorem dX2_wetDoorsIfLate_61 : decode cX2_wetDoorsIfLate 61 = .ok (.iload 5, 2) := by decide +kernel
theorem dX2_wetDoorsIfLate_63 : decode cX2_wetDoorsIfLate 63 = .ok (.invokevirtual 71, 3) := by decide +kernel
theorem dX2_wetDoorsIfLate_66 : decode cX2_wetDoorsIfLate 66 = .ok (.ireturn, 1) := by decide +kernel
theorem dX3_init_0 : decode cX3_init 0 = .ok (.aload_n 0, 1) := by decide +kernel
theorem dX3_init_1 : decode cX3_init 1 = .ok (.invokespecial 3, 3) := by decide +kernel
theorem dX3_init_4 : decode cX3_init 4 = .ok (.aload_n 0, 1) := by decide +kernel
theorem dX3_init_5 : decode cX3_init 5 = .ok (.bipush 40, 2) := by decide +kernel
theorem dX3_init_7 : decode cX3_init 7 = .ok (.newarray .char, 2) := by decide +kernel
theorem dX3_init_9 : decode cX3_init 9 = .ok (.putfield 9, 3) := by decide +kernel
theorem dX3_init_12 : decode cX3_init 12 = .ok (.return_, 1) := by decide +kernel
theorem dX3_length_0 : decode cX3_length 0 = .ok (.aload_n 0, 1) := by decide +kernel
theorem dX3_length_1 : decode cX3_length 1 = .ok (.getfield 15, 3) := by decide +kernel
theorem dX3_length_4 : decode cX3_length 4 = .ok (.ireturn, 1) := by decide +kernel
theorem dX3_letter_0 : decode cX3_letter 0 = .ok (.iload_n 1, 1) := by decide +kernel
theorem dX3_letter_1 : decode cX3_letter 1 = .ok (.ifCond .lt 20, 3) := by decide +kernel
theorem dX3_letter_4 : decode cX3_letter 4 = .ok (.iload_n 1, 1) := by decide +kernel
theorem dX3_letter_5 : decode cX3_letter 5 = .ok (.aload_n 0, 1) := by decide +kernel
theorem dX3_letter_6 : decode cX3_letter 6 = .ok (.getfield 15, 3) := by decide +kernel
theorem dX3_letter_9 : decode cX3_letter 9 = .ok (.if_icmp .ge 12, 3) := by decide +kernel
theorem dX3_letter_12 : decode cX3_letter 12 = .ok (.aload_n 0, 1) := by decide +kernel
theorem dX3_letter_13 : decode cX3_letter 13 = .ok (.getfield 9, 3) := by decide +kernel
theorem dX3_letter_16 : decode cX3_letter 16 = .ok (.iload_n 1, 1) := by decide +kernel
theorem dX3_letter_17 : decode cX3_letter 17 = .ok (.caload, 1) := by decide +kernel
theorem dX3_letter_18 : decode cX3_letter 18 = .ok (.goto 4, 3) := by decide +kernel
theorem dX3_letter_21 : decode cX3_letter 21 = .ok (.iconst 0, 1) := by decide +kernel
theorem dX3_letter_22 : decode cX3_letter 22 = .ok (.ireturn, 1) := by decide +kernel
theorem dX3_clear_0 : decode cX3_clear 0 = .ok (.aload_n 0, 1) := by decide +kernel
theorem dX3_clear_1 : decode cX3_clear 1 = .ok (.iconst 0, 1) := by decide +kernel
theorem dX3_clear_2 : decode cX3_clear 2 = .ok (.putfield 15, 3) := by decide +kernel
theorem dX3_clear_5 : decode cX3_clear 5 = .ok (.return_, 1) := by decide +kernel
theorem dX3_add_0 : decode cX3_add 0 = .ok (.lload_n 1, 1) := by decide +kernel
theorem dX3_add_1 : decode cX3_add 1 = .ok (.invokestatic 19, 3) := by decide +kernel
theorem dX3_add_4 : decode cX3_add 4 = .ok (.istore_n 3, 1) := by decide +kernel
theorem dX3_add_5 : decode cX3_add 5 = .ok (.iload_n 3, 1) := by decide +kernel
theorem dX3_add_6 : decode cX3_add 6 = .ok (.bipush (-102), 2) := by decide +kernel
theorem dX3_add_8 : decode cX3_add 8 = .ok (.if_icmp .ne 6, 3) := by decide +kernel
theorem dX3_add_11 : decode cX3_add 11 = .ok (.bipush (-102), 2) := by decide +kernel
theorem dX3_add_13 : decode cX3_add 13 = .ok (.ireturn, 1) := by decide +kernel
theorem dX3_add_14 : decode cX3_add 14 = .ok (.aload_n 0, 1) := by decide +kernel
theorem dX3_add_15 : decode cX3_add 15 = .ok (.getfield 15, 3) := by decide +kernel
theorem dX3_add_18 : decode cX3_add 18 = .ok (.iload_n 3, 1) := by decide +kernel
theorem dX3_add_19 : decode cX3_add 19 = .ok (.iadd, 1) := by decide +kernel
theorem dX3_add_20 : decode cX3_add 20 = .ok (.bipush 40, 2) := by decide +kernel
theorem dX3_add_22 : decode cX3_add 22 = .ok (.if_icmp .le 6, 3) := by decide +kernel
theorem dX3_add_25 : decode cX3_add 25 = .ok (.bipush (-104), 2) := by decide +kernel
theorem dX3_add_27 : decode cX3_add 27 = .ok (.ireturn, 1) := by decide +kernel
theorem dX3_add_28 : decode cX3_add 28 = .ok (.iconst 0, 1) := by decide +kernel
theorem dX3_add_29 : decode cX3_add 29 = .ok (.istore 4, 2) := by decide +kernel
theorem dX3_add_31 : decode cX3_add 31 = .ok (.iload 4, 2) := by decide +kernel
theorem dX3_add_33 : decode cX3_add 33 = .ok (.iload_n 3, 1) := by decide +kernel
theorem dX3_add_34 : decode cX3_add 34 = .ok (.if_icmp .ge 28, 3) := by decide +kernel
theorem dX3_add_37 : decode cX3_add 37 = .ok (.aload_n 0, 1) := by decide +kernel
theorem dX3_add_38 : decode cX3_add 38 = .ok (.getfield 9, 3) := by decide +kernel
theorem dX3_add_41 : decode cX3_add 41 = .ok (.aload_n 0, 1) := by decide +kernel
theorem dX3_add_42 : decode cX3_add 42 = .ok (.getfield 15, 3) := by decide +kernel
theorem dX3_add_45 : decode cX3_add 45 = .ok (.iload 4, 2) := by decide +kernel
theorem dX3_add_47 : decode cX3_add 47 = .ok (.iadd, 1) := by decide +kernel
theorem dX3_add_48 : decode cX3_add 48 = .ok (.lload_n 1, 1) := by decide +kernel
theorem dX3_add_49 : decode cX3_add 49 = .ok (.iload 4, 2) := by decide +kernel
theorem dX3_add_51 : decode cX3_add 51 = .ok (.invokestatic 23, 3) := by decide +kernel
theorem dX3_add_54 : decode cX3_add 54 = .ok (.i2c, 1) := by decide +kernel
theorem dX3_add_55 : decode cX3_add 55 = .ok (.castore, 1) := by decide +kernel
theorem dX3_add_56 : decode cX3_add 56 = .ok (.iinc 4 1, 3) := by decide +kernel
theorem dX3_add_59 : decode cX3_add 59 = .ok (.goto (-28), 3) := by decide +kernel
theorem dX3_add_62 : decode cX3_add 62 = .ok (.aload_n 0, 1) := by decide +kernel
theorem dX3_add_63 : decode cX3_add 63 = .ok (.dup, 1) := by decide +kernel
theorem dX3_add_64 : decode cX3_add 64 = .ok (.getfield 15, 3) := by decide +kernel
theorem dX3_add_67 : decode cX3_add 67 = .ok (.iload_n 3, 1) := by decide +kernel
theorem dX3_add_68 : decode cX3_add 68 = .ok (.iadd, 1) := by decide +kernel
theorem dX3_add_69 : decode cX3_add 69 = .ok (.putfield 15, 3) := by decide +kernel
theorem dX3_add_72 : decode cX3_add 72 = .ok (.aload_n 0, 1) := by decide +kernel
theorem dX3_add_73 : decode cX3_add 73 = .ok (.getfield 15, 3) := by decide +kernel
theorem dX3_add_76 : decode cX3_add 76 = .ok (.ireturn, 1) := by decide +kernel
theorem dX3_lettersTold_0 : decode cX3_lettersTold 0 = .ok (.iconst 0, 1) := by decide +kernel
theorem dX3_lettersTold_1 : decode cX3_lettersTold 1 = .ok (.istore_n 2, 1) := by decide +kernel
theorem dX3_lettersTold_2 : decode cX3_lettersTold 2 = .ok (.iconst 0, 1) := by decide +kernel
theorem dX3_lettersTold_3 : decode cX3_lettersTold 3 = .ok (.istore_n 3, 1) := by decide +kernel
theorem dX3_lettersTold_4 : decode cX3_lettersTold 4 = .ok (.iload_n 3, 1) := by decide +kernel
theorem dX3_lettersTold_5 : decode cX3_lettersTold 5 = .ok (.bipush 8, 2) := by decide +kernel
theorem dX3_lettersTold_7 : decode cX3_lettersTold 7 = .ok (.if_icmp .ge 56, 3) := by decide +kernel
theorem dX3_lettersTold_10 : decode cX3_lettersTold 10 = .ok (.lload_n 0, 1) := by decide +kernel
theorem dX3_lettersTold_11 : decode cX3_lettersTold 11 = .ok (.iload_n 3, 1) := by decide +kernel
theorem dX3_lettersTold_12 : decode cX3_lettersTold 12 = .ok (.invokestatic 23, 3) := by decide +kernel
theorem dX3_lettersTold_15 : decode cX3_lettersTold 15 = .ok (.istore 4, 2) := by decide +kernel
theorem dX3_lettersTold_17 : decode cX3_lettersTold 17 = .ok (.iload 4, 2) := by decide +kernel
theorem dX3_lettersTold_19 : decode cX3_lettersTold 19 = .ok (.ifCond .eq 12, 3) := by decide +kernel
theorem dX3_lettersTold_22 : decode cX3_lettersTold 22 = .ok (.iload_n 2, 1) := by decide +kernel
theorem dX3_lettersTold_23 : decode cX3_lettersTold 23 = .ok (.iload_n 3, 1) := by decide +kernel
theorem dX3_lettersTold_24 : decode cX3_lettersTold 24 = .ok (.if_icmp .ge 7, 3) := by decide +kernel
theorem dX3_lettersTold_27 : decode cX3_lettersTold 27 = .ok (.iconst 1, 1) := by decide +kernel
theorem dX3_lettersTold_28 : decode cX3_lettersTold 28 = .ok (.goto 4, 3) := by decide +kernel
theorem dX3_lettersTold_31 : decode cX3_lettersTold 31 = .ok (.iconst 0, 1) := by decide +kernel
theorem dX3_lettersTold_32 : decode cX3_lettersTold 32 = .ok (.istore 5, 2) := by decide +kernel
theorem dX3_lettersTold_34 : decode cX3_lettersTold 34 = .ok (.iload 4, 2) := by decide +kernel
theorem dX3_lettersTold_36 : decode cX3_lettersTold 36 = .ok (.bipush 126, 2) := by decide +kernel
theorem dX3_lettersTold_38 : decode cX3_lettersTold 38 = .ok (.if_icmp .gt 8, 3) := by decide +kernel
theorem dX3_lettersTold_41 : decode cX3_lettersTold 41 = .ok (.iload 5, 2) := by decide +kernel
theorem dX3_lettersTold_43 : decode cX3_lettersTold 43 = .ok (.ifCond .eq 6, 3) := by decide +kernel
theorem dX3_lettersTold_46 : decode cX3_lettersTold 46 = .ok (.bipush (-102), 2) := by decide +kernel
theorem dX3_lettersTold_48 : decode cX3_lettersTold 48 = .ok (.ireturn, 1) := by decide +kernel
theorem dX3_lettersTold_49 : decode cX3_lettersTold 49 = .ok (.iload 4, 2) := by decide +kernel
theorem dX3_lettersTold_51 : decode cX3_lettersTold 51 = .ok (.ifCond .eq 6, 3) := by decide +kernel
theorem dX3_lettersTold_54 : decode cX3_lettersTold 54 = .ok (.iinc 2 1, 3) := by decide +kernel
theorem dX3_lettersTold_57 : decode cX3_lettersTold 57 = .ok (.iinc 3 1, 3) := by decide +kernel
theorem dX3_lettersTold_60 : decode cX3_lettersTold 60 = .ok (.goto (-56), 3) := by decide +kernel
theorem dX3_lettersTold_63 : decode cX3_lettersTold 63 = .ok (.iload_n 2, 1) := by decide +kernel
theorem dX3_lettersTold_64 : decode cX3_lettersTold 64 = .ok (.ireturn, 1) := by decide +kernel
theorem dX3_codeAt_0 : decode cX3_codeAt 0 = .ok (.lload_n 0, 1) := by decide +kernel
theorem dX3_codeAt_1 : decode cX3_codeAt 1 = .ok (.bipush 8, 2) := by decide +kernel
theorem dX3_codeAt_3 : decode cX3_codeAt 3 = .ok (.iload_n 2, 1) := by decide +kernel
theorem dX3_codeAt_4 : decode cX3_codeAt 4 = .ok (.imul, 1) := by decide +kernel
theorem dX3_codeAt_5 : decode cX3_codeAt 5 = .ok (.lushr, 1) := by decide +kernel
theorem dX3_codeAt_6 : decode cX3_codeAt 6 = .ok (.ldc2_w 27, 3) := by decide +kernel
theorem dX3_codeAt_9 : decode cX3_codeAt 9 = .ok (.land, 1) := by decide +kernel
theorem dX3_codeAt_10 : decode cX3_codeAt 10 = .ok (.l2i, 1) := by decide +kernel
theorem dX3_codeAt_11 : decode cX3_codeAt 11 = .ok (.ireturn, 1) := by decide +kernel
theorem dX3_wayFault_0 : decode cX3_wayFault 0 = .ok (.iconst 0, 1) := by decide +kernel
theorem dX3_wayFault_1 : decode cX3_wayFault 1 = .ok (.istore_n 1, 1) := by decide +kernel
theorem dX3_wayFault_2 : decode cX3_wayFault 2 = .ok (.iload_n 1, 1) := by decide +kernel
theorem dX3_wayFault_3 : decode cX3_wayFault 3 = .ok (.aload_n 0, 1) := by decide +kernel
theorem dX3_wayFault_4 : decode cX3_wayFault 4 = .ok (.getfield 15, 3) := by decide +kernel
theorem dX3_wayFault_7 : decode cX3_wayFault 7 = .ok (.if_icmp .ge 25, 3) := by decide +kernel
theorem dX3_wayFault_10 : decode cX3_wayFault 10 = .ok (.iload_n 1, 1) := by decide +kernel
theorem dX3_wayFault_11 : decode cX3_wayFault 11 = .ok (.bipush 7, 2) := by decide +kernel
theorem dX3_wayFault_13 : decode cX3_wayFault 13 = .ok (.if_icmp .ge 11, 3) := by decide +kernel
theorem dX3_wayFault_16 : decode cX3_wayFault 16 = .ok (.aload_n 0, 1) := by decide +kernel
theorem dX3_wayFault_17 : decode cX3_wayFault 17 = .ok (.iload_n 1, 1) := by decide +kernel
theorem dX3_wayFault_18 : decode cX3_wayFault 18 = .ok (.invokevirtual 33, 3) := by decide +kernel
theorem dX3_wayFault_21 : decode cX3_wayFault 21 = .ok (.ifCond .ne 5, 3) := by decide +kernel
theorem dX3_wayFault_24 : decode cX3_wayFault 24 = .ok (.iload_n 1, 1) := by decide +kernel
theorem dX3_wayFault_25 : decode cX3_wayFault 25 = .ok (.ireturn, 1) := by decide +kernel
theorem dX3_wayFault_26 : decode cX3_wayFault 26 = .ok (.iinc 1 1, 3) := by decide +kernel
theorem dX3_wayFault_29 : decode cX3_wayFault 29 = .ok (.goto (-27), 3) := by decide +kernel
theorem dX3_wayFault_32 : decode cX3_wayFault 32 = .ok (.aload_n 0, 1) := by decide +kernel
theorem dX3_wayFault_33 : decode cX3_wayFault 33 = .ok (.getfield 15, 3) := by decide +kernel
theorem dX3_wayFault_36 : decode cX3_wayFault 36 = .ok (.ireturn, 1) := by decide +kernel
theorem dX3_wayAt_0 : decode cX3_wayAt 0 = .ok (.aload_n 0, 1) := by decide +kernel
theorem dX3_wayAt_1 : decode cX3_wayAt 1 = .ok (.iload_n 1, 1) := by decide +kernel
theorem dX3_wayAt_2 : decode cX3_wayAt 2 = .ok (.invokevirtual 37, 3) := by decide +kernel
theorem dX3_wayAt_5 : decode cX3_wayAt 5 = .ok (.lookupswitch 51 #[(101, 45), (110, 43), (115, 47), (119, 49)], 43) := by decide +kernel
theorem dX3_wayAt_48 : decode cX3_wayAt 48 = .ok (.iconst 1, 1) := by decide +kernel
theorem dX3_wayAt_49 : decode cX3_wayAt 49 = .ok (.ireturn, 1) := by decide +kernel
theorem dX3_wayAt_50 : decode cX3_wayAt 50 = .ok (.iconst 2, 1) := by decide +kernel
theorem dX3_wayAt_51 : decode cX3_wayAt 51 = .ok (.ireturn, 1) := by decide +kernel
theorem dX3_wayAt_52 : decode cX3_wayAt 52 = .ok (.iconst 3, 1) := by decide +kernel
theorem dX3_wayAt_53 : decode cX3_wayAt 53 = .ok (.ireturn, 1) := by decide +kernel
theorem dX3_wayAt_54 : decode cX3_wayAt 54 = .ok (.iconst 4, 1) := by decide +kernel
theorem dX3_wayAt_55 : decode cX3_wayAt 55 = .ok (.ireturn, 1) := by decide +kernel
theorem dX3_wayAt_56 : decode cX3_wayAt 56 = .ok (.iconst 0, 1) := by decide +kernel
theorem dX3_wayAt_57 : decode cX3_wayAt 57 = .ok (.ireturn, 1) := by decide +kernel
theorem dX4_init_0 : decode cX4_init 0 = .ok (.aload_n 0, 1) := by decide +kernel
theorem dX4_init_1 : decode cX4_init 1 = .ok (.invokespecial 3, 3) := by decide +kernel
theorem dX4_init_4 : decode cX4_init 4 = .ok (.return_, 1) := by decide +kernel
theorem dX4_rows_0 : decode cX4_rows 0 = .ok (.aload_n 0, 1) := by decide +kernel
theorem dX4_rows_1 : decode cX4_rows 1 = .ok (.getfield 9, 3) := by decide +kernel
theorem dX4_rows_4 : decode cX4_rows 4 = .ok (.ireturn, 1) := by decide +kernel
theorem dX4_columns_0 : decode cX4_columns 0 = .ok (.aload_n 0, 1) := by decide +kernel
theorem dX4_columns_1 : decode cX4_columns 1 = .ok (.getfield 15, 3) := by decide +kernel
theorem dX4_columns_4 : decode cX4_columns 4 = .ok (.ireturn, 1) := by decide +kernel
theorem dX4_isWhole_0 : decode cX4_isWhole 0 = .ok (.aload_n 0, 1) := by decide +kernel
theorem dX4_isWhole_1 : decode cX4_isWhole 1 = .ok (.aload_n 1, 1) := by decide +kernel
theorem dX4_isWhole_2 : decode cX4_isWhole 2 = .ok (.invokevirtual 18, 3) := by decide +kernel
theorem dX4_isWhole_5 : decode cX4_isWhole 5 = .ok (.aload_n 1, 1) := by decide +kernel
theorem dX4_isWhole_6 : decode cX4_isWhole 6 = .ok (.invokevirtual 22, 3) := by decide +kernel
theorem dX4_isWhole_9 : decode cX4_isWhole 9 = .ok (.if_icmp .ne 26, 3) := by decide +kernel
theorem dX4_isWhole_12 : decode cX4_isWhole 12 = .ok (.aload_n 0, 1) := by decide +kernel
theorem dX4_isWhole_13 : decode cX4_isWhole 13 = .ok (.getfield 9, 3) := by decide +kernel
theorem dX4_isWhole_16 : decode cX4_isWhole 16 = .ok (.iconst 2, 1) := by decide +kernel
theorem dX4_isWhole_17 : decode cX4_isWhole 17 = .ok (.if_icmp .lt 18, 3) := by decide +kernel
theorem dX4_isWhole_20 : decode cX4_isWhole 20 = .ok (.aload_n 0, 1) := by decide +kernel
theorem dX4_isWhole_21 : decode cX4_isWhole 21 = .ok (.getfield 28, 3) := by decide +kernel
theorem dX4_isWhole_24 : decode cX4_isWhole 24 = .ok (.aload_n 0, 1) := by decide +kernel
theorem dX4_isWhole_25 : decode cX4_isWhole 25 = .ok (.getfield 15, 3) := by decide +kernel
theorem dX4_isWhole_28 : decode cX4_isWhole 28 = .ok (.if_icmp .ne 7, 3) := by decide +kernel
theorem dX4_isWhole_31 : decode cX4_isWhole 31 = .ok (.iconst 1, 1) := by decide +kernel
theorem dX4_isWhole_32 : decode cX4_isWhole 32 = .ok (.goto 4, 3) := by decide +kernel
theorem dX4_isWhole_35 : decode cX4_isWhole 35 = .ok (.iconst 0, 1) := by decide +kernel
theorem dX4_isWhole_36 : decode cX4_isWhole 36 = .ok (.ireturn, 1) := by decide +kernel
theorem dX4_faultIn_0 : decode cX4_faultIn 0 = .ok (.aload_n 0, 1) := by decide +kernel
theorem dX4_faultIn_1 : decode cX4_faultIn 1 = .ok (.iconst 1, 1) := by decide +kernel
theorem dX4_faultIn_2 : decode cX4_faultIn 2 = .ok (.putfield 9, 3) := by decide +kernel
theorem dX4_faultIn_5 : decode cX4_faultIn 5 = .ok (.aload_n 0, 1) := by decide +kernel
theorem dX4_faultIn_6 : decode cX4_faultIn 6 = .ok (.iconst 0, 1) := by decide +kernel
theorem dX4_faultIn_7 : decode cX4_faultIn 7 = .ok (.putfield 15, 3) := by decide +kernel
theorem dX4_faultIn_10 : decode cX4_faultIn 10 = .ok (.aload_n 0, 1) := by decide +kernel
theorem dX4_faultIn_11 : decode cX4_faultIn 11 = .ok (.iconst 0, 1) := by decide +kernel
theorem dX4_faultIn_12 : decode cX4_faultIn 12 = .ok (.putfield 28, 3) := by decide +kernel
theorem dX4_faultIn_15 : decode cX4_faultIn 15 = .ok (.iconst 0, 1) := by decide +kernel
theorem dX4_faultIn_16 : decode cX4_faultIn 16 = .ok (.istore_n 2, 1) := by decide +kernel
theorem dX4_faultIn_17 : decode cX4_faultIn 17 = .ok (.iload_n 2, 1) := by decide +kernel
theorem dX4_faultIn_18 : decode cX4_faultIn 18 = .ok (.aload_n 1, 1) := by decide +kernel
theorem dX4_faultIn_19 : decode cX4_faultIn 19 = .ok (.invokevirtual 22, 3) := by decide +kernel
theorem dX4_faultIn_22 : decode cX4_faultIn 22 = .ok (.if_icmp .ge 23, 3) := by decide +kernel
theorem dX4_faultIn_25 : decode cX4_faultIn 25 = .ok (.aload_n 0, 1) := by decide +kernel
theorem dX4_faultIn_26 : decode cX4_faultIn 26 = .ok (.aload_n 1, 1) := by decide +kernel
theorem dX4_faultIn_27 : decode cX4_faultIn 27 = .ok (.iload_n 2, 1) := by decide +kernel
theorem dX4_faultIn_28 : decode cX4_faultIn 28 = .ok (.invokevirtual 31, 3) := by decide +kernel
theorem dX4_faultIn_31 : decode cX4_faultIn 31 = .ok (.invokevirtual 35, 3) := by decide +kernel
theorem dX4_faultIn_34 : decode cX4_faultIn 34 = .ok (.ifCond .ne 5, 3) := by decide +kernel
theorem dX4_faultIn_37 : decode cX4_faultIn 37 = .ok (.iload_n 2, 1) := by decide +kernel
theorem dX4_faultIn_38 : decode cX4_faultIn 38 = .ok (.ireturn, 1) := by decide +kernel
theorem dX4_faultIn_39 : decode cX4_faultIn 39 = .ok (.iinc 2 1, 3) := by decide +kernel
theorem dX4_faultIn_42 : decode cX4_faultIn 42 = .ok (.goto (-25), 3) := by decide +kernel
theorem dX4_faultIn_45 : decode cX4_faultIn 45 = .ok (.aload_n 1, 1) := by decide +kernel
theorem dX4_faultIn_46 : decode cX4_faultIn 46 = .ok (.invokevirtual 22, 3) := by decide +kernel
theorem dX4_faultIn_49 : decode cX4_faultIn 49 = .ok (.ireturn, 1) := by decide +kernel
theorem dX4_takes_0 : decode cX4_takes 0 = .ok (.iload_n 1, 1) := by decide +kernel
theorem dX4_takes_1 : decode cX4_takes 1 = .ok (.bipush 47, 2) := by decide +kernel
theorem dX4_takes_3 : decode cX4_takes 3 = .ok (.if_icmp .ne 8, 3) := by decide +kernel
theorem dX4_takes_6 : decode cX4_takes 6 = .ok (.aload_n 0, 1) := by decide +kernel
theorem dX4_takes_7 : decode cX4_takes 7 = .ok (.invokevirtual 39, 3) := by decide +kernel
theorem dX4_takes_10 : decode cX4_takes 10 = .ok (.ireturn, 1) := by decide +kernel
theorem dX4_takes_11 : decode cX4_takes 11 = .ok (.iload_n 1, 1) := by decide +kernel
theorem dX4_takes_12 : decode cX4_takes 12 = .ok (.bipush 46, 2) := by decide +kernel
theorem dX4_takes_14 : decode cX4_takes 14 = .ok (.if_icmp .eq 15, 3) := by decide +kernel
theorem dX4_takes_17 : decode cX4_takes 17 = .ok (.iload_n 1, 1) := by decide +kernel
theorem dX4_takes_18 : decode cX4_takes 18 = .ok (.bipush 49, 2) := by decide +kernel
theorem dX4_takes_20 : decode cX4_takes 20 = .ok (.if_icmp .lt 13, 3) := by decide +kernel
theorem dX4_takes_23 : decode cX4_takes 23 = .ok (.iload_n 1, 1) := by decide +kernel
theorem dX4_takes_24 : decode cX4_takes 24 = .ok (.bipush 57, 2) := by decide +kernel
theorem dX4_takes_26 : decode cX4_takes 26 = .ok (.if_icmp .gt 7, 3) := by decide +kernel
theorem dX4_takes_29 : decode cX4_takes 29 = .ok (.iconst 1, 1) := by decide +kernel
theorem dX4_takes_30 : decode cX4_takes 30 = .ok (.goto 4, 3) := by decide +kernel
theorem dX4_takes_33 : decode cX4_takes 33 = .ok (.iconst 0, 1) := by decide +kernel
theorem dX4_takes_34 : decode cX4_takes 34 = .ok (.istore_n 2, 1) := by decide +kernel
theorem dX4_takes_35 : decode cX4_takes 35 = .ok (.aload_n 0, 1) := by decide +kernel
theorem dX4_takes_36 : decode cX4_takes 36 = .ok (.getfield 9, 3) := by decide +kernel
theorem dX4_takes_39 : decode cX4_takes 39 = .ok (.iconst 1, 1) := by decide +kernel
theorem dX4_takes_40 : decode cX4_takes 40 = .ok (.if_icmp .ne 8, 3) := by decide +kernel
theorem dX4_takes_43 : decode cX4_takes 43 = .ok (.bipush 6, 2) := by decide +kernel
theorem dX4_takes_45 : decode cX4_takes 45 = .ok (.goto 7, 3) := by decide +kernel
theorem dX4_takes_48 : decode cX4_takes 48 = .ok (.aload_n 0, 1) := by decide +kernel
theorem dX4_takes_49 : decode cX4_takes 49 = .ok (.getfield 15, 3) := by decide +kernel
theorem dX4_takes_52 : decode cX4_takes 52 = .ok (.istore_n 3, 1) := by decide +kernel
theorem dX4_takes_53 : decode cX4_takes 53 = .ok (.iload_n 2, 1) := by decide +kernel
theorem dX4_takes_54 : decode cX4_takes 54 = .ok (.ifCond .eq 11, 3) := by decide +kernel
theorem dX4_takes_57 : decode cX4_takes 57 = .ok (.aload_n 0, 1) := by decide +kernel
theorem dX4_takes_58 : decode cX4_takes 58 = .ok (.getfield 28, 3) := by decide +kernel
theorem dX4_takes_61 : decode cX4_takes 61 = .ok (.iload_n 3, 1) := by decide +kernel
theorem dX4_takes_62 : decode cX4_takes 62 = .ok (.if_icmp .lt 5, 3) := by decide +kernel
theorem dX4_takes_65 : decode cX4_takes 65 = .ok (.iconst 0, 1) := by decide +kernel
theorem dX4_takes_66 : decode cX4_takes 66 = .ok (.ireturn, 1) := by decide +kernel
theorem dX4_takes_67 : decode cX4_takes 67 = .ok (.aload_n 0, 1) := by decide +kernel
theorem dX4_takes_68 : decode cX4_takes 68 = .ok (.dup, 1) := by decide +kernel
theorem dX4_takes_69 : decode cX4_takes 69 = .ok (.getfield 28, 3) := by decide +kernel
theorem dX4_takes_72 : decode cX4_takes 72 = .ok (.iconst 1, 1) := by decide +kernel
theorem dX4_takes_73 : decode cX4_takes 73 = .ok (.iadd, 1) := by decide +kernel
theorem dX4_takes_74 : decode cX4_takes 74 = .ok (.putfield 28, 3) := by decide +kernel
theorem dX4_takes_77 : decode cX4_takes 77 = .ok (.iconst 1, 1) := by decide +kernel
theorem dX4_takes_78 : decode cX4_takes 78 = .ok (.ireturn, 1) := by decide +kernel
theorem dX4_endsRow_0 : decode cX4_endsRow 0 = .ok (.aload_n 0, 1) := by decide +kernel
theorem dX4_endsRow_1 : decode cX4_endsRow 1 = .ok (.getfield 9, 3) := by decide +kernel
theorem dX4_endsRow_4 : decode cX4_endsRow 4 = .ok (.iconst 1, 1) := by decide +kernel
theorem dX4_endsRow_5 : decode cX4_endsRow 5 = .ok (.if_icmp .ne 19, 3) := by decide +kernel
theorem dX4_endsRow_8 : decode cX4_endsRow 8 = .ok (.aload_n 0, 1) := by decide +kernel
theorem dX4_endsRow_9 : decode cX4_endsRow 9 = .ok (.getfield 28, 3) := by decide +kernel
theorem dX4_endsRow_12 : decode cX4_endsRow 12 = .ok (.iconst 2, 1) := by decide +kernel
theorem dX4_endsRow_13 : decode cX4_endsRow 13 = .ok (.if_icmp .lt 7, 3) := by decide +kernel
theorem dX4_endsRow_16 : decode cX4_endsRow 16 = .ok (.iconst 1, 1) := by decide +kernel
theorem dX4_endsRow_17 : decode cX4_endsRow 17 = .ok (.goto 23, 3) := by decide +kernel
theorem dX4_endsRow_20 : decode cX4_endsRow 20 = .ok (.iconst 0, 1) := by decide +kernel
theorem dX4_endsRow_21 : decode cX4_endsRow 21 = .ok (.goto 19, 3) := by decide +kernel
theorem dX4_endsRow_24 : decode cX4_endsRow 24 = .ok (.aload_n 0, 1) := by decide +kernel
theorem dX4_endsRow_25 : decode cX4_endsRow 25 = .ok (.getfield 28, 3) := by decide +kernel
theorem dX4_endsRow_28 : decode cX4_endsRow 28 = .ok (.aload_n 0, 1) := by decide +kernel
theorem dX4_endsRow_29 : decode cX4_endsRow 29 = .ok (.getfield 15, 3) := by decide +kernel
theorem dX4_endsRow_32 : decode cX4_endsRow 32 = .ok (.if_icmp .ne 7, 3) := by decide +kernel
theorem dX4_endsRow_35 : decode cX4_endsRow 35 = .ok (.iconst 1, 1) := by decide +kernel
theorem dX4_endsRow_36 : decode cX4_endsRow 36 = .ok (.goto 4, 3) := by decide +kernel
theorem dX4_endsRow_39 : decode cX4_endsRow 39 = .ok (.iconst 0, 1) := by decide +kernel
theorem dX4_endsRow_40 : decode cX4_endsRow 40 = .ok (.istore_n 1, 1) := by decide +kernel
theorem dX4_endsRow_41 : decode cX4_endsRow 41 = .ok (.iload_n 1, 1) := by decide +kernel
theorem dX4_endsRow_42 : decode cX4_endsRow 42 = .ok (.ifCond .eq 11, 3) := by decide +kernel
theorem dX4_endsRow_45 : decode cX4_endsRow 45 = .ok (.aload_n 0, 1) := by decide +kernel
theorem dX4_endsRow_46 : decode cX4_endsRow 46 = .ok (.getfield 9, 3) := by decide +kernel
theorem dX4_endsRow_49 : decode cX4_endsRow 49 = .ok (.iconst 5, 1) := by decide +kernel
theorem dX4_endsRow_50 : decode cX4_endsRow 50 = .ok (.if_icmp .lt 5, 3) := by decide +kernel
theorem dX4_endsRow_53 : decode cX4_endsRow 53 = .ok (.iconst 0, 1) := by decide +kernel
theorem dX4_endsRow_54 : decode cX4_endsRow 54 = .ok (.ireturn, 1) := by decide +kernel
theorem dX4_endsRow_55 : decode cX4_endsRow 55 = .ok (.aload_n 0, 1) := by decide +kernel
theorem dX4_endsRow_56 : decode cX4_endsRow 56 = .ok (.aload_n 0, 1) := by decide +kernel
theorem dX4_endsRow_57 : decode cX4_endsRow 57 = .ok (.getfield 28, 3) := by decide +kernel
theorem dX4_endsRow_60 : decode cX4_endsRow 60 = .ok (.putfield 15, 3) := by decide +kernel
theorem dX4_endsRow_63 : decode cX4_endsRow 63 = .ok (.aload_n 0, 1) := by decide +kernel
theorem dX4_endsRow_64 : decode cX4_endsRow 64 = .ok (.dup, 1) := by decide +kernel
theorem dX4_endsRow_65 : decode cX4_endsRow 65 = .ok (.getfield 9, 3) := by decide +kernel
theorem dX4_endsRow_68 : decode cX4_endsRow 68 = .ok (.iconst 1, 1) := by decide +kernel
theorem dX4_endsRow_69 : decode cX4_endsRow 69 = .ok (.iadd, 1) := by decide +kernel
theorem dX4_endsRow_70 : decode cX4_endsRow 70 = .ok (.putfield 9, 3) := by decide +kernel
theorem dX4_endsRow_73 : decode cX4_endsRow 73 = .ok (.aload_n 0, 1) := by decide +kernel
theorem dX4_endsRow_74 : decode cX4_endsRow 74 = .ok (.iconst 0, 1) := by decide +kernel
theorem dX4_endsRow_75 : decode cX4_endsRow 75 = .ok (.putfield 28, 3) := by decide +kernel
theorem dX4_endsRow_78 : decode cX4_endsRow 78 = .ok (.iconst 1, 1) := by decide +kernel
theorem dX4_endsRow_79 : decode cX4_endsRow 79 = .ok (.ireturn, 1) := by decide +kernel
theorem dX5_init_0 : decode cX5_init 0 = .ok (.aload_n 0, 1) := by decide +kernel
theorem dX5_init_1 : decode cX5_init 1 = .ok (.invokespecial 3, 3) := by decide +kernel
theorem dX5_init_4 : decode cX5_init 4 = .ok (.aload_n 0, 1) := by decide +kernel
theorem dX5_init_5 : decode cX5_init 5 = .ok (.bipush 8, 2) := by decide +kernel
theorem dX5_init_7 : decode cX5_init 7 = .ok (.newarray .int, 2) := by decide +kernel
theorem dX5_init_9 : decode cX5_init 9 = .ok (.putfield 9, 3) := by decide +kernel
theorem dX5_init_12 : decode cX5_init 12 = .ok (.aload_n 0, 1) := by decide +kernel
theorem dX5_init_13 : decode cX5_init 13 = .ok (.bipush 8, 2) := by decide +kernel
theorem dX5_init_15 : decode cX5_init 15 = .ok (.newarray .int, 2) := by decide +kernel
theorem dX5_init_17 : decode cX5_init 17 = .ok (.putfield 15, 3) := by decide +kernel
theorem dX5_init_20 : decode cX5_init 20 = .ok (.aload_n 0, 1) := by decide +kernel
theorem dX5_init_21 : decode cX5_init 21 = .ok (.aload_n 1, 1) := by decide +kernel
theorem dX5_init_22 : decode cX5_init 22 = .ok (.putfield 18, 3) := by decide +kernel
theorem dX5_init_25 : decode cX5_init 25 = .ok (.aload_n 0, 1) := by decide +kernel
theorem dX5_init_26 : decode cX5_init 26 = .ok (.aload_n 2, 1) := by decide +kernel
theorem dX5_init_27 : decode cX5_init 27 = .ok (.putfield 22, 3) := by decide +kernel
theorem dX5_init_30 : decode cX5_init 30 = .ok (.aload_n 0, 1) := by decide +kernel
theorem dX5_init_31 : decode cX5_init 31 = .ok (.aload_n 3, 1) := by decide +kernel
theorem dX5_init_32 : decode cX5_init 32 = .ok (.putfield 26, 3) := by decide +kernel
theorem dX5_init_35 : decode cX5_init 35 = .ok (.return_, 1) := by decide +kernel
theorem dX6_init_0 : decode cX6_init 0 = .ok (.aload_n 0, 1) := by decide +kernel
theorem dX6_init_1 : decode cX6_init 1 = .ok (.invokespecial 3, 3) := by decide +kernel
theorem dX6_init_4 : decode cX6_init 4 = .ok (.aload_n 0, 1) := by decide +kernel
theorem dX6_init_5 : decode cX6_init 5 = .ok (.bipush 8, 2) := by decide +kernel
theorem dX6_init_7 : decode cX6_init 7 = .ok (.newarray .int, 2) := by decide +kernel
theorem dX6_init_9 : decode cX6_init 9 = .ok (.putfield 9, 3) := by decide +kernel
theorem dX6_init_12 : decode cX6_init 12 = .ok (.aload_n 0, 1) := by decide +kernel
theorem dX6_init_13 : decode cX6_init 13 = .ok (.aload_n 1, 1) := by decide +kernel
theorem dX6_init_14 : decode cX6_init 14 = .ok (.putfield 15, 3) := by decide +kernel
theorem dX6_init_17 : decode cX6_init 17 = .ok (.aload_n 0, 1) := by decide +kernel
theorem dX6_init_18 : decode cX6_init 18 = .ok (.aload_n 2, 1) := by decide +kernel
theorem dX6_init_19 : decode cX6_init 19 = .ok (.putfield 19, 3) := by decide +kernel
theorem dX6_init_22 : decode cX6_init 22 = .ok (.return_, 1) := by decide +kernel
theorem dX7_init_0 : decode cX7_init 0 = .ok (.aload_n 0, 1) := by decide +kernel
theorem dX7_init_1 : decode cX7_init 1 = .ok (.invokespecial 3, 3) := by decide +kernel
theorem dX7_init_4 : decode cX7_init 4 = .ok (.aload_n 0, 1) := by decide +kernel
theorem dX7_init_5 : decode cX7_init 5 = .ok (.iconst 5, 1) := by decide +kernel
theorem dX7_init_6 : decode cX7_init 6 = .ok (.newarray .int, 2) := by decide +kernel
theorem dX7_init_8 : decode cX7_init 8 = .ok (.putfield 11, 3) := by decide +kernel
theorem dX7_init_11 : decode cX7_init 11 = .ok (.aload_n 0, 1) := by decide +kernel
theorem dX7_init_12 : decode cX7_init 12 = .ok (.bipush 30, 2) := by decide +kernel
theorem dX7_init_14 : decode cX7_init 14 = .ok (.newarray .int, 2) := by decide +kernel
theorem dX7_init_16 : decode cX7_init 16 = .ok (.putfield 15, 3) := by decide +kernel
theorem dX7_init_19 : decode cX7_init 19 = .ok (.aload_n 0, 1) := by decide +kernel
theorem dX7_init_20 : decode cX7_init 20 = .ok (.aload_n 1, 1) := by decide +kernel
theorem dX7_init_21 : decode cX7_init 21 = .ok (.putfield 18, 3) := by decide +kernel
theorem dX7_init_24 : decode cX7_init 24 = .ok (.aload_n 0, 1) := by decide +kernel
theorem dX7_init_25 : decode cX7_init 25 = .ok (.aload_n 2, 1) := by decide +kernel
theorem dX7_init_26 : decode cX7_init 26 = .ok (.putfield 22, 3) := by decide +kernel
theorem dX7_init_29 : decode cX7_init 29 = .ok (.aload_n 0, 1) := by decide +kernel
theorem dX7_init_30 : decode cX7_init 30 = .ok (.aload_n 3, 1) := by decide +kernel
theorem dX7_init_31 : decode cX7_init 31 = .ok (.putfield 26, 3) := by decide +kernel
theorem dX7_init_34 : decode cX7_init 34 = .ok (.return_, 1) := by decide +kernel
theorem dX8_init_0 : decode cX8_init 0 = .ok (.aload_n 0, 1) := by decide +kernel
theorem dX8_init_1 : decode cX8_init 1 = .ok (.invokespecial 3, 3) := by decide +kernel
theorem dX8_init_4 : decode cX8_init 4 = .ok (.aload_n 0, 1) := by decide +kernel
theorem dX8_init_5 : decode cX8_init 5 = .ok (.bipush 8, 2) := by decide +kernel
theorem dX8_init_7 : decode cX8_init 7 = .ok (.newarray .int, 2) := by decide +kernel
theorem dX8_init_9 : decode cX8_init 9 = .ok (.putfield 9, 3) := by decide +kernel
theorem dX8_init_12 : decode cX8_init 12 = .ok (.aload_n 0, 1) := by decide +kernel
theorem dX8_init_13 : decode cX8_init 13 = .ok (.bipush 8, 2) := by decide +kernel
theorem dX8_init_15 : decode cX8_init 15 = .ok (.newarray .int, 2) := by decide +kernel
theorem dX8_init_17 : decode cX8_init 17 = .ok (.putfield 15, 3) := by decide +kernel
theorem dX8_init_20 : decode cX8_init 20 = .ok (.aload_n 0, 1) := by decide +kernel
theorem dX8_init_21 : decode cX8_init 21 = .ok (.bipush 64, 2) := by decide +kernel
theorem dX8_init_23 : decode cX8_init 23 = .ok (.newarray .int, 2) := by decide +kernel
theorem dX8_init_25 : decode cX8_init 25 = .ok (.putfield 18, 3) := by decide +kernel
theorem dX8_init_28 : decode cX8_init 28 = .ok (.aload_n 0, 1) := by decide +kernel
theorem dX8_init_29 : decode cX8_init 29 = .ok (.bipush 64, 2) := by decide +kernel
theorem dX8_init_31 : decode cX8_init 31 = .ok (.newarray .int, 2) := by decide +kernel
theorem dX8_init_33 : decode cX8_init 33 = .ok (.putfield 21, 3) := by decide +kernel
theorem dX8_init_36 : decode cX8_init 36 = .ok (.aload_n 0, 1) := by decide +kernel
theorem dX8_init_37 : decode cX8_init 37 = .ok (.iconst (-1), 1) := by decide +kernel
theorem dX8_init_38 : decode cX8_init 38 = .ok (.putfield 24, 3) := by decide +kernel
theorem dX8_init_41 : decode cX8_init 41 = .ok (.return_, 1) := by decide +kernel
theorem dX8_clear_0 : decode cX8_clear 0 = .ok (.aload_n 0, 1) := by decide +kernel
theorem dX8_clear_1 : decode cX8_clear 1 = .ok (.iconst 0, 1) := by decide +kernel
theorem dX8_clear_2 : decode cX8_clear 2 = .ok (.putfield 28, 3) := by decide +kernel
theorem dX8_clear_5 : decode cX8_clear 5 = .ok (.aload_n 0, 1) := by decide +kernel
theorem dX8_clear_6 : decode cX8_clear 6 = .ok (.iconst (-1), 1) := by decide +kernel
theorem dX8_clear_7 : decode cX8_clear 7 = .ok (.putfield 24, 3) := by decide +kernel
theorem dX8_clear_10 : decode cX8_clear 10 = .ok (.return_, 1) := by decide +kernel
theorem dX8_size_0 : decode cX8_size 0 = .ok (.aload_n 0, 1) := by decide +kernel
theorem dX8_size_1 : decode cX8_size 1 = .ok (.getfield 28, 3) := by decide +kernel
theorem dX8_size_4 : decode cX8_size 4 = .ok (.ireturn, 1) := by decide +kernel
theorem dX8_has_0 : decode cX8_has 0 = .ok (.iload_n 1, 1) := by decide +kernel
theorem dX8_has_1 : decode cX8_has 1 = .ok (.ifCond .lt 15, 3) := by decide +kernel
theorem dX8_has_4 : decode cX8_has 4 = .ok (.iload_n 1, 1) := by decide +kernel
theorem dX8_has_5 : decode cX8_has 5 = .ok (.aload_n 0, 1) := by decide +kernel
theorem dX8_has_6 : decode cX8_has 6 = .ok (.getfield 28, 3) := by decide +kernel
theorem dX8_has_9 : decode cX8_has 9 = .ok (.if_icmp .ge 7, 3) := by decide +kernel
theorem dX8_has_12 : decode cX8_has 12 = .ok (.iconst 1, 1) := by decide +kernel
theorem dX8_has_13 : decode cX8_has 13 = .ok (.goto 4, 3) := by decide +kernel
theorem dX8_has_16 : decode cX8_has 16 = .ok (.iconst 0, 1) := by decide +kernel
theorem dX8_has_17 : decode cX8_has 17 = .ok (.ireturn, 1) := by decide +kernel
theorem dX8_add_0 : decode cX8_add 0 = .ok (.aload_n 0, 1) := by decide +kernel
theorem dX8_add_1 : decode cX8_add 1 = .ok (.getfield 28, 3) := by decide +kernel
theorem dX8_add_4 : decode cX8_add 4 = .ok (.bipush 8, 2) := by decide +kernel
theorem dX8_add_6 : decode cX8_add 6 = .ok (.if_icmp .lt 6, 3) := by decide +kernel
theorem dX8_add_9 : decode cX8_add 9 = .ok (.bipush (-104), 2) := by decide +kernel
theorem dX8_add_11 : decode cX8_add 11 = .ok (.ireturn, 1) := by decide +kernel
theorem dX8_add_12 : decode cX8_add 12 = .ok (.aload_n 0, 1) := by decide +kernel
theorem dX8_add_13 : decode cX8_add 13 = .ok (.getfield 28, 3) := by decide +kernel
theorem dX8_add_16 : decode cX8_add 16 = .ok (.istore 4, 2) := by decide +kernel
theorem dX8_add_18 : decode cX8_add 18 = .ok (.aload_n 0, 1) := by decide +kernel
theorem dX8_add_19 : decode cX8_add 19 = .ok (.getfield 9, 3) := by decide +kernel
theorem dX8_add_22 : decode cX8_add 22 = .ok (.iload 4, 2) := by decide +kernel
theorem dX8_add_24 : decode cX8_add 24 = .ok (.iload_n 1, 1) := by decide +kernel
theorem dX8_add_25 : decode cX8_add 25 = .ok (.iastore, 1) := by decide +kernel
theorem dX8_add_26 : decode cX8_add 26 = .ok (.aload_n 0, 1) := by decide +kernel
theorem dX8_add_27 : decode cX8_add 27 = .ok (.getfield 15, 3) := by decide +kernel
theorem dX8_add_30 : decode cX8_add 30 = .ok (.iload 4, 2) := by decide +kernel
theorem dX8_add_32 : decode cX8_add 32 = .ok (.iload_n 2, 1) := by decide +kernel
theorem dX8_add_33 : decode cX8_add 33 = .ok (.iastore, 1) := by decide +kernel
theorem dX8_add_34 : decode cX8_add 34 = .ok (.aload_n 0, 1) := by decide +kernel
theorem dX8_add_35 : decode cX8_add 35 = .ok (.dup, 1) := by decide +kernel
theorem dX8_add_36 : decode cX8_add 36 = .ok (.getfield 28, 3) := by decide +kernel
theorem dX8_add_39 : decode cX8_add 39 = .ok (.iconst 1, 1) := by decide +kernel
theorem dX8_add_40 : decode cX8_add 40 = .ok (.iadd, 1) := by decide +kernel
theorem dX8_add_41 : decode cX8_add 41 = .ok (.putfield 28, 3) := by decide +kernel
theorem dX8_add_44 : decode cX8_add 44 = .ok (.aload_n 0, 1) := by decide +kernel
theorem dX8_add_45 : decode cX8_add 45 = .ok (.iload 4, 2) := by decide +kernel
theorem dX8_add_47 : decode cX8_add 47 = .ok (.iload_n 3, 1) := by decide +kernel
theorem dX8_add_48 : decode cX8_add 48 = .ok (.invokevirtual 31, 3) := by decide +kernel
theorem dX8_add_51 : decode cX8_add 51 = .ok (.iload 4, 2) := by decide +kernel
theorem dX8_add_53 : decode cX8_add 53 = .ok (.ireturn, 1) := by decide +kernel
theorem dX8_kind_0 : decode cX8_kind 0 = .ok (.aload_n 0, 1) := by decide +kernel
theorem dX8_kind_1 : decode cX8_kind 1 = .ok (.iload_n 1, 1) := by decide +kernel
theorem dX8_kind_2 : decode cX8_kind 2 = .ok (.invokevirtual 35, 3) := by decide +kernel
theorem dX8_kind_5 : decode cX8_kind 5 = .ok (.ifCond .eq 12, 3) := by decide +kernel
theorem dX8_kind_8 : decode cX8_kind 8 = .ok (.aload_n 0, 1) := by decide +kernel
theorem dX8_kind_9 : decode cX8_kind 9 = .ok (.getfield 9, 3) := by decide +kernel
theorem dX8_kind_12 : decode cX8_kind 12 = .ok (.iload_n 1, 1) := by decide +kernel
theorem dX8_kind_13 : decode cX8_kind 13 = .ok (.iaload, 1) := by decide +kernel
theorem dX8_kind_14 : decode cX8_kind 14 = .ok (.goto 4, 3) := by decide +kernel
theorem dX8_kind_17 : decode cX8_kind 17 = .ok (.iconst (-1), 1) := by decide +kernel
theorem dX8_kind_18 : decode cX8_kind 18 = .ok (.ireturn, 1) := by decide +kernel
theorem dX8_weight_0 : decode cX8_weight 0 = .ok (.aload_n 0, 1) := by decide +kernel
theorem dX8_weight_1 : decode cX8_weight 1 = .ok (.iload_n 1, 1) := by decide +kernel
theorem dX8_weight_2 : decode cX8_weight 2 = .ok (.invokevirtual 35, 3) := by decide +kernel
theorem dX8_weight_5 : decode cX8_weight 5 = .ok (.ifCond .eq 12, 3) := by decide +kernel
theorem dX8_weight_8 : decode cX8_weight 8 = .ok (.aload_n 0, 1) := by decide +kernel
theorem dX8_weight_9 : decode cX8_weight 9 = .ok (.getfield 15, 3) := by decide +kernel
theorem dX8_weight_12 : decode cX8_weight 12 = .ok (.iload_n 1, 1) := by decide +kernel
theorem dX8_weight_13 : decode cX8_weight 13 = .ok (.iaload, 1) := by decide +kernel
theorem dX8_weight_14 : decode cX8_weight 14 = .ok (.goto 4, 3) := by decide +kernel
theorem dX8_weight_17 : decode cX8_weight 17 = .ok (.iconst 0, 1) := by decide +kernel
theorem dX8_weight_18 : decode cX8_weight 18 = .ok (.ireturn, 1) := by decide +kernel
theorem dX8_weighs_0 : decode cX8_weighs 0 = .ok (.aload_n 0, 1) := by decide +kernel
theorem dX8_weighs_1 : decode cX8_weighs 1 = .ok (.iload_n 1, 1) := by decide +kernel
theorem dX8_weighs_2 : decode cX8_weighs 2 = .ok (.invokevirtual 35, 3) := by decide +kernel
theorem dX8_weighs_5 : decode cX8_weighs 5 = .ok (.ifCond .ne 5, 3) := by decide +kernel
theorem dX8_weighs_8 : decode cX8_weighs 8 = .ok (.iconst 0, 1) := by decide +kernel
theorem dX8_weighs_9 : decode cX8_weighs 9 = .ok (.ireturn, 1) := by decide +kernel
theorem dX8_weighs_10 : decode cX8_weighs 10 = .ok (.aload_n 0, 1) := by decide +kernel
theorem dX8_weighs_11 : decode cX8_weighs 11 = .ok (.getfield 9, 3) := by decide +kernel
theorem dX8_weighs_14 : decode cX8_weighs 14 = .ok (.iload_n 1, 1) := by decide +kernel
theorem dX8_weighs_15 : decode cX8_weighs 15 = .ok (.iaload, 1) := by decide +kernel
theorem dX8_weighs_16 : decode cX8_weighs 16 = .ok (.iconst 4, 1) := by decide +kernel
theorem dX8_weighs_17 : decode cX8_weighs 17 = .ok (.if_icmp .ne 14, 3) := by decide +kernel
theorem dX8_weighs_20 : decode cX8_weighs 20 = .ok (.iconst 2, 1) := by decide +kernel
theorem dX8_weighs_21 : decode cX8_weighs 21 = .ok (.aload_n 0, 1) := by decide +kernel
theorem dX8_weighs_22 : decode cX8_weighs 22 = .ok (.getfield 15, 3) := by decide +kernel
theorem dX8_weighs_25 : decode cX8_weighs 25 = .ok (.iload_n 1, 1) := by decide +kernel
theorem dX8_weighs_26 : decode cX8_weighs 26 = .ok (.iaload, 1) := by decide +kernel
theorem dX8_weighs_27 : decode cX8_weighs 27 = .ok (.imul, 1) := by decide +kernel
theorem dX8_weighs_28 : decode cX8_weighs 28 = .ok (.goto 9, 3) := by decide +kernel
theorem dX8_weighs_31 : decode cX8_weighs 31 = .ok (.aload_n 0, 1) := by decide +kernel
theorem dX8_weighs_32 : decode cX8_weighs 32 = .ok (.getfield 15, 3) := by decide +kernel
theorem dX8_weighs_35 : decode cX8_weighs 35 = .ok (.iload_n 1, 1) := by decide +kernel
theorem dX8_weighs_36 : decode cX8_weighs 36 = .ok (.iaload, 1) := by decide +kernel
theorem dX8_weighs_37 : decode cX8_weighs 37 = .ok (.ireturn, 1) := by decide +kernel
theorem dX8_isA_0 : decode cX8_isA 0 = .ok (.aload_n 0, 1) := by decide +kernel
theorem dX8_isA_1 : decode cX8_isA 1 = .ok (.iload_n 1, 1) := by decide +kernel
theorem dX8_isA_2 : decode cX8_isA 2 = .ok (.invokevirtual 39, 3) := by decide +kernel
theorem dX8_isA_5 : decode cX8_isA 5 = .ok (.istore_n 3, 1) := by decide +kernel
theorem dX8_isA_6 : decode cX8_isA 6 = .ok (.iload_n 3, 1) := by decide +kernel
theorem dX8_isA_7 : decode cX8_isA 7 = .ok (.iload_n 2, 1) := by decide +kernel
theorem dX8_isA_8 : decode cX8_isA 8 = .ok (.if_icmp .eq 17, 3) := by decide +kernel
theorem dX8_isA_11 : decode cX8_isA 11 = .ok (.iload_n 2, 1) := by decide +kernel
theorem dX8_isA_12 : decode cX8_isA 12 = .ok (.ifCond .eq 13, 3) := by decide +kernel
theorem dX8_isA_15 : decode cX8_isA 15 = .ok (.iload_n 2, 1) := by decide +kernel
theorem dX8_isA_16 : decode cX8_isA 16 = .ok (.iconst 3, 1) := by decide +kernel
theorem dX8_isA_17 : decode cX8_isA 17 = .ok (.if_icmp .ne 12, 3) := by decide +kernel
theorem dX8_isA_20 : decode cX8_isA 20 = .ok (.iload_n 3, 1) := by decide +kernel
theorem dX8_isA_21 : decode cX8_isA 21 = .ok (.iconst 4, 1) := by decide +kernel
theorem dX8_isA_22 : decode cX8_isA 22 = .ok (.if_icmp .ne 7, 3) := by decide +kernel
theorem dX8_isA_25 : decode cX8_isA 25 = .ok (.iconst 1, 1) := by decide +kernel
theorem dX8_isA_26 : decode cX8_isA 26 = .ok (.goto 4, 3) := by decide +kernel
theorem dX8_isA_29 : decode cX8_isA 29 = .ok (.iconst 0, 1) := by decide +kernel
theorem dX8_isA_30 : decode cX8_isA 30 = .ok (.ireturn, 1) := by decide +kernel
theorem dX8_people_0 : decode cX8_people 0 = .ok (.aload_n 0, 1) := by decide +kernel
theorem dX8_people_1 : decode cX8_people 1 = .ok (.invokevirtual 43, 3) := by decide +kernel
theorem dX8_people_4 : decode cX8_people 4 = .ok (.invokestatic 47, 3) := by decide +kernel
theorem dX8_people_7 : decode cX8_people 7 = .ok (.ireturn, 1) := by decide +kernel
theorem dX8_peopleBits_0 : decode cX8_peopleBits 0 = .ok (.iconst 0, 1) := by decide +kernel
theorem dX8_peopleBits_1 : decode cX8_peopleBits 1 = .ok (.istore_n 1, 1) := by decide +kernel
theorem dX8_peopleBits_2 : decode cX8_peopleBits 2 = .ok (.iconst 0, 1) := by decide +kernel
theorem dX8_peopleBits_3 : decode cX8_peopleBits 3 = .ok (.istore_n 2, 1) := by decide +kernel
theorem dX8_peopleBits_4 : decode cX8_peopleBits 4 = .ok (.iload_n 2, 1) := by decide +kernel
theorem dX8_peopleBits_5 : decode cX8_peopleBits 5 = .ok (.aload_n 0, 1) := by decide +kernel
theorem dX8_peopleBits_6 : decode cX8_peopleBits 6 = .ok (.getfield 28, 3) := by decide +kernel
theorem dX8_peopleBits_9 : decode cX8_peopleBits 9 = .ok (.if_icmp .ge 24, 3) := by decide +kernel
theorem dX8_peopleBits_12 : decode cX8_peopleBits 12 = .ok (.aload_n 0, 1) := by decide +kernel
theorem dX8_peopleBits_13 : decode cX8_peopleBits 13 = .ok (.iload_n 2, 1) := by decide +kernel
theorem dX8_peopleBits_14 : decode cX8_peopleBits 14 = .ok (.iconst 3, 1) := by decide +kernel
theorem dX8_peopleBits_15 : decode cX8_peopleBits 15 = .ok (.invokevirtual 52, 3) := by decide +kernel
theorem dX8_peopleBits_18 : decode cX8_peopleBits 18 = .ok (.ifCond .eq 9, 3) := by decide +kernel
theorem dX8_peopleBits_21 : decode cX8_peopleBits 21 = .ok (.iload_n 1, 1) := by decide +kernel
theorem dX8_peopleBits_22 : decode cX8_peopleBits 22 = .ok (.iconst 1, 1) := by decide +kernel
theorem dX8_peopleBits_23 : decode cX8_peopleBits 23 = .ok (.iload_n 2, 1) := by decide +kernel
theorem dX8_peopleBits_24 : decode cX8_peopleBits 24 = .ok (.ishl, 1) := by decide +kernel
theorem dX8_peopleBits_25 : decode cX8_peopleBits 25 = .ok (.ior, 1) := by decide +kernel
theorem dX8_peopleBits_26 : decode cX8_peopleBits 26 = .ok (.istore_n 1, 1) := by decide +kernel
theorem dX8_peopleBits_27 : decode cX8_peopleBits 27 = .ok (.iinc 2 1, 3) := by decide +kernel
theorem dX8_peopleBits_30 : decode cX8_peopleBits 30 = .ok (.goto (-26), 3) := by decide +kernel
theorem dX8_peopleBits_33 : decode cX8_peopleBits 33 = .ok (.iload_n 1, 1) := by decide +kernel
theorem dX8_peopleBits_34 : decode cX8_peopleBits 34 = .ok (.ireturn, 1) := by decide +kernel
theorem dX8_place_0 : decode cX8_place 0 = .ok (.aload_n 0, 1) := by decide +kernel
theorem dX8_place_1 : decode cX8_place 1 = .ok (.iload_n 1, 1) := by decide +kernel
theorem dX8_place_2 : decode cX8_place 2 = .ok (.invokevirtual 35, 3) := by decide +kernel
theorem dX8_place_5 : decode cX8_place 5 = .ok (.ifCond .eq 24, 3) := by decide +kernel
theorem dX8_place_8 : decode cX8_place 8 = .ok (.iload_n 2, 1) := by decide +kernel
theorem dX8_place_9 : decode cX8_place 9 = .ok (.invokestatic 56, 3) := by decide +kernel
theorem dX8_place_12 : decode cX8_place 12 = .ok (.ifCond .eq 17, 3) := by decide +kernel
theorem dX8_place_15 : decode cX8_place 15 = .ok (.aload_n 0, 1) := by decide +kernel
theorem dX8_place_16 : decode cX8_place 16 = .ok (.getfield 18, 3) := by decide +kernel
theorem dX8_place_19 : decode cX8_place 19 = .ok (.iload_n 1, 1) := by decide +kernel
theorem dX8_place_20 : decode cX8_place 20 = .ok (.bipush 8, 2) := by decide +kernel
theorem dX8_place_22 : decode cX8_place 22 = .ok (.imul, 1) := by decide +kernel
theorem dX8_place_23 : decode cX8_place 23 = .ok (.iload_n 2, 1) := by decide +kernel
theorem dX8_place_24 : decode cX8_place 24 = .ok (.iadd, 1) := by decide +kernel
theorem dX8_place_25 : decode cX8_place 25 = .ok (.iaload, 1) := by decide +kernel
theorem dX8_place_26 : decode cX8_place 26 = .ok (.goto 4, 3) := by decide +kernel
theorem dX8_place_29 : decode cX8_place 29 = .ok (.iconst (-1), 1) := by decide +kernel
theorem dX8_place_30 : decode cX8_place 30 = .ok (.ireturn, 1) := by decide +kernel
theorem dX8_move_0 : decode cX8_move 0 = .ok (.aload_n 0, 1) := by decide +kernel
theorem dX8_move_1 : decode cX8_move 1 = .ok (.iload_n 1, 1) := by decide +kernel
theorem dX8_move_2 : decode cX8_move 2 = .ok (.invokevirtual 35, 3) := by decide +kernel
theorem dX8_move_5 : decode cX8_move 5 = .ok (.ifCond .eq 22, 3) := by decide +kernel
theorem dX8_move_8 : decode cX8_move 8 = .ok (.iload_n 2, 1) := by decide +kernel
theorem dX8_move_9 : decode cX8_move 9 = .ok (.invokestatic 56, 3) := by decide +kernel
theorem dX8_move_12 : decode cX8_move 12 = .ok (.ifCond .eq 15, 3) := by decide +kernel
theorem dX8_move_15 : decode cX8_move 15 = .ok (.aload_n 0, 1) := by decide +kernel
theorem dX8_move_16 : decode cX8_move 16 = .ok (.getfield 18, 3) := by decide +kernel
theorem dX8_move_19 : decode cX8_move 19 = .ok (.iload_n 1, 1) := by decide +kernel
theorem dX8_move_20 : decode cX8_move 20 = .ok (.bipush 8, 2) := by decide +kernel
theorem dX8_move_22 : decode cX8_move 22 = .ok (.imul, 1) := by decide +kernel
theorem dX8_move_23 : decode cX8_move 23 = .ok (.iload_n 2, 1) := by decide +kernel
theorem dX8_move_24 : decode cX8_move 24 = .ok (.iadd, 1) := by decide +kernel
theorem dX8_move_25 : decode cX8_move 25 = .ok (.iload_n 3, 1) := by decide +kernel
theorem dX8_move_26 : decode cX8_move 26 = .ok (.iastore, 1) := by decide +kernel
theorem dX8_move_27 : decode cX8_move 27 = .ok (.return_, 1) := by decide +kernel
theorem dX8_moveAllDay_0 : decode cX8_moveAllDay 0 = .ok (.iconst 0, 1) := by decide +kernel
theorem dX8_moveAllDay_1 : decode cX8_moveAllDay 1 = .ok (.istore_n 3, 1) := by decide +kernel
theorem dX8_moveAllDay_2 : decode cX8_moveAllDay 2 = .ok (.iload_n 3, 1) := by decide +kernel
theorem dX8_moveAllDay_3 : decode cX8_moveAllDay 3 = .ok (.bipush 8, 2) := by decide +kernel
theorem dX8_moveAllDay_5 : decode cX8_moveAllDay 5 = .ok (.if_icmp .ge 16, 3) := by decide +kernel
theorem dX8_moveAllDay_8 : decode cX8_moveAllDay 8 = .ok (.aload_n 0, 1) := by decide +kernel
theorem dX8_moveAllDay_9 : decode cX8_moveAllDay 9 = .ok (.iload_n 1, 1) := by decide +kernel
theorem dX8_moveAllDay_10 : decode cX8_moveAllDay 10 = .ok (.iload_n 3, 1) := by decide +kernel
theorem dX8_moveAllDay_11 : decode cX8_moveAllDay 11 = .ok (.iload_n 2, 1) := by decide +kernel
theorem dX8_moveAllDay_12 : decode cX8_moveAllDay 12 = .ok (.invokevirtual 59, 3) := by decide +kernel
theorem dX8_moveAllDay_15 : decode cX8_moveAllDay 15 = .ok (.iinc 3 1, 3) := by decide +kernel
theorem dX8_moveAllDay_18 : decode cX8_moveAllDay 18 = .ok (.goto (-16), 3) := by decide +kernel
theorem dX8_moveAllDay_21 : decode cX8_moveAllDay 21 = .ok (.return_, 1) := by decide +kernel
theorem dX9_init_0 : decode cX9_init 0 = .ok (.aload_n 0, 1) := by decide +kernel
theorem dX9_init_1 : decode cX9_init 1 = .ok (.invokespecial 3, 3) := by decide +kernel
theorem dX9_init_4 : decode cX9_init 4 = .ok (.aload_n 0, 1) := by decide +kernel
theorem dX9_init_5 : decode cX9_init 5 = .ok (.bipush 6, 2) := by decide +kernel
theorem dX9_init_7 : decode cX9_init 7 = .ok (.newarray .int, 2) := by decide +kernel
theorem dX9_init_9 : decode cX9_init 9 = .ok (.putfield 9, 3) := by decide +kernel
theorem dX9_init_12 : decode cX9_init 12 = .ok (.aload_n 0, 1) := by decide +kernel
theorem dX9_init_13 : decode cX9_init 13 = .ok (.bipush 6, 2) := by decide +kernel
theorem dX9_init_15 : decode cX9_init 15 = .ok (.newarray .int, 2) := by decide +kernel
theorem dX9_init_17 : decode cX9_init 17 = .ok (.putfield 15, 3) := by decide +kernel
theorem dX9_init_20 : decode cX9_init 20 = .ok (.aload_n 0, 1) := by decide +kernel
theorem dX9_init_21 : decode cX9_init 21 = .ok (.bipush 6, 2) := by decide +kernel
theorem dX9_init_23 : decode cX9_init 23 = .ok (.newarray .int, 2) := by decide +kernel
theorem dX9_init_25 : decode cX9_init 25 = .ok (.putfield 18, 3) := by decide +kernel
theorem dX9_init_28 : decode cX9_init 28 = .ok (.aload_n 0, 1) := by decide +kernel
theorem dX9_init_29 : decode cX9_init 29 = .ok (.bipush 6, 2) := by decide +kernel
theorem dX9_init_31 : decode cX9_init 31 = .ok (.newarray .int, 2) := by decide +kernel
theorem dX9_init_33 : decode cX9_init 33 = .ok (.putfield 21, 3) := by decide +kernel
theorem dX9_init_36 : decode cX9_init 36 = .ok (.aload_n 0, 1) := by decide +kernel
theorem dX9_init_37 : decode cX9_init 37 = .ok (.aload_n 1, 1) := by decide +kernel
theorem dX9_init_38 : decode cX9_init 38 = .ok (.putfield 24, 3) := by decide +kernel
theorem dX9_init_41 : decode cX9_init 41 = .ok (.aload_n 0, 1) := by decide +kernel
theorem dX9_init_42 : decode cX9_init 42 = .ok (.aload_n 2, 1) := by decide +kernel
theorem dX9_init_43 : decode cX9_init 43 = .ok (.putfield 28, 3) := by decide +kernel
theorem dX9_init_46 : decode cX9_init 46 = .ok (.aload_n 0, 1) := by decide +kernel
theorem dX9_init_47 : decode cX9_init 47 = .ok (.aload_n 3, 1) := by decide +kernel
theorem dX9_init_48 : decode cX9_init 48 = .ok (.putfield 32, 3) := by decide +kernel
theorem dX9_init_51 : decode cX9_init 51 = .ok (.return_, 1) := by decide +kernel
theorem dJ6_bitCount_0f7a4_0 : decode cJ6_bitCount_0f7a4 0 = .ok (.iload_n 0, 1) := by decide +kernel
theorem dJ6_bitCount_0f7a4_1 : decode cJ6_bitCount_0f7a4 1 = .ok (.iload_n 0, 1) := by decide +kernel
theorem dJ6_bitCount_0f7a4_2 : decode cJ6_bitCount_0f7a4 2 = .ok (.iconst 1, 1) := by decide +kernel
theorem dJ6_bitCount_0f7a4_3 : decode cJ6_bitCount_0f7a4 3 = .ok (.iushr, 1) := by decide +kernel
theorem dJ6_bitCount_0f7a4_4 : decode cJ6_bitCount_0f7a4 4 = .ok (.ldc_w 265, 3) := by decide +kernel
theorem dJ6_bitCount_0f7a4_7 : decode cJ6_bitCount_0f7a4 7 = .ok (.iand, 1) := by decide +kernel
theorem dJ6_bitCount_0f7a4_8 : decode cJ6_bitCount_0f7a4 8 = .ok (.isub, 1) := by decide +kernel
theorem dJ6_bitCount_0f7a4_9 : decode cJ6_bitCount_0f7a4 9 = .ok (.istore_n 0, 1) := by decide +kernel
theorem dJ6_bitCount_0f7a4_10 : decode cJ6_bitCount_0f7a4 10 = .ok (.iload_n 0, 1) := by decide +kernel
theorem dJ6_bitCount_0f7a4_11 : decode cJ6_bitCount_0f7a4 11 = .ok (.ldc_w 266, 3) := by decide +kernel
theorem dJ6_bitCount_0f7a4_14 : decode cJ6_bitCount_0f7a4 14 = .ok (.iand, 1) := by decide +kernel
theorem dJ6_bitCount_0f7a4_15 : decode cJ6_bitCount_0f7a4 15 = .ok (.iload_n 0, 1) := by decide +kernel
theorem dJ6_bitCount_0f7a4_16 : decode cJ6_bitCount_0f7a4 16 = .ok (.iconst 2, 1) := by decide +kernel
theorem dJ6_bitCount_0f7a4_17 : decode cJ6_bitCount_0f7a4 17 = .ok (.iushr, 1) := by decide +kernel
theorem dJ6_bitCount_0f7a4_18 : decode cJ6_bitCount_0f7a4 18 = .ok (.ldc_w 266, 3) := by decide +kernel
theorem dJ6_bitCount_0f7a4_21 : decode cJ6_bitCount_0f7a4 21 = .ok (.iand, 1) := by decide +kernel
theorem dJ6_bitCount_0f7a4_22 : decode cJ6_bitCount_0f7a4 22 = .ok (.iadd, 1) := by decide +kernel
theorem dJ6_bitCount_0f7a4_23 : decode cJ6_bitCount_0f7a4 23 = .ok (.istore_n 0, 1) := by decide +kernel
theorem dJ6_bitCount_0f7a4_24 : decode cJ6_bitCount_0f7a4 24 = .ok (.iload_n 0, 1) := by decide +kernel
theorem dJ6_bitCount_0f7a4_25 : decode cJ6_bitCount_0f7a4 25 = .ok (.iload_n 0, 1) := by decide +kernel
theorem dJ6_bitCount_0f7a4_26 : decode cJ6_bitCount_0f7a4 26 = .ok (.iconst 4, 1) := by decide +kernel
theorem dJ6_bitCount_0f7a4_27 : decode cJ6_bitCount_0f7a4 27 = .ok (.iushr, 1) := by decide +kernel
theorem dJ6_bitCount_0f7a4_28 : decode cJ6_bitCount_0f7a4 28 = .ok (.iadd, 1) := by decide +kernel
theorem dJ6_bitCount_0f7a4_29 : decode cJ6_bitCount_0f7a4 29 = .ok (.ldc_w 267, 3) := by decide +kernel
theorem dJ6_bitCount_0f7a4_32 : decode cJ6_bitCount_0f7a4 32 = .ok (.iand, 1) := by decide +kernel
theorem dJ6_bitCount_0f7a4_33 : decode cJ6_bitCount_0f7a4 33 = .ok (.istore_n 0, 1) := by decide +kernel
theorem dJ6_bitCount_0f7a4_34 : decode cJ6_bitCount_0f7a4 34 = .ok (.iload_n 0, 1) := by decide +kernel
theorem dJ6_bitCount_0f7a4_35 : decode cJ6_bitCount_0f7a4 35 = .ok (.iload_n 0, 1) := by decide +kernel
theorem dJ6_bitCount_0f7a4_36 : decode cJ6_bitCount_0f7a4 36 = .ok (.bipush 8, 2) := by decide +kernel
theorem dJ6_bitCount_0f7a4_38 : decode cJ6_bitCount_0f7a4 38 = .ok (.iushr, 1) := by decide +kernel
theorem dJ6_bitCount_0f7a4_39 : decode cJ6_bitCount_0f7a4 39 = .ok (.iadd, 1) := by decide +kernel
theorem dJ6_bitCount_0f7a4_40 : decode cJ6_bitCount_0f7a4 40 = .ok (.istore_n 0, 1) := by decide +kernel
theorem dJ6_bitCount_0f7a4_41 : decode cJ6_bitCount_0f7a4 41 = .ok (.iload_n 0, 1) := by decide +kernel
theorem dJ6_bitCount_0f7a4_42 : decode cJ6_bitCount_0f7a4 42 = .ok (.iload_n 0, 1) := by decide +kernel
theorem dJ6_bitCount_0f7a4_43 : decode cJ6_bitCount_0f7a4 43 = .ok (.bipush 16, 2) := by decide +kernel
theorem dJ6_bitCount_0f7a4_45 : decode cJ6_bitCount_0f7a4 45 = .ok (.iushr, 1) := by decide +kernel
theorem dJ6_bitCount_0f7a4_46 : decode cJ6_bitCount_0f7a4 46 = .ok (.iadd, 1) := by decide +kernel
theorem dJ6_bitCount_0f7a4_47 : decode cJ6_bitCount_0f7a4 47 = .ok (.istore_n 0, 1) := by decide +kernel
theorem dJ6_bitCount_0f7a4_48 : decode cJ6_bitCount_0f7a4 48 = .ok (.iload_n 0, 1) := by decide +kernel
theorem dJ6_bitCount_0f7a4_49 : decode cJ6_bitCount_0f7a4 49 = .ok (.bipush 63, 2) := by decide +kernel
theorem dJ6_bitCount_0f7a4_51 : decode cJ6_bitCount_0f7a4 51 = .ok (.iand, 1) := by decide +kernel
theorem dJ6_bitCount_0f7a4_52 : decode cJ6_bitCount_0f7a4 52 = .ok (.ireturn, 1) := by decide +kernel
