theorem dX11_init_0 : decode cX11_init 0 = .ok (.aload_n 0, 1) := by decide +kernel
theorem dX11_init_1 : decode cX11_init 1 = .ok (.invokespecial 1, 3) := by decide +kernel
theorem dX11_init_4 : decode cX11_init 4 = .ok (.aload_n 0, 1) := by decide +kernel
theorem dX11_init_5 : decode cX11_init 5 = .ok (.bipush 30, 2) := by decide +kernel
theorem dX11_init_7 : decode cX11_init 7 = .ok (.newarray .int, 2) := by decide +kernel
theorem dX11_init_9 : decode cX11_init 9 = .ok (.putfield 7, 3) := by decide +kernel
theorem dX11_init_12 : decode cX11_init 12 = .ok (.aload_n 0, 1) := by decide +kernel
theorem dX11_init_13 : decode cX11_init 13 = .ok (.bipush 8, 2) := by decide +kernel
theorem dX11_init_15 : decode cX11_init 15 = .ok (.newarray .int, 2) := by decide +kernel
theorem dX11_init_17 : decode cX11_init 17 = .ok (.putfield 13, 3) := by decide +kernel
theorem dX11_init_20 : decode cX11_init 20 = .ok (.aload_n 0, 1) := by decide +kernel
theorem dX11_init_21 : decode cX11_init 21 = .ok (.bipush 8, 2) := by decide +kernel
theorem dX11_init_23 : decode cX11_init 23 = .ok (.newarray .int, 2) := by decide +kernel
theorem dX11_init_25 : decode cX11_init 25 = .ok (.putfield 16, 3) := by decide +kernel
theorem dX11_init_28 : decode cX11_init 28 = .ok (.aload_n 0, 1) := by decide +kernel
theorem dX11_init_29 : decode cX11_init 29 = .ok (.bipush 64, 2) := by decide +kernel
theorem dX11_init_31 : decode cX11_init 31 = .ok (.newarray .int, 2) := by decide +kernel
theorem dX11_init_33 : decode cX11_init 33 = .ok (.putfield 19, 3) := by decide +kernel
theorem dX11_init_36 : decode cX11_init 36 = .ok (.aload_n 0, 1) := by decide +kernel
theorem dX11_init_37 : decode cX11_init 37 = .ok (.bipush 40, 2) := by decide +kernel
theorem dX11_init_39 : decode cX11_init 39 = .ok (.newarray .byte, 2) := by decide +kernel
theorem dX11_init_41 : decode cX11_init 41 = .ok (.putfield 22, 3) := by decide +kernel
theorem dX11_init_44 : decode cX11_init 44 = .ok (.aload_n 0, 1) := by decide +kernel
theorem dX11_init_45 : decode cX11_init 45 = .ok (.bipush 30, 2) := by decide +kernel
theorem dX11_init_47 : decode cX11_init 47 = .ok (.newarray .int, 2) := by decide +kernel
theorem dX11_init_49 : decode cX11_init 49 = .ok (.putfield 26, 3) := by decide +kernel
theorem dX11_init_52 : decode cX11_init 52 = .ok (.aload_n 0, 1) := by decide +kernel
theorem dX11_init_53 : decode cX11_init 53 = .ok (.bipush 8, 2) := by decide +kernel
theorem dX11_init_55 : decode cX11_init 55 = .ok (.newarray .int, 2) := by decide +kernel
theorem dX11_init_57 : decode cX11_init 57 = .ok (.putfield 29, 3) := by decide +kernel
theorem dX11_init_60 : decode cX11_init 60 = .ok (.aload_n 0, 1) := by decide +kernel
theorem dX11_init_61 : decode cX11_init 61 = .ok (.bipush 8, 2) := by decide +kernel
theorem dX11_init_63 : decode cX11_init 63 = .ok (.newarray .int, 2) := by decide +kernel
theorem dX11_init_65 : decode cX11_init 65 = .ok (.putfield 32, 3) := by decide +kernel
theorem dX11_init_68 : decode cX11_init 68 = .ok (.aload_n 0, 1) := by decide +kernel
theorem dX11_init_69 : decode cX11_init 69 = .ok (.bipush 8, 2) := by decide +kernel
theorem dX11_init_71 : decode cX11_init 71 = .ok (.newarray .int, 2) := by decide +kernel
theorem dX11_init_73 : decode cX11_init 73 = .ok (.putfield 35, 3) := by decide +kernel
theorem dX11_init_76 : decode cX11_init 76 = .ok (.aload_n 0, 1) := by decide +kernel
theorem dX11_init_77 : decode cX11_init 77 = .ok (.bipush 8, 2) := by decide +kernel
theorem dX11_init_79 : decode cX11_init 79 = .ok (.newarray .int, 2) := by decide +kernel
theorem dX11_init_81 : decode cX11_init 81 = .ok (.putfield 38, 3) := by decide +kernel
theorem dX11_init_84 : decode cX11_init 84 = .ok (.aload_n 0, 1) := by decide +kernel
theorem dX11_init_85 : decode cX11_init 85 = .ok (.bipush 8, 2) := by decide +kernel
theorem dX11_init_87 : decode cX11_init 87 = .ok (.newarray .int, 2) := by decide +kernel
theorem dX11_init_89 : decode cX11_init 89 = .ok (.putfield 41, 3) := by decide +kernel
theorem dX11_init_92 : decode cX11_init 92 = .ok (.aload_n 0, 1) := by decide +kernel
theorem dX11_init_93 : decode cX11_init 93 = .ok (.bipush 8, 2) := by decide +kernel
theorem dX11_init_95 : decode cX11_init 95 = .ok (.newarray .int, 2) := by decide +kernel
theorem dX11_init_97 : decode cX11_init 97 = .ok (.putfield 44, 3) := by decide +kernel
theorem dX11_init_100 : decode cX11_init 100 = .ok (.aload_n 0, 1) := by decide +kernel
theorem dX11_init_101 : decode cX11_init 101 = .ok (.bipush 64, 2) := by decide +kernel
theorem dX11_init_103 : decode cX11_init 103 = .ok (.newarray .int, 2) := by decide +kernel
theorem dX11_init_105 : decode cX11_init 105 = .ok (.putfield 47, 3) := by decide +kernel
theorem dX11_init_108 : decode cX11_init 108 = .ok (.return_, 1) := by decide +kernel
theorem dX11_within_0 : decode cX11_within 0 = .ok (.iload_n 0, 1) := by decide +kernel
theorem dX11_within_1 : decode cX11_within 1 = .ok (.iload_n 1, 1) := by decide +kernel
theorem dX11_within_2 : decode cX11_within 2 = .ok (.if_icmp .lt 12, 3) := by decide +kernel
theorem dX11_within_5 : decode cX11_within 5 = .ok (.iload_n 0, 1) := by decide +kernel
theorem dX11_within_6 : decode cX11_within 6 = .ok (.iload_n 2, 1) := by decide +kernel
theorem dX11_within_7 : decode cX11_within 7 = .ok (.if_icmp .gt 7, 3) := by decide +kernel
theorem dX11_within_10 : decode cX11_within 10 = .ok (.iconst 1, 1) := by decide +kernel
theorem dX11_within_11 : decode cX11_within 11 = .ok (.goto 4, 3) := by decide +kernel
theorem dX11_within_14 : decode cX11_within 14 = .ok (.iconst 0, 1) := by decide +kernel
theorem dX11_within_15 : decode cX11_within 15 = .ok (.ireturn, 1) := by decide +kernel
theorem dX11_has_0 : decode cX11_has 0 = .ok (.iload_n 0, 1) := by decide +kernel
theorem dX11_has_1 : decode cX11_has 1 = .ok (.iload_n 1, 1) := by decide +kernel
theorem dX11_has_2 : decode cX11_has 2 = .ok (.ishr, 1) := by decide +kernel
theorem dX11_has_3 : decode cX11_has 3 = .ok (.iconst 1, 1) := by decide +kernel
theorem dX11_has_4 : decode cX11_has 4 = .ok (.iand, 1) := by decide +kernel
theorem dX11_has_5 : decode cX11_has 5 = .ok (.iconst 1, 1) := by decide +kernel
theorem dX11_has_6 : decode cX11_has 6 = .ok (.if_icmp .ne 7, 3) := by decide +kernel
theorem dX11_has_9 : decode cX11_has 9 = .ok (.iconst 1, 1) := by decide +kernel
theorem dX11_has_10 : decode cX11_has 10 = .ok (.goto 4, 3) := by decide +kernel
theorem dX11_has_13 : decode cX11_has 13 = .ok (.iconst 0, 1) := by decide +kernel
theorem dX11_has_14 : decode cX11_has 14 = .ok (.ireturn, 1) := by decide +kernel
theorem dX11_letters_0 : decode cX11_letters 0 = .ok (.iconst 0, 1) := by decide +kernel
theorem dX11_letters_1 : decode cX11_letters 1 = .ok (.istore_n 3, 1) := by decide +kernel
theorem dX11_letters_2 : decode cX11_letters 2 = .ok (.iconst 0, 1) := by decide +kernel
theorem dX11_letters_3 : decode cX11_letters 3 = .ok (.istore 4, 2) := by decide +kernel
theorem dX11_letters_5 : decode cX11_letters 5 = .ok (.iconst 0, 1) := by decide +kernel
theorem dX11_letters_6 : decode cX11_letters 6 = .ok (.istore 5, 2) := by decide +kernel
theorem dX11_letters_8 : decode cX11_letters 8 = .ok (.iload 5, 2) := by decide +kernel
theorem dX11_letters_10 : decode cX11_letters 10 = .ok (.bipush 8, 2) := by decide +kernel
theorem dX11_letters_12 : decode cX11_letters 12 = .ok (.if_icmp .ge 73, 3) := by decide +kernel
theorem dX11_letters_15 : decode cX11_letters 15 = .ok (.lload_n 1, 1) := by decide +kernel
theorem dX11_letters_16 : decode cX11_letters 16 = .ok (.bipush 8, 2) := by decide +kernel
theorem dX11_letters_18 : decode cX11_letters 18 = .ok (.iload 5, 2) := by decide +kernel
theorem dX11_letters_20 : decode cX11_letters 20 = .ok (.imul, 1) := by decide +kernel
theorem dX11_letters_21 : decode cX11_letters 21 = .ok (.lshr, 1) := by decide +kernel
theorem dX11_letters_22 : decode cX11_letters 22 = .ok (.ldc2_w 50, 3) := by decide +kernel
theorem dX11_letters_25 : decode cX11_letters 25 = .ok (.land, 1) := by decide +kernel
theorem dX11_letters_26 : decode cX11_letters 26 = .ok (.l2i, 1) := by decide +kernel
theorem dX11_letters_27 : decode cX11_letters 27 = .ok (.istore 6, 2) := by decide +kernel
theorem dX11_letters_29 : decode cX11_letters 29 = .ok (.iload 6, 2) := by decide +kernel
theorem dX11_letters_31 : decode cX11_letters 31 = .ok (.bipush 126, 2) := by decide +kernel
theorem dX11_letters_33 : decode cX11_letters 33 = .ok (.if_icmp .gt 13, 3) := by decide +kernel
theorem dX11_letters_36 : decode cX11_letters 36 = .ok (.iload 4, 2) := by decide +kernel
theorem dX11_letters_38 : decode cX11_letters 38 = .ok (.ifCond .eq 11, 3) := by decide +kernel
theorem dX11_letters_41 : decode cX11_letters 41 = .ok (.iload 6, 2) := by decide +kernel
theorem dX11_letters_43 : decode cX11_letters 43 = .ok (.ifCond .eq 6, 3) := by decide +kernel
theorem dX11_letters_46 : decode cX11_letters 46 = .ok (.bipush (-102), 2) := by decide +kernel
theorem dX11_letters_48 : decode cX11_letters 48 = .ok (.ireturn, 1) := by decide +kernel
theorem dX11_letters_49 : decode cX11_letters 49 = .ok (.iload 4, 2) := by decide +kernel
theorem dX11_letters_51 : decode cX11_letters 51 = .ok (.ifCond .ne 8, 3) := by decide +kernel
theorem dX11_letters_54 : decode cX11_letters 54 = .ok (.iload 6, 2) := by decide +kernel
theorem dX11_letters_56 : decode cX11_letters 56 = .ok (.ifCond .ne 7, 3) := by decide +kernel
theorem dX11_letters_59 : decode cX11_letters 59 = .ok (.iconst 1, 1) := by decide +kernel
theorem dX11_letters_60 : decode cX11_letters 60 = .ok (.goto 4, 3) := by decide +kernel
theorem dX11_letters_63 : decode cX11_letters 63 = .ok (.iconst 0, 1) := by decide +kernel
theorem dX11_letters_64 : decode cX11_letters 64 = .ok (.istore 4, 2) := by decide +kernel
theorem dX11_letters_66 : decode cX11_letters 66 = .ok (.iload_n 3, 1) := by decide +kernel
theorem dX11_letters_67 : decode cX11_letters 67 = .ok (.iload 6, 2) := by decide +kernel
theorem dX11_letters_69 : decode cX11_letters 69 = .ok (.ifCond .ne 7, 3) := by decide +kernel
theorem dX11_letters_72 : decode cX11_letters 72 = .ok (.iconst 0, 1) := by decide +kernel
theorem dX11_letters_73 : decode cX11_letters 73 = .ok (.goto 4, 3) := by decide +kernel
theorem dX11_letters_76 : decode cX11_letters 76 = .ok (.iconst 1, 1) := by decide +kernel
theorem dX11_letters_77 : decode cX11_letters 77 = .ok (.iadd, 1) := by decide +kernel
theorem dX11_letters_78 : decode cX11_letters 78 = .ok (.istore_n 3, 1) := by decide +kernel
theorem dX11_letters_79 : decode cX11_letters 79 = .ok (.iinc 5 1, 3) := by decide +kernel
theorem dX11_letters_82 : decode cX11_letters 82 = .ok (.goto (-74), 3) := by decide +kernel
theorem dX11_letters_85 : decode cX11_letters 85 = .ok (.aload_n 0, 1) := by decide +kernel
theorem dX11_letters_86 : decode cX11_letters 86 = .ok (.getfield 52, 3) := by decide +kernel
theorem dX11_letters_89 : decode cX11_letters 89 = .ok (.iload_n 3, 1) := by decide +kernel
theorem dX11_letters_90 : decode cX11_letters 90 = .ok (.iadd, 1) := by decide +kernel
theorem dX11_letters_91 : decode cX11_letters 91 = .ok (.bipush 40, 2) := by decide +kernel
theorem dX11_letters_93 : decode cX11_letters 93 = .ok (.if_icmp .le 6, 3) := by decide +kernel
theorem dX11_letters_96 : decode cX11_letters 96 = .ok (.bipush (-104), 2) := by decide +kernel
theorem dX11_letters_98 : decode cX11_letters 98 = .ok (.ireturn, 1) := by decide +kernel
theorem dX11_letters_99 : decode cX11_letters 99 = .ok (.iconst 0, 1) := by decide +kernel
theorem dX11_letters_100 : decode cX11_letters 100 = .ok (.istore 5, 2) := by decide +kernel
theorem dX11_letters_102 : decode cX11_letters 102 = .ok (.iload 5, 2) := by decide +kernel
theorem dX11_letters_104 : decode cX11_letters 104 = .ok (.iload_n 3, 1) := by decide +kernel
theorem dX11_letters_105 : decode cX11_letters 105 = .ok (.if_icmp .ge 30, 3) := by decide +kernel
theorem dX11_letters_108 : decode cX11_letters 108 = .ok (.aload_n 0, 1) := by decide +kernel
theorem dX11_letters_109 : decode cX11_letters 109 = .ok (.getfield 22, 3) := by decide +kernel
theorem dX11_letters_112 : decode cX11_letters 112 = .ok (.aload_n 0, 1) := by decide +kernel
theorem dX11_letters_113 : decode cX11_letters 113 = .ok (.getfield 52, 3) := by decide +kernel
theorem dX11_letters_116 : decode cX11_letters 116 = .ok (.iload 5, 2) := by decide +kernel
theorem dX11_letters_118 : decode cX11_letters 118 = .ok (.iadd, 1) := by decide +kernel
theorem dX11_letters_119 : decode cX11_letters 119 = .ok (.lload_n 1, 1) := by decide +kernel
theorem dX11_letters_120 : decode cX11_letters 120 = .ok (.bipush 8, 2) := by decide +kernel
theorem dX11_letters_122 : decode cX11_letters 122 = .ok (.iload 5, 2) := by decide +kernel
theorem dX11_letters_124 : decode cX11_letters 124 = .ok (.imul, 1) := by decide +kernel
theorem dX11_letters_125 : decode cX11_letters 125 = .ok (.lshr, 1) := by decide +kernel
theorem dX11_letters_126 : decode cX11_letters 126 = .ok (.l2i, 1) := by decide +kernel
theorem dX11_letters_127 : decode cX11_letters 127 = .ok (.i2b, 1) := by decide +kernel
theorem dX11_letters_128 : decode cX11_letters 128 = .ok (.bastore, 1) := by decide +kernel
theorem dX11_letters_129 : decode cX11_letters 129 = .ok (.iinc 5 1, 3) := by decide +kernel
theorem dX11_letters_132 : decode cX11_letters 132 = .ok (.goto (-30), 3) := by decide +kernel
theorem dX11_letters_135 : decode cX11_letters 135 = .ok (.aload_n 0, 1) := by decide +kernel
theorem dX11_letters_136 : decode cX11_letters 136 = .ok (.dup, 1) := by decide +kernel
theorem dX11_letters_137 : decode cX11_letters 137 = .ok (.getfield 52, 3) := by decide +kernel
theorem dX11_letters_140 : decode cX11_letters 140 = .ok (.iload_n 3, 1) := by decide +kernel
theorem dX11_letters_141 : decode cX11_letters 141 = .ok (.iadd, 1) := by decide +kernel
theorem dX11_letters_142 : decode cX11_letters 142 = .ok (.putfield 52, 3) := by decide +kernel
theorem dX11_letters_145 : decode cX11_letters 145 = .ok (.aload_n 0, 1) := by decide +kernel
theorem dX11_letters_146 : decode cX11_letters 146 = .ok (.getfield 52, 3) := by decide +kernel
theorem dX11_letters_149 : decode cX11_letters 149 = .ok (.ireturn, 1) := by decide +kernel
theorem dX11_blank_0 : decode cX11_blank 0 = .ok (.aload_n 0, 1) := by decide +kernel
theorem dX11_blank_1 : decode cX11_blank 1 = .ok (.getfield 52, 3) := by decide +kernel
theorem dX11_blank_4 : decode cX11_blank 4 = .ok (.istore_n 1, 1) := by decide +kernel
theorem dX11_blank_5 : decode cX11_blank 5 = .ok (.aload_n 0, 1) := by decide +kernel
theorem dX11_blank_6 : decode cX11_blank 6 = .ok (.iconst 0, 1) := by decide +kernel
theorem dX11_blank_7 : decode cX11_blank 7 = .ok (.putfield 52, 3) := by decide +kernel
theorem dX11_blank_10 : decode cX11_blank 10 = .ok (.iload_n 1, 1) := by decide +kernel
theorem dX11_blank_11 : decode cX11_blank 11 = .ok (.ireturn, 1) := by decide +kernel
theorem dX11_readPlan_0 : decode cX11_readPlan 0 = .ok (.aload_n 0, 1) := by decide +kernel
theorem dX11_readPlan_1 : decode cX11_readPlan 1 = .ok (.iconst 0, 1) := by decide +kernel
theorem dX11_readPlan_2 : decode cX11_readPlan 2 = .ok (.putfield 56, 3) := by decide +kernel
theorem dX11_readPlan_5 : decode cX11_readPlan 5 = .ok (.aload_n 0, 1) := by decide +kernel
theorem dX11_readPlan_6 : decode cX11_readPlan 6 = .ok (.iconst 0, 1) := by decide +kernel
theorem dX11_readPlan_7 : decode cX11_readPlan 7 = .ok (.putfield 59, 3) := by decide +kernel
theorem dX11_readPlan_10 : decode cX11_readPlan 10 = .ok (.aload_n 0, 1) := by decide +kernel
theorem dX11_readPlan_11 : decode cX11_readPlan 11 = .ok (.iconst 0, 1) := by decide +kernel
theorem dX11_readPlan_12 : decode cX11_readPlan 12 = .ok (.putfield 62, 3) := by decide +kernel
theorem dX11_readPlan_15 : decode cX11_readPlan 15 = .ok (.iconst 0, 1) := by decide +kernel
theorem dX11_readPlan_16 : decode cX11_readPlan 16 = .ok (.istore_n 1, 1) := by decide +kernel
theorem dX11_readPlan_17 : decode cX11_readPlan 17 = .ok (.iconst 0, 1) := by decide +kernel
theorem dX11_readPlan_18 : decode cX11_readPlan 18 = .ok (.istore_n 2, 1) := by decide +kernel
theorem dX11_readPlan_19 : decode cX11_readPlan 19 = .ok (.iconst 1, 1) := by decide +kernel
theorem dX11_readPlan_20 : decode cX11_readPlan 20 = .ok (.istore_n 3, 1) := by decide +kernel
theorem dX11_readPlan_21 : decode cX11_readPlan 21 = .ok (.iload_n 2, 1) := by decide +kernel
theorem dX11_readPlan_22 : decode cX11_readPlan 22 = .ok (.aload_n 0, 1) := by decide +kernel
theorem dX11_readPlan_23 : decode cX11_readPlan 23 = .ok (.getfield 52, 3) := by decide +kernel
theorem dX11_readPlan_26 : decode cX11_readPlan 26 = .ok (.if_icmp .ge 206, 3) := by decide +kernel
theorem dX11_readPlan_29 : decode cX11_readPlan 29 = .ok (.iload_n 3, 1) := by decide +kernel
theorem dX11_readPlan_30 : decode cX11_readPlan 30 = .ok (.ifCond .eq 202, 3) := by decide +kernel
theorem dX11_readPlan_33 : decode cX11_readPlan 33 = .ok (.aload_n 0, 1) := by decide +kernel
theorem dX11_readPlan_34 : decode cX11_readPlan 34 = .ok (.getfield 22, 3) := by decide +kernel
theorem dX11_readPlan_37 : decode cX11_readPlan 37 = .ok (.iload_n 2, 1) := by decide +kernel
theorem dX11_readPlan_38 : decode cX11_readPlan 38 = .ok (.baload, 1) := by decide +kernel
theorem dX11_readPlan_39 : decode cX11_readPlan 39 = .ok (.istore 4, 2) := by decide +kernel
theorem dX11_readPlan_41 : decode cX11_readPlan 41 = .ok (.aload_n 0, 1) := by decide +kernel
theorem dX11_readPlan_42 : decode cX11_readPlan 42 = .ok (.getfield 56, 3) := by decide +kernel
theorem dX11_readPlan_45 : decode cX11_readPlan 45 = .ok (.ifCond .ne 8, 3) := by decide +kernel
theorem dX11_readPlan_48 : decode cX11_readPlan 48 = .ok (.bipush 6, 2) := by decide +kernel
theorem dX11_readPlan_50 : decode cX11_readPlan 50 = .ok (.goto 7, 3) := by decide +kernel
theorem dX11_readPlan_53 : decode cX11_readPlan 53 = .ok (.aload_n 0, 1) := by decide +kernel
theorem dX11_readPlan_54 : decode cX11_readPlan 54 = .ok (.getfield 59, 3) := by decide +kernel
theorem dX11_readPlan_57 : decode cX11_readPlan 57 = .ok (.istore 5, 2) := by decide +kernel
theorem dX11_readPlan_59 : decode cX11_readPlan 59 = .ok (.aload_n 0, 1) := by decide +kernel
theorem dX11_readPlan_60 : decode cX11_readPlan 60 = .ok (.getfield 56, 3) := by decide +kernel
theorem dX11_readPlan_63 : decode cX11_readPlan 63 = .ok (.ifCond .ne 7, 3) := by decide +kernel
theorem dX11_readPlan_66 : decode cX11_readPlan 66 = .ok (.iconst 2, 1) := by decide +kernel
theorem dX11_readPlan_67 : decode cX11_readPlan 67 = .ok (.goto 7, 3) := by decide +kernel
theorem dX11_readPlan_70 : decode cX11_readPlan 70 = .ok (.aload_n 0, 1) := by decide +kernel
theorem dX11_readPlan_71 : decode cX11_readPlan 71 = .ok (.getfield 59, 3) := by decide +kernel
theorem dX11_readPlan_74 : decode cX11_readPlan 74 = .ok (.istore 6, 2) := by decide +kernel
theorem dX11_readPlan_76 : decode cX11_readPlan 76 = .ok (.iload 4, 2) := by decide +kernel
theorem dX11_readPlan_78 : decode cX11_readPlan 78 = .ok (.bipush 46, 2) := by decide +kernel
theorem dX11_readPlan_80 : decode cX11_readPlan 80 = .ok (.if_icmp .eq 15, 3) := by decide +kernel
theorem dX11_readPlan_83 : decode cX11_readPlan 83 = .ok (.iload 4, 2) := by decide +kernel
theorem dX11_readPlan_85 : decode cX11_readPlan 85 = .ok (.bipush 49, 2) := by decide +kernel
theorem dX11_readPlan_87 : decode cX11_readPlan 87 = .ok (.bipush 57, 2) := by decide +kernel
theorem dX11_readPlan_89 : decode cX11_readPlan 89 = .ok (.invokestatic 65, 3) := by decide +kernel
theorem dX11_readPlan_92 : decode cX11_readPlan 92 = .ok (.ifCond .eq 13, 3) := by decide +kernel
theorem dX11_readPlan_95 : decode cX11_readPlan 95 = .ok (.iload_n 1, 1) := by decide +kernel
theorem dX11_readPlan_96 : decode cX11_readPlan 96 = .ok (.iload 5, 2) := by decide +kernel
theorem dX11_readPlan_98 : decode cX11_readPlan 98 = .ok (.if_icmp .ge 7, 3) := by decide +kernel
theorem dX11_readPlan_101 : decode cX11_readPlan 101 = .ok (.iconst 1, 1) := by decide +kernel
theorem dX11_readPlan_102 : decode cX11_readPlan 102 = .ok (.goto 4, 3) := by decide +kernel
theorem dX11_readPlan_105 : decode cX11_readPlan 105 = .ok (.iconst 0, 1) := by decide +kernel
theorem dX11_readPlan_106 : decode cX11_readPlan 106 = .ok (.istore 7, 2) := by decide +kernel
theorem dX11_readPlan_108 : decode cX11_readPlan 108 = .ok (.iload 4, 2) := by decide +kernel
theorem dX11_readPlan_110 : decode cX11_readPlan 110 = .ok (.bipush 47, 2) := by decide +kernel
theorem dX11_readPlan_112 : decode cX11_readPlan 112 = .ok (.if_icmp .ne 21, 3) := by decide +kernel
theorem dX11_readPlan_115 : decode cX11_readPlan 115 = .ok (.iload_n 1, 1) := by decide +kernel
theorem dX11_readPlan_116 : decode cX11_readPlan 116 = .ok (.iload 6, 2) := by decide +kernel
theorem dX11_readPlan_118 : decode cX11_readPlan 118 = .ok (.if_icmp .lt 15, 3) := by decide +kernel
theorem dX11_readPlan_121 : decode cX11_readPlan 121 = .ok (.aload_n 0, 1) := by decide +kernel
theorem dX11_readPlan_122 : decode cX11_readPlan 122 = .ok (.getfield 56, 3) := by decide +kernel
theorem dX11_readPlan_125 : decode cX11_readPlan 125 = .ok (.iconst 4, 1) := by decide +kernel
theorem dX11_readPlan_126 : decode cX11_readPlan 126 = .ok (.if_icmp .ge 7, 3) := by decide +kernel
theorem dX11_readPlan_129 : decode cX11_readPlan 129 = .ok (.iconst 1, 1) := by decide +kernel
theorem dX11_readPlan_130 : decode cX11_readPlan 130 = .ok (.goto 4, 3) := by decide +kernel
theorem dX11_readPlan_133 : decode cX11_readPlan 133 = .ok (.iconst 0, 1) := by decide +kernel
theorem dX11_readPlan_134 : decode cX11_readPlan 134 = .ok (.istore 8, 2) := by decide +kernel
theorem dX11_readPlan_136 : decode cX11_readPlan 136 = .ok (.iload 7, 2) := by decide +kernel
theorem dX11_readPlan_138 : decode cX11_readPlan 138 = .ok (.ifCond .ne 8, 3) := by decide +kernel
theorem dX11_readPlan_141 : decode cX11_readPlan 141 = .ok (.iload 8, 2) := by decide +kernel
theorem dX11_readPlan_143 : decode cX11_readPlan 143 = .ok (.ifCond .eq 7, 3) := by decide +kernel
theorem dX11_readPlan_146 : decode cX11_readPlan 146 = .ok (.iconst 1, 1) := by decide +kernel
theorem dX11_readPlan_147 : decode cX11_readPlan 147 = .ok (.goto 4, 3) := by decide +kernel
theorem dX11_readPlan_150 : decode cX11_readPlan 150 = .ok (.iconst 0, 1) := by decide +kernel
theorem dX11_readPlan_151 : decode cX11_readPlan 151 = .ok (.istore_n 3, 1) := by decide +kernel
theorem dX11_readPlan_152 : decode cX11_readPlan 152 = .ok (.iload 7, 2) := by decide +kernel
theorem dX11_readPlan_154 : decode cX11_readPlan 154 = .ok (.ifCond .eq 41, 3) := by decide +kernel
theorem dX11_readPlan_157 : decode cX11_readPlan 157 = .ok (.aload_n 0, 1) := by decide +kernel
theorem dX11_readPlan_158 : decode cX11_readPlan 158 = .ok (.getfield 26, 3) := by decide +kernel
theorem dX11_readPlan_161 : decode cX11_readPlan 161 = .ok (.aload_n 0, 1) := by decide +kernel
theorem dX11_readPlan_162 : decode cX11_readPlan 162 = .ok (.getfield 62, 3) := by decide +kernel
theorem dX11_readPlan_165 : decode cX11_readPlan 165 = .ok (.iload 4, 2) := by decide +kernel
theorem dX11_readPlan_167 : decode cX11_readPlan 167 = .ok (.bipush 46, 2) := by decide +kernel
theorem dX11_readPlan_169 : decode cX11_readPlan 169 = .ok (.if_icmp .ne 7, 3) := by decide +kernel
theorem dX11_readPlan_172 : decode cX11_readPlan 172 = .ok (.iconst 0, 1) := by decide +kernel
theorem dX11_readPlan_173 : decode cX11_readPlan 173 = .ok (.goto 8, 3) := by decide +kernel
theorem dX11_readPlan_176 : decode cX11_readPlan 176 = .ok (.iload 4, 2) := by decide +kernel
theorem dX11_readPlan_178 : decode cX11_readPlan 178 = .ok (.bipush 48, 2) := by decide +kernel
theorem dX11_readPlan_180 : decode cX11_readPlan 180 = .ok (.isub, 1) := by decide +kernel
theorem dX11_readPlan_181 : decode cX11_readPlan 181 = .ok (.iastore, 1) := by decide +kernel
theorem dX11_readPlan_182 : decode cX11_readPlan 182 = .ok (.aload_n 0, 1) := by decide +kernel
theorem dX11_readPlan_183 : decode cX11_readPlan 183 = .ok (.dup, 1) := by decide +kernel
theorem dX11_readPlan_184 : decode cX11_readPlan 184 = .ok (.getfield 62, 3) := by decide +kernel
theorem dX11_readPlan_187 : decode cX11_readPlan 187 = .ok (.iconst 1, 1) := by decide +kernel
theorem dX11_readPlan_188 : decode cX11_readPlan 188 = .ok (.iadd, 1) := by decide +kernel
theorem dX11_readPlan_189 : decode cX11_readPlan 189 = .ok (.putfield 62, 3) := by decide +kernel
theorem dX11_readPlan_192 : decode cX11_readPlan 192 = .ok (.iinc 1 1, 3) := by decide +kernel
theorem dX11_readPlan_195 : decode cX11_readPlan 195 = .ok (.iload 8, 2) := by decide +kernel
theorem dX11_readPlan_197 : decode cX11_readPlan 197 = .ok (.ifCond .eq 20, 3) := by decide +kernel
theorem dX11_readPlan_200 : decode cX11_readPlan 200 = .ok (.aload_n 0, 1) := by decide +kernel
theorem dX11_readPlan_201 : decode cX11_readPlan 201 = .ok (.iload_n 1, 1) := by decide +kernel
theorem dX11_readPlan_202 : decode cX11_readPlan 202 = .ok (.putfield 59, 3) := by decide +kernel
theorem dX11_readPlan_205 : decode cX11_readPlan 205 = .ok (.aload_n 0, 1) := by decide +kernel
theorem dX11_readPlan_206 : decode cX11_readPlan 206 = .ok (.dup, 1) := by decide +kernel
theorem dX11_readPlan_207 : decode cX11_readPlan 207 = .ok (.getfield 56, 3) := by decide +kernel
theorem dX11_readPlan_210 : decode cX11_readPlan 210 = .ok (.iconst 1, 1) := by decide +kernel
theorem dX11_readPlan_211 : decode cX11_readPlan 211 = .ok (.iadd, 1) := by decide +kernel
theorem dX11_readPlan_212 : decode cX11_readPlan 212 = .ok (.putfield 56, 3) := by decide +kernel
theorem dX11_readPlan_215 : decode cX11_readPlan 215 = .ok (.iconst 0, 1) := by decide +kernel
theorem dX11_readPlan_216 : decode cX11_readPlan 216 = .ok (.istore_n 1, 1) := by decide +kernel
theorem dX11_readPlan_217 : decode cX11_readPlan 217 = .ok (.iload_n 2, 1) := by decide +kernel
theorem dX11_readPlan_218 : decode cX11_readPlan 218 = .ok (.iload_n 3, 1) := by decide +kernel
theorem dX11_readPlan_219 : decode cX11_readPlan 219 = .ok (.ifCond .eq 7, 3) := by decide +kernel
theorem dX11_readPlan_222 : decode cX11_readPlan 222 = .ok (.iconst 1, 1) := by decide +kernel
theorem dX11_readPlan_223 : decode cX11_readPlan 223 = .ok (.goto 4, 3) := by decide +kernel
theorem dX11_readPlan_226 : decode cX11_readPlan 226 = .ok (.iconst 0, 1) := by decide +kernel
theorem dX11_readPlan_227 : decode cX11_readPlan 227 = .ok (.iadd, 1) := by decide +kernel
theorem dX11_readPlan_228 : decode cX11_readPlan 228 = .ok (.istore_n 2, 1) := by decide +kernel
theorem dX11_readPlan_229 : decode cX11_readPlan 229 = .ok (.goto (-208), 3) := by decide +kernel
theorem dX11_readPlan_232 : decode cX11_readPlan 232 = .ok (.aload_n 0, 1) := by decide +kernel
theorem dX11_readPlan_233 : decode cX11_readPlan 233 = .ok (.iload_n 2, 1) := by decide +kernel
theorem dX11_readPlan_234 : decode cX11_readPlan 234 = .ok (.putfield 69, 3) := by decide +kernel
theorem dX11_readPlan_237 : decode cX11_readPlan 237 = .ok (.aload_n 0, 1) := by decide +kernel
theorem dX11_readPlan_238 : decode cX11_readPlan 238 = .ok (.iload_n 2, 1) := by decide +kernel
theorem dX11_readPlan_239 : decode cX11_readPlan 239 = .ok (.aload_n 0, 1) := by decide +kernel
theorem dX11_readPlan_240 : decode cX11_readPlan 240 = .ok (.getfield 52, 3) := by decide +kernel
theorem dX11_readPlan_243 : decode cX11_readPlan 243 = .ok (.if_icmp .ne 22, 3) := by decide +kernel
theorem dX11_readPlan_246 : decode cX11_readPlan 246 = .ok (.aload_n 0, 1) := by decide +kernel
theorem dX11_readPlan_247 : decode cX11_readPlan 247 = .ok (.getfield 56, 3) := by decide +kernel
theorem dX11_readPlan_250 : decode cX11_readPlan 250 = .ok (.ifCond .le 15, 3) := by decide +kernel
theorem dX11_readPlan_253 : decode cX11_readPlan 253 = .ok (.iload_n 1, 1) := by decide +kernel
theorem dX11_readPlan_254 : decode cX11_readPlan 254 = .ok (.aload_n 0, 1) := by decide +kernel
theorem dX11_readPlan_255 : decode cX11_readPlan 255 = .ok (.getfield 59, 3) := by decide +kernel
theorem dX11_readPlan_258 : decode cX11_readPlan 258 = .ok (.if_icmp .ne 7, 3) := by decide +kernel
theorem dX11_readPlan_261 : decode cX11_readPlan 261 = .ok (.iconst 1, 1) := by decide +kernel
theorem dX11_readPlan_262 : decode cX11_readPlan 262 = .ok (.goto 4, 3) := by decide +kernel
theorem dX11_readPlan_265 : decode cX11_readPlan 265 = .ok (.iconst 0, 1) := by decide +kernel
theorem dX11_readPlan_266 : decode cX11_readPlan 266 = .ok (.putfield 72, 3) := by decide +kernel
theorem dX11_readPlan_269 : decode cX11_readPlan 269 = .ok (.return_, 1) := by decide +kernel
theorem dX11_wayBy_0 : decode cX11_wayBy 0 = .ok (.iload_n 0, 1) := by decide +kernel
theorem dX11_wayBy_1 : decode cX11_wayBy 1 = .ok (.bipush 110, 2) := by decide +kernel
theorem dX11_wayBy_3 : decode cX11_wayBy 3 = .ok (.if_icmp .ne 7, 3) := by decide +kernel
theorem dX11_wayBy_6 : decode cX11_wayBy 6 = .ok (.iconst 0, 1) := by decide +kernel
theorem dX11_wayBy_7 : decode cX11_wayBy 7 = .ok (.goto 34, 3) := by decide +kernel
theorem dX11_wayBy_10 : decode cX11_wayBy 10 = .ok (.iload_n 0, 1) := by decide +kernel
theorem dX11_wayBy_11 : decode cX11_wayBy 11 = .ok (.bipush 101, 2) := by decide +kernel
theorem dX11_wayBy_13 : decode cX11_wayBy 13 = .ok (.if_icmp .ne 7, 3) := by decide +kernel
theorem dX11_wayBy_16 : decode cX11_wayBy 16 = .ok (.iconst 1, 1) := by decide +kernel
theorem dX11_wayBy_17 : decode cX11_wayBy 17 = .ok (.goto 24, 3) := by decide +kernel
theorem dX11_wayBy_20 : decode cX11_wayBy 20 = .ok (.iload_n 0, 1) := by decide +kernel
theorem dX11_wayBy_21 : decode cX11_wayBy 21 = .ok (.bipush 115, 2) := by decide +kernel
theorem dX11_wayBy_23 : decode cX11_wayBy 23 = .ok (.if_icmp .ne 7, 3) := by decide +kernel
theorem dX11_wayBy_26 : decode cX11_wayBy 26 = .ok (.iconst 2, 1) := by decide +kernel
theorem dX11_wayBy_27 : decode cX11_wayBy 27 = .ok (.goto 14, 3) := by decide +kernel
theorem dX11_wayBy_30 : decode cX11_wayBy 30 = .ok (.iload_n 0, 1) := by decide +kernel
theorem dX11_wayBy_31 : decode cX11_wayBy 31 = .ok (.bipush 119, 2) := by decide +kernel
theorem dX11_wayBy_33 : decode cX11_wayBy 33 = .ok (.if_icmp .ne 7, 3) := by decide +kernel
theorem dX11_wayBy_36 : decode cX11_wayBy 36 = .ok (.iconst 3, 1) := by decide +kernel
theorem dX11_wayBy_37 : decode cX11_wayBy 37 = .ok (.goto 4, 3) := by decide +kernel
theorem dX11_wayBy_40 : decode cX11_wayBy 40 = .ok (.iconst (-1), 1) := by decide +kernel
theorem dX11_wayBy_41 : decode cX11_wayBy 41 = .ok (.ireturn, 1) := by decide +kernel
theorem dX11_readWay_0 : decode cX11_readWay 0 = .ok (.iconst 0, 1) := by decide +kernel
theorem dX11_readWay_1 : decode cX11_readWay 1 = .ok (.istore_n 1, 1) := by decide +kernel
theorem dX11_readWay_2 : decode cX11_readWay 2 = .ok (.iload_n 1, 1) := by decide +kernel
theorem dX11_readWay_3 : decode cX11_readWay 3 = .ok (.aload_n 0, 1) := by decide +kernel
theorem dX11_readWay_4 : decode cX11_readWay 4 = .ok (.getfield 52, 3) := by decide +kernel
theorem dX11_readWay_7 : decode cX11_readWay 7 = .ok (.if_icmp .ge 28, 3) := by decide +kernel
theorem dX11_readWay_10 : decode cX11_readWay 10 = .ok (.iload_n 1, 1) := by decide +kernel
theorem dX11_readWay_11 : decode cX11_readWay 11 = .ok (.bipush 7, 2) := by decide +kernel
theorem dX11_readWay_13 : decode cX11_readWay 13 = .ok (.if_icmp .ge 22, 3) := by decide +kernel
theorem dX11_readWay_16 : decode cX11_readWay 16 = .ok (.aload_n 0, 1) := by decide +kernel
theorem dX11_readWay_17 : decode cX11_readWay 17 = .ok (.getfield 22, 3) := by decide +kernel
theorem dX11_readWay_20 : decode cX11_readWay 20 = .ok (.iload_n 1, 1) := by decide +kernel
theorem dX11_readWay_21 : decode cX11_readWay 21 = .ok (.baload, 1) := by decide +kernel
theorem dX11_readWay_22 : decode cX11_readWay 22 = .ok (.invokestatic 76, 3) := by decide +kernel
theorem dX11_readWay_25 : decode cX11_readWay 25 = .ok (.iconst (-1), 1) := by decide +kernel
theorem dX11_readWay_26 : decode cX11_readWay 26 = .ok (.if_icmp .eq 9, 3) := by decide +kernel
theorem dX11_readWay_29 : decode cX11_readWay 29 = .ok (.iinc 1 1, 3) := by decide +kernel
theorem dX11_readWay_32 : decode cX11_readWay 32 = .ok (.goto (-30), 3) := by decide +kernel
theorem dX11_readWay_35 : decode cX11_readWay 35 = .ok (.aload_n 0, 1) := by decide +kernel
theorem dX11_readWay_36 : decode cX11_readWay 36 = .ok (.iload_n 1, 1) := by decide +kernel
theorem dX11_readWay_37 : decode cX11_readWay 37 = .ok (.putfield 69, 3) := by decide +kernel
theorem dX11_readWay_40 : decode cX11_readWay 40 = .ok (.aload_n 0, 1) := by decide +kernel
theorem dX11_readWay_41 : decode cX11_readWay 41 = .ok (.iload_n 1, 1) := by decide +kernel
theorem dX11_readWay_42 : decode cX11_readWay 42 = .ok (.aload_n 0, 1) := by decide +kernel
theorem dX11_readWay_43 : decode cX11_readWay 43 = .ok (.getfield 52, 3) := by decide +kernel
theorem dX11_readWay_46 : decode cX11_readWay 46 = .ok (.if_icmp .ne 11, 3) := by decide +kernel
theorem dX11_readWay_49 : decode cX11_readWay 49 = .ok (.iload_n 1, 1) := by decide +kernel
theorem dX11_readWay_50 : decode cX11_readWay 50 = .ok (.ifCond .le 7, 3) := by decide +kernel
theorem dX11_readWay_53 : decode cX11_readWay 53 = .ok (.iconst 1, 1) := by decide +kernel
theorem dX11_readWay_54 : decode cX11_readWay 54 = .ok (.goto 4, 3) := by decide +kernel
theorem dX11_readWay_57 : decode cX11_readWay 57 = .ok (.iconst 0, 1) := by decide +kernel
theorem dX11_readWay_58 : decode cX11_readWay 58 = .ok (.putfield 72, 3) := by decide +kernel
theorem dX11_readWay_61 : decode cX11_readWay 61 = .ok (.return_, 1) := by decide +kernel
theorem dX11_fault_0 : decode cX11_fault 0 = .ok (.iload_n 1, 1) := by decide +kernel
theorem dX11_fault_1 : decode cX11_fault 1 = .ok (.iconst 0, 1) := by decide +kernel
theorem dX11_fault_2 : decode cX11_fault 2 = .ok (.iconst 1, 1) := by decide +kernel
theorem dX11_fault_3 : decode cX11_fault 3 = .ok (.invokestatic 65, 3) := by decide +kernel
theorem dX11_fault_6 : decode cX11_fault 6 = .ok (.ifCond .ne 6, 3) := by decide +kernel
theorem dX11_fault_9 : decode cX11_fault 9 = .ok (.bipush (-102), 2) := by decide +kernel
theorem dX11_fault_11 : decode cX11_fault 11 = .ok (.ireturn, 1) := by decide +kernel
theorem dX11_fault_12 : decode cX11_fault 12 = .ok (.iload_n 1, 1) := by decide +kernel
theorem dX11_fault_13 : decode cX11_fault 13 = .ok (.ifCond .ne 10, 3) := by decide +kernel
theorem dX11_fault_16 : decode cX11_fault 16 = .ok (.aload_n 0, 1) := by decide +kernel
theorem dX11_fault_17 : decode cX11_fault 17 = .ok (.invokevirtual 80, 3) := by decide +kernel
theorem dX11_fault_20 : decode cX11_fault 20 = .ok (.goto 7, 3) := by decide +kernel
theorem dX11_fault_23 : decode cX11_fault 23 = .ok (.aload_n 0, 1) := by decide +kernel
theorem dX11_fault_24 : decode cX11_fault 24 = .ok (.invokevirtual 83, 3) := by decide +kernel
theorem dX11_fault_27 : decode cX11_fault 27 = .ok (.aload_n 0, 1) := by decide +kernel
theorem dX11_fault_28 : decode cX11_fault 28 = .ok (.getfield 69, 3) := by decide +kernel
theorem dX11_fault_31 : decode cX11_fault 31 = .ok (.ireturn, 1) := by decide +kernel
theorem dX11_plan_0 : decode cX11_plan 0 = .ok (.aload_n 0, 1) := by decide +kernel
theorem dX11_plan_1 : decode cX11_plan 1 = .ok (.invokevirtual 80, 3) := by decide +kernel
theorem dX11_plan_4 : decode cX11_plan 4 = .ok (.aload_n 0, 1) := by decide +kernel
theorem dX11_plan_5 : decode cX11_plan 5 = .ok (.getfield 72, 3) := by decide +kernel
theorem dX11_plan_8 : decode cX11_plan 8 = .ok (.ifCond .ne 6, 3) := by decide +kernel
theorem dX11_plan_11 : decode cX11_plan 11 = .ok (.bipush (-103), 2) := by decide +kernel
theorem dX11_plan_13 : decode cX11_plan 13 = .ok (.ireturn, 1) := by decide +kernel
theorem dX11_plan_14 : decode cX11_plan 14 = .ok (.aload_n 0, 1) := by decide +kernel
theorem dX11_plan_15 : decode cX11_plan 15 = .ok (.aload_n 0, 1) := by decide +kernel
theorem dX11_plan_16 : decode cX11_plan 16 = .ok (.getfield 56, 3) := by decide +kernel
theorem dX11_plan_19 : decode cX11_plan 19 = .ok (.iconst 1, 1) := by decide +kernel
theorem dX11_plan_20 : decode cX11_plan 20 = .ok (.iadd, 1) := by decide +kernel
theorem dX11_plan_21 : decode cX11_plan 21 = .ok (.putfield 86, 3) := by decide +kernel
theorem dX11_plan_24 : decode cX11_plan 24 = .ok (.aload_n 0, 1) := by decide +kernel
theorem dX11_plan_25 : decode cX11_plan 25 = .ok (.aload_n 0, 1) := by decide +kernel
theorem dX11_plan_26 : decode cX11_plan 26 = .ok (.getfield 59, 3) := by decide +kernel
theorem dX11_plan_29 : decode cX11_plan 29 = .ok (.putfield 89, 3) := by decide +kernel
theorem dX11_plan_32 : decode cX11_plan 32 = .ok (.aload_n 0, 1) := by decide +kernel
theorem dX11_plan_33 : decode cX11_plan 33 = .ok (.aload_n 0, 1) := by decide +kernel
theorem dX11_plan_34 : decode cX11_plan 34 = .ok (.getfield 62, 3) := by decide +kernel
theorem dX11_plan_37 : decode cX11_plan 37 = .ok (.putfield 92, 3) := by decide +kernel
theorem dX11_plan_40 : decode cX11_plan 40 = .ok (.iconst 0, 1) := by decide +kernel
theorem dX11_plan_41 : decode cX11_plan 41 = .ok (.istore_n 1, 1) := by decide +kernel
theorem dX11_plan_42 : decode cX11_plan 42 = .ok (.iload_n 1, 1) := by decide +kernel
theorem dX11_plan_43 : decode cX11_plan 43 = .ok (.aload_n 0, 1) := by decide +kernel
theorem dX11_plan_44 : decode cX11_plan 44 = .ok (.getfield 92, 3) := by decide +kernel
theorem dX11_plan_47 : decode cX11_plan 47 = .ok (.if_icmp .ge 21, 3) := by decide +kernel
theorem dX11_plan_50 : decode cX11_plan 50 = .ok (.aload_n 0, 1) := by decide +kernel
theorem dX11_plan_51 : decode cX11_plan 51 = .ok (.getfield 7, 3) := by decide +kernel
theorem dX11_plan_54 : decode cX11_plan 54 = .ok (.iload_n 1, 1) := by decide +kernel
theorem dX11_plan_55 : decode cX11_plan 55 = .ok (.aload_n 0, 1) := by decide +kernel
theorem dX11_plan_56 : decode cX11_plan 56 = .ok (.getfield 26, 3) := by decide +kernel
theorem dX11_plan_59 : decode cX11_plan 59 = .ok (.iload_n 1, 1) := by decide +kernel
theorem dX11_plan_60 : decode cX11_plan 60 = .ok (.iaload, 1) := by decide +kernel
theorem dX11_plan_61 : decode cX11_plan 61 = .ok (.iastore, 1) := by decide +kernel
theorem dX11_plan_62 : decode cX11_plan 62 = .ok (.iinc 1 1, 3) := by decide +kernel
theorem dX11_plan_65 : decode cX11_plan 65 = .ok (.goto (-23), 3) := by decide +kernel
theorem dX11_plan_68 : decode cX11_plan 68 = .ok (.aload_n 0, 1) := by decide +kernel
theorem dX11_plan_69 : decode cX11_plan 69 = .ok (.iconst 0, 1) := by decide +kernel
theorem dX11_plan_70 : decode cX11_plan 70 = .ok (.putfield 95, 3) := by decide +kernel
theorem dX11_plan_73 : decode cX11_plan 73 = .ok (.aload_n 0, 1) := by decide +kernel
theorem dX11_plan_74 : decode cX11_plan 74 = .ok (.dup, 1) := by decide +kernel
theorem dX11_plan_75 : decode cX11_plan 75 = .ok (.getfield 98, 3) := by decide +kernel
theorem dX11_plan_78 : decode cX11_plan 78 = .ok (.iconst 1, 1) := by decide +kernel
theorem dX11_plan_79 : decode cX11_plan 79 = .ok (.iadd, 1) := by decide +kernel
theorem dX11_plan_80 : decode cX11_plan 80 = .ok (.putfield 98, 3) := by decide +kernel
theorem dX11_plan_83 : decode cX11_plan 83 = .ok (.aload_n 0, 1) := by decide +kernel
theorem dX11_plan_84 : decode cX11_plan 84 = .ok (.iconst 0, 1) := by decide +kernel
theorem dX11_plan_85 : decode cX11_plan 85 = .ok (.putfield 52, 3) := by decide +kernel
theorem dX11_plan_88 : decode cX11_plan 88 = .ok (.aload_n 0, 1) := by decide +kernel
theorem dX11_plan_89 : decode cX11_plan 89 = .ok (.getfield 92, 3) := by decide +kernel
theorem dX11_plan_92 : decode cX11_plan 92 = .ok (.ireturn, 1) := by decide +kernel
theorem dX11_isSquare_0 : decode cX11_isSquare 0 = .ok (.iload_n 1, 1) := by decide +kernel
theorem dX11_isSquare_1 : decode cX11_isSquare 1 = .ok (.iconst 0, 1) := by decide +kernel
theorem dX11_isSquare_2 : decode cX11_isSquare 2 = .ok (.aload_n 0, 1) := by decide +kernel
theorem dX11_isSquare_3 : decode cX11_isSquare 3 = .ok (.getfield 92, 3) := by decide +kernel
theorem dX11_isSquare_6 : decode cX11_isSquare 6 = .ok (.iconst 1, 1) := by decide +kernel
theorem dX11_isSquare_7 : decode cX11_isSquare 7 = .ok (.isub, 1) := by decide +kernel
theorem dX11_isSquare_8 : decode cX11_isSquare 8 = .ok (.invokestatic 65, 3) := by decide +kernel
theorem dX11_isSquare_11 : decode cX11_isSquare 11 = .ok (.ireturn, 1) := by decide +kernel
theorem dX11_eastOf_0 : decode cX11_eastOf 0 = .ok (.iconst 2, 1) := by decide +kernel
theorem dX11_eastOf_1 : decode cX11_eastOf 1 = .ok (.iload_n 1, 1) := by decide +kernel
theorem dX11_eastOf_2 : decode cX11_eastOf 2 = .ok (.aload_n 0, 1) := by decide +kernel
theorem dX11_eastOf_3 : decode cX11_eastOf 3 = .ok (.getfield 89, 3) := by decide +kernel
theorem dX11_eastOf_6 : decode cX11_eastOf 6 = .ok (.irem, 1) := by decide +kernel
theorem dX11_eastOf_7 : decode cX11_eastOf 7 = .ok (.imul, 1) := by decide +kernel
theorem dX11_eastOf_8 : decode cX11_eastOf 8 = .ok (.aload_n 0, 1) := by decide +kernel
theorem dX11_eastOf_9 : decode cX11_eastOf 9 = .ok (.getfield 89, 3) := by decide +kernel
theorem dX11_eastOf_12 : decode cX11_eastOf 12 = .ok (.isub, 1) := by decide +kernel
theorem dX11_eastOf_13 : decode cX11_eastOf 13 = .ok (.iconst 1, 1) := by decide +kernel
theorem dX11_eastOf_14 : decode cX11_eastOf 14 = .ok (.iadd, 1) := by decide +kernel
theorem dX11_eastOf_15 : decode cX11_eastOf 15 = .ok (.ireturn, 1) := by decide +kernel
theorem dX11_southOf_0 : decode cX11_southOf 0 = .ok (.iconst 2, 1) := by decide +kernel
theorem dX11_southOf_1 : decode cX11_southOf 1 = .ok (.iload_n 1, 1) := by decide +kernel
theorem dX11_southOf_2 : decode cX11_southOf 2 = .ok (.aload_n 0, 1) := by decide +kernel
theorem dX11_southOf_3 : decode cX11_southOf 3 = .ok (.getfield 89, 3) := by decide +kernel
theorem dX11_southOf_6 : decode cX11_southOf 6 = .ok (.idiv, 1) := by decide +kernel
theorem dX11_southOf_7 : decode cX11_southOf 7 = .ok (.imul, 1) := by decide +kernel
theorem dX11_southOf_8 : decode cX11_southOf 8 = .ok (.aload_n 0, 1) := by decide +kernel
theorem dX11_southOf_9 : decode cX11_southOf 9 = .ok (.getfield 86, 3) := by decide +kernel
theorem dX11_southOf_12 : decode cX11_southOf 12 = .ok (.isub, 1) := by decide +kernel
theorem dX11_southOf_13 : decode cX11_southOf 13 = .ok (.iconst 1, 1) := by decide +kernel
theorem dX11_southOf_14 : decode cX11_southOf 14 = .ok (.iadd, 1) := by decide +kernel
theorem dX11_southOf_15 : decode cX11_southOf 15 = .ok (.ireturn, 1) := by decide +kernel
theorem dX11_square_0 : decode cX11_square 0 = .ok (.aload_n 0, 1) := by decide +kernel
theorem dX11_square_1 : decode cX11_square 1 = .ok (.iload_n 1, 1) := by decide +kernel
theorem dX11_square_2 : decode cX11_square 2 = .ok (.invokevirtual 101, 3) := by decide +kernel
theorem dX11_square_5 : decode cX11_square 5 = .ok (.ifCond .ne 6, 3) := by decide +kernel
theorem dX11_square_8 : decode cX11_square 8 = .ok (.ldc 105, 2) := by decide +kernel
theorem dX11_square_10 : decode cX11_square 10 = .ok (.ireturn, 1) := by decide +kernel
theorem dX11_square_11 : decode cX11_square 11 = .ok (.iload_n 2, 1) := by decide +kernel
theorem dX11_square_12 : decode cX11_square 12 = .ok (.iconst 0, 1) := by decide +kernel
theorem dX11_square_13 : decode cX11_square 13 = .ok (.iconst 2, 1) := by decide +kernel
theorem dX11_square_14 : decode cX11_square 14 = .ok (.invokestatic 65, 3) := by decide +kernel
theorem dX11_square_17 : decode cX11_square 17 = .ok (.ifCond .ne 6, 3) := by decide +kernel
theorem dX11_square_20 : decode cX11_square 20 = .ok (.ldc 106, 2) := by decide +kernel
theorem dX11_square_22 : decode cX11_square 22 = .ok (.ireturn, 1) := by decide +kernel
theorem dX11_square_23 : decode cX11_square 23 = .ok (.iload_n 2, 1) := by decide +kernel
theorem dX11_square_24 : decode cX11_square 24 = .ok (.ifCond .ne 12, 3) := by decide +kernel
theorem dX11_square_27 : decode cX11_square 27 = .ok (.aload_n 0, 1) := by decide +kernel
theorem dX11_square_28 : decode cX11_square 28 = .ok (.getfield 7, 3) := by decide +kernel
theorem dX11_square_31 : decode cX11_square 31 = .ok (.iload_n 1, 1) := by decide +kernel
theorem dX11_square_32 : decode cX11_square 32 = .ok (.iaload, 1) := by decide +kernel
theorem dX11_square_33 : decode cX11_square 33 = .ok (.goto 21, 3) := by decide +kernel
theorem dX11_square_36 : decode cX11_square 36 = .ok (.iload_n 2, 1) := by decide +kernel
theorem dX11_square_37 : decode cX11_square 37 = .ok (.iconst 1, 1) := by decide +kernel
theorem dX11_square_38 : decode cX11_square 38 = .ok (.if_icmp .ne 11, 3) := by decide +kernel
theorem dX11_square_41 : decode cX11_square 41 = .ok (.aload_n 0, 1) := by decide +kernel
theorem dX11_square_42 : decode cX11_square 42 = .ok (.iload_n 1, 1) := by decide +kernel
theorem dX11_square_43 : decode cX11_square 43 = .ok (.invokevirtual 107, 3) := by decide +kernel
theorem dX11_square_46 : decode cX11_square 46 = .ok (.goto 8, 3) := by decide +kernel
theorem dX11_square_49 : decode cX11_square 49 = .ok (.aload_n 0, 1) := by decide +kernel
theorem dX11_square_50 : decode cX11_square 50 = .ok (.iload_n 1, 1) := by decide +kernel
theorem dX11_square_51 : decode cX11_square 51 = .ok (.invokevirtual 110, 3) := by decide +kernel
theorem dX11_square_54 : decode cX11_square 54 = .ok (.ireturn, 1) := by decide +kernel
theorem dX11_isThing_0 : decode cX11_isThing 0 = .ok (.iload_n 1, 1) := by decide +kernel
theorem dX11_isThing_1 : decode cX11_isThing 1 = .ok (.iconst 0, 1) := by decide +kernel
theorem dX11_isThing_2 : decode cX11_isThing 2 = .ok (.aload_n 0, 1) := by decide +kernel
theorem dX11_isThing_3 : decode cX11_isThing 3 = .ok (.getfield 95, 3) := by decide +kernel
theorem dX11_isThing_6 : decode cX11_isThing 6 = .ok (.iconst 1, 1) := by decide +kernel
theorem dX11_isThing_7 : decode cX11_isThing 7 = .ok (.isub, 1) := by decide +kernel
theorem dX11_isThing_8 : decode cX11_isThing 8 = .ok (.invokestatic 65, 3) := by decide +kernel
theorem dX11_isThing_11 : decode cX11_isThing 11 = .ok (.ireturn, 1) := by decide +kernel
theorem dX11_isQuarter_0 : decode cX11_isQuarter 0 = .ok (.iload_n 0, 1) := by decide +kernel
theorem dX11_isQuarter_1 : decode cX11_isQuarter 1 = .ok (.iconst 0, 1) := by decide +kernel
theorem dX11_isQuarter_2 : decode cX11_isQuarter 2 = .ok (.bipush 7, 2) := by decide +kernel
theorem dX11_isQuarter_4 : decode cX11_isQuarter 4 = .ok (.invokestatic 65, 3) := by decide +kernel
theorem dX11_isQuarter_7 : decode cX11_isQuarter 7 = .ok (.ireturn, 1) := by decide +kernel
theorem dX11_isPerson_0 : decode cX11_isPerson 0 = .ok (.aload_n 0, 1) := by decide +kernel
theorem dX11_isPerson_1 : decode cX11_isPerson 1 = .ok (.getfield 13, 3) := by decide +kernel
theorem dX11_isPerson_4 : decode cX11_isPerson 4 = .ok (.iload_n 1, 1) := by decide +kernel
theorem dX11_isPerson_5 : decode cX11_isPerson 5 = .ok (.iaload, 1) := by decide +kernel
theorem dX11_isPerson_6 : decode cX11_isPerson 6 = .ok (.iconst 3, 1) := by decide +kernel
theorem dX11_isPerson_7 : decode cX11_isPerson 7 = .ok (.if_icmp .eq 13, 3) := by decide +kernel
theorem dX11_isPerson_10 : decode cX11_isPerson 10 = .ok (.aload_n 0, 1) := by decide +kernel
theorem dX11_isPerson_11 : decode cX11_isPerson 11 = .ok (.getfield 13, 3) := by decide +kernel
theorem dX11_isPerson_14 : decode cX11_isPerson 14 = .ok (.iload_n 1, 1) := by decide +kernel
theorem dX11_isPerson_15 : decode cX11_isPerson 15 = .ok (.iaload, 1) := by decide +kernel
theorem dX11_isPerson_16 : decode cX11_isPerson 16 = .ok (.iconst 4, 1) := by decide +kernel
theorem dX11_isPerson_17 : decode cX11_isPerson 17 = .ok (.if_icmp .ne 7, 3) := by decide +kernel
theorem dX11_isPerson_20 : decode cX11_isPerson 20 = .ok (.iconst 1, 1) := by decide +kernel
theorem dX11_isPerson_21 : decode cX11_isPerson 21 = .ok (.goto 4, 3) := by decide +kernel
theorem dX11_isPerson_24 : decode cX11_isPerson 24 = .ok (.iconst 0, 1) := by decide +kernel
theorem dX11_isPerson_25 : decode cX11_isPerson 25 = .ok (.ireturn, 1) := by decide +kernel
theorem dX11_thing_0 : decode cX11_thing 0 = .ok (.iload_n 1, 1) := by decide +kernel
theorem dX11_thing_1 : decode cX11_thing 1 = .ok (.iconst 0, 1) := by decide +kernel
theorem dX11_thing_2 : decode cX11_thing 2 = .ok (.iconst 4, 1) := by decide +kernel
theorem dX11_thing_3 : decode cX11_thing 3 = .ok (.invokestatic 65, 3) := by decide +kernel
theorem dX11_thing_6 : decode cX11_thing 6 = .ok (.ifCond .eq 13, 3) := by decide +kernel
theorem dX11_thing_9 : decode cX11_thing 9 = .ok (.iload_n 2, 1) := by decide +kernel
theorem dX11_thing_10 : decode cX11_thing 10 = .ok (.iconst 1, 1) := by decide +kernel
theorem dX11_thing_11 : decode cX11_thing 11 = .ok (.bipush 99, 2) := by decide +kernel
theorem dX11_thing_13 : decode cX11_thing 13 = .ok (.invokestatic 65, 3) := by decide +kernel
theorem dX11_thing_16 : decode cX11_thing 16 = .ok (.ifCond .ne 6, 3) := by decide +kernel
theorem dX11_thing_19 : decode cX11_thing 19 = .ok (.bipush (-102), 2) := by decide +kernel
theorem dX11_thing_21 : decode cX11_thing 21 = .ok (.ireturn, 1) := by decide +kernel
theorem dX11_thing_22 : decode cX11_thing 22 = .ok (.aload_n 0, 1) := by decide +kernel
theorem dX11_thing_23 : decode cX11_thing 23 = .ok (.iload_n 3, 1) := by decide +kernel
theorem dX11_thing_24 : decode cX11_thing 24 = .ok (.invokevirtual 101, 3) := by decide +kernel
theorem dX11_thing_27 : decode cX11_thing 27 = .ok (.ifCond .ne 6, 3) := by decide +kernel
theorem dX11_thing_30 : decode cX11_thing 30 = .ok (.bipush (-101), 2) := by decide +kernel
theorem dX11_thing_32 : decode cX11_thing 32 = .ok (.ireturn, 1) := by decide +kernel
theorem dX11_thing_33 : decode cX11_thing 33 = .ok (.aload_n 0, 1) := by decide +kernel
theorem dX11_thing_34 : decode cX11_thing 34 = .ok (.getfield 95, 3) := by decide +kernel
theorem dX11_thing_37 : decode cX11_thing 37 = .ok (.bipush 8, 2) := by decide +kernel
theorem dX11_thing_39 : decode cX11_thing 39 = .ok (.if_icmp .ne 6, 3) := by decide +kernel
theorem dX11_thing_42 : decode cX11_thing 42 = .ok (.bipush (-104), 2) := by decide +kernel
theorem dX11_thing_44 : decode cX11_thing 44 = .ok (.ireturn, 1) := by decide +kernel
theorem dX11_thing_45 : decode cX11_thing 45 = .ok (.aload_n 0, 1) := by decide +kernel
theorem dX11_thing_46 : decode cX11_thing 46 = .ok (.getfield 13, 3) := by decide +kernel
theorem dX11_thing_49 : decode cX11_thing 49 = .ok (.aload_n 0, 1) := by decide +kernel
theorem dX11_thing_50 : decode cX11_thing 50 = .ok (.getfield 95, 3) := by decide +kernel
theorem dX11_thing_53 : decode cX11_thing 53 = .ok (.iload_n 1, 1) := by decide +kernel
theorem dX11_thing_54 : decode cX11_thing 54 = .ok (.iastore, 1) := by decide +kernel
theorem dX11_thing_55 : decode cX11_thing 55 = .ok (.aload_n 0, 1) := by decide +kernel
theorem dX11_thing_56 : decode cX11_thing 56 = .ok (.getfield 16, 3) := by decide +kernel
theorem dX11_thing_59 : decode cX11_thing 59 = .ok (.aload_n 0, 1) := by decide +kernel
theorem dX11_thing_60 : decode cX11_thing 60 = .ok (.getfield 95, 3) := by decide +kernel
theorem dX11_thing_63 : decode cX11_thing 63 = .ok (.iload_n 2, 1) := by decide +kernel
theorem dX11_thing_64 : decode cX11_thing 64 = .ok (.iastore, 1) := by decide +kernel
theorem dX11_thing_65 : decode cX11_thing 65 = .ok (.iconst 0, 1) := by decide +kernel
theorem dX11_thing_66 : decode cX11_thing 66 = .ok (.istore 4, 2) := by decide +kernel
theorem dX11_thing_68 : decode cX11_thing 68 = .ok (.iload 4, 2) := by decide +kernel
theorem dX11_thing_70 : decode cX11_thing 70 = .ok (.bipush 8, 2) := by decide +kernel
theorem dX11_thing_72 : decode cX11_thing 72 = .ok (.if_icmp .ge 25, 3) := by decide +kernel
theorem dX11_thing_75 : decode cX11_thing 75 = .ok (.aload_n 0, 1) := by decide +kernel
theorem dX11_thing_76 : decode cX11_thing 76 = .ok (.getfield 19, 3) := by decide +kernel
theorem dX11_thing_79 : decode cX11_thing 79 = .ok (.bipush 8, 2) := by decide +kernel
theorem dX11_thing_81 : decode cX11_thing 81 = .ok (.aload_n 0, 1) := by decide +kernel
theorem dX11_thing_82 : decode cX11_thing 82 = .ok (.getfield 95, 3) := by decide +kernel
theorem dX11_thing_85 : decode cX11_thing 85 = .ok (.imul, 1) := by decide +kernel
theorem dX11_thing_86 : decode cX11_thing 86 = .ok (.iload 4, 2) := by decide +kernel
theorem dX11_thing_88 : decode cX11_thing 88 = .ok (.iadd, 1) := by decide +kernel
theorem dX11_thing_89 : decode cX11_thing 89 = .ok (.iload_n 3, 1) := by decide +kernel
theorem dX11_thing_90 : decode cX11_thing 90 = .ok (.iastore, 1) := by decide +kernel
theorem dX11_thing_91 : decode cX11_thing 91 = .ok (.iinc 4 1, 3) := by decide +kernel
theorem dX11_thing_94 : decode cX11_thing 94 = .ok (.goto (-26), 3) := by decide +kernel
theorem dX11_thing_97 : decode cX11_thing 97 = .ok (.aload_n 0, 1) := by decide +kernel
theorem dX11_thing_98 : decode cX11_thing 98 = .ok (.dup, 1) := by decide +kernel
theorem dX11_thing_99 : decode cX11_thing 99 = .ok (.getfield 95, 3) := by decide +kernel
theorem dX11_thing_102 : decode cX11_thing 102 = .ok (.iconst 1, 1) := by decide +kernel
theorem dX11_thing_103 : decode cX11_thing 103 = .ok (.iadd, 1) := by decide +kernel
theorem dX11_thing_104 : decode cX11_thing 104 = .ok (.putfield 95, 3) := by decide +kernel
theorem dX11_thing_107 : decode cX11_thing 107 = .ok (.aload_n 0, 1) := by decide +kernel
theorem dX11_thing_108 : decode cX11_thing 108 = .ok (.getfield 95, 3) := by decide +kernel
theorem dX11_thing_111 : decode cX11_thing 111 = .ok (.iconst 1, 1) := by decide +kernel
theorem dX11_thing_112 : decode cX11_thing 112 = .ok (.isub, 1) := by decide +kernel
theorem dX11_thing_113 : decode cX11_thing 113 = .ok (.ireturn, 1) := by decide +kernel
theorem dX11_weighs_0 : decode cX11_weighs 0 = .ok (.aload_n 0, 1) := by decide +kernel
theorem dX11_weighs_1 : decode cX11_weighs 1 = .ok (.getfield 13, 3) := by decide +kernel
theorem dX11_weighs_4 : decode cX11_weighs 4 = .ok (.iload_n 1, 1) := by decide +kernel
theorem dX11_weighs_5 : decode cX11_weighs 5 = .ok (.iaload, 1) := by decide +kernel
theorem dX11_weighs_6 : decode cX11_weighs 6 = .ok (.iconst 4, 1) := by decide +kernel
theorem dX11_weighs_7 : decode cX11_weighs 7 = .ok (.if_icmp .ne 14, 3) := by decide +kernel
theorem dX11_weighs_10 : decode cX11_weighs 10 = .ok (.iconst 2, 1) := by decide +kernel
theorem dX11_weighs_11 : decode cX11_weighs 11 = .ok (.aload_n 0, 1) := by decide +kernel
theorem dX11_weighs_12 : decode cX11_weighs 12 = .ok (.getfield 16, 3) := by decide +kernel
theorem dX11_weighs_15 : decode cX11_weighs 15 = .ok (.iload_n 1, 1) := by decide +kernel
theorem dX11_weighs_16 : decode cX11_weighs 16 = .ok (.iaload, 1) := by decide +kernel
theorem dX11_weighs_17 : decode cX11_weighs 17 = .ok (.imul, 1) := by decide +kernel
theorem dX11_weighs_18 : decode cX11_weighs 18 = .ok (.goto 9, 3) := by decide +kernel
theorem dX11_weighs_21 : decode cX11_weighs 21 = .ok (.aload_n 0, 1) := by decide +kernel
theorem dX11_weighs_22 : decode cX11_weighs 22 = .ok (.getfield 16, 3) := by decide +kernel
theorem dX11_weighs_25 : decode cX11_weighs 25 = .ok (.iload_n 1, 1) := by decide +kernel
theorem dX11_weighs_26 : decode cX11_weighs 26 = .ok (.iaload, 1) := by decide +kernel
theorem dX11_weighs_27 : decode cX11_weighs 27 = .ok (.ireturn, 1) := by decide +kernel
theorem dX11_about_0 : decode cX11_about 0 = .ok (.aload_n 0, 1) := by decide +kernel
theorem dX11_about_1 : decode cX11_about 1 = .ok (.iload_n 1, 1) := by decide +kernel
theorem dX11_about_2 : decode cX11_about 2 = .ok (.invokevirtual 113, 3) := by decide +kernel
theorem dX11_about_5 : decode cX11_about 5 = .ok (.ifCond .ne 6, 3) := by decide +kernel
theorem dX11_about_8 : decode cX11_about 8 = .ok (.bipush (-101), 2) := by decide +kernel
theorem dX11_about_10 : decode cX11_about 10 = .ok (.ireturn, 1) := by decide +kernel
theorem dX11_about_11 : decode cX11_about 11 = .ok (.iload_n 2, 1) := by decide +kernel
theorem dX11_about_12 : decode cX11_about 12 = .ok (.iconst 0, 1) := by decide +kernel
theorem dX11_about_13 : decode cX11_about 13 = .ok (.iconst 2, 1) := by decide +kernel
theorem dX11_about_14 : decode cX11_about 14 = .ok (.invokestatic 65, 3) := by decide +kernel
theorem dX11_about_17 : decode cX11_about 17 = .ok (.ifCond .ne 17, 3) := by decide +kernel
theorem dX11_about_20 : decode cX11_about 20 = .ok (.iload_n 2, 1) := by decide +kernel
theorem dX11_about_21 : decode cX11_about 21 = .ok (.bipush 10, 2) := by decide +kernel
theorem dX11_about_23 : decode cX11_about 23 = .ok (.bipush 17, 2) := by decide +kernel
theorem dX11_about_25 : decode cX11_about 25 = .ok (.invokestatic 65, 3) := by decide +kernel
theorem dX11_about_28 : decode cX11_about 28 = .ok (.ifCond .ne 6, 3) := by decide +kernel
theorem dX11_about_31 : decode cX11_about 31 = .ok (.bipush (-102), 2) := by decide +kernel
theorem dX11_about_33 : decode cX11_about 33 = .ok (.ireturn, 1) := by decide +kernel
theorem dX11_about_34 : decode cX11_about 34 = .ok (.iload_n 2, 1) := by decide +kernel
theorem dX11_about_35 : decode cX11_about 35 = .ok (.ifCond .ne 12, 3) := by decide +kernel
theorem dX11_about_38 : decode cX11_about 38 = .ok (.aload_n 0, 1) := by decide +kernel
theorem dX11_about_39 : decode cX11_about 39 = .ok (.getfield 13, 3) := by decide +kernel
theorem dX11_about_42 : decode cX11_about 42 = .ok (.iload_n 1, 1) := by decide +kernel
theorem dX11_about_43 : decode cX11_about 43 = .ok (.iaload, 1) := by decide +kernel
theorem dX11_about_44 : decode cX11_about 44 = .ok (.goto 44, 3) := by decide +kernel
theorem dX11_about_47 : decode cX11_about 47 = .ok (.iload_n 2, 1) := by decide +kernel
theorem dX11_about_48 : decode cX11_about 48 = .ok (.iconst 1, 1) := by decide +kernel
theorem dX11_about_49 : decode cX11_about 49 = .ok (.if_icmp .ne 12, 3) := by decide +kernel
theorem dX11_about_52 : decode cX11_about 52 = .ok (.aload_n 0, 1) := by decide +kernel
theorem dX11_about_53 : decode cX11_about 53 = .ok (.getfield 16, 3) := by decide +kernel
theorem dX11_about_56 : decode cX11_about 56 = .ok (.iload_n 1, 1) := by decide +kernel
theorem dX11_about_57 : decode cX11_about 57 = .ok (.iaload, 1) := by decide +kernel
theorem dX11_about_58 : decode cX11_about 58 = .ok (.goto 30, 3) := by decide +kernel
theorem dX11_about_61 : decode cX11_about 61 = .ok (.iload_n 2, 1) := by decide +kernel
theorem dX11_about_62 : decode cX11_about 62 = .ok (.iconst 2, 1) := by decide +kernel
theorem dX11_about_63 : decode cX11_about 63 = .ok (.if_icmp .ne 11, 3) := by decide +kernel
theorem dX11_about_66 : decode cX11_about 66 = .ok (.aload_n 0, 1) := by decide +kernel
theorem dX11_about_67 : decode cX11_about 67 = .ok (.iload_n 1, 1) := by decide +kernel
theorem dX11_about_68 : decode cX11_about 68 = .ok (.invokevirtual 116, 3) := by decide +kernel
theorem dX11_about_71 : decode cX11_about 71 = .ok (.goto 17, 3) := by decide +kernel
theorem dX11_about_74 : decode cX11_about 74 = .ok (.aload_n 0, 1) := by decide +kernel
theorem dX11_about_75 : decode cX11_about 75 = .ok (.getfield 19, 3) := by decide +kernel
theorem dX11_about_78 : decode cX11_about 78 = .ok (.bipush 8, 2) := by decide +kernel
theorem dX11_about_80 : decode cX11_about 80 = .ok (.iload_n 1, 1) := by decide +kernel
theorem dX11_about_81 : decode cX11_about 81 = .ok (.imul, 1) := by decide +kernel
theorem dX11_about_82 : decode cX11_about 82 = .ok (.iload_n 2, 1) := by decide +kernel
theorem dX11_about_83 : decode cX11_about 83 = .ok (.iadd, 1) := by decide +kernel
theorem dX11_about_84 : decode cX11_about 84 = .ok (.bipush 10, 2) := by decide +kernel
theorem dX11_about_86 : decode cX11_about 86 = .ok (.isub, 1) := by decide +kernel
theorem dX11_about_87 : decode cX11_about 87 = .ok (.iaload, 1) := by decide +kernel
theorem dX11_about_88 : decode cX11_about 88 = .ok (.ireturn, 1) := by decide +kernel
theorem dX11_as_0 : decode cX11_as 0 = .ok (.aload_n 0, 1) := by decide +kernel
theorem dX11_as_1 : decode cX11_as 1 = .ok (.iload_n 1, 1) := by decide +kernel
theorem dX11_as_2 : decode cX11_as 2 = .ok (.invokevirtual 113, 3) := by decide +kernel
theorem dX11_as_5 : decode cX11_as 5 = .ok (.ifCond .ne 6, 3) := by decide +kernel
theorem dX11_as_8 : decode cX11_as 8 = .ok (.bipush (-101), 2) := by decide +kernel
theorem dX11_as_10 : decode cX11_as 10 = .ok (.ireturn, 1) := by decide +kernel
theorem dX11_as_11 : decode cX11_as 11 = .ok (.iload_n 2, 1) := by decide +kernel
theorem dX11_as_12 : decode cX11_as 12 = .ok (.iconst 0, 1) := by decide +kernel
theorem dX11_as_13 : decode cX11_as 13 = .ok (.iconst 4, 1) := by decide +kernel
theorem dX11_as_14 : decode cX11_as 14 = .ok (.invokestatic 65, 3) := by decide +kernel
theorem dX11_as_17 : decode cX11_as 17 = .ok (.ifCond .ne 6, 3) := by decide +kernel
theorem dX11_as_20 : decode cX11_as 20 = .ok (.bipush (-102), 2) := by decide +kernel
theorem dX11_as_22 : decode cX11_as 22 = .ok (.ireturn, 1) := by decide +kernel
theorem dX11_as_23 : decode cX11_as 23 = .ok (.aload_n 0, 1) := by decide +kernel
theorem dX11_as_24 : decode cX11_as 24 = .ok (.getfield 13, 3) := by decide +kernel
theorem dX11_as_27 : decode cX11_as 27 = .ok (.iload_n 1, 1) := by decide +kernel
theorem dX11_as_28 : decode cX11_as 28 = .ok (.iaload, 1) := by decide +kernel
theorem dX11_as_29 : decode cX11_as 29 = .ok (.istore_n 3, 1) := by decide +kernel
theorem dX11_as_30 : decode cX11_as 30 = .ok (.iload_n 2, 1) := by decide +kernel
theorem dX11_as_31 : decode cX11_as 31 = .ok (.ifCond .eq 18, 3) := by decide +kernel
theorem dX11_as_34 : decode cX11_as 34 = .ok (.iload_n 3, 1) := by decide +kernel
theorem dX11_as_35 : decode cX11_as 35 = .ok (.iload_n 2, 1) := by decide +kernel
theorem dX11_as_36 : decode cX11_as 36 = .ok (.if_icmp .eq 13, 3) := by decide +kernel
theorem dX11_as_39 : decode cX11_as 39 = .ok (.iload_n 2, 1) := by decide +kernel
theorem dX11_as_40 : decode cX11_as 40 = .ok (.iconst 3, 1) := by decide +kernel
theorem dX11_as_41 : decode cX11_as 41 = .ok (.if_icmp .ne 12, 3) := by decide +kernel
theorem dX11_as_44 : decode cX11_as 44 = .ok (.iload_n 3, 1) := by decide +kernel
theorem dX11_as_45 : decode cX11_as 45 = .ok (.iconst 4, 1) := by decide +kernel
theorem dX11_as_46 : decode cX11_as 46 = .ok (.if_icmp .ne 7, 3) := by decide +kernel
theorem dX11_as_49 : decode cX11_as 49 = .ok (.iload_n 1, 1) := by decide +kernel
theorem dX11_as_50 : decode cX11_as 50 = .ok (.goto 4, 3) := by decide +kernel
theorem dX11_as_53 : decode cX11_as 53 = .ok (.iconst (-1), 1) := by decide +kernel
theorem dX11_as_54 : decode cX11_as 54 = .ok (.ireturn, 1) := by decide +kernel
theorem dX11_stand_0 : decode cX11_stand 0 = .ok (.aload_n 0, 1) := by decide +kernel
theorem dX11_stand_1 : decode cX11_stand 1 = .ok (.iload_n 1, 1) := by decide +kernel
theorem dX11_stand_2 : decode cX11_stand 2 = .ok (.invokevirtual 113, 3) := by decide +kernel
theorem dX11_stand_5 : decode cX11_stand 5 = .ok (.ifCond .eq 18, 3) := by decide +kernel
theorem dX11_stand_8 : decode cX11_stand 8 = .ok (.iload_n 2, 1) := by decide +kernel
theorem dX11_stand_9 : decode cX11_stand 9 = .ok (.invokestatic 119, 3) := by decide +kernel
theorem dX11_stand_12 : decode cX11_stand 12 = .ok (.ifCond .eq 11, 3) := by decide +kernel
theorem dX11_stand_15 : decode cX11_stand 15 = .ok (.aload_n 0, 1) := by decide +kernel
theorem dX11_stand_16 : decode cX11_stand 16 = .ok (.iload_n 3, 1) := by decide +kernel
theorem dX11_stand_17 : decode cX11_stand 17 = .ok (.invokevirtual 101, 3) := by decide +kernel
theorem dX11_stand_20 : decode cX11_stand 20 = .ok (.ifCond .ne 6, 3) := by decide +kernel
theorem dX11_stand_23 : decode cX11_stand 23 = .ok (.bipush (-101), 2) := by decide +kernel
theorem dX11_stand_25 : decode cX11_stand 25 = .ok (.ireturn, 1) := by decide +kernel
theorem dX11_stand_26 : decode cX11_stand 26 = .ok (.aload_n 0, 1) := by decide +kernel
theorem dX11_stand_27 : decode cX11_stand 27 = .ok (.iload_n 1, 1) := by decide +kernel
theorem dX11_stand_28 : decode cX11_stand 28 = .ok (.invokevirtual 122, 3) := by decide +kernel
theorem dX11_stand_31 : decode cX11_stand 31 = .ok (.ifCond .ne 6, 3) := by decide +kernel
theorem dX11_stand_34 : decode cX11_stand 34 = .ok (.bipush (-103), 2) := by decide +kernel
theorem dX11_stand_36 : decode cX11_stand 36 = .ok (.ireturn, 1) := by decide +kernel
theorem dX11_stand_37 : decode cX11_stand 37 = .ok (.aload_n 0, 1) := by decide +kernel
theorem dX11_stand_38 : decode cX11_stand 38 = .ok (.getfield 19, 3) := by decide +kernel
theorem dX11_stand_41 : decode cX11_stand 41 = .ok (.bipush 8, 2) := by decide +kernel
theorem dX11_stand_43 : decode cX11_stand 43 = .ok (.iload_n 1, 1) := by decide +kernel
theorem dX11_stand_44 : decode cX11_stand 44 = .ok (.imul, 1) := by decide +kernel
theorem dX11_stand_45 : decode cX11_stand 45 = .ok (.iload_n 2, 1) := by decide +kernel
theorem dX11_stand_46 : decode cX11_stand 46 = .ok (.iadd, 1) := by decide +kernel
theorem dX11_stand_47 : decode cX11_stand 47 = .ok (.iaload, 1) := by decide +kernel
theorem dX11_stand_48 : decode cX11_stand 48 = .ok (.istore 4, 2) := by decide +kernel
theorem dX11_stand_50 : decode cX11_stand 50 = .ok (.aload_n 0, 1) := by decide +kernel
theorem dX11_stand_51 : decode cX11_stand 51 = .ok (.getfield 19, 3) := by decide +kernel
theorem dX11_stand_54 : decode cX11_stand 54 = .ok (.bipush 8, 2) := by decide +kernel
theorem dX11_stand_56 : decode cX11_stand 56 = .ok (.iload_n 1, 1) := by decide +kernel
theorem dX11_stand_57 : decode cX11_stand 57 = .ok (.imul, 1) := by decide +kernel
theorem dX11_stand_58 : decode cX11_stand 58 = .ok (.iload_n 2, 1) := by decide +kernel
theorem dX11_stand_59 : decode cX11_stand 59 = .ok (.iadd, 1) := by decide +kernel
theorem dX11_stand_60 : decode cX11_stand 60 = .ok (.iload_n 3, 1) := by decide +kernel
theorem dX11_stand_61 : decode cX11_stand 61 = .ok (.iastore, 1) := by decide +kernel
theorem dX11_stand_62 : decode cX11_stand 62 = .ok (.iload 4, 2) := by decide +kernel
theorem dX11_stand_64 : decode cX11_stand 64 = .ok (.ireturn, 1) := by decide +kernel
theorem dX11_putAt_0 : decode cX11_putAt 0 = .ok (.iconst 0, 1) := by decide +kernel
theorem dX11_putAt_1 : decode cX11_putAt 1 = .ok (.istore_n 3, 1) := by decide +kernel
theorem dX11_putAt_2 : decode cX11_putAt 2 = .ok (.iload_n 3, 1) := by decide +kernel
theorem dX11_putAt_3 : decode cX11_putAt 3 = .ok (.bipush 8, 2) := by decide +kernel
theorem dX11_putAt_5 : decode cX11_putAt 5 = .ok (.if_icmp .ge 21, 3) := by decide +kernel
theorem dX11_putAt_8 : decode cX11_putAt 8 = .ok (.aload_n 0, 1) := by decide +kernel
theorem dX11_putAt_9 : decode cX11_putAt 9 = .ok (.getfield 19, 3) := by decide +kernel
theorem dX11_putAt_12 : decode cX11_putAt 12 = .ok (.bipush 8, 2) := by decide +kernel
theorem dX11_putAt_14 : decode cX11_putAt 14 = .ok (.iload_n 1, 1) := by decide +kernel
theorem dX11_putAt_15 : decode cX11_putAt 15 = .ok (.imul, 1) := by decide +kernel
theorem dX11_putAt_16 : decode cX11_putAt 16 = .ok (.iload_n 3, 1) := by decide +kernel
theorem dX11_putAt_17 : decode cX11_putAt 17 = .ok (.iadd, 1) := by decide +kernel
theorem dX11_putAt_18 : decode cX11_putAt 18 = .ok (.iload_n 2, 1) := by decide +kernel
theorem dX11_putAt_19 : decode cX11_putAt 19 = .ok (.iastore, 1) := by decide +kernel
theorem dX11_putAt_20 : decode cX11_putAt 20 = .ok (.iinc 3 1, 3) := by decide +kernel
theorem dX11_putAt_23 : decode cX11_putAt 23 = .ok (.goto (-21), 3) := by decide +kernel
theorem dX11_putAt_26 : decode cX11_putAt 26 = .ok (.return_, 1) := by decide +kernel
theorem dX11_put_0 : decode cX11_put 0 = .ok (.aload_n 0, 1) := by decide +kernel
theorem dX11_put_1 : decode cX11_put 1 = .ok (.iload_n 1, 1) := by decide +kernel
theorem dX11_put_2 : decode cX11_put 2 = .ok (.invokevirtual 113, 3) := by decide +kernel
theorem dX11_put_5 : decode cX11_put 5 = .ok (.ifCond .eq 11, 3) := by decide +kernel
theorem dX11_put_8 : decode cX11_put 8 = .ok (.aload_n 0, 1) := by decide +kernel
theorem dX11_put_9 : decode cX11_put 9 = .ok (.iload_n 2, 1) := by decide +kernel
theorem dX11_put_10 : decode cX11_put 10 = .ok (.invokevirtual 101, 3) := by decide +kernel
theorem dX11_put_13 : decode cX11_put 13 = .ok (.ifCond .ne 6, 3) := by decide +kernel
theorem dX11_put_16 : decode cX11_put 16 = .ok (.bipush (-101), 2) := by decide +kernel
theorem dX11_put_18 : decode cX11_put 18 = .ok (.ireturn, 1) := by decide +kernel
theorem dX11_put_19 : decode cX11_put 19 = .ok (.aload_n 0, 1) := by decide +kernel
theorem dX11_put_20 : decode cX11_put 20 = .ok (.iload_n 1, 1) := by decide +kernel
theorem dX11_put_21 : decode cX11_put 21 = .ok (.invokevirtual 122, 3) := by decide +kernel
theorem dX11_put_24 : decode cX11_put 24 = .ok (.ifCond .eq 6, 3) := by decide +kernel
theorem dX11_put_27 : decode cX11_put 27 = .ok (.bipush (-103), 2) := by decide +kernel
theorem dX11_put_29 : decode cX11_put 29 = .ok (.ireturn, 1) := by decide +kernel
theorem dX11_put_30 : decode cX11_put 30 = .ok (.aload_n 0, 1) := by decide +kernel
theorem dX11_put_31 : decode cX11_put 31 = .ok (.getfield 19, 3) := by decide +kernel
theorem dX11_put_34 : decode cX11_put 34 = .ok (.bipush 8, 2) := by decide +kernel
theorem dX11_put_36 : decode cX11_put 36 = .ok (.iload_n 1, 1) := by decide +kernel
theorem dX11_put_37 : decode cX11_put 37 = .ok (.imul, 1) := by decide +kernel
theorem dX11_put_38 : decode cX11_put 38 = .ok (.iaload, 1) := by decide +kernel
theorem dX11_put_39 : decode cX11_put 39 = .ok (.istore_n 3, 1) := by decide +kernel
theorem dX11_put_40 : decode cX11_put 40 = .ok (.aload_n 0, 1) := by decide +kernel
theorem dX11_put_41 : decode cX11_put 41 = .ok (.iload_n 1, 1) := by decide +kernel
theorem dX11_put_42 : decode cX11_put 42 = .ok (.iload_n 2, 1) := by decide +kernel
theorem dX11_put_43 : decode cX11_put 43 = .ok (.invokevirtual 125, 3) := by decide +kernel
theorem dX11_put_46 : decode cX11_put 46 = .ok (.iload_n 3, 1) := by decide +kernel
theorem dX11_put_47 : decode cX11_put 47 = .ok (.ireturn, 1) := by decide +kernel
theorem dX11_trade_0 : decode cX11_trade 0 = .ok (.aload_n 0, 1) := by decide +kernel
theorem dX11_trade_1 : decode cX11_trade 1 = .ok (.iload_n 1, 1) := by decide +kernel
theorem dX11_trade_2 : decode cX11_trade 2 = .ok (.invokevirtual 113, 3) := by decide +kernel
theorem dX11_trade_5 : decode cX11_trade 5 = .ok (.ifCond .eq 18, 3) := by decide +kernel
theorem dX11_trade_8 : decode cX11_trade 8 = .ok (.aload_n 0, 1) := by decide +kernel
theorem dX11_trade_9 : decode cX11_trade 9 = .ok (.iload_n 2, 1) := by decide +kernel
theorem dX11_trade_10 : decode cX11_trade 10 = .ok (.invokevirtual 113, 3) := by decide +kernel
theorem dX11_trade_13 : decode cX11_trade 13 = .ok (.ifCond .eq 10, 3) := by decide +kernel
theorem dX11_trade_16 : decode cX11_trade 16 = .ok (.iload_n 3, 1) := by decide +kernel
theorem dX11_trade_17 : decode cX11_trade 17 = .ok (.invokestatic 119, 3) := by decide +kernel
theorem dX11_trade_20 : decode cX11_trade 20 = .ok (.ifCond .ne 6, 3) := by decide +kernel
theorem dX11_trade_23 : decode cX11_trade 23 = .ok (.bipush (-101), 2) := by decide +kernel
theorem dX11_trade_25 : decode cX11_trade 25 = .ok (.ireturn, 1) := by decide +kernel
theorem dX11_trade_26 : decode cX11_trade 26 = .ok (.aload_n 0, 1) := by decide +kernel
theorem dX11_trade_27 : decode cX11_trade 27 = .ok (.iload_n 1, 1) := by decide +kernel
theorem dX11_trade_28 : decode cX11_trade 28 = .ok (.invokevirtual 122, 3) := by decide +kernel
theorem dX11_trade_31 : decode cX11_trade 31 = .ok (.ifCond .eq 11, 3) := by decide +kernel
theorem dX11_trade_34 : decode cX11_trade 34 = .ok (.aload_n 0, 1) := by decide +kernel
theorem dX11_trade_35 : decode cX11_trade 35 = .ok (.iload_n 2, 1) := by decide +kernel
theorem dX11_trade_36 : decode cX11_trade 36 = .ok (.invokevirtual 122, 3) := by decide +kernel
theorem dX11_trade_39 : decode cX11_trade 39 = .ok (.ifCond .ne 6, 3) := by decide +kernel
theorem dX11_trade_42 : decode cX11_trade 42 = .ok (.bipush (-103), 2) := by decide +kernel
theorem dX11_trade_44 : decode cX11_trade 44 = .ok (.ireturn, 1) := by decide +kernel
theorem dX11_trade_45 : decode cX11_trade 45 = .ok (.aload_n 0, 1) := by decide +kernel
theorem dX11_trade_46 : decode cX11_trade 46 = .ok (.getfield 19, 3) := by decide +kernel
theorem dX11_trade_49 : decode cX11_trade 49 = .ok (.bipush 8, 2) := by decide +kernel
theorem dX11_trade_51 : decode cX11_trade 51 = .ok (.iload_n 1, 1) := by decide +kernel
theorem dX11_trade_52 : decode cX11_trade 52 = .ok (.imul, 1) := by decide +kernel
theorem dX11_trade_53 : decode cX11_trade 53 = .ok (.iload_n 3, 1) := by decide +kernel
theorem dX11_trade_54 : decode cX11_trade 54 = .ok (.iadd, 1) := by decide +kernel
theorem dX11_trade_55 : decode cX11_trade 55 = .ok (.iaload, 1) := by decide +kernel
theorem dX11_trade_56 : decode cX11_trade 56 = .ok (.istore 4, 2) := by decide +kernel
theorem dX11_trade_58 : decode cX11_trade 58 = .ok (.aload_n 0, 1) := by decide +kernel
theorem dX11_trade_59 : decode cX11_trade 59 = .ok (.getfield 19, 3) := by decide +kernel
theorem dX11_trade_62 : decode cX11_trade 62 = .ok (.bipush 8, 2) := by decide +kernel
theorem dX11_trade_64 : decode cX11_trade 64 = .ok (.iload_n 2, 1) := by decide +kernel
theorem dX11_trade_65 : decode cX11_trade 65 = .ok (.imul, 1) := by decide +kernel
theorem dX11_trade_66 : decode cX11_trade 66 = .ok (.iload_n 3, 1) := by decide +kernel
theorem dX11_trade_67 : decode cX11_trade 67 = .ok (.iadd, 1) := by decide +kernel
theorem dX11_trade_68 : decode cX11_trade 68 = .ok (.iaload, 1) := by decide +kernel
theorem dX11_trade_69 : decode cX11_trade 69 = .ok (.istore 5, 2) := by decide +kernel
theorem dX11_trade_71 : decode cX11_trade 71 = .ok (.aload_n 0, 1) := by decide +kernel
theorem dX11_trade_72 : decode cX11_trade 72 = .ok (.getfield 19, 3) := by decide +kernel
theorem dX11_trade_75 : decode cX11_trade 75 = .ok (.bipush 8, 2) := by decide +kernel
theorem dX11_trade_77 : decode cX11_trade 77 = .ok (.iload_n 1, 1) := by decide +kernel
theorem dX11_trade_78 : decode cX11_trade 78 = .ok (.imul, 1) := by decide +kernel
theorem dX11_trade_79 : decode cX11_trade 79 = .ok (.iload_n 3, 1) := by decide +kernel
theorem dX11_trade_80 : decode cX11_trade 80 = .ok (.iadd, 1) := by decide +kernel
theorem dX11_trade_81 : decode cX11_trade 81 = .ok (.iload 5, 2) := by decide +kernel
theorem dX11_trade_83 : decode cX11_trade 83 = .ok (.iastore, 1) := by decide +kernel
theorem dX11_trade_84 : decode cX11_trade 84 = .ok (.aload_n 0, 1) := by decide +kernel
theorem dX11_trade_85 : decode cX11_trade 85 = .ok (.getfield 19, 3) := by decide +kernel
theorem dX11_trade_88 : decode cX11_trade 88 = .ok (.bipush 8, 2) := by decide +kernel
theorem dX11_trade_90 : decode cX11_trade 90 = .ok (.iload_n 2, 1) := by decide +kernel
theorem dX11_trade_91 : decode cX11_trade 91 = .ok (.imul, 1) := by decide +kernel
theorem dX11_trade_92 : decode cX11_trade 92 = .ok (.iload_n 3, 1) := by decide +kernel
theorem dX11_trade_93 : decode cX11_trade 93 = .ok (.iadd, 1) := by decide +kernel
theorem dX11_trade_94 : decode cX11_trade 94 = .ok (.iload 4, 2) := by decide +kernel
theorem dX11_trade_96 : decode cX11_trade 96 = .ok (.iastore, 1) := by decide +kernel
theorem dX11_trade_97 : decode cX11_trade 97 = .ok (.iload 4, 2) := by decide +kernel
theorem dX11_trade_99 : decode cX11_trade 99 = .ok (.iload 5, 2) := by decide +kernel
theorem dX11_trade_101 : decode cX11_trade 101 = .ok (.if_icmp .ne 7, 3) := by decide +kernel
theorem dX11_trade_104 : decode cX11_trade 104 = .ok (.iconst 0, 1) := by decide +kernel
theorem dX11_trade_105 : decode cX11_trade 105 = .ok (.goto 4, 3) := by decide +kernel
theorem dX11_trade_108 : decode cX11_trade 108 = .ok (.iconst 1, 1) := by decide +kernel
theorem dX11_trade_109 : decode cX11_trade 109 = .ok (.ireturn, 1) := by decide +kernel
theorem dX11_leanOf_0 : decode cX11_leanOf 0 = .ok (.iload_n 2, 1) := by decide +kernel
theorem dX11_leanOf_1 : decode cX11_leanOf 1 = .ok (.ifCond .eq 10, 3) := by decide +kernel
theorem dX11_leanOf_4 : decode cX11_leanOf 4 = .ok (.aload_n 0, 1) := by decide +kernel
theorem dX11_leanOf_5 : decode cX11_leanOf 5 = .ok (.getfield 129, 3) := by decide +kernel
theorem dX11_leanOf_8 : decode cX11_leanOf 8 = .ok (.goto 7, 3) := by decide +kernel
theorem dX11_leanOf_11 : decode cX11_leanOf 11 = .ok (.aload_n 0, 1) := by decide +kernel
theorem dX11_leanOf_12 : decode cX11_leanOf 12 = .ok (.getfield 132, 3) := by decide +kernel
theorem dX11_leanOf_15 : decode cX11_leanOf 15 = .ok (.istore_n 3, 1) := by decide +kernel
theorem dX11_leanOf_16 : decode cX11_leanOf 16 = .ok (.iconst 0, 1) := by decide +kernel
theorem dX11_leanOf_17 : decode cX11_leanOf 17 = .ok (.istore 4, 2) := by decide +kernel
theorem dX11_leanOf_19 : decode cX11_leanOf 19 = .ok (.iload 4, 2) := by decide +kernel
theorem dX11_leanOf_21 : decode cX11_leanOf 21 = .ok (.aload_n 0, 1) := by decide +kernel
theorem dX11_leanOf_22 : decode cX11_leanOf 22 = .ok (.getfield 95, 3) := by decide +kernel
theorem dX11_leanOf_25 : decode cX11_leanOf 25 = .ok (.if_icmp .ge 76, 3) := by decide +kernel
theorem dX11_leanOf_28 : decode cX11_leanOf 28 = .ok (.aload_n 0, 1) := by decide +kernel
theorem dX11_leanOf_29 : decode cX11_leanOf 29 = .ok (.getfield 19, 3) := by decide +kernel
theorem dX11_leanOf_32 : decode cX11_leanOf 32 = .ok (.bipush 8, 2) := by decide +kernel
theorem dX11_leanOf_34 : decode cX11_leanOf 34 = .ok (.iload 4, 2) := by decide +kernel
theorem dX11_leanOf_36 : decode cX11_leanOf 36 = .ok (.imul, 1) := by decide +kernel
theorem dX11_leanOf_37 : decode cX11_leanOf 37 = .ok (.iload_n 1, 1) := by decide +kernel
theorem dX11_leanOf_38 : decode cX11_leanOf 38 = .ok (.iadd, 1) := by decide +kernel
theorem dX11_leanOf_39 : decode cX11_leanOf 39 = .ok (.iaload, 1) := by decide +kernel
theorem dX11_leanOf_40 : decode cX11_leanOf 40 = .ok (.istore 5, 2) := by decide +kernel
theorem dX11_leanOf_42 : decode cX11_leanOf 42 = .ok (.aload_n 0, 1) := by decide +kernel
theorem dX11_leanOf_43 : decode cX11_leanOf 43 = .ok (.iload 4, 2) := by decide +kernel
theorem dX11_leanOf_45 : decode cX11_leanOf 45 = .ok (.invokevirtual 116, 3) := by decide +kernel
theorem dX11_leanOf_48 : decode cX11_leanOf 48 = .ok (.aload_n 0, 1) := by decide +kernel
theorem dX11_leanOf_49 : decode cX11_leanOf 49 = .ok (.getfield 13, 3) := by decide +kernel
theorem dX11_leanOf_52 : decode cX11_leanOf 52 = .ok (.iload 4, 2) := by decide +kernel
theorem dX11_leanOf_54 : decode cX11_leanOf 54 = .ok (.iaload, 1) := by decide +kernel
theorem dX11_leanOf_55 : decode cX11_leanOf 55 = .ok (.iconst 1, 1) := by decide +kernel
theorem dX11_leanOf_56 : decode cX11_leanOf 56 = .ok (.if_icmp .ne 10, 3) := by decide +kernel
theorem dX11_leanOf_59 : decode cX11_leanOf 59 = .ok (.aload_n 0, 1) := by decide +kernel
theorem dX11_leanOf_60 : decode cX11_leanOf 60 = .ok (.getfield 135, 3) := by decide +kernel
theorem dX11_leanOf_63 : decode cX11_leanOf 63 = .ok (.goto 4, 3) := by decide +kernel
theorem dX11_leanOf_66 : decode cX11_leanOf 66 = .ok (.iconst 0, 1) := by decide +kernel
theorem dX11_leanOf_67 : decode cX11_leanOf 67 = .ok (.iadd, 1) := by decide +kernel
theorem dX11_leanOf_68 : decode cX11_leanOf 68 = .ok (.istore 6, 2) := by decide +kernel
theorem dX11_leanOf_70 : decode cX11_leanOf 70 = .ok (.iload_n 3, 1) := by decide +kernel
theorem dX11_leanOf_71 : decode cX11_leanOf 71 = .ok (.iload 6, 2) := by decide +kernel
theorem dX11_leanOf_73 : decode cX11_leanOf 73 = .ok (.iload_n 2, 1) := by decide +kernel
theorem dX11_leanOf_74 : decode cX11_leanOf 74 = .ok (.ifCond .eq 12, 3) := by decide +kernel
theorem dX11_leanOf_77 : decode cX11_leanOf 77 = .ok (.aload_n 0, 1) := by decide +kernel
theorem dX11_leanOf_78 : decode cX11_leanOf 78 = .ok (.iload 5, 2) := by decide +kernel
theorem dX11_leanOf_80 : decode cX11_leanOf 80 = .ok (.invokevirtual 110, 3) := by decide +kernel
theorem dX11_leanOf_83 : decode cX11_leanOf 83 = .ok (.goto 9, 3) := by decide +kernel
theorem dX11_leanOf_86 : decode cX11_leanOf 86 = .ok (.aload_n 0, 1) := by decide +kernel
theorem dX11_leanOf_87 : decode cX11_leanOf 87 = .ok (.iload 5, 2) := by decide +kernel
theorem dX11_leanOf_89 : decode cX11_leanOf 89 = .ok (.invokevirtual 107, 3) := by decide +kernel
theorem dX11_leanOf_92 : decode cX11_leanOf 92 = .ok (.imul, 1) := by decide +kernel
theorem dX11_leanOf_93 : decode cX11_leanOf 93 = .ok (.iadd, 1) := by decide +kernel
theorem dX11_leanOf_94 : decode cX11_leanOf 94 = .ok (.istore_n 3, 1) := by decide +kernel
theorem dX11_leanOf_95 : decode cX11_leanOf 95 = .ok (.iinc 4 1, 3) := by decide +kernel
theorem dX11_leanOf_98 : decode cX11_leanOf 98 = .ok (.goto (-79), 3) := by decide +kernel
theorem dX11_leanOf_101 : decode cX11_leanOf 101 = .ok (.iload_n 3, 1) := by decide +kernel
theorem dX11_leanOf_102 : decode cX11_leanOf 102 = .ok (.ireturn, 1) := by decide +kernel
theorem dX11_leans_0 : decode cX11_leans 0 = .ok (.iload_n 1, 1) := by decide +kernel
theorem dX11_leans_1 : decode cX11_leans 1 = .ok (.invokestatic 119, 3) := by decide +kernel
theorem dX11_leans_4 : decode cX11_leans 4 = .ok (.ifCond .ne 6, 3) := by decide +kernel
theorem dX11_leans_7 : decode cX11_leans 7 = .ok (.ldc 105, 2) := by decide +kernel
theorem dX11_leans_9 : decode cX11_leans 9 = .ok (.ireturn, 1) := by decide +kernel
theorem dX11_leans_10 : decode cX11_leans 10 = .ok (.iload_n 2, 1) := by decide +kernel
theorem dX11_leans_11 : decode cX11_leans 11 = .ok (.iconst 0, 1) := by decide +kernel
theorem dX11_leans_12 : decode cX11_leans 12 = .ok (.iconst 1, 1) := by decide +kernel
theorem dX11_leans_13 : decode cX11_leans 13 = .ok (.invokestatic 65, 3) := by decide +kernel
theorem dX11_leans_16 : decode cX11_leans 16 = .ok (.ifCond .eq 21, 3) := by decide +kernel
theorem dX11_leans_19 : decode cX11_leans 19 = .ok (.aload_n 0, 1) := by decide +kernel
theorem dX11_leans_20 : decode cX11_leans 20 = .ok (.iload_n 1, 1) := by decide +kernel
theorem dX11_leans_21 : decode cX11_leans 21 = .ok (.iload_n 2, 1) := by decide +kernel
theorem dX11_leans_22 : decode cX11_leans 22 = .ok (.iconst 1, 1) := by decide +kernel
theorem dX11_leans_23 : decode cX11_leans 23 = .ok (.if_icmp .ne 7, 3) := by decide +kernel
theorem dX11_leans_26 : decode cX11_leans 26 = .ok (.iconst 1, 1) := by decide +kernel
theorem dX11_leans_27 : decode cX11_leans 27 = .ok (.goto 4, 3) := by decide +kernel
theorem dX11_leans_30 : decode cX11_leans 30 = .ok (.iconst 0, 1) := by decide +kernel
theorem dX11_leans_31 : decode cX11_leans 31 = .ok (.invokevirtual 138, 3) := by decide +kernel
theorem dX11_leans_34 : decode cX11_leans 34 = .ok (.goto 5, 3) := by decide +kernel
theorem dX11_leans_37 : decode cX11_leans 37 = .ok (.ldc 106, 2) := by decide +kernel
theorem dX11_leans_39 : decode cX11_leans 39 = .ok (.ireturn, 1) := by decide +kernel
theorem dX11_dip_0 : decode cX11_dip 0 = .ok (.aload_n 0, 1) := by decide +kernel
theorem dX11_dip_1 : decode cX11_dip 1 = .ok (.iload_n 1, 1) := by decide +kernel
theorem dX11_dip_2 : decode cX11_dip 2 = .ok (.invokevirtual 101, 3) := by decide +kernel
theorem dX11_dip_5 : decode cX11_dip 5 = .ok (.ifCond .eq 10, 3) := by decide +kernel
theorem dX11_dip_8 : decode cX11_dip 8 = .ok (.iload_n 2, 1) := by decide +kernel
theorem dX11_dip_9 : decode cX11_dip 9 = .ok (.invokestatic 119, 3) := by decide +kernel
theorem dX11_dip_12 : decode cX11_dip 12 = .ok (.ifCond .ne 6, 3) := by decide +kernel
theorem dX11_dip_15 : decode cX11_dip 15 = .ok (.ldc 142, 2) := by decide +kernel
theorem dX11_dip_17 : decode cX11_dip 17 = .ok (.ireturn, 1) := by decide +kernel
theorem dX11_dip_18 : decode cX11_dip 18 = .ok (.aload_n 0, 1) := by decide +kernel
theorem dX11_dip_19 : decode cX11_dip 19 = .ok (.iload_n 2, 1) := by decide +kernel
theorem dX11_dip_20 : decode cX11_dip 20 = .ok (.iconst 0, 1) := by decide +kernel
theorem dX11_dip_21 : decode cX11_dip 21 = .ok (.invokevirtual 138, 3) := by decide +kernel
theorem dX11_dip_24 : decode cX11_dip 24 = .ok (.aload_n 0, 1) := by decide +kernel
theorem dX11_dip_25 : decode cX11_dip 25 = .ok (.iload_n 1, 1) := by decide +kernel
theorem dX11_dip_26 : decode cX11_dip 26 = .ok (.invokevirtual 107, 3) := by decide +kernel
theorem dX11_dip_29 : decode cX11_dip 29 = .ok (.imul, 1) := by decide +kernel
theorem dX11_dip_30 : decode cX11_dip 30 = .ok (.aload_n 0, 1) := by decide +kernel
theorem dX11_dip_31 : decode cX11_dip 31 = .ok (.iload_n 2, 1) := by decide +kernel
theorem dX11_dip_32 : decode cX11_dip 32 = .ok (.iconst 1, 1) := by decide +kernel
theorem dX11_dip_33 : decode cX11_dip 33 = .ok (.invokevirtual 138, 3) := by decide +kernel
theorem dX11_dip_36 : decode cX11_dip 36 = .ok (.aload_n 0, 1) := by decide +kernel
theorem dX11_dip_37 : decode cX11_dip 37 = .ok (.iload_n 1, 1) := by decide +kernel
theorem dX11_dip_38 : decode cX11_dip 38 = .ok (.invokevirtual 110, 3) := by decide +kernel
theorem dX11_dip_41 : decode cX11_dip 41 = .ok (.imul, 1) := by decide +kernel
theorem dX11_dip_42 : decode cX11_dip 42 = .ok (.iadd, 1) := by decide +kernel
theorem dX11_dip_43 : decode cX11_dip 43 = .ok (.ireturn, 1) := by decide +kernel
theorem dX11_wetIn_0 : decode cX11_wetIn 0 = .ok (.aload_n 0, 1) := by decide +kernel
theorem dX11_wetIn_1 : decode cX11_wetIn 1 = .ok (.iload_n 1, 1) := by decide +kernel
theorem dX11_wetIn_2 : decode cX11_wetIn 2 = .ok (.iconst 0, 1) := by decide +kernel
theorem dX11_wetIn_3 : decode cX11_wetIn 3 = .ok (.invokevirtual 138, 3) := by decide +kernel
theorem dX11_wetIn_6 : decode cX11_wetIn 6 = .ok (.istore_n 2, 1) := by decide +kernel
theorem dX11_wetIn_7 : decode cX11_wetIn 7 = .ok (.aload_n 0, 1) := by decide +kernel
theorem dX11_wetIn_8 : decode cX11_wetIn 8 = .ok (.iload_n 1, 1) := by decide +kernel
theorem dX11_wetIn_9 : decode cX11_wetIn 9 = .ok (.iconst 1, 1) := by decide +kernel
theorem dX11_wetIn_10 : decode cX11_wetIn 10 = .ok (.invokevirtual 138, 3) := by decide +kernel
theorem dX11_wetIn_13 : decode cX11_wetIn 13 = .ok (.istore_n 3, 1) := by decide +kernel
theorem dX11_wetIn_14 : decode cX11_wetIn 14 = .ok (.iconst 0, 1) := by decide +kernel
theorem dX11_wetIn_15 : decode cX11_wetIn 15 = .ok (.istore 4, 2) := by decide +kernel
theorem dX11_wetIn_17 : decode cX11_wetIn 17 = .ok (.iconst 0, 1) := by decide +kernel
theorem dX11_wetIn_18 : decode cX11_wetIn 18 = .ok (.istore 5, 2) := by decide +kernel
theorem dX11_wetIn_20 : decode cX11_wetIn 20 = .ok (.iload 5, 2) := by decide +kernel
theorem dX11_wetIn_22 : decode cX11_wetIn 22 = .ok (.aload_n 0, 1) := by decide +kernel
theorem dX11_wetIn_23 : decode cX11_wetIn 23 = .ok (.getfield 92, 3) := by decide +kernel
theorem dX11_wetIn_26 : decode cX11_wetIn 26 = .ok (.if_icmp .ge 74, 3) := by decide +kernel
theorem dX11_wetIn_29 : decode cX11_wetIn 29 = .ok (.aload_n 0, 1) := by decide +kernel
theorem dX11_wetIn_30 : decode cX11_wetIn 30 = .ok (.getfield 7, 3) := by decide +kernel
theorem dX11_wetIn_33 : decode cX11_wetIn 33 = .ok (.iload 5, 2) := by decide +kernel
theorem dX11_wetIn_35 : decode cX11_wetIn 35 = .ok (.iaload, 1) := by decide +kernel
theorem dX11_wetIn_36 : decode cX11_wetIn 36 = .ok (.ifCond .le 37, 3) := by decide +kernel
theorem dX11_wetIn_39 : decode cX11_wetIn 39 = .ok (.iload_n 2, 1) := by decide +kernel
theorem dX11_wetIn_40 : decode cX11_wetIn 40 = .ok (.aload_n 0, 1) := by decide +kernel
theorem dX11_wetIn_41 : decode cX11_wetIn 41 = .ok (.iload 5, 2) := by decide +kernel
theorem dX11_wetIn_43 : decode cX11_wetIn 43 = .ok (.invokevirtual 107, 3) := by decide +kernel
theorem dX11_wetIn_46 : decode cX11_wetIn 46 = .ok (.imul, 1) := by decide +kernel
theorem dX11_wetIn_47 : decode cX11_wetIn 47 = .ok (.iload_n 3, 1) := by decide +kernel
theorem dX11_wetIn_48 : decode cX11_wetIn 48 = .ok (.aload_n 0, 1) := by decide +kernel
theorem dX11_wetIn_49 : decode cX11_wetIn 49 = .ok (.iload 5, 2) := by decide +kernel
theorem dX11_wetIn_51 : decode cX11_wetIn 51 = .ok (.invokevirtual 110, 3) := by decide +kernel
theorem dX11_wetIn_54 : decode cX11_wetIn 54 = .ok (.imul, 1) := by decide +kernel
theorem dX11_wetIn_55 : decode cX11_wetIn 55 = .ok (.iadd, 1) := by decide +kernel
theorem dX11_wetIn_56 : decode cX11_wetIn 56 = .ok (.bipush 50, 2) := by decide +kernel
theorem dX11_wetIn_58 : decode cX11_wetIn 58 = .ok (.aload_n 0, 1) := by decide +kernel
theorem dX11_wetIn_59 : decode cX11_wetIn 59 = .ok (.getfield 7, 3) := by decide +kernel
theorem dX11_wetIn_62 : decode cX11_wetIn 62 = .ok (.iload 5, 2) := by decide +kernel
theorem dX11_wetIn_64 : decode cX11_wetIn 64 = .ok (.iaload, 1) := by decide +kernel
theorem dX11_wetIn_65 : decode cX11_wetIn 65 = .ok (.imul, 1) := by decide +kernel
theorem dX11_wetIn_66 : decode cX11_wetIn 66 = .ok (.if_icmp .lt 7, 3) := by decide +kernel
theorem dX11_wetIn_69 : decode cX11_wetIn 69 = .ok (.iconst 1, 1) := by decide +kernel
theorem dX11_wetIn_70 : decode cX11_wetIn 70 = .ok (.goto 4, 3) := by decide +kernel
theorem dX11_wetIn_73 : decode cX11_wetIn 73 = .ok (.iconst 0, 1) := by decide +kernel
theorem dX11_wetIn_74 : decode cX11_wetIn 74 = .ok (.istore 6, 2) := by decide +kernel
theorem dX11_wetIn_76 : decode cX11_wetIn 76 = .ok (.iload 4, 2) := by decide +kernel
theorem dX11_wetIn_78 : decode cX11_wetIn 78 = .ok (.iload 6, 2) := by decide +kernel
theorem dX11_wetIn_80 : decode cX11_wetIn 80 = .ok (.ifCond .eq 10, 3) := by decide +kernel
theorem dX11_wetIn_83 : decode cX11_wetIn 83 = .ok (.iconst 1, 1) := by decide +kernel
theorem dX11_wetIn_84 : decode cX11_wetIn 84 = .ok (.iload 5, 2) := by decide +kernel
theorem dX11_wetIn_86 : decode cX11_wetIn 86 = .ok (.ishl, 1) := by decide +kernel
theorem dX11_wetIn_87 : decode cX11_wetIn 87 = .ok (.goto 4, 3) := by decide +kernel
theorem dX11_wetIn_90 : decode cX11_wetIn 90 = .ok (.iconst 0, 1) := by decide +kernel
theorem dX11_wetIn_91 : decode cX11_wetIn 91 = .ok (.ior, 1) := by decide +kernel
theorem dX11_wetIn_92 : decode cX11_wetIn 92 = .ok (.istore 4, 2) := by decide +kernel
theorem dX11_wetIn_94 : decode cX11_wetIn 94 = .ok (.iinc 5 1, 3) := by decide +kernel
theorem dX11_wetIn_97 : decode cX11_wetIn 97 = .ok (.goto (-77), 3) := by decide +kernel
theorem dX11_wetIn_100 : decode cX11_wetIn 100 = .ok (.iload 4, 2) := by decide +kernel
theorem dX11_wetIn_102 : decode cX11_wetIn 102 = .ok (.ireturn, 1) := by decide +kernel
theorem dX11_size_0 : decode cX11_size 0 = .ok (.iconst 0, 1) := by decide +kernel
theorem dX11_size_1 : decode cX11_size 1 = .ok (.istore_n 1, 1) := by decide +kernel
theorem dX11_size_2 : decode cX11_size 2 = .ok (.iconst 0, 1) := by decide +kernel
theorem dX11_size_3 : decode cX11_size 3 = .ok (.istore_n 2, 1) := by decide +kernel
theorem dX11_size_4 : decode cX11_size 4 = .ok (.iload_n 2, 1) := by decide +kernel
theorem dX11_size_5 : decode cX11_size 5 = .ok (.bipush 30, 2) := by decide +kernel
theorem dX11_size_7 : decode cX11_size 7 = .ok (.if_icmp .ge 17, 3) := by decide +kernel
theorem dX11_size_10 : decode cX11_size 10 = .ok (.iload_n 1, 1) := by decide +kernel
theorem dX11_size_11 : decode cX11_size 11 = .ok (.iload_n 0, 1) := by decide +kernel
theorem dX11_size_12 : decode cX11_size 12 = .ok (.iload_n 2, 1) := by decide +kernel
theorem dX11_size_13 : decode cX11_size 13 = .ok (.ishr, 1) := by decide +kernel
theorem dX11_size_14 : decode cX11_size 14 = .ok (.iconst 1, 1) := by decide +kernel
theorem dX11_size_15 : decode cX11_size 15 = .ok (.iand, 1) := by decide +kernel
theorem dX11_size_16 : decode cX11_size 16 = .ok (.iadd, 1) := by decide +kernel
theorem dX11_size_17 : decode cX11_size 17 = .ok (.istore_n 1, 1) := by decide +kernel
theorem dX11_size_18 : decode cX11_size 18 = .ok (.iinc 2 1, 3) := by decide +kernel
theorem dX11_size_21 : decode cX11_size 21 = .ok (.goto (-17), 3) := by decide +kernel
theorem dX11_size_24 : decode cX11_size 24 = .ok (.iload_n 1, 1) := by decide +kernel
theorem dX11_size_25 : decode cX11_size 25 = .ok (.ireturn, 1) := by decide +kernel
theorem dX11_wet_0 : decode cX11_wet 0 = .ok (.iload_n 1, 1) := by decide +kernel
theorem dX11_wet_1 : decode cX11_wet 1 = .ok (.invokestatic 119, 3) := by decide +kernel
theorem dX11_wet_4 : decode cX11_wet 4 = .ok (.ifCond .eq 11, 3) := by decide +kernel
theorem dX11_wet_7 : decode cX11_wet 7 = .ok (.aload_n 0, 1) := by decide +kernel
theorem dX11_wet_8 : decode cX11_wet 8 = .ok (.iload_n 1, 1) := by decide +kernel
theorem dX11_wet_9 : decode cX11_wet 9 = .ok (.invokevirtual 143, 3) := by decide +kernel
theorem dX11_wet_12 : decode cX11_wet 12 = .ok (.goto 5, 3) := by decide +kernel
theorem dX11_wet_15 : decode cX11_wet 15 = .ok (.bipush (-101), 2) := by decide +kernel
theorem dX11_wet_17 : decode cX11_wet 17 = .ok (.ireturn, 1) := by decide +kernel
theorem dX11_wetAll_0 : decode cX11_wetAll 0 = .ok (.iconst 0, 1) := by decide +kernel
theorem dX11_wetAll_1 : decode cX11_wetAll 1 = .ok (.istore_n 1, 1) := by decide +kernel
theorem dX11_wetAll_2 : decode cX11_wetAll 2 = .ok (.iconst 0, 1) := by decide +kernel
theorem dX11_wetAll_3 : decode cX11_wetAll 3 = .ok (.istore_n 2, 1) := by decide +kernel
theorem dX11_wetAll_4 : decode cX11_wetAll 4 = .ok (.iload_n 2, 1) := by decide +kernel
theorem dX11_wetAll_5 : decode cX11_wetAll 5 = .ok (.bipush 8, 2) := by decide +kernel
theorem dX11_wetAll_7 : decode cX11_wetAll 7 = .ok (.if_icmp .ge 20, 3) := by decide +kernel
theorem dX11_wetAll_10 : decode cX11_wetAll 10 = .ok (.iload_n 1, 1) := by decide +kernel
theorem dX11_wetAll_11 : decode cX11_wetAll 11 = .ok (.aload_n 0, 1) := by decide +kernel
theorem dX11_wetAll_12 : decode cX11_wetAll 12 = .ok (.iload_n 2, 1) := by decide +kernel
theorem dX11_wetAll_13 : decode cX11_wetAll 13 = .ok (.invokevirtual 143, 3) := by decide +kernel
theorem dX11_wetAll_16 : decode cX11_wetAll 16 = .ok (.invokestatic 146, 3) := by decide +kernel
theorem dX11_wetAll_19 : decode cX11_wetAll 19 = .ok (.iadd, 1) := by decide +kernel
theorem dX11_wetAll_20 : decode cX11_wetAll 20 = .ok (.istore_n 1, 1) := by decide +kernel
theorem dX11_wetAll_21 : decode cX11_wetAll 21 = .ok (.iinc 2 1, 3) := by decide +kernel
theorem dX11_wetAll_24 : decode cX11_wetAll 24 = .ok (.goto (-20), 3) := by decide +kernel
theorem dX11_wetAll_27 : decode cX11_wetAll 27 = .ok (.iload_n 1, 1) := by decide +kernel
theorem dX11_wetAll_28 : decode cX11_wetAll 28 = .ok (.ireturn, 1) := by decide +kernel
theorem dX11_peopleMany_0 : decode cX11_peopleMany 0 = .ok (.iconst 0, 1) := by decide +kernel
theorem dX11_peopleMany_1 : decode cX11_peopleMany 1 = .ok (.istore_n 1, 1) := by decide +kernel
theorem dX11_peopleMany_2 : decode cX11_peopleMany 2 = .ok (.iconst 0, 1) := by decide +kernel
theorem dX11_peopleMany_3 : decode cX11_peopleMany 3 = .ok (.istore_n 2, 1) := by decide +kernel
theorem dX11_peopleMany_4 : decode cX11_peopleMany 4 = .ok (.iload_n 2, 1) := by decide +kernel
theorem dX11_peopleMany_5 : decode cX11_peopleMany 5 = .ok (.aload_n 0, 1) := by decide +kernel
theorem dX11_peopleMany_6 : decode cX11_peopleMany 6 = .ok (.getfield 95, 3) := by decide +kernel
theorem dX11_peopleMany_9 : decode cX11_peopleMany 9 = .ok (.if_icmp .ge 25, 3) := by decide +kernel
theorem dX11_peopleMany_12 : decode cX11_peopleMany 12 = .ok (.iload_n 1, 1) := by decide +kernel
theorem dX11_peopleMany_13 : decode cX11_peopleMany 13 = .ok (.aload_n 0, 1) := by decide +kernel
theorem dX11_peopleMany_14 : decode cX11_peopleMany 14 = .ok (.iload_n 2, 1) := by decide +kernel
theorem dX11_peopleMany_15 : decode cX11_peopleMany 15 = .ok (.invokevirtual 122, 3) := by decide +kernel
theorem dX11_peopleMany_18 : decode cX11_peopleMany 18 = .ok (.ifCond .eq 7, 3) := by decide +kernel
theorem dX11_peopleMany_21 : decode cX11_peopleMany 21 = .ok (.iconst 1, 1) := by decide +kernel
theorem dX11_peopleMany_22 : decode cX11_peopleMany 22 = .ok (.goto 4, 3) := by decide +kernel
theorem dX11_peopleMany_25 : decode cX11_peopleMany 25 = .ok (.iconst 0, 1) := by decide +kernel
theorem dX11_peopleMany_26 : decode cX11_peopleMany 26 = .ok (.iadd, 1) := by decide +kernel
theorem dX11_peopleMany_27 : decode cX11_peopleMany 27 = .ok (.istore_n 1, 1) := by decide +kernel
theorem dX11_peopleMany_28 : decode cX11_peopleMany 28 = .ok (.iinc 2 1, 3) := by decide +kernel
theorem dX11_peopleMany_31 : decode cX11_peopleMany 31 = .ok (.goto (-27), 3) := by decide +kernel
theorem dX11_peopleMany_34 : decode cX11_peopleMany 34 = .ok (.iload_n 1, 1) := by decide +kernel
theorem dX11_peopleMany_35 : decode cX11_peopleMany 35 = .ok (.ireturn, 1) := by decide +kernel
theorem dX11_layPeople_0 : decode cX11_layPeople 0 = .ok (.iconst 0, 1) := by decide +kernel
theorem dX11_layPeople_1 : decode cX11_layPeople 1 = .ok (.istore_n 2, 1) := by decide +kernel
theorem dX11_layPeople_2 : decode cX11_layPeople 2 = .ok (.iconst 0, 1) := by decide +kernel
theorem dX11_layPeople_3 : decode cX11_layPeople 3 = .ok (.istore_n 3, 1) := by decide +kernel
theorem dX11_layPeople_4 : decode cX11_layPeople 4 = .ok (.iload_n 3, 1) := by decide +kernel
theorem dX11_layPeople_5 : decode cX11_layPeople 5 = .ok (.aload_n 0, 1) := by decide +kernel
theorem dX11_layPeople_6 : decode cX11_layPeople 6 = .ok (.getfield 95, 3) := by decide +kernel
theorem dX11_layPeople_9 : decode cX11_layPeople 9 = .ok (.if_icmp .ge 51, 3) := by decide +kernel
theorem dX11_layPeople_12 : decode cX11_layPeople 12 = .ok (.aload_n 0, 1) := by decide +kernel
theorem dX11_layPeople_13 : decode cX11_layPeople 13 = .ok (.iload_n 3, 1) := by decide +kernel
theorem dX11_layPeople_14 : decode cX11_layPeople 14 = .ok (.invokevirtual 122, 3) := by decide +kernel
theorem dX11_layPeople_17 : decode cX11_layPeople 17 = .ok (.ifCond .eq 37, 3) := by decide +kernel
theorem dX11_layPeople_20 : decode cX11_layPeople 20 = .ok (.aload_n 0, 1) := by decide +kernel
theorem dX11_layPeople_21 : decode cX11_layPeople 21 = .ok (.getfield 29, 3) := by decide +kernel
theorem dX11_layPeople_24 : decode cX11_layPeople 24 = .ok (.iload_n 2, 1) := by decide +kernel
theorem dX11_layPeople_25 : decode cX11_layPeople 25 = .ok (.iload_n 3, 1) := by decide +kernel
theorem dX11_layPeople_26 : decode cX11_layPeople 26 = .ok (.iastore, 1) := by decide +kernel
theorem dX11_layPeople_27 : decode cX11_layPeople 27 = .ok (.aload_n 0, 1) := by decide +kernel
theorem dX11_layPeople_28 : decode cX11_layPeople 28 = .ok (.getfield 32, 3) := by decide +kernel
theorem dX11_layPeople_31 : decode cX11_layPeople 31 = .ok (.iload_n 2, 1) := by decide +kernel
theorem dX11_layPeople_32 : decode cX11_layPeople 32 = .ok (.aload_n 0, 1) := by decide +kernel
theorem dX11_layPeople_33 : decode cX11_layPeople 33 = .ok (.getfield 19, 3) := by decide +kernel
theorem dX11_layPeople_36 : decode cX11_layPeople 36 = .ok (.bipush 8, 2) := by decide +kernel
theorem dX11_layPeople_38 : decode cX11_layPeople 38 = .ok (.iload_n 3, 1) := by decide +kernel
theorem dX11_layPeople_39 : decode cX11_layPeople 39 = .ok (.imul, 1) := by decide +kernel
theorem dX11_layPeople_40 : decode cX11_layPeople 40 = .ok (.iload_n 1, 1) := by decide +kernel
theorem dX11_layPeople_41 : decode cX11_layPeople 41 = .ok (.iadd, 1) := by decide +kernel
theorem dX11_layPeople_42 : decode cX11_layPeople 42 = .ok (.iaload, 1) := by decide +kernel
theorem dX11_layPeople_43 : decode cX11_layPeople 43 = .ok (.iastore, 1) := by decide +kernel
theorem dX11_layPeople_44 : decode cX11_layPeople 44 = .ok (.aload_n 0, 1) := by decide +kernel
theorem dX11_layPeople_45 : decode cX11_layPeople 45 = .ok (.getfield 35, 3) := by decide +kernel
theorem dX11_layPeople_48 : decode cX11_layPeople 48 = .ok (.iload_n 2, 1) := by decide +kernel
theorem dX11_layPeople_49 : decode cX11_layPeople 49 = .ok (.iload_n 2, 1) := by decide +kernel
theorem dX11_layPeople_50 : decode cX11_layPeople 50 = .ok (.iastore, 1) := by decide +kernel
theorem dX11_layPeople_51 : decode cX11_layPeople 51 = .ok (.iinc 2 1, 3) := by decide +kernel
theorem dX11_layPeople_54 : decode cX11_layPeople 54 = .ok (.iinc 3 1, 3) := by decide +kernel
theorem dX11_layPeople_57 : decode cX11_layPeople 57 = .ok (.goto (-53), 3) := by decide +kernel
theorem dX11_layPeople_60 : decode cX11_layPeople 60 = .ok (.return_, 1) := by decide +kernel
theorem dX11_exchange_0 : decode cX11_exchange 0 = .ok (.aload_n 0, 1) := by decide +kernel
theorem dX11_exchange_1 : decode cX11_exchange 1 = .ok (.getfield 35, 3) := by decide +kernel
theorem dX11_exchange_4 : decode cX11_exchange 4 = .ok (.iload_n 1, 1) := by decide +kernel
theorem dX11_exchange_5 : decode cX11_exchange 5 = .ok (.iaload, 1) := by decide +kernel
theorem dX11_exchange_6 : decode cX11_exchange 6 = .ok (.istore_n 3, 1) := by decide +kernel
theorem dX11_exchange_7 : decode cX11_exchange 7 = .ok (.aload_n 0, 1) := by decide +kernel
theorem dX11_exchange_8 : decode cX11_exchange 8 = .ok (.getfield 35, 3) := by decide +kernel
theorem dX11_exchange_11 : decode cX11_exchange 11 = .ok (.iload_n 1, 1) := by decide +kernel
theorem dX11_exchange_12 : decode cX11_exchange 12 = .ok (.aload_n 0, 1) := by decide +kernel
theorem dX11_exchange_13 : decode cX11_exchange 13 = .ok (.getfield 35, 3) := by decide +kernel
theorem dX11_exchange_16 : decode cX11_exchange 16 = .ok (.iload_n 2, 1) := by decide +kernel
theorem dX11_exchange_17 : decode cX11_exchange 17 = .ok (.iaload, 1) := by decide +kernel
theorem dX11_exchange_18 : decode cX11_exchange 18 = .ok (.iastore, 1) := by decide +kernel
theorem dX11_exchange_19 : decode cX11_exchange 19 = .ok (.aload_n 0, 1) := by decide +kernel
theorem dX11_exchange_20 : decode cX11_exchange 20 = .ok (.getfield 35, 3) := by decide +kernel
theorem dX11_exchange_23 : decode cX11_exchange 23 = .ok (.iload_n 2, 1) := by decide +kernel
theorem dX11_exchange_24 : decode cX11_exchange 24 = .ok (.iload_n 3, 1) := by decide +kernel
theorem dX11_exchange_25 : decode cX11_exchange 25 = .ok (.iastore, 1) := by decide +kernel
theorem dX11_exchange_26 : decode cX11_exchange 26 = .ok (.return_, 1) := by decide +kernel
theorem dX11_nextTakes_0 : decode cX11_nextTakes 0 = .ok (.iload_n 1, 1) := by decide +kernel
theorem dX11_nextTakes_1 : decode cX11_nextTakes 1 = .ok (.iconst 2, 1) := by decide +kernel
theorem dX11_nextTakes_2 : decode cX11_nextTakes 2 = .ok (.isub, 1) := by decide +kernel
theorem dX11_nextTakes_3 : decode cX11_nextTakes 3 = .ok (.istore_n 2, 1) := by decide +kernel
theorem dX11_nextTakes_4 : decode cX11_nextTakes 4 = .ok (.iload_n 2, 1) := by decide +kernel
theorem dX11_nextTakes_5 : decode cX11_nextTakes 5 = .ok (.ifCond .lt 26, 3) := by decide +kernel
theorem dX11_nextTakes_8 : decode cX11_nextTakes 8 = .ok (.aload_n 0, 1) := by decide +kernel
theorem dX11_nextTakes_9 : decode cX11_nextTakes 9 = .ok (.getfield 35, 3) := by decide +kernel
theorem dX11_nextTakes_12 : decode cX11_nextTakes 12 = .ok (.iload_n 2, 1) := by decide +kernel
theorem dX11_nextTakes_13 : decode cX11_nextTakes 13 = .ok (.iaload, 1) := by decide +kernel
theorem dX11_nextTakes_14 : decode cX11_nextTakes 14 = .ok (.aload_n 0, 1) := by decide +kernel
theorem dX11_nextTakes_15 : decode cX11_nextTakes 15 = .ok (.getfield 35, 3) := by decide +kernel
theorem dX11_nextTakes_18 : decode cX11_nextTakes 18 = .ok (.iload_n 2, 1) := by decide +kernel
theorem dX11_nextTakes_19 : decode cX11_nextTakes 19 = .ok (.iconst 1, 1) := by decide +kernel
theorem dX11_nextTakes_20 : decode cX11_nextTakes 20 = .ok (.iadd, 1) := by decide +kernel
theorem dX11_nextTakes_21 : decode cX11_nextTakes 21 = .ok (.iaload, 1) := by decide +kernel
theorem dX11_nextTakes_22 : decode cX11_nextTakes 22 = .ok (.if_icmp .le 9, 3) := by decide +kernel
theorem dX11_nextTakes_25 : decode cX11_nextTakes 25 = .ok (.iinc 2 (-1), 3) := by decide +kernel
theorem dX11_nextTakes_28 : decode cX11_nextTakes 28 = .ok (.goto (-24), 3) := by decide +kernel
theorem dX11_nextTakes_31 : decode cX11_nextTakes 31 = .ok (.iload_n 2, 1) := by decide +kernel
theorem dX11_nextTakes_32 : decode cX11_nextTakes 32 = .ok (.ifCond .ge 5, 3) := by decide +kernel
theorem dX11_nextTakes_35 : decode cX11_nextTakes 35 = .ok (.iconst 0, 1) := by decide +kernel
theorem dX11_nextTakes_36 : decode cX11_nextTakes 36 = .ok (.ireturn, 1) := by decide +kernel
theorem dX11_nextTakes_37 : decode cX11_nextTakes 37 = .ok (.iload_n 1, 1) := by decide +kernel
theorem dX11_nextTakes_38 : decode cX11_nextTakes 38 = .ok (.iconst 1, 1) := by decide +kernel
theorem dX11_nextTakes_39 : decode cX11_nextTakes 39 = .ok (.isub, 1) := by decide +kernel
theorem dX11_nextTakes_40 : decode cX11_nextTakes 40 = .ok (.istore_n 3, 1) := by decide +kernel
theorem dX11_nextTakes_41 : decode cX11_nextTakes 41 = .ok (.aload_n 0, 1) := by decide +kernel
theorem dX11_nextTakes_42 : decode cX11_nextTakes 42 = .ok (.getfield 35, 3) := by decide +kernel
theorem dX11_nextTakes_45 : decode cX11_nextTakes 45 = .ok (.iload_n 3, 1) := by decide +kernel
theorem dX11_nextTakes_46 : decode cX11_nextTakes 46 = .ok (.iaload, 1) := by decide +kernel
theorem dX11_nextTakes_47 : decode cX11_nextTakes 47 = .ok (.aload_n 0, 1) := by decide +kernel
theorem dX11_nextTakes_48 : decode cX11_nextTakes 48 = .ok (.getfield 35, 3) := by decide +kernel
theorem dX11_nextTakes_51 : decode cX11_nextTakes 51 = .ok (.iload_n 2, 1) := by decide +kernel
theorem dX11_nextTakes_52 : decode cX11_nextTakes 52 = .ok (.iaload, 1) := by decide +kernel
theorem dX11_nextTakes_53 : decode cX11_nextTakes 53 = .ok (.if_icmp .ge 9, 3) := by decide +kernel
theorem dX11_nextTakes_56 : decode cX11_nextTakes 56 = .ok (.iinc 3 (-1), 3) := by decide +kernel
theorem dX11_nextTakes_59 : decode cX11_nextTakes 59 = .ok (.goto (-18), 3) := by decide +kernel
theorem dX11_nextTakes_62 : decode cX11_nextTakes 62 = .ok (.aload_n 0, 1) := by decide +kernel
theorem dX11_nextTakes_63 : decode cX11_nextTakes 63 = .ok (.iload_n 2, 1) := by decide +kernel
theorem dX11_nextTakes_64 : decode cX11_nextTakes 64 = .ok (.iload_n 3, 1) := by decide +kernel
theorem dX11_nextTakes_65 : decode cX11_nextTakes 65 = .ok (.invokevirtual 149, 3) := by decide +kernel
theorem dX11_nextTakes_68 : decode cX11_nextTakes 68 = .ok (.iload_n 2, 1) := by decide +kernel
theorem dX11_nextTakes_69 : decode cX11_nextTakes 69 = .ok (.iconst 1, 1) := by decide +kernel
theorem dX11_nextTakes_70 : decode cX11_nextTakes 70 = .ok (.iadd, 1) := by decide +kernel
theorem dX11_nextTakes_71 : decode cX11_nextTakes 71 = .ok (.istore 4, 2) := by decide +kernel
theorem dX11_nextTakes_73 : decode cX11_nextTakes 73 = .ok (.iload 4, 2) := by decide +kernel
theorem dX11_nextTakes_75 : decode cX11_nextTakes 75 = .ok (.iload_n 1, 1) := by decide +kernel
theorem dX11_nextTakes_76 : decode cX11_nextTakes 76 = .ok (.iload 4, 2) := by decide +kernel
theorem dX11_nextTakes_78 : decode cX11_nextTakes 78 = .ok (.isub, 1) := by decide +kernel
theorem dX11_nextTakes_79 : decode cX11_nextTakes 79 = .ok (.iload_n 2, 1) := by decide +kernel
theorem dX11_nextTakes_80 : decode cX11_nextTakes 80 = .ok (.iadd, 1) := by decide +kernel
theorem dX11_nextTakes_81 : decode cX11_nextTakes 81 = .ok (.if_icmp .ge 21, 3) := by decide +kernel
theorem dX11_nextTakes_84 : decode cX11_nextTakes 84 = .ok (.aload_n 0, 1) := by decide +kernel
theorem dX11_nextTakes_85 : decode cX11_nextTakes 85 = .ok (.iload 4, 2) := by decide +kernel
theorem dX11_nextTakes_87 : decode cX11_nextTakes 87 = .ok (.iload_n 1, 1) := by decide +kernel
theorem dX11_nextTakes_88 : decode cX11_nextTakes 88 = .ok (.iload 4, 2) := by decide +kernel
theorem dX11_nextTakes_90 : decode cX11_nextTakes 90 = .ok (.isub, 1) := by decide +kernel
theorem dX11_nextTakes_91 : decode cX11_nextTakes 91 = .ok (.iload_n 2, 1) := by decide +kernel
theorem dX11_nextTakes_92 : decode cX11_nextTakes 92 = .ok (.iadd, 1) := by decide +kernel
theorem dX11_nextTakes_93 : decode cX11_nextTakes 93 = .ok (.invokevirtual 149, 3) := by decide +kernel
theorem dX11_nextTakes_96 : decode cX11_nextTakes 96 = .ok (.iinc 4 1, 3) := by decide +kernel
theorem dX11_nextTakes_99 : decode cX11_nextTakes 99 = .ok (.goto (-26), 3) := by decide +kernel
theorem dX11_nextTakes_102 : decode cX11_nextTakes 102 = .ok (.iconst 1, 1) := by decide +kernel
theorem dX11_nextTakes_103 : decode cX11_nextTakes 103 = .ok (.ireturn, 1) := by decide +kernel
theorem dX11_tryTrade_0 : decode cX11_tryTrade 0 = .ok (.iconst 0, 1) := by decide +kernel
theorem dX11_tryTrade_1 : decode cX11_tryTrade 1 = .ok (.istore_n 3, 1) := by decide +kernel
theorem dX11_tryTrade_2 : decode cX11_tryTrade 2 = .ok (.iconst 0, 1) := by decide +kernel
theorem dX11_tryTrade_3 : decode cX11_tryTrade 3 = .ok (.istore 4, 2) := by decide +kernel
theorem dX11_tryTrade_5 : decode cX11_tryTrade 5 = .ok (.iload 4, 2) := by decide +kernel
theorem dX11_tryTrade_7 : decode cX11_tryTrade 7 = .ok (.iload_n 2, 1) := by decide +kernel
theorem dX11_tryTrade_8 : decode cX11_tryTrade 8 = .ok (.if_icmp .ge 68, 3) := by decide +kernel
theorem dX11_tryTrade_11 : decode cX11_tryTrade 11 = .ok (.aload_n 0, 1) := by decide +kernel
theorem dX11_tryTrade_12 : decode cX11_tryTrade 12 = .ok (.getfield 19, 3) := by decide +kernel
theorem dX11_tryTrade_15 : decode cX11_tryTrade 15 = .ok (.bipush 8, 2) := by decide +kernel
theorem dX11_tryTrade_17 : decode cX11_tryTrade 17 = .ok (.aload_n 0, 1) := by decide +kernel
theorem dX11_tryTrade_18 : decode cX11_tryTrade 18 = .ok (.getfield 29, 3) := by decide +kernel
theorem dX11_tryTrade_21 : decode cX11_tryTrade 21 = .ok (.iload 4, 2) := by decide +kernel
theorem dX11_tryTrade_23 : decode cX11_tryTrade 23 = .ok (.iaload, 1) := by decide +kernel
theorem dX11_tryTrade_24 : decode cX11_tryTrade 24 = .ok (.imul, 1) := by decide +kernel
theorem dX11_tryTrade_25 : decode cX11_tryTrade 25 = .ok (.iload_n 1, 1) := by decide +kernel
theorem dX11_tryTrade_26 : decode cX11_tryTrade 26 = .ok (.iadd, 1) := by decide +kernel
theorem dX11_tryTrade_27 : decode cX11_tryTrade 27 = .ok (.aload_n 0, 1) := by decide +kernel
theorem dX11_tryTrade_28 : decode cX11_tryTrade 28 = .ok (.getfield 32, 3) := by decide +kernel
theorem dX11_tryTrade_31 : decode cX11_tryTrade 31 = .ok (.aload_n 0, 1) := by decide +kernel
theorem dX11_tryTrade_32 : decode cX11_tryTrade 32 = .ok (.getfield 35, 3) := by decide +kernel
theorem dX11_tryTrade_35 : decode cX11_tryTrade 35 = .ok (.iload 4, 2) := by decide +kernel
theorem dX11_tryTrade_37 : decode cX11_tryTrade 37 = .ok (.iaload, 1) := by decide +kernel
theorem dX11_tryTrade_38 : decode cX11_tryTrade 38 = .ok (.iaload, 1) := by decide +kernel
theorem dX11_tryTrade_39 : decode cX11_tryTrade 39 = .ok (.iastore, 1) := by decide +kernel
theorem dX11_tryTrade_40 : decode cX11_tryTrade 40 = .ok (.iload_n 3, 1) := by decide +kernel
theorem dX11_tryTrade_41 : decode cX11_tryTrade 41 = .ok (.aload_n 0, 1) := by decide +kernel
theorem dX11_tryTrade_42 : decode cX11_tryTrade 42 = .ok (.getfield 32, 3) := by decide +kernel
theorem dX11_tryTrade_45 : decode cX11_tryTrade 45 = .ok (.aload_n 0, 1) := by decide +kernel
theorem dX11_tryTrade_46 : decode cX11_tryTrade 46 = .ok (.getfield 35, 3) := by decide +kernel
theorem dX11_tryTrade_49 : decode cX11_tryTrade 49 = .ok (.iload 4, 2) := by decide +kernel
theorem dX11_tryTrade_51 : decode cX11_tryTrade 51 = .ok (.iaload, 1) := by decide +kernel
theorem dX11_tryTrade_52 : decode cX11_tryTrade 52 = .ok (.iaload, 1) := by decide +kernel
theorem dX11_tryTrade_53 : decode cX11_tryTrade 53 = .ok (.aload_n 0, 1) := by decide +kernel
theorem dX11_tryTrade_54 : decode cX11_tryTrade 54 = .ok (.getfield 32, 3) := by decide +kernel
theorem dX11_tryTrade_57 : decode cX11_tryTrade 57 = .ok (.iload 4, 2) := by decide +kernel
theorem dX11_tryTrade_59 : decode cX11_tryTrade 59 = .ok (.iaload, 1) := by decide +kernel
theorem dX11_tryTrade_60 : decode cX11_tryTrade 60 = .ok (.if_icmp .ne 7, 3) := by decide +kernel
theorem dX11_tryTrade_63 : decode cX11_tryTrade 63 = .ok (.iconst 0, 1) := by decide +kernel
theorem dX11_tryTrade_64 : decode cX11_tryTrade 64 = .ok (.goto 4, 3) := by decide +kernel
theorem dX11_tryTrade_67 : decode cX11_tryTrade 67 = .ok (.iconst 1, 1) := by decide +kernel
theorem dX11_tryTrade_68 : decode cX11_tryTrade 68 = .ok (.iadd, 1) := by decide +kernel
theorem dX11_tryTrade_69 : decode cX11_tryTrade 69 = .ok (.istore_n 3, 1) := by decide +kernel
theorem dX11_tryTrade_70 : decode cX11_tryTrade 70 = .ok (.iinc 4 1, 3) := by decide +kernel
theorem dX11_tryTrade_73 : decode cX11_tryTrade 73 = .ok (.goto (-68), 3) := by decide +kernel
theorem dX11_tryTrade_76 : decode cX11_tryTrade 76 = .ok (.aload_n 0, 1) := by decide +kernel
theorem dX11_tryTrade_77 : decode cX11_tryTrade 77 = .ok (.iload_n 1, 1) := by decide +kernel
theorem dX11_tryTrade_78 : decode cX11_tryTrade 78 = .ok (.invokevirtual 143, 3) := by decide +kernel
theorem dX11_tryTrade_81 : decode cX11_tryTrade 81 = .ok (.invokestatic 146, 3) := by decide +kernel
theorem dX11_tryTrade_84 : decode cX11_tryTrade 84 = .ok (.istore 4, 2) := by decide +kernel
theorem dX11_tryTrade_86 : decode cX11_tryTrade 86 = .ok (.iload 4, 2) := by decide +kernel
theorem dX11_tryTrade_88 : decode cX11_tryTrade 88 = .ok (.aload_n 0, 1) := by decide +kernel
theorem dX11_tryTrade_89 : decode cX11_tryTrade 89 = .ok (.getfield 152, 3) := by decide +kernel
theorem dX11_tryTrade_92 : decode cX11_tryTrade 92 = .ok (.if_icmp .lt 20, 3) := by decide +kernel
theorem dX11_tryTrade_95 : decode cX11_tryTrade 95 = .ok (.iload 4, 2) := by decide +kernel
theorem dX11_tryTrade_97 : decode cX11_tryTrade 97 = .ok (.aload_n 0, 1) := by decide +kernel
theorem dX11_tryTrade_98 : decode cX11_tryTrade 98 = .ok (.getfield 152, 3) := by decide +kernel
theorem dX11_tryTrade_101 : decode cX11_tryTrade 101 = .ok (.if_icmp .ne 56, 3) := by decide +kernel
theorem dX11_tryTrade_104 : decode cX11_tryTrade 104 = .ok (.iload_n 3, 1) := by decide +kernel
theorem dX11_tryTrade_105 : decode cX11_tryTrade 105 = .ok (.aload_n 0, 1) := by decide +kernel
theorem dX11_tryTrade_106 : decode cX11_tryTrade 106 = .ok (.getfield 155, 3) := by decide +kernel
theorem dX11_tryTrade_109 : decode cX11_tryTrade 109 = .ok (.if_icmp .ge 48, 3) := by decide +kernel
theorem dX11_tryTrade_112 : decode cX11_tryTrade 112 = .ok (.aload_n 0, 1) := by decide +kernel
theorem dX11_tryTrade_113 : decode cX11_tryTrade 113 = .ok (.iload 4, 2) := by decide +kernel
theorem dX11_tryTrade_115 : decode cX11_tryTrade 115 = .ok (.putfield 152, 3) := by decide +kernel
theorem dX11_tryTrade_118 : decode cX11_tryTrade 118 = .ok (.aload_n 0, 1) := by decide +kernel
theorem dX11_tryTrade_119 : decode cX11_tryTrade 119 = .ok (.iload_n 3, 1) := by decide +kernel
theorem dX11_tryTrade_120 : decode cX11_tryTrade 120 = .ok (.putfield 155, 3) := by decide +kernel
theorem dX11_tryTrade_123 : decode cX11_tryTrade 123 = .ok (.iconst 0, 1) := by decide +kernel
theorem dX11_tryTrade_124 : decode cX11_tryTrade 124 = .ok (.istore 5, 2) := by decide +kernel
theorem dX11_tryTrade_126 : decode cX11_tryTrade 126 = .ok (.iload 5, 2) := by decide +kernel
theorem dX11_tryTrade_128 : decode cX11_tryTrade 128 = .ok (.iload_n 2, 1) := by decide +kernel
theorem dX11_tryTrade_129 : decode cX11_tryTrade 129 = .ok (.if_icmp .ge 28, 3) := by decide +kernel
theorem dX11_tryTrade_132 : decode cX11_tryTrade 132 = .ok (.aload_n 0, 1) := by decide +kernel
theorem dX11_tryTrade_133 : decode cX11_tryTrade 133 = .ok (.getfield 38, 3) := by decide +kernel
theorem dX11_tryTrade_136 : decode cX11_tryTrade 136 = .ok (.iload 5, 2) := by decide +kernel
theorem dX11_tryTrade_138 : decode cX11_tryTrade 138 = .ok (.aload_n 0, 1) := by decide +kernel
theorem dX11_tryTrade_139 : decode cX11_tryTrade 139 = .ok (.getfield 32, 3) := by decide +kernel
theorem dX11_tryTrade_142 : decode cX11_tryTrade 142 = .ok (.aload_n 0, 1) := by decide +kernel
theorem dX11_tryTrade_143 : decode cX11_tryTrade 143 = .ok (.getfield 35, 3) := by decide +kernel
theorem dX11_tryTrade_146 : decode cX11_tryTrade 146 = .ok (.iload 5, 2) := by decide +kernel
theorem dX11_tryTrade_148 : decode cX11_tryTrade 148 = .ok (.iaload, 1) := by decide +kernel
theorem dX11_tryTrade_149 : decode cX11_tryTrade 149 = .ok (.iaload, 1) := by decide +kernel
theorem dX11_tryTrade_150 : decode cX11_tryTrade 150 = .ok (.iastore, 1) := by decide +kernel
theorem dX11_tryTrade_151 : decode cX11_tryTrade 151 = .ok (.iinc 5 1, 3) := by decide +kernel
theorem dX11_tryTrade_154 : decode cX11_tryTrade 154 = .ok (.goto (-28), 3) := by decide +kernel
theorem dX11_tryTrade_157 : decode cX11_tryTrade 157 = .ok (.return_, 1) := by decide +kernel
theorem dX11_tradesNow_0 : decode cX11_tradesNow 0 = .ok (.aload_n 0, 1) := by decide +kernel
theorem dX11_tradesNow_1 : decode cX11_tradesNow 1 = .ok (.invokevirtual 158, 3) := by decide +kernel
theorem dX11_tradesNow_4 : decode cX11_tradesNow 4 = .ok (.istore_n 3, 1) := by decide +kernel
theorem dX11_tradesNow_5 : decode cX11_tradesNow 5 = .ok (.aload_n 0, 1) := by decide +kernel
theorem dX11_tradesNow_6 : decode cX11_tradesNow 6 = .ok (.iload_n 1, 1) := by decide +kernel
theorem dX11_tradesNow_7 : decode cX11_tradesNow 7 = .ok (.invokevirtual 162, 3) := by decide +kernel
theorem dX11_tradesNow_10 : decode cX11_tradesNow 10 = .ok (.aload_n 0, 1) := by decide +kernel
theorem dX11_tradesNow_11 : decode cX11_tradesNow 11 = .ok (.ldc 166, 2) := by decide +kernel
theorem dX11_tradesNow_13 : decode cX11_tradesNow 13 = .ok (.putfield 152, 3) := by decide +kernel
theorem dX11_tradesNow_16 : decode cX11_tradesNow 16 = .ok (.aload_n 0, 1) := by decide +kernel
theorem dX11_tradesNow_17 : decode cX11_tradesNow 17 = .ok (.ldc 166, 2) := by decide +kernel
theorem dX11_tradesNow_19 : decode cX11_tradesNow 19 = .ok (.putfield 155, 3) := by decide +kernel
theorem dX11_tradesNow_22 : decode cX11_tradesNow 22 = .ok (.iconst 1, 1) := by decide +kernel
theorem dX11_tradesNow_23 : decode cX11_tradesNow 23 = .ok (.istore 4, 2) := by decide +kernel
theorem dX11_tradesNow_25 : decode cX11_tradesNow 25 = .ok (.iload 4, 2) := by decide +kernel
theorem dX11_tradesNow_27 : decode cX11_tradesNow 27 = .ok (.ifCond .eq 19, 3) := by decide +kernel
theorem dX11_tradesNow_30 : decode cX11_tradesNow 30 = .ok (.aload_n 0, 1) := by decide +kernel
theorem dX11_tradesNow_31 : decode cX11_tradesNow 31 = .ok (.iload_n 1, 1) := by decide +kernel
theorem dX11_tradesNow_32 : decode cX11_tradesNow 32 = .ok (.iload_n 3, 1) := by decide +kernel
theorem dX11_tradesNow_33 : decode cX11_tradesNow 33 = .ok (.invokevirtual 167, 3) := by decide +kernel
theorem dX11_tradesNow_36 : decode cX11_tradesNow 36 = .ok (.aload_n 0, 1) := by decide +kernel
theorem dX11_tradesNow_37 : decode cX11_tradesNow 37 = .ok (.iload_n 3, 1) := by decide +kernel
theorem dX11_tradesNow_38 : decode cX11_tradesNow 38 = .ok (.invokevirtual 170, 3) := by decide +kernel
theorem dX11_tradesNow_41 : decode cX11_tradesNow 41 = .ok (.istore 4, 2) := by decide +kernel
theorem dX11_tradesNow_43 : decode cX11_tradesNow 43 = .ok (.goto (-18), 3) := by decide +kernel
theorem dX11_tradesNow_46 : decode cX11_tradesNow 46 = .ok (.iconst (-1), 1) := by decide +kernel
theorem dX11_tradesNow_47 : decode cX11_tradesNow 47 = .ok (.istore 5, 2) := by decide +kernel
theorem dX11_tradesNow_49 : decode cX11_tradesNow 49 = .ok (.iconst 0, 1) := by decide +kernel
theorem dX11_tradesNow_50 : decode cX11_tradesNow 50 = .ok (.istore 6, 2) := by decide +kernel
theorem dX11_tradesNow_52 : decode cX11_tradesNow 52 = .ok (.iload 6, 2) := by decide +kernel
theorem dX11_tradesNow_54 : decode cX11_tradesNow 54 = .ok (.iload_n 3, 1) := by decide +kernel
theorem dX11_tradesNow_55 : decode cX11_tradesNow 55 = .ok (.if_icmp .ge 61, 3) := by decide +kernel
theorem dX11_tradesNow_58 : decode cX11_tradesNow 58 = .ok (.aload_n 0, 1) := by decide +kernel
theorem dX11_tradesNow_59 : decode cX11_tradesNow 59 = .ok (.getfield 19, 3) := by decide +kernel
theorem dX11_tradesNow_62 : decode cX11_tradesNow 62 = .ok (.bipush 8, 2) := by decide +kernel
theorem dX11_tradesNow_64 : decode cX11_tradesNow 64 = .ok (.aload_n 0, 1) := by decide +kernel
theorem dX11_tradesNow_65 : decode cX11_tradesNow 65 = .ok (.getfield 29, 3) := by decide +kernel
theorem dX11_tradesNow_68 : decode cX11_tradesNow 68 = .ok (.iload 6, 2) := by decide +kernel
theorem dX11_tradesNow_70 : decode cX11_tradesNow 70 = .ok (.iaload, 1) := by decide +kernel
theorem dX11_tradesNow_71 : decode cX11_tradesNow 71 = .ok (.imul, 1) := by decide +kernel
theorem dX11_tradesNow_72 : decode cX11_tradesNow 72 = .ok (.iload_n 1, 1) := by decide +kernel
theorem dX11_tradesNow_73 : decode cX11_tradesNow 73 = .ok (.iadd, 1) := by decide +kernel
theorem dX11_tradesNow_74 : decode cX11_tradesNow 74 = .ok (.aload_n 0, 1) := by decide +kernel
theorem dX11_tradesNow_75 : decode cX11_tradesNow 75 = .ok (.getfield 32, 3) := by decide +kernel
theorem dX11_tradesNow_78 : decode cX11_tradesNow 78 = .ok (.iload 6, 2) := by decide +kernel
theorem dX11_tradesNow_80 : decode cX11_tradesNow 80 = .ok (.iaload, 1) := by decide +kernel
theorem dX11_tradesNow_81 : decode cX11_tradesNow 81 = .ok (.iastore, 1) := by decide +kernel
theorem dX11_tradesNow_82 : decode cX11_tradesNow 82 = .ok (.aload_n 0, 1) := by decide +kernel
theorem dX11_tradesNow_83 : decode cX11_tradesNow 83 = .ok (.getfield 29, 3) := by decide +kernel
theorem dX11_tradesNow_86 : decode cX11_tradesNow 86 = .ok (.iload 6, 2) := by decide +kernel
theorem dX11_tradesNow_88 : decode cX11_tradesNow 88 = .ok (.iaload, 1) := by decide +kernel
theorem dX11_tradesNow_89 : decode cX11_tradesNow 89 = .ok (.iload_n 2, 1) := by decide +kernel
theorem dX11_tradesNow_90 : decode cX11_tradesNow 90 = .ok (.bipush 10, 2) := by decide +kernel
theorem dX11_tradesNow_92 : decode cX11_tradesNow 92 = .ok (.isub, 1) := by decide +kernel
theorem dX11_tradesNow_93 : decode cX11_tradesNow 93 = .ok (.if_icmp .ne 13, 3) := by decide +kernel
theorem dX11_tradesNow_96 : decode cX11_tradesNow 96 = .ok (.aload_n 0, 1) := by decide +kernel
theorem dX11_tradesNow_97 : decode cX11_tradesNow 97 = .ok (.getfield 38, 3) := by decide +kernel
theorem dX11_tradesNow_100 : decode cX11_tradesNow 100 = .ok (.iload 6, 2) := by decide +kernel
theorem dX11_tradesNow_102 : decode cX11_tradesNow 102 = .ok (.iaload, 1) := by decide +kernel
theorem dX11_tradesNow_103 : decode cX11_tradesNow 103 = .ok (.goto 5, 3) := by decide +kernel
theorem dX11_tradesNow_106 : decode cX11_tradesNow 106 = .ok (.iload 5, 2) := by decide +kernel
theorem dX11_tradesNow_108 : decode cX11_tradesNow 108 = .ok (.istore 5, 2) := by decide +kernel
theorem dX11_tradesNow_110 : decode cX11_tradesNow 110 = .ok (.iinc 6 1, 3) := by decide +kernel
theorem dX11_tradesNow_113 : decode cX11_tradesNow 113 = .ok (.goto (-61), 3) := by decide +kernel
theorem dX11_tradesNow_116 : decode cX11_tradesNow 116 = .ok (.iload_n 2, 1) := by decide +kernel
theorem dX11_tradesNow_117 : decode cX11_tradesNow 117 = .ok (.ifCond .ne 10, 3) := by decide +kernel
theorem dX11_tradesNow_120 : decode cX11_tradesNow 120 = .ok (.aload_n 0, 1) := by decide +kernel
theorem dX11_tradesNow_121 : decode cX11_tradesNow 121 = .ok (.getfield 152, 3) := by decide +kernel
theorem dX11_tradesNow_124 : decode cX11_tradesNow 124 = .ok (.goto 17, 3) := by decide +kernel
theorem dX11_tradesNow_127 : decode cX11_tradesNow 127 = .ok (.iload_n 2, 1) := by decide +kernel
theorem dX11_tradesNow_128 : decode cX11_tradesNow 128 = .ok (.iconst 1, 1) := by decide +kernel
theorem dX11_tradesNow_129 : decode cX11_tradesNow 129 = .ok (.if_icmp .ne 10, 3) := by decide +kernel
theorem dX11_tradesNow_132 : decode cX11_tradesNow 132 = .ok (.aload_n 0, 1) := by decide +kernel
theorem dX11_tradesNow_133 : decode cX11_tradesNow 133 = .ok (.getfield 155, 3) := by decide +kernel
theorem dX11_tradesNow_136 : decode cX11_tradesNow 136 = .ok (.goto 5, 3) := by decide +kernel
theorem dX11_tradesNow_139 : decode cX11_tradesNow 139 = .ok (.iload 5, 2) := by decide +kernel
theorem dX11_tradesNow_141 : decode cX11_tradesNow 141 = .ok (.ireturn, 1) := by decide +kernel
theorem dX11_trades_0 : decode cX11_trades 0 = .ok (.iload_n 1, 1) := by decide +kernel
theorem dX11_trades_1 : decode cX11_trades 1 = .ok (.invokestatic 119, 3) := by decide +kernel
theorem dX11_trades_4 : decode cX11_trades 4 = .ok (.ifCond .ne 6, 3) := by decide +kernel
theorem dX11_trades_7 : decode cX11_trades 7 = .ok (.bipush (-101), 2) := by decide +kernel
theorem dX11_trades_9 : decode cX11_trades 9 = .ok (.ireturn, 1) := by decide +kernel
theorem dX11_trades_10 : decode cX11_trades 10 = .ok (.iload_n 2, 1) := by decide +kernel
theorem dX11_trades_11 : decode cX11_trades 11 = .ok (.iconst 0, 1) := by decide +kernel
theorem dX11_trades_12 : decode cX11_trades 12 = .ok (.iconst 1, 1) := by decide +kernel
theorem dX11_trades_13 : decode cX11_trades 13 = .ok (.invokestatic 65, 3) := by decide +kernel
theorem dX11_trades_16 : decode cX11_trades 16 = .ok (.ifCond .ne 17, 3) := by decide +kernel
theorem dX11_trades_19 : decode cX11_trades 19 = .ok (.iload_n 2, 1) := by decide +kernel
theorem dX11_trades_20 : decode cX11_trades 20 = .ok (.bipush 10, 2) := by decide +kernel
theorem dX11_trades_22 : decode cX11_trades 22 = .ok (.bipush 17, 2) := by decide +kernel
theorem dX11_trades_24 : decode cX11_trades 24 = .ok (.invokestatic 65, 3) := by decide +kernel
theorem dX11_trades_27 : decode cX11_trades 27 = .ok (.ifCond .ne 6, 3) := by decide +kernel
theorem dX11_trades_30 : decode cX11_trades 30 = .ok (.bipush (-102), 2) := by decide +kernel
theorem dX11_trades_32 : decode cX11_trades 32 = .ok (.ireturn, 1) := by decide +kernel
theorem dX11_trades_33 : decode cX11_trades 33 = .ok (.aload_n 0, 1) := by decide +kernel
theorem dX11_trades_34 : decode cX11_trades 34 = .ok (.getfield 92, 3) := by decide +kernel
theorem dX11_trades_37 : decode cX11_trades 37 = .ok (.ifCond .eq 21, 3) := by decide +kernel
theorem dX11_trades_40 : decode cX11_trades 40 = .ok (.aload_n 0, 1) := by decide +kernel
theorem dX11_trades_41 : decode cX11_trades 41 = .ok (.invokevirtual 158, 3) := by decide +kernel
theorem dX11_trades_44 : decode cX11_trades 44 = .ok (.bipush 6, 2) := by decide +kernel
theorem dX11_trades_46 : decode cX11_trades 46 = .ok (.if_icmp .gt 12, 3) := by decide +kernel
theorem dX11_trades_49 : decode cX11_trades 49 = .ok (.aload_n 0, 1) := by decide +kernel
theorem dX11_trades_50 : decode cX11_trades 50 = .ok (.getfield 173, 3) := by decide +kernel
theorem dX11_trades_53 : decode cX11_trades 53 = .ok (.bipush 30, 2) := by decide +kernel
theorem dX11_trades_55 : decode cX11_trades 55 = .ok (.if_icmp .ne 6, 3) := by decide +kernel
theorem dX11_trades_58 : decode cX11_trades 58 = .ok (.bipush (-103), 2) := by decide +kernel
theorem dX11_trades_60 : decode cX11_trades 60 = .ok (.ireturn, 1) := by decide +kernel
theorem dX11_trades_61 : decode cX11_trades 61 = .ok (.aload_n 0, 1) := by decide +kernel
theorem dX11_trades_62 : decode cX11_trades 62 = .ok (.dup, 1) := by decide +kernel
theorem dX11_trades_63 : decode cX11_trades 63 = .ok (.getfield 173, 3) := by decide +kernel
theorem dX11_trades_66 : decode cX11_trades 66 = .ok (.iconst 1, 1) := by decide +kernel
theorem dX11_trades_67 : decode cX11_trades 67 = .ok (.iadd, 1) := by decide +kernel
theorem dX11_trades_68 : decode cX11_trades 68 = .ok (.putfield 173, 3) := by decide +kernel
theorem dX11_trades_71 : decode cX11_trades 71 = .ok (.aload_n 0, 1) := by decide +kernel
theorem dX11_trades_72 : decode cX11_trades 72 = .ok (.iload_n 1, 1) := by decide +kernel
theorem dX11_trades_73 : decode cX11_trades 73 = .ok (.iload_n 2, 1) := by decide +kernel
theorem dX11_trades_74 : decode cX11_trades 74 = .ok (.invokevirtual 176, 3) := by decide +kernel
theorem dX11_trades_77 : decode cX11_trades 77 = .ok (.ireturn, 1) := by decide +kernel
theorem dX11_besideOf_0 : decode cX11_besideOf 0 = .ok (.iload_n 2, 1) := by decide +kernel
theorem dX11_besideOf_1 : decode cX11_besideOf 1 = .ok (.ifCond .ne 22, 3) := by decide +kernel
theorem dX11_besideOf_4 : decode cX11_besideOf 4 = .ok (.iload_n 1, 1) := by decide +kernel
theorem dX11_besideOf_5 : decode cX11_besideOf 5 = .ok (.aload_n 0, 1) := by decide +kernel
theorem dX11_besideOf_6 : decode cX11_besideOf 6 = .ok (.getfield 89, 3) := by decide +kernel
theorem dX11_besideOf_9 : decode cX11_besideOf 9 = .ok (.if_icmp .lt 12, 3) := by decide +kernel
theorem dX11_besideOf_12 : decode cX11_besideOf 12 = .ok (.iload_n 1, 1) := by decide +kernel
theorem dX11_besideOf_13 : decode cX11_besideOf 13 = .ok (.aload_n 0, 1) := by decide +kernel
theorem dX11_besideOf_14 : decode cX11_besideOf 14 = .ok (.getfield 89, 3) := by decide +kernel
theorem dX11_besideOf_17 : decode cX11_besideOf 17 = .ok (.isub, 1) := by decide +kernel
theorem dX11_besideOf_18 : decode cX11_besideOf 18 = .ok (.goto 4, 3) := by decide +kernel
theorem dX11_besideOf_21 : decode cX11_besideOf 21 = .ok (.iconst (-1), 1) := by decide +kernel
theorem dX11_besideOf_22 : decode cX11_besideOf 22 = .ok (.ireturn, 1) := by decide +kernel
theorem dX11_besideOf_23 : decode cX11_besideOf 23 = .ok (.iload_n 2, 1) := by decide +kernel
theorem dX11_besideOf_24 : decode cX11_besideOf 24 = .ok (.iconst 2, 1) := by decide +kernel
theorem dX11_besideOf_25 : decode cX11_besideOf 25 = .ok (.if_icmp .ne 27, 3) := by decide +kernel
theorem dX11_besideOf_28 : decode cX11_besideOf 28 = .ok (.iload_n 1, 1) := by decide +kernel
theorem dX11_besideOf_29 : decode cX11_besideOf 29 = .ok (.aload_n 0, 1) := by decide +kernel
theorem dX11_besideOf_30 : decode cX11_besideOf 30 = .ok (.getfield 89, 3) := by decide +kernel
theorem dX11_besideOf_33 : decode cX11_besideOf 33 = .ok (.iadd, 1) := by decide +kernel
theorem dX11_besideOf_34 : decode cX11_besideOf 34 = .ok (.aload_n 0, 1) := by decide +kernel
theorem dX11_besideOf_35 : decode cX11_besideOf 35 = .ok (.getfield 92, 3) := by decide +kernel
theorem dX11_besideOf_38 : decode cX11_besideOf 38 = .ok (.if_icmp .ge 12, 3) := by decide +kernel
theorem dX11_besideOf_41 : decode cX11_besideOf 41 = .ok (.iload_n 1, 1) := by decide +kernel
theorem dX11_besideOf_42 : decode cX11_besideOf 42 = .ok (.aload_n 0, 1) := by decide +kernel
theorem dX11_besideOf_43 : decode cX11_besideOf 43 = .ok (.getfield 89, 3) := by decide +kernel
theorem dX11_besideOf_46 : decode cX11_besideOf 46 = .ok (.iadd, 1) := by decide +kernel
theorem dX11_besideOf_47 : decode cX11_besideOf 47 = .ok (.goto 4, 3) := by decide +kernel
theorem dX11_besideOf_50 : decode cX11_besideOf 50 = .ok (.iconst (-1), 1) := by decide +kernel
theorem dX11_besideOf_51 : decode cX11_besideOf 51 = .ok (.ireturn, 1) := by decide +kernel
theorem dX11_besideOf_52 : decode cX11_besideOf 52 = .ok (.iload_n 2, 1) := by decide +kernel
theorem dX11_besideOf_53 : decode cX11_besideOf 53 = .ok (.iconst 1, 1) := by decide +kernel
theorem dX11_besideOf_54 : decode cX11_besideOf 54 = .ok (.if_icmp .ne 26, 3) := by decide +kernel
theorem dX11_besideOf_57 : decode cX11_besideOf 57 = .ok (.iload_n 1, 1) := by decide +kernel
theorem dX11_besideOf_58 : decode cX11_besideOf 58 = .ok (.aload_n 0, 1) := by decide +kernel
theorem dX11_besideOf_59 : decode cX11_besideOf 59 = .ok (.getfield 89, 3) := by decide +kernel
theorem dX11_besideOf_62 : decode cX11_besideOf 62 = .ok (.irem, 1) := by decide +kernel
theorem dX11_besideOf_63 : decode cX11_besideOf 63 = .ok (.aload_n 0, 1) := by decide +kernel
theorem dX11_besideOf_64 : decode cX11_besideOf 64 = .ok (.getfield 89, 3) := by decide +kernel
theorem dX11_besideOf_67 : decode cX11_besideOf 67 = .ok (.iconst 1, 1) := by decide +kernel
theorem dX11_besideOf_68 : decode cX11_besideOf 68 = .ok (.isub, 1) := by decide +kernel
theorem dX11_besideOf_69 : decode cX11_besideOf 69 = .ok (.if_icmp .ge 9, 3) := by decide +kernel
theorem dX11_besideOf_72 : decode cX11_besideOf 72 = .ok (.iload_n 1, 1) := by decide +kernel
theorem dX11_besideOf_73 : decode cX11_besideOf 73 = .ok (.iconst 1, 1) := by decide +kernel
theorem dX11_besideOf_74 : decode cX11_besideOf 74 = .ok (.iadd, 1) := by decide +kernel
theorem dX11_besideOf_75 : decode cX11_besideOf 75 = .ok (.goto 4, 3) := by decide +kernel
theorem dX11_besideOf_78 : decode cX11_besideOf 78 = .ok (.iconst (-1), 1) := by decide +kernel
theorem dX11_besideOf_79 : decode cX11_besideOf 79 = .ok (.ireturn, 1) := by decide +kernel
theorem dX11_besideOf_80 : decode cX11_besideOf 80 = .ok (.iload_n 1, 1) := by decide +kernel
theorem dX11_besideOf_81 : decode cX11_besideOf 81 = .ok (.aload_n 0, 1) := by decide +kernel
theorem dX11_besideOf_82 : decode cX11_besideOf 82 = .ok (.getfield 89, 3) := by decide +kernel
theorem dX11_besideOf_85 : decode cX11_besideOf 85 = .ok (.irem, 1) := by decide +kernel
theorem dX11_besideOf_86 : decode cX11_besideOf 86 = .ok (.ifCond .le 9, 3) := by decide +kernel
theorem dX11_besideOf_89 : decode cX11_besideOf 89 = .ok (.iload_n 1, 1) := by decide +kernel
theorem dX11_besideOf_90 : decode cX11_besideOf 90 = .ok (.iconst 1, 1) := by decide +kernel
theorem dX11_besideOf_91 : decode cX11_besideOf 91 = .ok (.isub, 1) := by decide +kernel
theorem dX11_besideOf_92 : decode cX11_besideOf 92 = .ok (.goto 4, 3) := by decide +kernel
theorem dX11_besideOf_95 : decode cX11_besideOf 95 = .ok (.iconst (-1), 1) := by decide +kernel
theorem dX11_besideOf_96 : decode cX11_besideOf 96 = .ok (.ireturn, 1) := by decide +kernel
theorem dX11_layWay_0 : decode cX11_layWay 0 = .ok (.iload_n 1, 1) := by decide +kernel
theorem dX11_layWay_1 : decode cX11_layWay 1 = .ok (.istore 4, 2) := by decide +kernel
theorem dX11_layWay_3 : decode cX11_layWay 3 = .ok (.iconst 0, 1) := by decide +kernel
theorem dX11_layWay_4 : decode cX11_layWay 4 = .ok (.istore 5, 2) := by decide +kernel
theorem dX11_layWay_6 : decode cX11_layWay 6 = .ok (.iload 5, 2) := by decide +kernel
theorem dX11_layWay_8 : decode cX11_layWay 8 = .ok (.bipush 8, 2) := by decide +kernel
theorem dX11_layWay_10 : decode cX11_layWay 10 = .ok (.if_icmp .ge 80, 3) := by decide +kernel
theorem dX11_layWay_13 : decode cX11_layWay 13 = .ok (.iload 5, 2) := by decide +kernel
theorem dX11_layWay_15 : decode cX11_layWay 15 = .ok (.ifCond .le 44, 3) := by decide +kernel
theorem dX11_layWay_18 : decode cX11_layWay 18 = .ok (.iload 5, 2) := by decide +kernel
theorem dX11_layWay_20 : decode cX11_layWay 20 = .ok (.aload_n 0, 1) := by decide +kernel
theorem dX11_layWay_21 : decode cX11_layWay 21 = .ok (.getfield 52, 3) := by decide +kernel
theorem dX11_layWay_24 : decode cX11_layWay 24 = .ok (.if_icmp .gt 35, 3) := by decide +kernel
theorem dX11_layWay_27 : decode cX11_layWay 27 = .ok (.aload_n 0, 1) := by decide +kernel
theorem dX11_layWay_28 : decode cX11_layWay 28 = .ok (.iload 4, 2) := by decide +kernel
theorem dX11_layWay_30 : decode cX11_layWay 30 = .ok (.aload_n 0, 1) := by decide +kernel
theorem dX11_layWay_31 : decode cX11_layWay 31 = .ok (.getfield 22, 3) := by decide +kernel
theorem dX11_layWay_34 : decode cX11_layWay 34 = .ok (.iload 5, 2) := by decide +kernel
theorem dX11_layWay_36 : decode cX11_layWay 36 = .ok (.iconst 1, 1) := by decide +kernel
theorem dX11_layWay_37 : decode cX11_layWay 37 = .ok (.isub, 1) := by decide +kernel
theorem dX11_layWay_38 : decode cX11_layWay 38 = .ok (.baload, 1) := by decide +kernel
theorem dX11_layWay_39 : decode cX11_layWay 39 = .ok (.invokestatic 76, 3) := by decide +kernel
theorem dX11_layWay_42 : decode cX11_layWay 42 = .ok (.iload_n 2, 1) := by decide +kernel
theorem dX11_layWay_43 : decode cX11_layWay 43 = .ok (.iadd, 1) := by decide +kernel
theorem dX11_layWay_44 : decode cX11_layWay 44 = .ok (.iconst 4, 1) := by decide +kernel
theorem dX11_layWay_45 : decode cX11_layWay 45 = .ok (.irem, 1) := by decide +kernel
theorem dX11_layWay_46 : decode cX11_layWay 46 = .ok (.invokevirtual 180, 3) := by decide +kernel
theorem dX11_layWay_49 : decode cX11_layWay 49 = .ok (.istore 4, 2) := by decide +kernel
theorem dX11_layWay_51 : decode cX11_layWay 51 = .ok (.iload 4, 2) := by decide +kernel
theorem dX11_layWay_53 : decode cX11_layWay 53 = .ok (.iconst (-1), 1) := by decide +kernel
theorem dX11_layWay_54 : decode cX11_layWay 54 = .ok (.if_icmp .ne 5, 3) := by decide +kernel
theorem dX11_layWay_57 : decode cX11_layWay 57 = .ok (.iconst 0, 1) := by decide +kernel
theorem dX11_layWay_58 : decode cX11_layWay 58 = .ok (.ireturn, 1) := by decide +kernel
theorem dX11_layWay_59 : decode cX11_layWay 59 = .ok (.iload_n 3, 1) := by decide +kernel
theorem dX11_layWay_60 : decode cX11_layWay 60 = .ok (.ifCond .eq 15, 3) := by decide +kernel
theorem dX11_layWay_63 : decode cX11_layWay 63 = .ok (.aload_n 0, 1) := by decide +kernel
theorem dX11_layWay_64 : decode cX11_layWay 64 = .ok (.getfield 44, 3) := by decide +kernel
theorem dX11_layWay_67 : decode cX11_layWay 67 = .ok (.iload 5, 2) := by decide +kernel
theorem dX11_layWay_69 : decode cX11_layWay 69 = .ok (.iload 4, 2) := by decide +kernel
theorem dX11_layWay_71 : decode cX11_layWay 71 = .ok (.iastore, 1) := by decide +kernel
theorem dX11_layWay_72 : decode cX11_layWay 72 = .ok (.goto 12, 3) := by decide +kernel
theorem dX11_layWay_75 : decode cX11_layWay 75 = .ok (.aload_n 0, 1) := by decide +kernel
theorem dX11_layWay_76 : decode cX11_layWay 76 = .ok (.getfield 41, 3) := by decide +kernel
theorem dX11_layWay_79 : decode cX11_layWay 79 = .ok (.iload 5, 2) := by decide +kernel
theorem dX11_layWay_81 : decode cX11_layWay 81 = .ok (.iload 4, 2) := by decide +kernel
theorem dX11_layWay_83 : decode cX11_layWay 83 = .ok (.iastore, 1) := by decide +kernel
theorem dX11_layWay_84 : decode cX11_layWay 84 = .ok (.iinc 5 1, 3) := by decide +kernel
theorem dX11_layWay_87 : decode cX11_layWay 87 = .ok (.goto (-81), 3) := by decide +kernel
theorem dX11_layWay_90 : decode cX11_layWay 90 = .ok (.iconst 1, 1) := by decide +kernel
theorem dX11_layWay_91 : decode cX11_layWay 91 = .ok (.ireturn, 1) := by decide +kernel
theorem dX11_wetWith_0 : decode cX11_wetWith 0 = .ok (.iconst 0, 1) := by decide +kernel
theorem dX11_wetWith_1 : decode cX11_wetWith 1 = .ok (.istore_n 2, 1) := by decide +kernel
theorem dX11_wetWith_2 : decode cX11_wetWith 2 = .ok (.iconst 0, 1) := by decide +kernel
theorem dX11_wetWith_3 : decode cX11_wetWith 3 = .ok (.istore_n 3, 1) := by decide +kernel
theorem dX11_wetWith_4 : decode cX11_wetWith 4 = .ok (.iload_n 3, 1) := by decide +kernel
theorem dX11_wetWith_5 : decode cX11_wetWith 5 = .ok (.bipush 8, 2) := by decide +kernel
theorem dX11_wetWith_7 : decode cX11_wetWith 7 = .ok (.if_icmp .ge 74, 3) := by decide +kernel
theorem dX11_wetWith_10 : decode cX11_wetWith 10 = .ok (.aload_n 0, 1) := by decide +kernel
theorem dX11_wetWith_11 : decode cX11_wetWith 11 = .ok (.iload_n 1, 1) := by decide +kernel
theorem dX11_wetWith_12 : decode cX11_wetWith 12 = .ok (.aload_n 0, 1) := by decide +kernel
theorem dX11_wetWith_13 : decode cX11_wetWith 13 = .ok (.aload_n 0, 1) := by decide +kernel
theorem dX11_wetWith_14 : decode cX11_wetWith 14 = .ok (.getfield 41, 3) := by decide +kernel
theorem dX11_wetWith_17 : decode cX11_wetWith 17 = .ok (.iload_n 3, 1) := by decide +kernel
theorem dX11_wetWith_18 : decode cX11_wetWith 18 = .ok (.iaload, 1) := by decide +kernel
theorem dX11_wetWith_19 : decode cX11_wetWith 19 = .ok (.invokevirtual 107, 3) := by decide +kernel
theorem dX11_wetWith_22 : decode cX11_wetWith 22 = .ok (.aload_n 0, 1) := by decide +kernel
theorem dX11_wetWith_23 : decode cX11_wetWith 23 = .ok (.aload_n 0, 1) := by decide +kernel
theorem dX11_wetWith_24 : decode cX11_wetWith 24 = .ok (.getfield 44, 3) := by decide +kernel
theorem dX11_wetWith_27 : decode cX11_wetWith 27 = .ok (.iload_n 3, 1) := by decide +kernel
theorem dX11_wetWith_28 : decode cX11_wetWith 28 = .ok (.iaload, 1) := by decide +kernel
theorem dX11_wetWith_29 : decode cX11_wetWith 29 = .ok (.invokevirtual 107, 3) := by decide +kernel
theorem dX11_wetWith_32 : decode cX11_wetWith 32 = .ok (.iadd, 1) := by decide +kernel
theorem dX11_wetWith_33 : decode cX11_wetWith 33 = .ok (.imul, 1) := by decide +kernel
theorem dX11_wetWith_34 : decode cX11_wetWith 34 = .ok (.putfield 132, 3) := by decide +kernel
theorem dX11_wetWith_37 : decode cX11_wetWith 37 = .ok (.aload_n 0, 1) := by decide +kernel
theorem dX11_wetWith_38 : decode cX11_wetWith 38 = .ok (.iload_n 1, 1) := by decide +kernel
theorem dX11_wetWith_39 : decode cX11_wetWith 39 = .ok (.aload_n 0, 1) := by decide +kernel
theorem dX11_wetWith_40 : decode cX11_wetWith 40 = .ok (.aload_n 0, 1) := by decide +kernel
theorem dX11_wetWith_41 : decode cX11_wetWith 41 = .ok (.getfield 41, 3) := by decide +kernel
theorem dX11_wetWith_44 : decode cX11_wetWith 44 = .ok (.iload_n 3, 1) := by decide +kernel
theorem dX11_wetWith_45 : decode cX11_wetWith 45 = .ok (.iaload, 1) := by decide +kernel
theorem dX11_wetWith_46 : decode cX11_wetWith 46 = .ok (.invokevirtual 110, 3) := by decide +kernel
theorem dX11_wetWith_49 : decode cX11_wetWith 49 = .ok (.aload_n 0, 1) := by decide +kernel
theorem dX11_wetWith_50 : decode cX11_wetWith 50 = .ok (.aload_n 0, 1) := by decide +kernel
theorem dX11_wetWith_51 : decode cX11_wetWith 51 = .ok (.getfield 44, 3) := by decide +kernel
theorem dX11_wetWith_54 : decode cX11_wetWith 54 = .ok (.iload_n 3, 1) := by decide +kernel
theorem dX11_wetWith_55 : decode cX11_wetWith 55 = .ok (.iaload, 1) := by decide +kernel
theorem dX11_wetWith_56 : decode cX11_wetWith 56 = .ok (.invokevirtual 110, 3) := by decide +kernel
theorem dX11_wetWith_59 : decode cX11_wetWith 59 = .ok (.iadd, 1) := by decide +kernel
theorem dX11_wetWith_60 : decode cX11_wetWith 60 = .ok (.imul, 1) := by decide +kernel
theorem dX11_wetWith_61 : decode cX11_wetWith 61 = .ok (.putfield 129, 3) := by decide +kernel
theorem dX11_wetWith_64 : decode cX11_wetWith 64 = .ok (.iload_n 2, 1) := by decide +kernel
theorem dX11_wetWith_65 : decode cX11_wetWith 65 = .ok (.aload_n 0, 1) := by decide +kernel
theorem dX11_wetWith_66 : decode cX11_wetWith 66 = .ok (.iload_n 3, 1) := by decide +kernel
theorem dX11_wetWith_67 : decode cX11_wetWith 67 = .ok (.invokevirtual 143, 3) := by decide +kernel
theorem dX11_wetWith_70 : decode cX11_wetWith 70 = .ok (.invokestatic 146, 3) := by decide +kernel
theorem dX11_wetWith_73 : decode cX11_wetWith 73 = .ok (.iadd, 1) := by decide +kernel
theorem dX11_wetWith_74 : decode cX11_wetWith 74 = .ok (.istore_n 2, 1) := by decide +kernel
theorem dX11_wetWith_75 : decode cX11_wetWith 75 = .ok (.iinc 3 1, 3) := by decide +kernel
theorem dX11_wetWith_78 : decode cX11_wetWith 78 = .ok (.goto (-74), 3) := by decide +kernel
theorem dX11_wetWith_81 : decode cX11_wetWith 81 = .ok (.aload_n 0, 1) := by decide +kernel
theorem dX11_wetWith_82 : decode cX11_wetWith 82 = .ok (.iconst 0, 1) := by decide +kernel
theorem dX11_wetWith_83 : decode cX11_wetWith 83 = .ok (.putfield 132, 3) := by decide +kernel
theorem dX11_wetWith_86 : decode cX11_wetWith 86 = .ok (.aload_n 0, 1) := by decide +kernel
theorem dX11_wetWith_87 : decode cX11_wetWith 87 = .ok (.iconst 0, 1) := by decide +kernel
theorem dX11_wetWith_88 : decode cX11_wetWith 88 = .ok (.putfield 129, 3) := by decide +kernel
theorem dX11_wetWith_91 : decode cX11_wetWith 91 = .ok (.iload_n 2, 1) := by decide +kernel
theorem dX11_wetWith_92 : decode cX11_wetWith 92 = .ok (.ireturn, 1) := by decide +kernel
theorem dX11_counter_0 : decode cX11_counter 0 = .ok (.aload_n 0, 1) := by decide +kernel
theorem dX11_counter_1 : decode cX11_counter 1 = .ok (.iload_n 1, 1) := by decide +kernel
theorem dX11_counter_2 : decode cX11_counter 2 = .ok (.invokevirtual 101, 3) := by decide +kernel
theorem dX11_counter_5 : decode cX11_counter 5 = .ok (.ifCond .ne 6, 3) := by decide +kernel
theorem dX11_counter_8 : decode cX11_counter 8 = .ok (.bipush (-101), 2) := by decide +kernel
theorem dX11_counter_10 : decode cX11_counter 10 = .ok (.ireturn, 1) := by decide +kernel
theorem dX11_counter_11 : decode cX11_counter 11 = .ok (.iload_n 2, 1) := by decide +kernel
theorem dX11_counter_12 : decode cX11_counter 12 = .ok (.iconst 1, 1) := by decide +kernel
theorem dX11_counter_13 : decode cX11_counter 13 = .ok (.bipush 99, 2) := by decide +kernel
theorem dX11_counter_15 : decode cX11_counter 15 = .ok (.invokestatic 65, 3) := by decide +kernel
theorem dX11_counter_18 : decode cX11_counter 18 = .ok (.ifCond .eq 12, 3) := by decide +kernel
theorem dX11_counter_21 : decode cX11_counter 21 = .ok (.iload_n 3, 1) := by decide +kernel
theorem dX11_counter_22 : decode cX11_counter 22 = .ok (.iconst 0, 1) := by decide +kernel
theorem dX11_counter_23 : decode cX11_counter 23 = .ok (.iconst 1, 1) := by decide +kernel
theorem dX11_counter_24 : decode cX11_counter 24 = .ok (.invokestatic 65, 3) := by decide +kernel
theorem dX11_counter_27 : decode cX11_counter 27 = .ok (.ifCond .ne 6, 3) := by decide +kernel
theorem dX11_counter_30 : decode cX11_counter 30 = .ok (.bipush (-102), 2) := by decide +kernel
theorem dX11_counter_32 : decode cX11_counter 32 = .ok (.ireturn, 1) := by decide +kernel
theorem dX11_counter_33 : decode cX11_counter 33 = .ok (.aload_n 0, 1) := by decide +kernel
theorem dX11_counter_34 : decode cX11_counter 34 = .ok (.invokevirtual 83, 3) := by decide +kernel
theorem dX11_counter_37 : decode cX11_counter 37 = .ok (.aload_n 0, 1) := by decide +kernel
theorem dX11_counter_38 : decode cX11_counter 38 = .ok (.getfield 72, 3) := by decide +kernel
theorem dX11_counter_41 : decode cX11_counter 41 = .ok (.ifCond .eq 13, 3) := by decide +kernel
theorem dX11_counter_44 : decode cX11_counter 44 = .ok (.aload_n 0, 1) := by decide +kernel
theorem dX11_counter_45 : decode cX11_counter 45 = .ok (.iload_n 1, 1) := by decide +kernel
theorem dX11_counter_46 : decode cX11_counter 46 = .ok (.iconst 0, 1) := by decide +kernel
theorem dX11_counter_47 : decode cX11_counter 47 = .ok (.iconst 0, 1) := by decide +kernel
theorem dX11_counter_48 : decode cX11_counter 48 = .ok (.invokevirtual 183, 3) := by decide +kernel
theorem dX11_counter_51 : decode cX11_counter 51 = .ok (.ifCond .ne 6, 3) := by decide +kernel
theorem dX11_counter_54 : decode cX11_counter 54 = .ok (.bipush (-103), 2) := by decide +kernel
theorem dX11_counter_56 : decode cX11_counter 56 = .ok (.ireturn, 1) := by decide +kernel
theorem dX11_counter_57 : decode cX11_counter 57 = .ok (.iconst (-1), 1) := by decide +kernel
theorem dX11_counter_58 : decode cX11_counter 58 = .ok (.istore 4, 2) := by decide +kernel
theorem dX11_counter_60 : decode cX11_counter 60 = .ok (.ldc 166, 2) := by decide +kernel
theorem dX11_counter_62 : decode cX11_counter 62 = .ok (.istore 5, 2) := by decide +kernel
theorem dX11_counter_64 : decode cX11_counter 64 = .ok (.iconst 0, 1) := by decide +kernel
theorem dX11_counter_65 : decode cX11_counter 65 = .ok (.istore 6, 2) := by decide +kernel
theorem dX11_counter_67 : decode cX11_counter 67 = .ok (.iload 6, 2) := by decide +kernel
theorem dX11_counter_69 : decode cX11_counter 69 = .ok (.aload_n 0, 1) := by decide +kernel
theorem dX11_counter_70 : decode cX11_counter 70 = .ok (.getfield 92, 3) := by decide +kernel
theorem dX11_counter_73 : decode cX11_counter 73 = .ok (.if_icmp .ge 59, 3) := by decide +kernel
theorem dX11_counter_76 : decode cX11_counter 76 = .ok (.aload_n 0, 1) := by decide +kernel
theorem dX11_counter_77 : decode cX11_counter 77 = .ok (.iload 6, 2) := by decide +kernel
theorem dX11_counter_79 : decode cX11_counter 79 = .ok (.iconst 2, 1) := by decide +kernel
theorem dX11_counter_80 : decode cX11_counter 80 = .ok (.iconst 1, 1) := by decide +kernel
theorem dX11_counter_81 : decode cX11_counter 81 = .ok (.invokevirtual 183, 3) := by decide +kernel
theorem dX11_counter_84 : decode cX11_counter 84 = .ok (.ifCond .eq 42, 3) := by decide +kernel
theorem dX11_counter_87 : decode cX11_counter 87 = .ok (.aload_n 0, 1) := by decide +kernel
theorem dX11_counter_88 : decode cX11_counter 88 = .ok (.iload_n 2, 1) := by decide +kernel
theorem dX11_counter_89 : decode cX11_counter 89 = .ok (.invokevirtual 187, 3) := by decide +kernel
theorem dX11_counter_92 : decode cX11_counter 92 = .ok (.istore 7, 2) := by decide +kernel
theorem dX11_counter_94 : decode cX11_counter 94 = .ok (.iload 7, 2) := by decide +kernel
theorem dX11_counter_96 : decode cX11_counter 96 = .ok (.iload 5, 2) := by decide +kernel
theorem dX11_counter_98 : decode cX11_counter 98 = .ok (.if_icmp .ge 8, 3) := by decide +kernel
theorem dX11_counter_101 : decode cX11_counter 101 = .ok (.iload 6, 2) := by decide +kernel
theorem dX11_counter_103 : decode cX11_counter 103 = .ok (.goto 5, 3) := by decide +kernel
theorem dX11_counter_106 : decode cX11_counter 106 = .ok (.iload 4, 2) := by decide +kernel
theorem dX11_counter_108 : decode cX11_counter 108 = .ok (.istore 4, 2) := by decide +kernel
theorem dX11_counter_110 : decode cX11_counter 110 = .ok (.iload 7, 2) := by decide +kernel
theorem dX11_counter_112 : decode cX11_counter 112 = .ok (.iload 5, 2) := by decide +kernel
theorem dX11_counter_114 : decode cX11_counter 114 = .ok (.if_icmp .ge 8, 3) := by decide +kernel
theorem dX11_counter_117 : decode cX11_counter 117 = .ok (.iload 7, 2) := by decide +kernel
theorem dX11_counter_119 : decode cX11_counter 119 = .ok (.goto 5, 3) := by decide +kernel
theorem dX11_counter_122 : decode cX11_counter 122 = .ok (.iload 5, 2) := by decide +kernel
theorem dX11_counter_124 : decode cX11_counter 124 = .ok (.istore 5, 2) := by decide +kernel
theorem dX11_counter_126 : decode cX11_counter 126 = .ok (.iinc 6 1, 3) := by decide +kernel
theorem dX11_counter_129 : decode cX11_counter 129 = .ok (.goto (-62), 3) := by decide +kernel
theorem dX11_counter_132 : decode cX11_counter 132 = .ok (.iload_n 3, 1) := by decide +kernel
theorem dX11_counter_133 : decode cX11_counter 133 = .ok (.ifCond .ne 8, 3) := by decide +kernel
theorem dX11_counter_136 : decode cX11_counter 136 = .ok (.iload 4, 2) := by decide +kernel
theorem dX11_counter_138 : decode cX11_counter 138 = .ok (.goto 5, 3) := by decide +kernel
theorem dX11_counter_141 : decode cX11_counter 141 = .ok (.iload 5, 2) := by decide +kernel
theorem dX11_counter_143 : decode cX11_counter 143 = .ok (.ireturn, 1) := by decide +kernel
theorem dX11_isDry_0 : decode cX11_isDry 0 = .ok (.iconst 1, 1) := by decide +kernel
theorem dX11_isDry_1 : decode cX11_isDry 1 = .ok (.istore_n 1, 1) := by decide +kernel
theorem dX11_isDry_2 : decode cX11_isDry 2 = .ok (.iconst 0, 1) := by decide +kernel
theorem dX11_isDry_3 : decode cX11_isDry 3 = .ok (.istore_n 2, 1) := by decide +kernel
theorem dX11_isDry_4 : decode cX11_isDry 4 = .ok (.iload_n 2, 1) := by decide +kernel
theorem dX11_isDry_5 : decode cX11_isDry 5 = .ok (.bipush 8, 2) := by decide +kernel
theorem dX11_isDry_7 : decode cX11_isDry 7 = .ok (.if_icmp .ge 27, 3) := by decide +kernel
theorem dX11_isDry_10 : decode cX11_isDry 10 = .ok (.iload_n 1, 1) := by decide +kernel
theorem dX11_isDry_11 : decode cX11_isDry 11 = .ok (.ifCond .eq 23, 3) := by decide +kernel
theorem dX11_isDry_14 : decode cX11_isDry 14 = .ok (.aload_n 0, 1) := by decide +kernel
theorem dX11_isDry_15 : decode cX11_isDry 15 = .ok (.iload_n 2, 1) := by decide +kernel
theorem dX11_isDry_16 : decode cX11_isDry 16 = .ok (.invokevirtual 143, 3) := by decide +kernel
theorem dX11_isDry_19 : decode cX11_isDry 19 = .ok (.ifCond .ne 7, 3) := by decide +kernel
theorem dX11_isDry_22 : decode cX11_isDry 22 = .ok (.iconst 1, 1) := by decide +kernel
theorem dX11_isDry_23 : decode cX11_isDry 23 = .ok (.goto 4, 3) := by decide +kernel
theorem dX11_isDry_26 : decode cX11_isDry 26 = .ok (.iconst 0, 1) := by decide +kernel
theorem dX11_isDry_27 : decode cX11_isDry 27 = .ok (.istore_n 1, 1) := by decide +kernel
theorem dX11_isDry_28 : decode cX11_isDry 28 = .ok (.iinc 2 1, 3) := by decide +kernel
theorem dX11_isDry_31 : decode cX11_isDry 31 = .ok (.goto (-27), 3) := by decide +kernel
theorem dX11_isDry_34 : decode cX11_isDry 34 = .ok (.iload_n 1, 1) := by decide +kernel
theorem dX11_isDry_35 : decode cX11_isDry 35 = .ok (.ireturn, 1) := by decide +kernel
theorem dX11_helpsFrom_0 : decode cX11_helpsFrom 0 = .ok (.iload_n 1, 1) := by decide +kernel
theorem dX11_helpsFrom_1 : decode cX11_helpsFrom 1 = .ok (.istore_n 2, 1) := by decide +kernel
theorem dX11_helpsFrom_2 : decode cX11_helpsFrom 2 = .ok (.iload_n 2, 1) := by decide +kernel
theorem dX11_helpsFrom_3 : decode cX11_helpsFrom 3 = .ok (.aload_n 0, 1) := by decide +kernel
theorem dX11_helpsFrom_4 : decode cX11_helpsFrom 4 = .ok (.getfield 95, 3) := by decide +kernel
theorem dX11_helpsFrom_7 : decode cX11_helpsFrom 7 = .ok (.if_icmp .ge 84, 3) := by decide +kernel
theorem dX11_helpsFrom_10 : decode cX11_helpsFrom 10 = .ok (.aload_n 0, 1) := by decide +kernel
theorem dX11_helpsFrom_11 : decode cX11_helpsFrom 11 = .ok (.getfield 19, 3) := by decide +kernel
theorem dX11_helpsFrom_14 : decode cX11_helpsFrom 14 = .ok (.bipush 8, 2) := by decide +kernel
theorem dX11_helpsFrom_16 : decode cX11_helpsFrom 16 = .ok (.iload_n 2, 1) := by decide +kernel
theorem dX11_helpsFrom_17 : decode cX11_helpsFrom 17 = .ok (.imul, 1) := by decide +kernel
theorem dX11_helpsFrom_18 : decode cX11_helpsFrom 18 = .ok (.iaload, 1) := by decide +kernel
theorem dX11_helpsFrom_19 : decode cX11_helpsFrom 19 = .ok (.istore_n 3, 1) := by decide +kernel
theorem dX11_helpsFrom_20 : decode cX11_helpsFrom 20 = .ok (.iconst 0, 1) := by decide +kernel
theorem dX11_helpsFrom_21 : decode cX11_helpsFrom 21 = .ok (.istore 4, 2) := by decide +kernel
theorem dX11_helpsFrom_23 : decode cX11_helpsFrom 23 = .ok (.iload 4, 2) := by decide +kernel
theorem dX11_helpsFrom_25 : decode cX11_helpsFrom 25 = .ok (.aload_n 0, 1) := by decide +kernel
theorem dX11_helpsFrom_26 : decode cX11_helpsFrom 26 = .ok (.getfield 92, 3) := by decide +kernel
theorem dX11_helpsFrom_29 : decode cX11_helpsFrom 29 = .ok (.if_icmp .ge 56, 3) := by decide +kernel
theorem dX11_helpsFrom_32 : decode cX11_helpsFrom 32 = .ok (.aload_n 0, 1) := by decide +kernel
theorem dX11_helpsFrom_33 : decode cX11_helpsFrom 33 = .ok (.getfield 13, 3) := by decide +kernel
theorem dX11_helpsFrom_36 : decode cX11_helpsFrom 36 = .ok (.iload_n 2, 1) := by decide +kernel
theorem dX11_helpsFrom_37 : decode cX11_helpsFrom 37 = .ok (.iaload, 1) := by decide +kernel
theorem dX11_helpsFrom_38 : decode cX11_helpsFrom 38 = .ok (.iconst 1, 1) := by decide +kernel
theorem dX11_helpsFrom_39 : decode cX11_helpsFrom 39 = .ok (.if_icmp .ne 46, 3) := by decide +kernel
theorem dX11_helpsFrom_42 : decode cX11_helpsFrom 42 = .ok (.aload_n 0, 1) := by decide +kernel
theorem dX11_helpsFrom_43 : decode cX11_helpsFrom 43 = .ok (.iload_n 2, 1) := by decide +kernel
theorem dX11_helpsFrom_44 : decode cX11_helpsFrom 44 = .ok (.iload 4, 2) := by decide +kernel
theorem dX11_helpsFrom_46 : decode cX11_helpsFrom 46 = .ok (.invokevirtual 125, 3) := by decide +kernel
theorem dX11_helpsFrom_49 : decode cX11_helpsFrom 49 = .ok (.aload_n 0, 1) := by decide +kernel
theorem dX11_helpsFrom_50 : decode cX11_helpsFrom 50 = .ok (.invokevirtual 190, 3) := by decide +kernel
theorem dX11_helpsFrom_53 : decode cX11_helpsFrom 53 = .ok (.istore 5, 2) := by decide +kernel
theorem dX11_helpsFrom_55 : decode cX11_helpsFrom 55 = .ok (.aload_n 0, 1) := by decide +kernel
theorem dX11_helpsFrom_56 : decode cX11_helpsFrom 56 = .ok (.iload_n 2, 1) := by decide +kernel
theorem dX11_helpsFrom_57 : decode cX11_helpsFrom 57 = .ok (.iload_n 3, 1) := by decide +kernel
theorem dX11_helpsFrom_58 : decode cX11_helpsFrom 58 = .ok (.invokevirtual 125, 3) := by decide +kernel
theorem dX11_helpsFrom_61 : decode cX11_helpsFrom 61 = .ok (.iload 5, 2) := by decide +kernel
theorem dX11_helpsFrom_63 : decode cX11_helpsFrom 63 = .ok (.ifCond .eq 16, 3) := by decide +kernel
theorem dX11_helpsFrom_66 : decode cX11_helpsFrom 66 = .ok (.aload_n 0, 1) := by decide +kernel
theorem dX11_helpsFrom_67 : decode cX11_helpsFrom 67 = .ok (.iload_n 2, 1) := by decide +kernel
theorem dX11_helpsFrom_68 : decode cX11_helpsFrom 68 = .ok (.putfield 194, 3) := by decide +kernel
theorem dX11_helpsFrom_71 : decode cX11_helpsFrom 71 = .ok (.aload_n 0, 1) := by decide +kernel
theorem dX11_helpsFrom_72 : decode cX11_helpsFrom 72 = .ok (.iload 4, 2) := by decide +kernel
theorem dX11_helpsFrom_74 : decode cX11_helpsFrom 74 = .ok (.putfield 197, 3) := by decide +kernel
theorem dX11_helpsFrom_77 : decode cX11_helpsFrom 77 = .ok (.iconst 1, 1) := by decide +kernel
theorem dX11_helpsFrom_78 : decode cX11_helpsFrom 78 = .ok (.ireturn, 1) := by decide +kernel
theorem dX11_helpsFrom_79 : decode cX11_helpsFrom 79 = .ok (.iinc 4 1, 3) := by decide +kernel
theorem dX11_helpsFrom_82 : decode cX11_helpsFrom 82 = .ok (.goto (-59), 3) := by decide +kernel
theorem dX11_helpsFrom_85 : decode cX11_helpsFrom 85 = .ok (.iinc 2 1, 3) := by decide +kernel
theorem dX11_helpsFrom_88 : decode cX11_helpsFrom 88 = .ok (.goto (-86), 3) := by decide +kernel
theorem dX11_helpsFrom_91 : decode cX11_helpsFrom 91 = .ok (.iconst 0, 1) := by decide +kernel
theorem dX11_helpsFrom_92 : decode cX11_helpsFrom 92 = .ok (.ireturn, 1) := by decide +kernel
theorem dX11_helpTwo_0 : decode cX11_helpTwo 0 = .ok (.iconst 0, 1) := by decide +kernel
theorem dX11_helpTwo_1 : decode cX11_helpTwo 1 = .ok (.istore_n 1, 1) := by decide +kernel
theorem dX11_helpTwo_2 : decode cX11_helpTwo 2 = .ok (.iload_n 1, 1) := by decide +kernel
theorem dX11_helpTwo_3 : decode cX11_helpTwo 3 = .ok (.aload_n 0, 1) := by decide +kernel
theorem dX11_helpTwo_4 : decode cX11_helpTwo 4 = .ok (.getfield 95, 3) := by decide +kernel
theorem dX11_helpTwo_7 : decode cX11_helpTwo 7 = .ok (.if_icmp .ge 83, 3) := by decide +kernel
theorem dX11_helpTwo_10 : decode cX11_helpTwo 10 = .ok (.aload_n 0, 1) := by decide +kernel
theorem dX11_helpTwo_11 : decode cX11_helpTwo 11 = .ok (.getfield 19, 3) := by decide +kernel
theorem dX11_helpTwo_14 : decode cX11_helpTwo 14 = .ok (.bipush 8, 2) := by decide +kernel
theorem dX11_helpTwo_16 : decode cX11_helpTwo 16 = .ok (.iload_n 1, 1) := by decide +kernel
theorem dX11_helpTwo_17 : decode cX11_helpTwo 17 = .ok (.imul, 1) := by decide +kernel
theorem dX11_helpTwo_18 : decode cX11_helpTwo 18 = .ok (.iaload, 1) := by decide +kernel
theorem dX11_helpTwo_19 : decode cX11_helpTwo 19 = .ok (.istore_n 2, 1) := by decide +kernel
theorem dX11_helpTwo_20 : decode cX11_helpTwo 20 = .ok (.iconst 0, 1) := by decide +kernel
theorem dX11_helpTwo_21 : decode cX11_helpTwo 21 = .ok (.istore_n 3, 1) := by decide +kernel
theorem dX11_helpTwo_22 : decode cX11_helpTwo 22 = .ok (.iload_n 3, 1) := by decide +kernel
theorem dX11_helpTwo_23 : decode cX11_helpTwo 23 = .ok (.aload_n 0, 1) := by decide +kernel
theorem dX11_helpTwo_24 : decode cX11_helpTwo 24 = .ok (.getfield 92, 3) := by decide +kernel
theorem dX11_helpTwo_27 : decode cX11_helpTwo 27 = .ok (.if_icmp .ge 57, 3) := by decide +kernel
theorem dX11_helpTwo_30 : decode cX11_helpTwo 30 = .ok (.aload_n 0, 1) := by decide +kernel
theorem dX11_helpTwo_31 : decode cX11_helpTwo 31 = .ok (.getfield 13, 3) := by decide +kernel
theorem dX11_helpTwo_34 : decode cX11_helpTwo 34 = .ok (.iload_n 1, 1) := by decide +kernel
theorem dX11_helpTwo_35 : decode cX11_helpTwo 35 = .ok (.iaload, 1) := by decide +kernel
theorem dX11_helpTwo_36 : decode cX11_helpTwo 36 = .ok (.iconst 1, 1) := by decide +kernel
theorem dX11_helpTwo_37 : decode cX11_helpTwo 37 = .ok (.if_icmp .ne 47, 3) := by decide +kernel
theorem dX11_helpTwo_40 : decode cX11_helpTwo 40 = .ok (.aload_n 0, 1) := by decide +kernel
theorem dX11_helpTwo_41 : decode cX11_helpTwo 41 = .ok (.iload_n 1, 1) := by decide +kernel
theorem dX11_helpTwo_42 : decode cX11_helpTwo 42 = .ok (.iload_n 3, 1) := by decide +kernel
theorem dX11_helpTwo_43 : decode cX11_helpTwo 43 = .ok (.invokevirtual 125, 3) := by decide +kernel
theorem dX11_helpTwo_46 : decode cX11_helpTwo 46 = .ok (.aload_n 0, 1) := by decide +kernel
theorem dX11_helpTwo_47 : decode cX11_helpTwo 47 = .ok (.iload_n 1, 1) := by decide +kernel
theorem dX11_helpTwo_48 : decode cX11_helpTwo 48 = .ok (.iconst 1, 1) := by decide +kernel
theorem dX11_helpTwo_49 : decode cX11_helpTwo 49 = .ok (.iadd, 1) := by decide +kernel
theorem dX11_helpTwo_50 : decode cX11_helpTwo 50 = .ok (.invokevirtual 200, 3) := by decide +kernel
theorem dX11_helpTwo_53 : decode cX11_helpTwo 53 = .ok (.istore 4, 2) := by decide +kernel
theorem dX11_helpTwo_55 : decode cX11_helpTwo 55 = .ok (.aload_n 0, 1) := by decide +kernel
theorem dX11_helpTwo_56 : decode cX11_helpTwo 56 = .ok (.iload_n 1, 1) := by decide +kernel
theorem dX11_helpTwo_57 : decode cX11_helpTwo 57 = .ok (.iload_n 2, 1) := by decide +kernel
theorem dX11_helpTwo_58 : decode cX11_helpTwo 58 = .ok (.invokevirtual 125, 3) := by decide +kernel
theorem dX11_helpTwo_61 : decode cX11_helpTwo 61 = .ok (.iload 4, 2) := by decide +kernel
theorem dX11_helpTwo_63 : decode cX11_helpTwo 63 = .ok (.ifCond .eq 15, 3) := by decide +kernel
theorem dX11_helpTwo_66 : decode cX11_helpTwo 66 = .ok (.aload_n 0, 1) := by decide +kernel
theorem dX11_helpTwo_67 : decode cX11_helpTwo 67 = .ok (.iload_n 1, 1) := by decide +kernel
theorem dX11_helpTwo_68 : decode cX11_helpTwo 68 = .ok (.putfield 203, 3) := by decide +kernel
theorem dX11_helpTwo_71 : decode cX11_helpTwo 71 = .ok (.aload_n 0, 1) := by decide +kernel
theorem dX11_helpTwo_72 : decode cX11_helpTwo 72 = .ok (.iload_n 3, 1) := by decide +kernel
theorem dX11_helpTwo_73 : decode cX11_helpTwo 73 = .ok (.putfield 206, 3) := by decide +kernel
theorem dX11_helpTwo_76 : decode cX11_helpTwo 76 = .ok (.iconst 1, 1) := by decide +kernel
theorem dX11_helpTwo_77 : decode cX11_helpTwo 77 = .ok (.ireturn, 1) := by decide +kernel
theorem dX11_helpTwo_78 : decode cX11_helpTwo 78 = .ok (.iinc 3 1, 3) := by decide +kernel
theorem dX11_helpTwo_81 : decode cX11_helpTwo 81 = .ok (.goto (-59), 3) := by decide +kernel
theorem dX11_helpTwo_84 : decode cX11_helpTwo 84 = .ok (.iinc 1 1, 3) := by decide +kernel
theorem dX11_helpTwo_87 : decode cX11_helpTwo 87 = .ok (.goto (-85), 3) := by decide +kernel
theorem dX11_helpTwo_90 : decode cX11_helpTwo 90 = .ok (.iconst 0, 1) := by decide +kernel
theorem dX11_helpTwo_91 : decode cX11_helpTwo 91 = .ok (.ireturn, 1) := by decide +kernel
theorem dX11_stonesNow_0 : decode cX11_stonesNow 0 = .ok (.aload_n 0, 1) := by decide +kernel
theorem dX11_stonesNow_1 : decode cX11_stonesNow 1 = .ok (.iconst (-1), 1) := by decide +kernel
theorem dX11_stonesNow_2 : decode cX11_stonesNow 2 = .ok (.putfield 203, 3) := by decide +kernel
theorem dX11_stonesNow_5 : decode cX11_stonesNow 5 = .ok (.aload_n 0, 1) := by decide +kernel
theorem dX11_stonesNow_6 : decode cX11_stonesNow 6 = .ok (.iconst (-1), 1) := by decide +kernel
theorem dX11_stonesNow_7 : decode cX11_stonesNow 7 = .ok (.putfield 206, 3) := by decide +kernel
theorem dX11_stonesNow_10 : decode cX11_stonesNow 10 = .ok (.aload_n 0, 1) := by decide +kernel
theorem dX11_stonesNow_11 : decode cX11_stonesNow 11 = .ok (.iconst (-1), 1) := by decide +kernel
theorem dX11_stonesNow_12 : decode cX11_stonesNow 12 = .ok (.putfield 194, 3) := by decide +kernel
theorem dX11_stonesNow_15 : decode cX11_stonesNow 15 = .ok (.aload_n 0, 1) := by decide +kernel
theorem dX11_stonesNow_16 : decode cX11_stonesNow 16 = .ok (.iconst (-1), 1) := by decide +kernel
theorem dX11_stonesNow_17 : decode cX11_stonesNow 17 = .ok (.putfield 197, 3) := by decide +kernel
theorem dX11_stonesNow_20 : decode cX11_stonesNow 20 = .ok (.iconst 0, 1) := by decide +kernel
theorem dX11_stonesNow_21 : decode cX11_stonesNow 21 = .ok (.istore_n 2, 1) := by decide +kernel
theorem dX11_stonesNow_22 : decode cX11_stonesNow 22 = .ok (.aload_n 0, 1) := by decide +kernel
theorem dX11_stonesNow_23 : decode cX11_stonesNow 23 = .ok (.invokevirtual 190, 3) := by decide +kernel
theorem dX11_stonesNow_26 : decode cX11_stonesNow 26 = .ok (.ifCond .ne 28, 3) := by decide +kernel
theorem dX11_stonesNow_29 : decode cX11_stonesNow 29 = .ok (.aload_n 0, 1) := by decide +kernel
theorem dX11_stonesNow_30 : decode cX11_stonesNow 30 = .ok (.iconst 0, 1) := by decide +kernel
theorem dX11_stonesNow_31 : decode cX11_stonesNow 31 = .ok (.invokevirtual 200, 3) := by decide +kernel
theorem dX11_stonesNow_34 : decode cX11_stonesNow 34 = .ok (.ifCond .eq 7, 3) := by decide +kernel
theorem dX11_stonesNow_37 : decode cX11_stonesNow 37 = .ok (.iconst 1, 1) := by decide +kernel
theorem dX11_stonesNow_38 : decode cX11_stonesNow 38 = .ok (.goto 15, 3) := by decide +kernel
theorem dX11_stonesNow_41 : decode cX11_stonesNow 41 = .ok (.aload_n 0, 1) := by decide +kernel
theorem dX11_stonesNow_42 : decode cX11_stonesNow 42 = .ok (.invokevirtual 209, 3) := by decide +kernel
theorem dX11_stonesNow_45 : decode cX11_stonesNow 45 = .ok (.ifCond .eq 7, 3) := by decide +kernel
theorem dX11_stonesNow_48 : decode cX11_stonesNow 48 = .ok (.iconst 2, 1) := by decide +kernel
theorem dX11_stonesNow_49 : decode cX11_stonesNow 49 = .ok (.goto 4, 3) := by decide +kernel
theorem dX11_stonesNow_52 : decode cX11_stonesNow 52 = .ok (.iconst (-1), 1) := by decide +kernel
theorem dX11_stonesNow_53 : decode cX11_stonesNow 53 = .ok (.istore_n 2, 1) := by decide +kernel
theorem dX11_stonesNow_54 : decode cX11_stonesNow 54 = .ok (.iload_n 2, 1) := by decide +kernel
theorem dX11_stonesNow_55 : decode cX11_stonesNow 55 = .ok (.iconst 1, 1) := by decide +kernel
theorem dX11_stonesNow_56 : decode cX11_stonesNow 56 = .ok (.if_icmp .ne 29, 3) := by decide +kernel
theorem dX11_stonesNow_59 : decode cX11_stonesNow 59 = .ok (.aload_n 0, 1) := by decide +kernel
theorem dX11_stonesNow_60 : decode cX11_stonesNow 60 = .ok (.aload_n 0, 1) := by decide +kernel
theorem dX11_stonesNow_61 : decode cX11_stonesNow 61 = .ok (.getfield 194, 3) := by decide +kernel
theorem dX11_stonesNow_64 : decode cX11_stonesNow 64 = .ok (.putfield 203, 3) := by decide +kernel
theorem dX11_stonesNow_67 : decode cX11_stonesNow 67 = .ok (.aload_n 0, 1) := by decide +kernel
theorem dX11_stonesNow_68 : decode cX11_stonesNow 68 = .ok (.aload_n 0, 1) := by decide +kernel
theorem dX11_stonesNow_69 : decode cX11_stonesNow 69 = .ok (.getfield 197, 3) := by decide +kernel
theorem dX11_stonesNow_72 : decode cX11_stonesNow 72 = .ok (.putfield 206, 3) := by decide +kernel
theorem dX11_stonesNow_75 : decode cX11_stonesNow 75 = .ok (.aload_n 0, 1) := by decide +kernel
theorem dX11_stonesNow_76 : decode cX11_stonesNow 76 = .ok (.iconst (-1), 1) := by decide +kernel
theorem dX11_stonesNow_77 : decode cX11_stonesNow 77 = .ok (.putfield 194, 3) := by decide +kernel
theorem dX11_stonesNow_80 : decode cX11_stonesNow 80 = .ok (.aload_n 0, 1) := by decide +kernel
theorem dX11_stonesNow_81 : decode cX11_stonesNow 81 = .ok (.iconst (-1), 1) := by decide +kernel
theorem dX11_stonesNow_82 : decode cX11_stonesNow 82 = .ok (.putfield 197, 3) := by decide +kernel
theorem dX11_stonesNow_85 : decode cX11_stonesNow 85 = .ok (.iload_n 1, 1) := by decide +kernel
theorem dX11_stonesNow_86 : decode cX11_stonesNow 86 = .ok (.tableswitch 47 0 3 #[30, 32, 37, 42], 30) := by decide +kernel
theorem dX11_stonesNow_116 : decode cX11_stonesNow 116 = .ok (.iload_n 2, 1) := by decide +kernel
theorem dX11_stonesNow_117 : decode cX11_stonesNow 117 = .ok (.ireturn, 1) := by decide +kernel
theorem dX11_stonesNow_118 : decode cX11_stonesNow 118 = .ok (.aload_n 0, 1) := by decide +kernel
theorem dX11_stonesNow_119 : decode cX11_stonesNow 119 = .ok (.getfield 203, 3) := by decide +kernel
theorem dX11_stonesNow_122 : decode cX11_stonesNow 122 = .ok (.ireturn, 1) := by decide +kernel
theorem dX11_stonesNow_123 : decode cX11_stonesNow 123 = .ok (.aload_n 0, 1) := by decide +kernel
theorem dX11_stonesNow_124 : decode cX11_stonesNow 124 = .ok (.getfield 206, 3) := by decide +kernel
theorem dX11_stonesNow_127 : decode cX11_stonesNow 127 = .ok (.ireturn, 1) := by decide +kernel
theorem dX11_stonesNow_128 : decode cX11_stonesNow 128 = .ok (.aload_n 0, 1) := by decide +kernel
theorem dX11_stonesNow_129 : decode cX11_stonesNow 129 = .ok (.getfield 194, 3) := by decide +kernel
theorem dX11_stonesNow_132 : decode cX11_stonesNow 132 = .ok (.ireturn, 1) := by decide +kernel
theorem dX11_stonesNow_133 : decode cX11_stonesNow 133 = .ok (.aload_n 0, 1) := by decide +kernel
theorem dX11_stonesNow_134 : decode cX11_stonesNow 134 = .ok (.getfield 197, 3) := by decide +kernel
theorem dX11_stonesNow_137 : decode cX11_stonesNow 137 = .ok (.ireturn, 1) := by decide +kernel
theorem dX11_stones_0 : decode cX11_stones 0 = .ok (.iload_n 1, 1) := by decide +kernel
theorem dX11_stones_1 : decode cX11_stones 1 = .ok (.iconst 0, 1) := by decide +kernel
theorem dX11_stones_2 : decode cX11_stones 2 = .ok (.iconst 4, 1) := by decide +kernel
theorem dX11_stones_3 : decode cX11_stones 3 = .ok (.invokestatic 65, 3) := by decide +kernel
theorem dX11_stones_6 : decode cX11_stones 6 = .ok (.ifCond .ne 6, 3) := by decide +kernel
theorem dX11_stones_9 : decode cX11_stones 9 = .ok (.bipush (-102), 2) := by decide +kernel
theorem dX11_stones_11 : decode cX11_stones 11 = .ok (.ireturn, 1) := by decide +kernel
theorem dX11_stones_12 : decode cX11_stones 12 = .ok (.aload_n 0, 1) := by decide +kernel
theorem dX11_stones_13 : decode cX11_stones 13 = .ok (.getfield 92, 3) := by decide +kernel
theorem dX11_stones_16 : decode cX11_stones 16 = .ok (.ifCond .eq 12, 3) := by decide +kernel
theorem dX11_stones_19 : decode cX11_stones 19 = .ok (.aload_n 0, 1) := by decide +kernel
theorem dX11_stones_20 : decode cX11_stones 20 = .ok (.getfield 212, 3) := by decide +kernel
theorem dX11_stones_23 : decode cX11_stones 23 = .ok (.bipush 20, 2) := by decide +kernel
theorem dX11_stones_25 : decode cX11_stones 25 = .ok (.if_icmp .ne 6, 3) := by decide +kernel
theorem dX11_stones_28 : decode cX11_stones 28 = .ok (.bipush (-103), 2) := by decide +kernel
theorem dX11_stones_30 : decode cX11_stones 30 = .ok (.ireturn, 1) := by decide +kernel
theorem dX11_stones_31 : decode cX11_stones 31 = .ok (.aload_n 0, 1) := by decide +kernel
theorem dX11_stones_32 : decode cX11_stones 32 = .ok (.dup, 1) := by decide +kernel
theorem dX11_stones_33 : decode cX11_stones 33 = .ok (.getfield 212, 3) := by decide +kernel
theorem dX11_stones_36 : decode cX11_stones 36 = .ok (.iconst 1, 1) := by decide +kernel
theorem dX11_stones_37 : decode cX11_stones 37 = .ok (.iadd, 1) := by decide +kernel
theorem dX11_stones_38 : decode cX11_stones 38 = .ok (.putfield 212, 3) := by decide +kernel
theorem dX11_stones_41 : decode cX11_stones 41 = .ok (.aload_n 0, 1) := by decide +kernel
theorem dX11_stones_42 : decode cX11_stones 42 = .ok (.iload_n 1, 1) := by decide +kernel
theorem dX11_stones_43 : decode cX11_stones 43 = .ok (.invokevirtual 215, 3) := by decide +kernel
theorem dX11_stones_46 : decode cX11_stones 46 = .ok (.ireturn, 1) := by decide +kernel
theorem dX11_siteNow_0 : decode cX11_siteNow 0 = .ok (.iconst (-1), 1) := by decide +kernel
theorem dX11_siteNow_1 : decode cX11_siteNow 1 = .ok (.istore_n 2, 1) := by decide +kernel
theorem dX11_siteNow_2 : decode cX11_siteNow 2 = .ok (.ldc 166, 2) := by decide +kernel
theorem dX11_siteNow_4 : decode cX11_siteNow 4 = .ok (.istore_n 3, 1) := by decide +kernel
theorem dX11_siteNow_5 : decode cX11_siteNow 5 = .ok (.iconst 0, 1) := by decide +kernel
theorem dX11_siteNow_6 : decode cX11_siteNow 6 = .ok (.istore 4, 2) := by decide +kernel
theorem dX11_siteNow_8 : decode cX11_siteNow 8 = .ok (.iload 4, 2) := by decide +kernel
theorem dX11_siteNow_10 : decode cX11_siteNow 10 = .ok (.aload_n 0, 1) := by decide +kernel
theorem dX11_siteNow_11 : decode cX11_siteNow 11 = .ok (.getfield 92, 3) := by decide +kernel
theorem dX11_siteNow_14 : decode cX11_siteNow 14 = .ok (.if_icmp .ge 65, 3) := by decide +kernel
theorem dX11_siteNow_17 : decode cX11_siteNow 17 = .ok (.aload_n 0, 1) := by decide +kernel
theorem dX11_siteNow_18 : decode cX11_siteNow 18 = .ok (.iload_n 1, 1) := by decide +kernel
theorem dX11_siteNow_19 : decode cX11_siteNow 19 = .ok (.aload_n 0, 1) := by decide +kernel
theorem dX11_siteNow_20 : decode cX11_siteNow 20 = .ok (.iload 4, 2) := by decide +kernel
theorem dX11_siteNow_22 : decode cX11_siteNow 22 = .ok (.invokevirtual 107, 3) := by decide +kernel
theorem dX11_siteNow_25 : decode cX11_siteNow 25 = .ok (.imul, 1) := by decide +kernel
theorem dX11_siteNow_26 : decode cX11_siteNow 26 = .ok (.putfield 132, 3) := by decide +kernel
theorem dX11_siteNow_29 : decode cX11_siteNow 29 = .ok (.aload_n 0, 1) := by decide +kernel
theorem dX11_siteNow_30 : decode cX11_siteNow 30 = .ok (.iload_n 1, 1) := by decide +kernel
theorem dX11_siteNow_31 : decode cX11_siteNow 31 = .ok (.aload_n 0, 1) := by decide +kernel
theorem dX11_siteNow_32 : decode cX11_siteNow 32 = .ok (.iload 4, 2) := by decide +kernel
theorem dX11_siteNow_34 : decode cX11_siteNow 34 = .ok (.invokevirtual 110, 3) := by decide +kernel
theorem dX11_siteNow_37 : decode cX11_siteNow 37 = .ok (.imul, 1) := by decide +kernel
theorem dX11_siteNow_38 : decode cX11_siteNow 38 = .ok (.putfield 129, 3) := by decide +kernel
theorem dX11_siteNow_41 : decode cX11_siteNow 41 = .ok (.aload_n 0, 1) := by decide +kernel
theorem dX11_siteNow_42 : decode cX11_siteNow 42 = .ok (.invokevirtual 218, 3) := by decide +kernel
theorem dX11_siteNow_45 : decode cX11_siteNow 45 = .ok (.istore 5, 2) := by decide +kernel
theorem dX11_siteNow_47 : decode cX11_siteNow 47 = .ok (.iload 5, 2) := by decide +kernel
theorem dX11_siteNow_49 : decode cX11_siteNow 49 = .ok (.iload_n 3, 1) := by decide +kernel
theorem dX11_siteNow_50 : decode cX11_siteNow 50 = .ok (.if_icmp .ge 8, 3) := by decide +kernel
theorem dX11_siteNow_53 : decode cX11_siteNow 53 = .ok (.iload 4, 2) := by decide +kernel
theorem dX11_siteNow_55 : decode cX11_siteNow 55 = .ok (.goto 4, 3) := by decide +kernel
theorem dX11_siteNow_58 : decode cX11_siteNow 58 = .ok (.iload_n 2, 1) := by decide +kernel
theorem dX11_siteNow_59 : decode cX11_siteNow 59 = .ok (.istore_n 2, 1) := by decide +kernel
theorem dX11_siteNow_60 : decode cX11_siteNow 60 = .ok (.iload 5, 2) := by decide +kernel
theorem dX11_siteNow_62 : decode cX11_siteNow 62 = .ok (.iload_n 3, 1) := by decide +kernel
theorem dX11_siteNow_63 : decode cX11_siteNow 63 = .ok (.if_icmp .ge 8, 3) := by decide +kernel
theorem dX11_siteNow_66 : decode cX11_siteNow 66 = .ok (.iload 5, 2) := by decide +kernel
theorem dX11_siteNow_68 : decode cX11_siteNow 68 = .ok (.goto 4, 3) := by decide +kernel
theorem dX11_siteNow_71 : decode cX11_siteNow 71 = .ok (.iload_n 3, 1) := by decide +kernel
theorem dX11_siteNow_72 : decode cX11_siteNow 72 = .ok (.istore_n 3, 1) := by decide +kernel
theorem dX11_siteNow_73 : decode cX11_siteNow 73 = .ok (.iinc 4 1, 3) := by decide +kernel
theorem dX11_siteNow_76 : decode cX11_siteNow 76 = .ok (.goto (-68), 3) := by decide +kernel
theorem dX11_siteNow_79 : decode cX11_siteNow 79 = .ok (.aload_n 0, 1) := by decide +kernel
theorem dX11_siteNow_80 : decode cX11_siteNow 80 = .ok (.iconst 0, 1) := by decide +kernel
theorem dX11_siteNow_81 : decode cX11_siteNow 81 = .ok (.putfield 132, 3) := by decide +kernel
theorem dX11_siteNow_84 : decode cX11_siteNow 84 = .ok (.aload_n 0, 1) := by decide +kernel
theorem dX11_siteNow_85 : decode cX11_siteNow 85 = .ok (.iconst 0, 1) := by decide +kernel
theorem dX11_siteNow_86 : decode cX11_siteNow 86 = .ok (.putfield 129, 3) := by decide +kernel
theorem dX11_siteNow_89 : decode cX11_siteNow 89 = .ok (.iload_n 2, 1) := by decide +kernel
theorem dX11_siteNow_90 : decode cX11_siteNow 90 = .ok (.ireturn, 1) := by decide +kernel
theorem dX11_site_0 : decode cX11_site 0 = .ok (.iload_n 1, 1) := by decide +kernel
theorem dX11_site_1 : decode cX11_site 1 = .ok (.iconst 1, 1) := by decide +kernel
theorem dX11_site_2 : decode cX11_site 2 = .ok (.bipush 99, 2) := by decide +kernel
theorem dX11_site_4 : decode cX11_site 4 = .ok (.invokestatic 65, 3) := by decide +kernel
theorem dX11_site_7 : decode cX11_site 7 = .ok (.ifCond .ne 6, 3) := by decide +kernel
theorem dX11_site_10 : decode cX11_site 10 = .ok (.bipush (-102), 2) := by decide +kernel
theorem dX11_site_12 : decode cX11_site 12 = .ok (.ireturn, 1) := by decide +kernel
theorem dX11_site_13 : decode cX11_site 13 = .ok (.aload_n 0, 1) := by decide +kernel
theorem dX11_site_14 : decode cX11_site 14 = .ok (.getfield 92, 3) := by decide +kernel
theorem dX11_site_17 : decode cX11_site 17 = .ok (.ifCond .ne 8, 3) := by decide +kernel
theorem dX11_site_20 : decode cX11_site 20 = .ok (.bipush (-103), 2) := by decide +kernel
theorem dX11_site_22 : decode cX11_site 22 = .ok (.goto 8, 3) := by decide +kernel
theorem dX11_site_25 : decode cX11_site 25 = .ok (.aload_n 0, 1) := by decide +kernel
theorem dX11_site_26 : decode cX11_site 26 = .ok (.iload_n 1, 1) := by decide +kernel
theorem dX11_site_27 : decode cX11_site 27 = .ok (.invokevirtual 221, 3) := by decide +kernel
theorem dX11_site_30 : decode cX11_site 30 = .ok (.ireturn, 1) := by decide +kernel
theorem dX11_lateNow_0 : decode cX11_lateNow 0 = .ok (.iconst 0, 1) := by decide +kernel
theorem dX11_lateNow_1 : decode cX11_lateNow 1 = .ok (.istore 4, 2) := by decide +kernel
theorem dX11_lateNow_3 : decode cX11_lateNow 3 = .ok (.iconst 0, 1) := by decide +kernel
theorem dX11_lateNow_4 : decode cX11_lateNow 4 = .ok (.istore 5, 2) := by decide +kernel
theorem dX11_lateNow_6 : decode cX11_lateNow 6 = .ok (.iload 5, 2) := by decide +kernel
theorem dX11_lateNow_8 : decode cX11_lateNow 8 = .ok (.aload_n 0, 1) := by decide +kernel
theorem dX11_lateNow_9 : decode cX11_lateNow 9 = .ok (.getfield 95, 3) := by decide +kernel
theorem dX11_lateNow_12 : decode cX11_lateNow 12 = .ok (.if_icmp .ge 50, 3) := by decide +kernel
theorem dX11_lateNow_15 : decode cX11_lateNow 15 = .ok (.aload_n 0, 1) := by decide +kernel
theorem dX11_lateNow_16 : decode cX11_lateNow 16 = .ok (.getfield 32, 3) := by decide +kernel
theorem dX11_lateNow_19 : decode cX11_lateNow 19 = .ok (.iload 5, 2) := by decide +kernel
theorem dX11_lateNow_21 : decode cX11_lateNow 21 = .ok (.aload_n 0, 1) := by decide +kernel
theorem dX11_lateNow_22 : decode cX11_lateNow 22 = .ok (.getfield 19, 3) := by decide +kernel
theorem dX11_lateNow_25 : decode cX11_lateNow 25 = .ok (.bipush 8, 2) := by decide +kernel
theorem dX11_lateNow_27 : decode cX11_lateNow 27 = .ok (.iload 5, 2) := by decide +kernel
theorem dX11_lateNow_29 : decode cX11_lateNow 29 = .ok (.imul, 1) := by decide +kernel
theorem dX11_lateNow_30 : decode cX11_lateNow 30 = .ok (.iload_n 1, 1) := by decide +kernel
theorem dX11_lateNow_31 : decode cX11_lateNow 31 = .ok (.iadd, 1) := by decide +kernel
theorem dX11_lateNow_32 : decode cX11_lateNow 32 = .ok (.iaload, 1) := by decide +kernel
theorem dX11_lateNow_33 : decode cX11_lateNow 33 = .ok (.iastore, 1) := by decide +kernel
theorem dX11_lateNow_34 : decode cX11_lateNow 34 = .ok (.iload 4, 2) := by decide +kernel
theorem dX11_lateNow_36 : decode cX11_lateNow 36 = .ok (.aload_n 0, 1) := by decide +kernel
theorem dX11_lateNow_37 : decode cX11_lateNow 37 = .ok (.iload 5, 2) := by decide +kernel
theorem dX11_lateNow_39 : decode cX11_lateNow 39 = .ok (.invokevirtual 122, 3) := by decide +kernel
theorem dX11_lateNow_42 : decode cX11_lateNow 42 = .ok (.ifCond .eq 10, 3) := by decide +kernel
theorem dX11_lateNow_45 : decode cX11_lateNow 45 = .ok (.iconst 1, 1) := by decide +kernel
theorem dX11_lateNow_46 : decode cX11_lateNow 46 = .ok (.iload 5, 2) := by decide +kernel
theorem dX11_lateNow_48 : decode cX11_lateNow 48 = .ok (.ishl, 1) := by decide +kernel
theorem dX11_lateNow_49 : decode cX11_lateNow 49 = .ok (.goto 4, 3) := by decide +kernel
theorem dX11_lateNow_52 : decode cX11_lateNow 52 = .ok (.iconst 0, 1) := by decide +kernel
theorem dX11_lateNow_53 : decode cX11_lateNow 53 = .ok (.ior, 1) := by decide +kernel
theorem dX11_lateNow_54 : decode cX11_lateNow 54 = .ok (.istore 4, 2) := by decide +kernel
theorem dX11_lateNow_56 : decode cX11_lateNow 56 = .ok (.iinc 5 1, 3) := by decide +kernel
theorem dX11_lateNow_59 : decode cX11_lateNow 59 = .ok (.goto (-53), 3) := by decide +kernel
theorem dX11_lateNow_62 : decode cX11_lateNow 62 = .ok (.iconst 0, 1) := by decide +kernel
theorem dX11_lateNow_63 : decode cX11_lateNow 63 = .ok (.istore 5, 2) := by decide +kernel
theorem dX11_lateNow_65 : decode cX11_lateNow 65 = .ok (.iload 4, 2) := by decide +kernel
theorem dX11_lateNow_67 : decode cX11_lateNow 67 = .ok (.istore 6, 2) := by decide +kernel
theorem dX11_lateNow_69 : decode cX11_lateNow 69 = .ok (.iconst 0, 1) := by decide +kernel
theorem dX11_lateNow_70 : decode cX11_lateNow 70 = .ok (.istore 7, 2) := by decide +kernel
theorem dX11_lateNow_72 : decode cX11_lateNow 72 = .ok (.iconst 0, 1) := by decide +kernel
theorem dX11_lateNow_73 : decode cX11_lateNow 73 = .ok (.istore 8, 2) := by decide +kernel
theorem dX11_lateNow_75 : decode cX11_lateNow 75 = .ok (.iload 8, 2) := by decide +kernel
theorem dX11_lateNow_77 : decode cX11_lateNow 77 = .ok (.iload 4, 2) := by decide +kernel
theorem dX11_lateNow_79 : decode cX11_lateNow 79 = .ok (.if_icmp .gt 148, 3) := by decide +kernel
theorem dX11_lateNow_82 : decode cX11_lateNow 82 = .ok (.iload 8, 2) := by decide +kernel
theorem dX11_lateNow_84 : decode cX11_lateNow 84 = .ok (.iload 4, 2) := by decide +kernel
theorem dX11_lateNow_86 : decode cX11_lateNow 86 = .ok (.iconst (-1), 1) := by decide +kernel
theorem dX11_lateNow_87 : decode cX11_lateNow 87 = .ok (.ixor, 1) := by decide +kernel
theorem dX11_lateNow_88 : decode cX11_lateNow 88 = .ok (.iand, 1) := by decide +kernel
theorem dX11_lateNow_89 : decode cX11_lateNow 89 = .ok (.ifCond .ne 132, 3) := by decide +kernel
theorem dX11_lateNow_92 : decode cX11_lateNow 92 = .ok (.iconst 0, 1) := by decide +kernel
theorem dX11_lateNow_93 : decode cX11_lateNow 93 = .ok (.istore 9, 2) := by decide +kernel
theorem dX11_lateNow_95 : decode cX11_lateNow 95 = .ok (.iload 9, 2) := by decide +kernel
theorem dX11_lateNow_97 : decode cX11_lateNow 97 = .ok (.aload_n 0, 1) := by decide +kernel
theorem dX11_lateNow_98 : decode cX11_lateNow 98 = .ok (.getfield 95, 3) := by decide +kernel
theorem dX11_lateNow_101 : decode cX11_lateNow 101 = .ok (.if_icmp .ge 55, 3) := by decide +kernel
theorem dX11_lateNow_104 : decode cX11_lateNow 104 = .ok (.aload_n 0, 1) := by decide +kernel
theorem dX11_lateNow_105 : decode cX11_lateNow 105 = .ok (.getfield 19, 3) := by decide +kernel
theorem dX11_lateNow_108 : decode cX11_lateNow 108 = .ok (.bipush 8, 2) := by decide +kernel
theorem dX11_lateNow_110 : decode cX11_lateNow 110 = .ok (.iload 9, 2) := by decide +kernel
theorem dX11_lateNow_112 : decode cX11_lateNow 112 = .ok (.imul, 1) := by decide +kernel
theorem dX11_lateNow_113 : decode cX11_lateNow 113 = .ok (.iload_n 1, 1) := by decide +kernel
theorem dX11_lateNow_114 : decode cX11_lateNow 114 = .ok (.iadd, 1) := by decide +kernel
theorem dX11_lateNow_115 : decode cX11_lateNow 115 = .ok (.iload 8, 2) := by decide +kernel
theorem dX11_lateNow_117 : decode cX11_lateNow 117 = .ok (.iload 9, 2) := by decide +kernel
theorem dX11_lateNow_119 : decode cX11_lateNow 119 = .ok (.invokestatic 224, 3) := by decide +kernel
theorem dX11_lateNow_122 : decode cX11_lateNow 122 = .ok (.ifCond .eq 20, 3) := by decide +kernel
theorem dX11_lateNow_125 : decode cX11_lateNow 125 = .ok (.aload_n 0, 1) := by decide +kernel
theorem dX11_lateNow_126 : decode cX11_lateNow 126 = .ok (.getfield 19, 3) := by decide +kernel
theorem dX11_lateNow_129 : decode cX11_lateNow 129 = .ok (.bipush 8, 2) := by decide +kernel
theorem dX11_lateNow_131 : decode cX11_lateNow 131 = .ok (.iload 9, 2) := by decide +kernel
theorem dX11_lateNow_133 : decode cX11_lateNow 133 = .ok (.imul, 1) := by decide +kernel
theorem dX11_lateNow_134 : decode cX11_lateNow 134 = .ok (.iload_n 1, 1) := by decide +kernel
theorem dX11_lateNow_135 : decode cX11_lateNow 135 = .ok (.iadd, 1) := by decide +kernel
theorem dX11_lateNow_136 : decode cX11_lateNow 136 = .ok (.iconst 1, 1) := by decide +kernel
theorem dX11_lateNow_137 : decode cX11_lateNow 137 = .ok (.isub, 1) := by decide +kernel
theorem dX11_lateNow_138 : decode cX11_lateNow 138 = .ok (.iaload, 1) := by decide +kernel
theorem dX11_lateNow_139 : decode cX11_lateNow 139 = .ok (.goto 10, 3) := by decide +kernel
theorem dX11_lateNow_142 : decode cX11_lateNow 142 = .ok (.aload_n 0, 1) := by decide +kernel
theorem dX11_lateNow_143 : decode cX11_lateNow 143 = .ok (.getfield 32, 3) := by decide +kernel
theorem dX11_lateNow_146 : decode cX11_lateNow 146 = .ok (.iload 9, 2) := by decide +kernel
theorem dX11_lateNow_148 : decode cX11_lateNow 148 = .ok (.iaload, 1) := by decide +kernel
theorem dX11_lateNow_149 : decode cX11_lateNow 149 = .ok (.iastore, 1) := by decide +kernel
theorem dX11_lateNow_150 : decode cX11_lateNow 150 = .ok (.iinc 9 1, 3) := by decide +kernel
theorem dX11_lateNow_153 : decode cX11_lateNow 153 = .ok (.goto (-58), 3) := by decide +kernel
theorem dX11_lateNow_156 : decode cX11_lateNow 156 = .ok (.aload_n 0, 1) := by decide +kernel
theorem dX11_lateNow_157 : decode cX11_lateNow 157 = .ok (.iload_n 1, 1) := by decide +kernel
theorem dX11_lateNow_158 : decode cX11_lateNow 158 = .ok (.invokevirtual 143, 3) := by decide +kernel
theorem dX11_lateNow_161 : decode cX11_lateNow 161 = .ok (.iload_n 2, 1) := by decide +kernel
theorem dX11_lateNow_162 : decode cX11_lateNow 162 = .ok (.if_icmp .ne 7, 3) := by decide +kernel
theorem dX11_lateNow_165 : decode cX11_lateNow 165 = .ok (.iconst 1, 1) := by decide +kernel
theorem dX11_lateNow_166 : decode cX11_lateNow 166 = .ok (.goto 4, 3) := by decide +kernel
theorem dX11_lateNow_169 : decode cX11_lateNow 169 = .ok (.iconst 0, 1) := by decide +kernel
theorem dX11_lateNow_170 : decode cX11_lateNow 170 = .ok (.istore 9, 2) := by decide +kernel
theorem dX11_lateNow_172 : decode cX11_lateNow 172 = .ok (.iload 5, 2) := by decide +kernel
theorem dX11_lateNow_174 : decode cX11_lateNow 174 = .ok (.iload 9, 2) := by decide +kernel
theorem dX11_lateNow_176 : decode cX11_lateNow 176 = .ok (.ifCond .eq 7, 3) := by decide +kernel
theorem dX11_lateNow_179 : decode cX11_lateNow 179 = .ok (.iconst 1, 1) := by decide +kernel
theorem dX11_lateNow_180 : decode cX11_lateNow 180 = .ok (.goto 4, 3) := by decide +kernel
theorem dX11_lateNow_183 : decode cX11_lateNow 183 = .ok (.iconst 0, 1) := by decide +kernel
theorem dX11_lateNow_184 : decode cX11_lateNow 184 = .ok (.iadd, 1) := by decide +kernel
theorem dX11_lateNow_185 : decode cX11_lateNow 185 = .ok (.istore 5, 2) := by decide +kernel
theorem dX11_lateNow_187 : decode cX11_lateNow 187 = .ok (.iload 9, 2) := by decide +kernel
theorem dX11_lateNow_189 : decode cX11_lateNow 189 = .ok (.ifCond .eq 11, 3) := by decide +kernel
theorem dX11_lateNow_192 : decode cX11_lateNow 192 = .ok (.iload 6, 2) := by decide +kernel
theorem dX11_lateNow_194 : decode cX11_lateNow 194 = .ok (.iload 8, 2) := by decide +kernel
theorem dX11_lateNow_196 : decode cX11_lateNow 196 = .ok (.iand, 1) := by decide +kernel
theorem dX11_lateNow_197 : decode cX11_lateNow 197 = .ok (.goto 5, 3) := by decide +kernel
theorem dX11_lateNow_200 : decode cX11_lateNow 200 = .ok (.iload 6, 2) := by decide +kernel
theorem dX11_lateNow_202 : decode cX11_lateNow 202 = .ok (.istore 6, 2) := by decide +kernel
theorem dX11_lateNow_204 : decode cX11_lateNow 204 = .ok (.iload 9, 2) := by decide +kernel
theorem dX11_lateNow_206 : decode cX11_lateNow 206 = .ok (.ifCond .eq 11, 3) := by decide +kernel
theorem dX11_lateNow_209 : decode cX11_lateNow 209 = .ok (.iload 7, 2) := by decide +kernel
theorem dX11_lateNow_211 : decode cX11_lateNow 211 = .ok (.iload 8, 2) := by decide +kernel
theorem dX11_lateNow_213 : decode cX11_lateNow 213 = .ok (.ior, 1) := by decide +kernel
theorem dX11_lateNow_214 : decode cX11_lateNow 214 = .ok (.goto 5, 3) := by decide +kernel
theorem dX11_lateNow_217 : decode cX11_lateNow 217 = .ok (.iload 7, 2) := by decide +kernel
theorem dX11_lateNow_219 : decode cX11_lateNow 219 = .ok (.istore 7, 2) := by decide +kernel
theorem dX11_lateNow_221 : decode cX11_lateNow 221 = .ok (.iinc 8 1, 3) := by decide +kernel
theorem dX11_lateNow_224 : decode cX11_lateNow 224 = .ok (.goto (-149), 3) := by decide +kernel
theorem dX11_lateNow_227 : decode cX11_lateNow 227 = .ok (.iconst 0, 1) := by decide +kernel
theorem dX11_lateNow_228 : decode cX11_lateNow 228 = .ok (.istore 8, 2) := by decide +kernel
theorem dX11_lateNow_230 : decode cX11_lateNow 230 = .ok (.iload 8, 2) := by decide +kernel
theorem dX11_lateNow_232 : decode cX11_lateNow 232 = .ok (.aload_n 0, 1) := by decide +kernel
theorem dX11_lateNow_233 : decode cX11_lateNow 233 = .ok (.getfield 95, 3) := by decide +kernel
theorem dX11_lateNow_236 : decode cX11_lateNow 236 = .ok (.if_icmp .ge 28, 3) := by decide +kernel
theorem dX11_lateNow_239 : decode cX11_lateNow 239 = .ok (.aload_n 0, 1) := by decide +kernel
theorem dX11_lateNow_240 : decode cX11_lateNow 240 = .ok (.getfield 19, 3) := by decide +kernel
theorem dX11_lateNow_243 : decode cX11_lateNow 243 = .ok (.bipush 8, 2) := by decide +kernel
theorem dX11_lateNow_245 : decode cX11_lateNow 245 = .ok (.iload 8, 2) := by decide +kernel
theorem dX11_lateNow_247 : decode cX11_lateNow 247 = .ok (.imul, 1) := by decide +kernel
theorem dX11_lateNow_248 : decode cX11_lateNow 248 = .ok (.iload_n 1, 1) := by decide +kernel
theorem dX11_lateNow_249 : decode cX11_lateNow 249 = .ok (.iadd, 1) := by decide +kernel
theorem dX11_lateNow_250 : decode cX11_lateNow 250 = .ok (.aload_n 0, 1) := by decide +kernel
theorem dX11_lateNow_251 : decode cX11_lateNow 251 = .ok (.getfield 32, 3) := by decide +kernel
theorem dX11_lateNow_254 : decode cX11_lateNow 254 = .ok (.iload 8, 2) := by decide +kernel
theorem dX11_lateNow_256 : decode cX11_lateNow 256 = .ok (.iaload, 1) := by decide +kernel
theorem dX11_lateNow_257 : decode cX11_lateNow 257 = .ok (.iastore, 1) := by decide +kernel
theorem dX11_lateNow_258 : decode cX11_lateNow 258 = .ok (.iinc 8 1, 3) := by decide +kernel
theorem dX11_lateNow_261 : decode cX11_lateNow 261 = .ok (.goto (-31), 3) := by decide +kernel
theorem dX11_lateNow_264 : decode cX11_lateNow 264 = .ok (.iload_n 3, 1) := by decide +kernel
theorem dX11_lateNow_265 : decode cX11_lateNow 265 = .ok (.ifCond .ne 8, 3) := by decide +kernel
theorem dX11_lateNow_268 : decode cX11_lateNow 268 = .ok (.iload 5, 2) := by decide +kernel
theorem dX11_lateNow_270 : decode cX11_lateNow 270 = .ok (.goto 24, 3) := by decide +kernel
theorem dX11_lateNow_273 : decode cX11_lateNow 273 = .ok (.iload_n 3, 1) := by decide +kernel
theorem dX11_lateNow_274 : decode cX11_lateNow 274 = .ok (.iconst 2, 1) := by decide +kernel
theorem dX11_lateNow_275 : decode cX11_lateNow 275 = .ok (.if_icmp .ne 8, 3) := by decide +kernel
theorem dX11_lateNow_278 : decode cX11_lateNow 278 = .ok (.iload 7, 2) := by decide +kernel
theorem dX11_lateNow_280 : decode cX11_lateNow 280 = .ok (.goto 14, 3) := by decide +kernel
theorem dX11_lateNow_283 : decode cX11_lateNow 283 = .ok (.iload 5, 2) := by decide +kernel
theorem dX11_lateNow_285 : decode cX11_lateNow 285 = .ok (.ifCond .ne 7, 3) := by decide +kernel
theorem dX11_lateNow_288 : decode cX11_lateNow 288 = .ok (.iconst 0, 1) := by decide +kernel
theorem dX11_lateNow_289 : decode cX11_lateNow 289 = .ok (.goto 5, 3) := by decide +kernel
theorem dX11_lateNow_292 : decode cX11_lateNow 292 = .ok (.iload 6, 2) := by decide +kernel
theorem dX11_lateNow_294 : decode cX11_lateNow 294 = .ok (.ireturn, 1) := by decide +kernel
theorem dX11_late_0 : decode cX11_late 0 = .ok (.iload_n 1, 1) := by decide +kernel
theorem dX11_late_1 : decode cX11_late 1 = .ok (.iconst 1, 1) := by decide +kernel
theorem dX11_late_2 : decode cX11_late 2 = .ok (.bipush 7, 2) := by decide +kernel
theorem dX11_late_4 : decode cX11_late 4 = .ok (.invokestatic 65, 3) := by decide +kernel
theorem dX11_late_7 : decode cX11_late 7 = .ok (.ifCond .ne 6, 3) := by decide +kernel
theorem dX11_late_10 : decode cX11_late 10 = .ok (.bipush (-101), 2) := by decide +kernel
theorem dX11_late_12 : decode cX11_late 12 = .ok (.ireturn, 1) := by decide +kernel
theorem dX11_late_13 : decode cX11_late 13 = .ok (.iload_n 2, 1) := by decide +kernel
theorem dX11_late_14 : decode cX11_late 14 = .ok (.iconst 0, 1) := by decide +kernel
theorem dX11_late_15 : decode cX11_late 15 = .ok (.iconst 1, 1) := by decide +kernel
theorem dX11_late_16 : decode cX11_late 16 = .ok (.aload_n 0, 1) := by decide +kernel
theorem dX11_late_17 : decode cX11_late 17 = .ok (.getfield 92, 3) := by decide +kernel
theorem dX11_late_20 : decode cX11_late 20 = .ok (.ishl, 1) := by decide +kernel
theorem dX11_late_21 : decode cX11_late 21 = .ok (.iconst 1, 1) := by decide +kernel
theorem dX11_late_22 : decode cX11_late 22 = .ok (.isub, 1) := by decide +kernel
theorem dX11_late_23 : decode cX11_late 23 = .ok (.invokestatic 65, 3) := by decide +kernel
theorem dX11_late_26 : decode cX11_late 26 = .ok (.ifCond .eq 12, 3) := by decide +kernel
theorem dX11_late_29 : decode cX11_late 29 = .ok (.iload_n 3, 1) := by decide +kernel
theorem dX11_late_30 : decode cX11_late 30 = .ok (.iconst 0, 1) := by decide +kernel
theorem dX11_late_31 : decode cX11_late 31 = .ok (.iconst 2, 1) := by decide +kernel
theorem dX11_late_32 : decode cX11_late 32 = .ok (.invokestatic 65, 3) := by decide +kernel
theorem dX11_late_35 : decode cX11_late 35 = .ok (.ifCond .ne 6, 3) := by decide +kernel
theorem dX11_late_38 : decode cX11_late 38 = .ok (.bipush (-102), 2) := by decide +kernel
theorem dX11_late_40 : decode cX11_late 40 = .ok (.ireturn, 1) := by decide +kernel
theorem dX11_late_41 : decode cX11_late 41 = .ok (.aload_n 0, 1) := by decide +kernel
theorem dX11_late_42 : decode cX11_late 42 = .ok (.getfield 92, 3) := by decide +kernel
theorem dX11_late_45 : decode cX11_late 45 = .ok (.ifCond .ne 8, 3) := by decide +kernel
theorem dX11_late_48 : decode cX11_late 48 = .ok (.bipush (-103), 2) := by decide +kernel
theorem dX11_late_50 : decode cX11_late 50 = .ok (.goto 10, 3) := by decide +kernel
theorem dX11_late_53 : decode cX11_late 53 = .ok (.aload_n 0, 1) := by decide +kernel
theorem dX11_late_54 : decode cX11_late 54 = .ok (.iload_n 1, 1) := by decide +kernel
theorem dX11_late_55 : decode cX11_late 55 = .ok (.iload_n 2, 1) := by decide +kernel
theorem dX11_late_56 : decode cX11_late 56 = .ok (.iload_n 3, 1) := by decide +kernel
theorem dX11_late_57 : decode cX11_late 57 = .ok (.invokevirtual 228, 3) := by decide +kernel
theorem dX11_late_60 : decode cX11_late 60 = .ok (.ireturn, 1) := by decide +kernel
theorem dX11_toMiddle_0 : decode cX11_toMiddle 0 = .ok (.iload_n 1, 1) := by decide +kernel
theorem dX11_toMiddle_1 : decode cX11_toMiddle 1 = .ok (.aload_n 0, 1) := by decide +kernel
theorem dX11_toMiddle_2 : decode cX11_toMiddle 2 = .ok (.getfield 89, 3) := by decide +kernel
theorem dX11_toMiddle_5 : decode cX11_toMiddle 5 = .ok (.idiv, 1) := by decide +kernel
theorem dX11_toMiddle_6 : decode cX11_toMiddle 6 = .ok (.istore_n 2, 1) := by decide +kernel
theorem dX11_toMiddle_7 : decode cX11_toMiddle 7 = .ok (.iload_n 1, 1) := by decide +kernel
theorem dX11_toMiddle_8 : decode cX11_toMiddle 8 = .ok (.aload_n 0, 1) := by decide +kernel
theorem dX11_toMiddle_9 : decode cX11_toMiddle 9 = .ok (.getfield 89, 3) := by decide +kernel
theorem dX11_toMiddle_12 : decode cX11_toMiddle 12 = .ok (.irem, 1) := by decide +kernel
theorem dX11_toMiddle_13 : decode cX11_toMiddle 13 = .ok (.istore_n 3, 1) := by decide +kernel
theorem dX11_toMiddle_14 : decode cX11_toMiddle 14 = .ok (.iload_n 2, 1) := by decide +kernel
theorem dX11_toMiddle_15 : decode cX11_toMiddle 15 = .ok (.aload_n 0, 1) := by decide +kernel
theorem dX11_toMiddle_16 : decode cX11_toMiddle 16 = .ok (.getfield 86, 3) := by decide +kernel
theorem dX11_toMiddle_19 : decode cX11_toMiddle 19 = .ok (.iconst 2, 1) := by decide +kernel
theorem dX11_toMiddle_20 : decode cX11_toMiddle 20 = .ok (.idiv, 1) := by decide +kernel
theorem dX11_toMiddle_21 : decode cX11_toMiddle 21 = .ok (.if_icmp .eq 29, 3) := by decide +kernel
theorem dX11_toMiddle_24 : decode cX11_toMiddle 24 = .ok (.iload_n 2, 1) := by decide +kernel
theorem dX11_toMiddle_25 : decode cX11_toMiddle 25 = .ok (.aload_n 0, 1) := by decide +kernel
theorem dX11_toMiddle_26 : decode cX11_toMiddle 26 = .ok (.getfield 86, 3) := by decide +kernel
theorem dX11_toMiddle_29 : decode cX11_toMiddle 29 = .ok (.iconst 2, 1) := by decide +kernel
theorem dX11_toMiddle_30 : decode cX11_toMiddle 30 = .ok (.idiv, 1) := by decide +kernel
theorem dX11_toMiddle_31 : decode cX11_toMiddle 31 = .ok (.if_icmp .ge 12, 3) := by decide +kernel
theorem dX11_toMiddle_34 : decode cX11_toMiddle 34 = .ok (.iload_n 1, 1) := by decide +kernel
theorem dX11_toMiddle_35 : decode cX11_toMiddle 35 = .ok (.aload_n 0, 1) := by decide +kernel
theorem dX11_toMiddle_36 : decode cX11_toMiddle 36 = .ok (.getfield 89, 3) := by decide +kernel
theorem dX11_toMiddle_39 : decode cX11_toMiddle 39 = .ok (.iadd, 1) := by decide +kernel
theorem dX11_toMiddle_40 : decode cX11_toMiddle 40 = .ok (.goto 9, 3) := by decide +kernel
theorem dX11_toMiddle_43 : decode cX11_toMiddle 43 = .ok (.iload_n 1, 1) := by decide +kernel
theorem dX11_toMiddle_44 : decode cX11_toMiddle 44 = .ok (.aload_n 0, 1) := by decide +kernel
theorem dX11_toMiddle_45 : decode cX11_toMiddle 45 = .ok (.getfield 89, 3) := by decide +kernel
theorem dX11_toMiddle_48 : decode cX11_toMiddle 48 = .ok (.isub, 1) := by decide +kernel
theorem dX11_toMiddle_49 : decode cX11_toMiddle 49 = .ok (.ireturn, 1) := by decide +kernel
theorem dX11_toMiddle_50 : decode cX11_toMiddle 50 = .ok (.iload_n 3, 1) := by decide +kernel
theorem dX11_toMiddle_51 : decode cX11_toMiddle 51 = .ok (.aload_n 0, 1) := by decide +kernel
theorem dX11_toMiddle_52 : decode cX11_toMiddle 52 = .ok (.getfield 89, 3) := by decide +kernel
theorem dX11_toMiddle_55 : decode cX11_toMiddle 55 = .ok (.iconst 2, 1) := by decide +kernel
theorem dX11_toMiddle_56 : decode cX11_toMiddle 56 = .ok (.idiv, 1) := by decide +kernel
theorem dX11_toMiddle_57 : decode cX11_toMiddle 57 = .ok (.if_icmp .ne 7, 3) := by decide +kernel
theorem dX11_toMiddle_60 : decode cX11_toMiddle 60 = .ok (.iload_n 1, 1) := by decide +kernel
theorem dX11_toMiddle_61 : decode cX11_toMiddle 61 = .ok (.goto 22, 3) := by decide +kernel
theorem dX11_toMiddle_64 : decode cX11_toMiddle 64 = .ok (.iload_n 3, 1) := by decide +kernel
theorem dX11_toMiddle_65 : decode cX11_toMiddle 65 = .ok (.aload_n 0, 1) := by decide +kernel
theorem dX11_toMiddle_66 : decode cX11_toMiddle 66 = .ok (.getfield 89, 3) := by decide +kernel
theorem dX11_toMiddle_69 : decode cX11_toMiddle 69 = .ok (.iconst 2, 1) := by decide +kernel
theorem dX11_toMiddle_70 : decode cX11_toMiddle 70 = .ok (.idiv, 1) := by decide +kernel
theorem dX11_toMiddle_71 : decode cX11_toMiddle 71 = .ok (.if_icmp .ge 9, 3) := by decide +kernel
theorem dX11_toMiddle_74 : decode cX11_toMiddle 74 = .ok (.iload_n 1, 1) := by decide +kernel
theorem dX11_toMiddle_75 : decode cX11_toMiddle 75 = .ok (.iconst 1, 1) := by decide +kernel
theorem dX11_toMiddle_76 : decode cX11_toMiddle 76 = .ok (.iadd, 1) := by decide +kernel
theorem dX11_toMiddle_77 : decode cX11_toMiddle 77 = .ok (.goto 6, 3) := by decide +kernel
theorem dX11_toMiddle_80 : decode cX11_toMiddle 80 = .ok (.iload_n 1, 1) := by decide +kernel
theorem dX11_toMiddle_81 : decode cX11_toMiddle 81 = .ok (.iconst 1, 1) := by decide +kernel
theorem dX11_toMiddle_82 : decode cX11_toMiddle 82 = .ok (.isub, 1) := by decide +kernel
theorem dX11_toMiddle_83 : decode cX11_toMiddle 83 = .ok (.ireturn, 1) := by decide +kernel
theorem dX11_keepStands_0 : decode cX11_keepStands 0 = .ok (.iconst 0, 1) := by decide +kernel
theorem dX11_keepStands_1 : decode cX11_keepStands 1 = .ok (.istore_n 2, 1) := by decide +kernel
theorem dX11_keepStands_2 : decode cX11_keepStands 2 = .ok (.iload_n 2, 1) := by decide +kernel
theorem dX11_keepStands_3 : decode cX11_keepStands 3 = .ok (.aload_n 0, 1) := by decide +kernel
theorem dX11_keepStands_4 : decode cX11_keepStands 4 = .ok (.getfield 95, 3) := by decide +kernel
theorem dX11_keepStands_7 : decode cX11_keepStands 7 = .ok (.if_icmp .ge 26, 3) := by decide +kernel
theorem dX11_keepStands_10 : decode cX11_keepStands 10 = .ok (.aload_n 0, 1) := by decide +kernel
theorem dX11_keepStands_11 : decode cX11_keepStands 11 = .ok (.getfield 32, 3) := by decide +kernel
theorem dX11_keepStands_14 : decode cX11_keepStands 14 = .ok (.iload_n 2, 1) := by decide +kernel
theorem dX11_keepStands_15 : decode cX11_keepStands 15 = .ok (.aload_n 0, 1) := by decide +kernel
theorem dX11_keepStands_16 : decode cX11_keepStands 16 = .ok (.getfield 19, 3) := by decide +kernel
theorem dX11_keepStands_19 : decode cX11_keepStands 19 = .ok (.bipush 8, 2) := by decide +kernel
theorem dX11_keepStands_21 : decode cX11_keepStands 21 = .ok (.iload_n 2, 1) := by decide +kernel
theorem dX11_keepStands_22 : decode cX11_keepStands 22 = .ok (.imul, 1) := by decide +kernel
theorem dX11_keepStands_23 : decode cX11_keepStands 23 = .ok (.iload_n 1, 1) := by decide +kernel
theorem dX11_keepStands_24 : decode cX11_keepStands 24 = .ok (.iadd, 1) := by decide +kernel
theorem dX11_keepStands_25 : decode cX11_keepStands 25 = .ok (.iaload, 1) := by decide +kernel
theorem dX11_keepStands_26 : decode cX11_keepStands 26 = .ok (.iastore, 1) := by decide +kernel
theorem dX11_keepStands_27 : decode cX11_keepStands 27 = .ok (.iinc 2 1, 3) := by decide +kernel
theorem dX11_keepStands_30 : decode cX11_keepStands 30 = .ok (.goto (-28), 3) := by decide +kernel
theorem dX11_keepStands_33 : decode cX11_keepStands 33 = .ok (.return_, 1) := by decide +kernel
theorem dX11_putStands_0 : decode cX11_putStands 0 = .ok (.iconst 0, 1) := by decide +kernel
theorem dX11_putStands_1 : decode cX11_putStands 1 = .ok (.istore_n 2, 1) := by decide +kernel
theorem dX11_putStands_2 : decode cX11_putStands 2 = .ok (.iload_n 2, 1) := by decide +kernel
theorem dX11_putStands_3 : decode cX11_putStands 3 = .ok (.aload_n 0, 1) := by decide +kernel
theorem dX11_putStands_4 : decode cX11_putStands 4 = .ok (.getfield 95, 3) := by decide +kernel
theorem dX11_putStands_7 : decode cX11_putStands 7 = .ok (.if_icmp .ge 26, 3) := by decide +kernel
theorem dX11_putStands_10 : decode cX11_putStands 10 = .ok (.aload_n 0, 1) := by decide +kernel
theorem dX11_putStands_11 : decode cX11_putStands 11 = .ok (.getfield 19, 3) := by decide +kernel
theorem dX11_putStands_14 : decode cX11_putStands 14 = .ok (.bipush 8, 2) := by decide +kernel
theorem dX11_putStands_16 : decode cX11_putStands 16 = .ok (.iload_n 2, 1) := by decide +kernel
theorem dX11_putStands_17 : decode cX11_putStands 17 = .ok (.imul, 1) := by decide +kernel
theorem dX11_putStands_18 : decode cX11_putStands 18 = .ok (.iload_n 1, 1) := by decide +kernel
theorem dX11_putStands_19 : decode cX11_putStands 19 = .ok (.iadd, 1) := by decide +kernel
theorem dX11_putStands_20 : decode cX11_putStands 20 = .ok (.aload_n 0, 1) := by decide +kernel
theorem dX11_putStands_21 : decode cX11_putStands 21 = .ok (.getfield 32, 3) := by decide +kernel
theorem dX11_putStands_24 : decode cX11_putStands 24 = .ok (.iload_n 2, 1) := by decide +kernel
theorem dX11_putStands_25 : decode cX11_putStands 25 = .ok (.iaload, 1) := by decide +kernel
theorem dX11_putStands_26 : decode cX11_putStands 26 = .ok (.iastore, 1) := by decide +kernel
theorem dX11_putStands_27 : decode cX11_putStands 27 = .ok (.iinc 2 1, 3) := by decide +kernel
theorem dX11_putStands_30 : decode cX11_putStands 30 = .ok (.goto (-28), 3) := by decide +kernel
theorem dX11_putStands_33 : decode cX11_putStands 33 = .ok (.return_, 1) := by decide +kernel
theorem dX11_stormNow_0 : decode cX11_stormNow 0 = .ok (.aload_n 0, 1) := by decide +kernel
theorem dX11_stormNow_1 : decode cX11_stormNow 1 = .ok (.iload_n 1, 1) := by decide +kernel
theorem dX11_stormNow_2 : decode cX11_stormNow 2 = .ok (.invokevirtual 232, 3) := by decide +kernel
theorem dX11_stormNow_5 : decode cX11_stormNow 5 = .ok (.iconst (-1), 1) := by decide +kernel
theorem dX11_stormNow_6 : decode cX11_stormNow 6 = .ok (.istore_n 2, 1) := by decide +kernel
theorem dX11_stormNow_7 : decode cX11_stormNow 7 = .ok (.iconst 0, 1) := by decide +kernel
theorem dX11_stormNow_8 : decode cX11_stormNow 8 = .ok (.istore_n 3, 1) := by decide +kernel
theorem dX11_stormNow_9 : decode cX11_stormNow 9 = .ok (.iload_n 3, 1) := by decide +kernel
theorem dX11_stormNow_10 : decode cX11_stormNow 10 = .ok (.bipush 10, 2) := by decide +kernel
theorem dX11_stormNow_12 : decode cX11_stormNow 12 = .ok (.if_icmp .ge 98, 3) := by decide +kernel
theorem dX11_stormNow_15 : decode cX11_stormNow 15 = .ok (.iload_n 2, 1) := by decide +kernel
theorem dX11_stormNow_16 : decode cX11_stormNow 16 = .ok (.iconst (-1), 1) := by decide +kernel
theorem dX11_stormNow_17 : decode cX11_stormNow 17 = .ok (.if_icmp .ne 93, 3) := by decide +kernel
theorem dX11_stormNow_20 : decode cX11_stormNow 20 = .ok (.aload_n 0, 1) := by decide +kernel
theorem dX11_stormNow_21 : decode cX11_stormNow 21 = .ok (.iload_n 1, 1) := by decide +kernel
theorem dX11_stormNow_22 : decode cX11_stormNow 22 = .ok (.invokevirtual 143, 3) := by decide +kernel
theorem dX11_stormNow_25 : decode cX11_stormNow 25 = .ok (.ifCond .ne 7, 3) := by decide +kernel
theorem dX11_stormNow_28 : decode cX11_stormNow 28 = .ok (.iload_n 3, 1) := by decide +kernel
theorem dX11_stormNow_29 : decode cX11_stormNow 29 = .ok (.goto 4, 3) := by decide +kernel
theorem dX11_stormNow_32 : decode cX11_stormNow 32 = .ok (.iconst (-1), 1) := by decide +kernel
theorem dX11_stormNow_33 : decode cX11_stormNow 33 = .ok (.istore_n 2, 1) := by decide +kernel
theorem dX11_stormNow_34 : decode cX11_stormNow 34 = .ok (.iconst 0, 1) := by decide +kernel
theorem dX11_stormNow_35 : decode cX11_stormNow 35 = .ok (.istore 4, 2) := by decide +kernel
theorem dX11_stormNow_37 : decode cX11_stormNow 37 = .ok (.iload 4, 2) := by decide +kernel
theorem dX11_stormNow_39 : decode cX11_stormNow 39 = .ok (.aload_n 0, 1) := by decide +kernel
theorem dX11_stormNow_40 : decode cX11_stormNow 40 = .ok (.getfield 95, 3) := by decide +kernel
theorem dX11_stormNow_43 : decode cX11_stormNow 43 = .ok (.if_icmp .ge 61, 3) := by decide +kernel
theorem dX11_stormNow_46 : decode cX11_stormNow 46 = .ok (.aload_n 0, 1) := by decide +kernel
theorem dX11_stormNow_47 : decode cX11_stormNow 47 = .ok (.getfield 19, 3) := by decide +kernel
theorem dX11_stormNow_50 : decode cX11_stormNow 50 = .ok (.bipush 8, 2) := by decide +kernel
theorem dX11_stormNow_52 : decode cX11_stormNow 52 = .ok (.iload 4, 2) := by decide +kernel
theorem dX11_stormNow_54 : decode cX11_stormNow 54 = .ok (.imul, 1) := by decide +kernel
theorem dX11_stormNow_55 : decode cX11_stormNow 55 = .ok (.iload_n 1, 1) := by decide +kernel
theorem dX11_stormNow_56 : decode cX11_stormNow 56 = .ok (.iadd, 1) := by decide +kernel
theorem dX11_stormNow_57 : decode cX11_stormNow 57 = .ok (.aload_n 0, 1) := by decide +kernel
theorem dX11_stormNow_58 : decode cX11_stormNow 58 = .ok (.iload 4, 2) := by decide +kernel
theorem dX11_stormNow_60 : decode cX11_stormNow 60 = .ok (.invokevirtual 122, 3) := by decide +kernel
theorem dX11_stormNow_63 : decode cX11_stormNow 63 = .ok (.ifCond .eq 22, 3) := by decide +kernel
theorem dX11_stormNow_66 : decode cX11_stormNow 66 = .ok (.aload_n 0, 1) := by decide +kernel
theorem dX11_stormNow_67 : decode cX11_stormNow 67 = .ok (.aload_n 0, 1) := by decide +kernel
theorem dX11_stormNow_68 : decode cX11_stormNow 68 = .ok (.getfield 19, 3) := by decide +kernel
theorem dX11_stormNow_71 : decode cX11_stormNow 71 = .ok (.bipush 8, 2) := by decide +kernel
theorem dX11_stormNow_73 : decode cX11_stormNow 73 = .ok (.iload 4, 2) := by decide +kernel
theorem dX11_stormNow_75 : decode cX11_stormNow 75 = .ok (.imul, 1) := by decide +kernel
theorem dX11_stormNow_76 : decode cX11_stormNow 76 = .ok (.iload_n 1, 1) := by decide +kernel
theorem dX11_stormNow_77 : decode cX11_stormNow 77 = .ok (.iadd, 1) := by decide +kernel
theorem dX11_stormNow_78 : decode cX11_stormNow 78 = .ok (.iaload, 1) := by decide +kernel
theorem dX11_stormNow_79 : decode cX11_stormNow 79 = .ok (.invokevirtual 235, 3) := by decide +kernel
theorem dX11_stormNow_82 : decode cX11_stormNow 82 = .ok (.goto 15, 3) := by decide +kernel
theorem dX11_stormNow_85 : decode cX11_stormNow 85 = .ok (.aload_n 0, 1) := by decide +kernel
theorem dX11_stormNow_86 : decode cX11_stormNow 86 = .ok (.getfield 19, 3) := by decide +kernel
theorem dX11_stormNow_89 : decode cX11_stormNow 89 = .ok (.bipush 8, 2) := by decide +kernel
theorem dX11_stormNow_91 : decode cX11_stormNow 91 = .ok (.iload 4, 2) := by decide +kernel
theorem dX11_stormNow_93 : decode cX11_stormNow 93 = .ok (.imul, 1) := by decide +kernel
theorem dX11_stormNow_94 : decode cX11_stormNow 94 = .ok (.iload_n 1, 1) := by decide +kernel
theorem dX11_stormNow_95 : decode cX11_stormNow 95 = .ok (.iadd, 1) := by decide +kernel
theorem dX11_stormNow_96 : decode cX11_stormNow 96 = .ok (.iaload, 1) := by decide +kernel
theorem dX11_stormNow_97 : decode cX11_stormNow 97 = .ok (.iastore, 1) := by decide +kernel
theorem dX11_stormNow_98 : decode cX11_stormNow 98 = .ok (.iinc 4 1, 3) := by decide +kernel
theorem dX11_stormNow_101 : decode cX11_stormNow 101 = .ok (.goto (-64), 3) := by decide +kernel
theorem dX11_stormNow_104 : decode cX11_stormNow 104 = .ok (.iinc 3 1, 3) := by decide +kernel
theorem dX11_stormNow_107 : decode cX11_stormNow 107 = .ok (.goto (-98), 3) := by decide +kernel
theorem dX11_stormNow_110 : decode cX11_stormNow 110 = .ok (.aload_n 0, 1) := by decide +kernel
theorem dX11_stormNow_111 : decode cX11_stormNow 111 = .ok (.iload_n 1, 1) := by decide +kernel
theorem dX11_stormNow_112 : decode cX11_stormNow 112 = .ok (.invokevirtual 238, 3) := by decide +kernel
theorem dX11_stormNow_115 : decode cX11_stormNow 115 = .ok (.iload_n 2, 1) := by decide +kernel
theorem dX11_stormNow_116 : decode cX11_stormNow 116 = .ok (.ireturn, 1) := by decide +kernel
theorem dX11_storm_0 : decode cX11_storm 0 = .ok (.iload_n 1, 1) := by decide +kernel
theorem dX11_storm_1 : decode cX11_storm 1 = .ok (.invokestatic 119, 3) := by decide +kernel
theorem dX11_storm_4 : decode cX11_storm 4 = .ok (.ifCond .ne 6, 3) := by decide +kernel
theorem dX11_storm_7 : decode cX11_storm 7 = .ok (.bipush (-101), 2) := by decide +kernel
theorem dX11_storm_9 : decode cX11_storm 9 = .ok (.ireturn, 1) := by decide +kernel
theorem dX11_storm_10 : decode cX11_storm 10 = .ok (.aload_n 0, 1) := by decide +kernel
theorem dX11_storm_11 : decode cX11_storm 11 = .ok (.getfield 92, 3) := by decide +kernel
theorem dX11_storm_14 : decode cX11_storm 14 = .ok (.ifCond .ne 8, 3) := by decide +kernel
theorem dX11_storm_17 : decode cX11_storm 17 = .ok (.bipush (-103), 2) := by decide +kernel
theorem dX11_storm_19 : decode cX11_storm 19 = .ok (.goto 8, 3) := by decide +kernel
theorem dX11_storm_22 : decode cX11_storm 22 = .ok (.aload_n 0, 1) := by decide +kernel
theorem dX11_storm_23 : decode cX11_storm 23 = .ok (.iload_n 1, 1) := by decide +kernel
theorem dX11_storm_24 : decode cX11_storm 24 = .ok (.invokevirtual 241, 3) := by decide +kernel
theorem dX11_storm_27 : decode cX11_storm 27 = .ok (.ireturn, 1) := by decide +kernel
theorem dX11_mossNow_0 : decode cX11_mossNow 0 = .ok (.iconst (-1), 1) := by decide +kernel
theorem dX11_mossNow_1 : decode cX11_mossNow 1 = .ok (.istore_n 1, 1) := by decide +kernel
theorem dX11_mossNow_2 : decode cX11_mossNow 2 = .ok (.iconst 0, 1) := by decide +kernel
theorem dX11_mossNow_3 : decode cX11_mossNow 3 = .ok (.istore_n 2, 1) := by decide +kernel
theorem dX11_mossNow_4 : decode cX11_mossNow 4 = .ok (.iload_n 2, 1) := by decide +kernel
theorem dX11_mossNow_5 : decode cX11_mossNow 5 = .ok (.bipush 100, 2) := by decide +kernel
theorem dX11_mossNow_7 : decode cX11_mossNow 7 = .ok (.if_icmp .ge 32, 3) := by decide +kernel
theorem dX11_mossNow_10 : decode cX11_mossNow 10 = .ok (.iload_n 1, 1) := by decide +kernel
theorem dX11_mossNow_11 : decode cX11_mossNow 11 = .ok (.iconst (-1), 1) := by decide +kernel
theorem dX11_mossNow_12 : decode cX11_mossNow 12 = .ok (.if_icmp .ne 27, 3) := by decide +kernel
theorem dX11_mossNow_15 : decode cX11_mossNow 15 = .ok (.aload_n 0, 1) := by decide +kernel
theorem dX11_mossNow_16 : decode cX11_mossNow 16 = .ok (.iload_n 2, 1) := by decide +kernel
theorem dX11_mossNow_17 : decode cX11_mossNow 17 = .ok (.putfield 135, 3) := by decide +kernel
theorem dX11_mossNow_20 : decode cX11_mossNow 20 = .ok (.aload_n 0, 1) := by decide +kernel
theorem dX11_mossNow_21 : decode cX11_mossNow 21 = .ok (.invokevirtual 190, 3) := by decide +kernel
theorem dX11_mossNow_24 : decode cX11_mossNow 24 = .ok (.ifCond .eq 7, 3) := by decide +kernel
theorem dX11_mossNow_27 : decode cX11_mossNow 27 = .ok (.iconst (-1), 1) := by decide +kernel
theorem dX11_mossNow_28 : decode cX11_mossNow 28 = .ok (.goto 4, 3) := by decide +kernel
theorem dX11_mossNow_31 : decode cX11_mossNow 31 = .ok (.iload_n 2, 1) := by decide +kernel
theorem dX11_mossNow_32 : decode cX11_mossNow 32 = .ok (.istore_n 1, 1) := by decide +kernel
theorem dX11_mossNow_33 : decode cX11_mossNow 33 = .ok (.iinc 2 1, 3) := by decide +kernel
theorem dX11_mossNow_36 : decode cX11_mossNow 36 = .ok (.goto (-32), 3) := by decide +kernel
theorem dX11_mossNow_39 : decode cX11_mossNow 39 = .ok (.aload_n 0, 1) := by decide +kernel
theorem dX11_mossNow_40 : decode cX11_mossNow 40 = .ok (.iconst 0, 1) := by decide +kernel
theorem dX11_mossNow_41 : decode cX11_mossNow 41 = .ok (.putfield 135, 3) := by decide +kernel
theorem dX11_mossNow_44 : decode cX11_mossNow 44 = .ok (.iload_n 1, 1) := by decide +kernel
theorem dX11_mossNow_45 : decode cX11_mossNow 45 = .ok (.ireturn, 1) := by decide +kernel
theorem dX11_moss_0 : decode cX11_moss 0 = .ok (.aload_n 0, 1) := by decide +kernel
theorem dX11_moss_1 : decode cX11_moss 1 = .ok (.getfield 92, 3) := by decide +kernel
theorem dX11_moss_4 : decode cX11_moss 4 = .ok (.ifCond .ne 8, 3) := by decide +kernel
theorem dX11_moss_7 : decode cX11_moss 7 = .ok (.bipush (-103), 2) := by decide +kernel
theorem dX11_moss_9 : decode cX11_moss 9 = .ok (.goto 7, 3) := by decide +kernel
theorem dX11_moss_12 : decode cX11_moss 12 = .ok (.aload_n 0, 1) := by decide +kernel
theorem dX11_moss_13 : decode cX11_moss 13 = .ok (.invokevirtual 244, 3) := by decide +kernel
theorem dX11_moss_16 : decode cX11_moss 16 = .ok (.ireturn, 1) := by decide +kernel
theorem dX11_draw_0 : decode cX11_draw 0 = .ok (.aload_n 0, 1) := by decide +kernel
theorem dX11_draw_1 : decode cX11_draw 1 = .ok (.ldc2_w 247, 3) := by decide +kernel
theorem dX11_draw_4 : decode cX11_draw 4 = .ok (.aload_n 0, 1) := by decide +kernel
theorem dX11_draw_5 : decode cX11_draw 5 = .ok (.getfield 249, 3) := by decide +kernel
theorem dX11_draw_8 : decode cX11_draw 8 = .ok (.lmul, 1) := by decide +kernel
theorem dX11_draw_9 : decode cX11_draw 9 = .ok (.ldc2_w 253, 3) := by decide +kernel
theorem dX11_draw_12 : decode cX11_draw 12 = .ok (.ladd, 1) := by decide +kernel
theorem dX11_draw_13 : decode cX11_draw 13 = .ok (.ldc2_w 255, 3) := by decide +kernel
theorem dX11_draw_16 : decode cX11_draw 16 = .ok (.land, 1) := by decide +kernel
theorem dX11_draw_17 : decode cX11_draw 17 = .ok (.putfield 249, 3) := by decide +kernel
theorem dX11_draw_20 : decode cX11_draw 20 = .ok (.aload_n 0, 1) := by decide +kernel
theorem dX11_draw_21 : decode cX11_draw 21 = .ok (.getfield 249, 3) := by decide +kernel
theorem dX11_draw_24 : decode cX11_draw 24 = .ok (.ldc2_w 257, 3) := by decide +kernel
theorem dX11_draw_27 : decode cX11_draw 27 = .ok (.ldiv, 1) := by decide +kernel
theorem dX11_draw_28 : decode cX11_draw 28 = .ok (.iload_n 1, 1) := by decide +kernel
theorem dX11_draw_29 : decode cX11_draw 29 = .ok (.i2l, 1) := by decide +kernel
theorem dX11_draw_30 : decode cX11_draw 30 = .ok (.lrem, 1) := by decide +kernel
theorem dX11_draw_31 : decode cX11_draw 31 = .ok (.l2i, 1) := by decide +kernel
theorem dX11_draw_32 : decode cX11_draw 32 = .ok (.ireturn, 1) := by decide +kernel
theorem dX11_stray_0 : decode cX11_stray 0 = .ok (.iconst 0, 1) := by decide +kernel
theorem dX11_stray_1 : decode cX11_stray 1 = .ok (.istore_n 2, 1) := by decide +kernel
theorem dX11_stray_2 : decode cX11_stray 2 = .ok (.iload_n 2, 1) := by decide +kernel
theorem dX11_stray_3 : decode cX11_stray 3 = .ok (.aload_n 0, 1) := by decide +kernel
theorem dX11_stray_4 : decode cX11_stray 4 = .ok (.getfield 95, 3) := by decide +kernel
theorem dX11_stray_7 : decode cX11_stray 7 = .ok (.if_icmp .ge 86, 3) := by decide +kernel
theorem dX11_stray_10 : decode cX11_stray 10 = .ok (.aload_n 0, 1) := by decide +kernel
theorem dX11_stray_11 : decode cX11_stray 11 = .ok (.getfield 13, 3) := by decide +kernel
theorem dX11_stray_14 : decode cX11_stray 14 = .ok (.iload_n 2, 1) := by decide +kernel
theorem dX11_stray_15 : decode cX11_stray 15 = .ok (.iaload, 1) := by decide +kernel
theorem dX11_stray_16 : decode cX11_stray 16 = .ok (.iconst 2, 1) := by decide +kernel
theorem dX11_stray_17 : decode cX11_stray 17 = .ok (.if_icmp .ne 70, 3) := by decide +kernel
theorem dX11_stray_20 : decode cX11_stray 20 = .ok (.aload_n 0, 1) := by decide +kernel
theorem dX11_stray_21 : decode cX11_stray 21 = .ok (.iconst 5, 1) := by decide +kernel
theorem dX11_stray_22 : decode cX11_stray 22 = .ok (.invokevirtual 259, 3) := by decide +kernel
theorem dX11_stray_25 : decode cX11_stray 25 = .ok (.iconst 1, 1) := by decide +kernel
theorem dX11_stray_26 : decode cX11_stray 26 = .ok (.isub, 1) := by decide +kernel
theorem dX11_stray_27 : decode cX11_stray 27 = .ok (.istore_n 3, 1) := by decide +kernel
theorem dX11_stray_28 : decode cX11_stray 28 = .ok (.iload_n 3, 1) := by decide +kernel
theorem dX11_stray_29 : decode cX11_stray 29 = .ok (.ifCond .ge 7, 3) := by decide +kernel
theorem dX11_stray_32 : decode cX11_stray 32 = .ok (.iconst (-1), 1) := by decide +kernel
theorem dX11_stray_33 : decode cX11_stray 33 = .ok (.goto 19, 3) := by decide +kernel
theorem dX11_stray_36 : decode cX11_stray 36 = .ok (.aload_n 0, 1) := by decide +kernel
theorem dX11_stray_37 : decode cX11_stray 37 = .ok (.aload_n 0, 1) := by decide +kernel
theorem dX11_stray_38 : decode cX11_stray 38 = .ok (.getfield 19, 3) := by decide +kernel
theorem dX11_stray_41 : decode cX11_stray 41 = .ok (.bipush 8, 2) := by decide +kernel
theorem dX11_stray_43 : decode cX11_stray 43 = .ok (.iload_n 2, 1) := by decide +kernel
theorem dX11_stray_44 : decode cX11_stray 44 = .ok (.imul, 1) := by decide +kernel
theorem dX11_stray_45 : decode cX11_stray 45 = .ok (.iload_n 1, 1) := by decide +kernel
theorem dX11_stray_46 : decode cX11_stray 46 = .ok (.iadd, 1) := by decide +kernel
theorem dX11_stray_47 : decode cX11_stray 47 = .ok (.iaload, 1) := by decide +kernel
theorem dX11_stray_48 : decode cX11_stray 48 = .ok (.iload_n 3, 1) := by decide +kernel
theorem dX11_stray_49 : decode cX11_stray 49 = .ok (.invokevirtual 180, 3) := by decide +kernel
theorem dX11_stray_52 : decode cX11_stray 52 = .ok (.istore 4, 2) := by decide +kernel
theorem dX11_stray_54 : decode cX11_stray 54 = .ok (.aload_n 0, 1) := by decide +kernel
theorem dX11_stray_55 : decode cX11_stray 55 = .ok (.getfield 19, 3) := by decide +kernel
theorem dX11_stray_58 : decode cX11_stray 58 = .ok (.bipush 8, 2) := by decide +kernel
theorem dX11_stray_60 : decode cX11_stray 60 = .ok (.iload_n 2, 1) := by decide +kernel
theorem dX11_stray_61 : decode cX11_stray 61 = .ok (.imul, 1) := by decide +kernel
theorem dX11_stray_62 : decode cX11_stray 62 = .ok (.iload_n 1, 1) := by decide +kernel
theorem dX11_stray_63 : decode cX11_stray 63 = .ok (.iadd, 1) := by decide +kernel
theorem dX11_stray_64 : decode cX11_stray 64 = .ok (.iload 4, 2) := by decide +kernel
theorem dX11_stray_66 : decode cX11_stray 66 = .ok (.iconst (-1), 1) := by decide +kernel
theorem dX11_stray_67 : decode cX11_stray 67 = .ok (.if_icmp .ne 17, 3) := by decide +kernel
theorem dX11_stray_70 : decode cX11_stray 70 = .ok (.aload_n 0, 1) := by decide +kernel
theorem dX11_stray_71 : decode cX11_stray 71 = .ok (.getfield 19, 3) := by decide +kernel
theorem dX11_stray_74 : decode cX11_stray 74 = .ok (.bipush 8, 2) := by decide +kernel
theorem dX11_stray_76 : decode cX11_stray 76 = .ok (.iload_n 2, 1) := by decide +kernel
theorem dX11_stray_77 : decode cX11_stray 77 = .ok (.imul, 1) := by decide +kernel
theorem dX11_stray_78 : decode cX11_stray 78 = .ok (.iload_n 1, 1) := by decide +kernel
theorem dX11_stray_79 : decode cX11_stray 79 = .ok (.iadd, 1) := by decide +kernel
theorem dX11_stray_80 : decode cX11_stray 80 = .ok (.iaload, 1) := by decide +kernel
theorem dX11_stray_81 : decode cX11_stray 81 = .ok (.goto 5, 3) := by decide +kernel
theorem dX11_stray_84 : decode cX11_stray 84 = .ok (.iload 4, 2) := by decide +kernel
theorem dX11_stray_86 : decode cX11_stray 86 = .ok (.iastore, 1) := by decide +kernel
theorem dX11_stray_87 : decode cX11_stray 87 = .ok (.iinc 2 1, 3) := by decide +kernel
theorem dX11_stray_90 : decode cX11_stray 90 = .ok (.goto (-88), 3) := by decide +kernel
theorem dX11_stray_93 : decode cX11_stray 93 = .ok (.return_, 1) := by decide +kernel
theorem dX11_cowsNow_0 : decode cX11_cowsNow 0 = .ok (.aload_n 0, 1) := by decide +kernel
theorem dX11_cowsNow_1 : decode cX11_cowsNow 1 = .ok (.iload_n 1, 1) := by decide +kernel
theorem dX11_cowsNow_2 : decode cX11_cowsNow 2 = .ok (.invokevirtual 232, 3) := by decide +kernel
theorem dX11_cowsNow_5 : decode cX11_cowsNow 5 = .ok (.aload_n 0, 1) := by decide +kernel
theorem dX11_cowsNow_6 : decode cX11_cowsNow 6 = .ok (.iload_n 3, 1) := by decide +kernel
theorem dX11_cowsNow_7 : decode cX11_cowsNow 7 = .ok (.i2l, 1) := by decide +kernel
theorem dX11_cowsNow_8 : decode cX11_cowsNow 8 = .ok (.putfield 249, 3) := by decide +kernel
theorem dX11_cowsNow_11 : decode cX11_cowsNow 11 = .ok (.iconst 0, 1) := by decide +kernel
theorem dX11_cowsNow_12 : decode cX11_cowsNow 12 = .ok (.istore 5, 2) := by decide +kernel
theorem dX11_cowsNow_14 : decode cX11_cowsNow 14 = .ok (.iconst 0, 1) := by decide +kernel
theorem dX11_cowsNow_15 : decode cX11_cowsNow 15 = .ok (.istore 6, 2) := by decide +kernel
theorem dX11_cowsNow_17 : decode cX11_cowsNow 17 = .ok (.iload 6, 2) := by decide +kernel
theorem dX11_cowsNow_19 : decode cX11_cowsNow 19 = .ok (.iload_n 2, 1) := by decide +kernel
theorem dX11_cowsNow_20 : decode cX11_cowsNow 20 = .ok (.if_icmp .ge 32, 3) := by decide +kernel
theorem dX11_cowsNow_23 : decode cX11_cowsNow 23 = .ok (.aload_n 0, 1) := by decide +kernel
theorem dX11_cowsNow_24 : decode cX11_cowsNow 24 = .ok (.iload_n 1, 1) := by decide +kernel
theorem dX11_cowsNow_25 : decode cX11_cowsNow 25 = .ok (.invokevirtual 262, 3) := by decide +kernel
theorem dX11_cowsNow_28 : decode cX11_cowsNow 28 = .ok (.iload 5, 2) := by decide +kernel
theorem dX11_cowsNow_30 : decode cX11_cowsNow 30 = .ok (.aload_n 0, 1) := by decide +kernel
theorem dX11_cowsNow_31 : decode cX11_cowsNow 31 = .ok (.iload_n 1, 1) := by decide +kernel
theorem dX11_cowsNow_32 : decode cX11_cowsNow 32 = .ok (.invokevirtual 143, 3) := by decide +kernel
theorem dX11_cowsNow_35 : decode cX11_cowsNow 35 = .ok (.ifCond .ne 7, 3) := by decide +kernel
theorem dX11_cowsNow_38 : decode cX11_cowsNow 38 = .ok (.iconst 0, 1) := by decide +kernel
theorem dX11_cowsNow_39 : decode cX11_cowsNow 39 = .ok (.goto 4, 3) := by decide +kernel
theorem dX11_cowsNow_42 : decode cX11_cowsNow 42 = .ok (.iconst 1, 1) := by decide +kernel
theorem dX11_cowsNow_43 : decode cX11_cowsNow 43 = .ok (.iadd, 1) := by decide +kernel
theorem dX11_cowsNow_44 : decode cX11_cowsNow 44 = .ok (.istore 5, 2) := by decide +kernel
theorem dX11_cowsNow_46 : decode cX11_cowsNow 46 = .ok (.iinc 6 1, 3) := by decide +kernel
theorem dX11_cowsNow_49 : decode cX11_cowsNow 49 = .ok (.goto (-32), 3) := by decide +kernel
theorem dX11_cowsNow_52 : decode cX11_cowsNow 52 = .ok (.iload 4, 2) := by decide +kernel
theorem dX11_cowsNow_54 : decode cX11_cowsNow 54 = .ok (.iconst 1, 1) := by decide +kernel
theorem dX11_cowsNow_55 : decode cX11_cowsNow 55 = .ok (.if_icmp .le 33, 3) := by decide +kernel
theorem dX11_cowsNow_58 : decode cX11_cowsNow 58 = .ok (.aload_n 0, 1) := by decide +kernel
theorem dX11_cowsNow_59 : decode cX11_cowsNow 59 = .ok (.iload 4, 2) := by decide +kernel
theorem dX11_cowsNow_61 : decode cX11_cowsNow 61 = .ok (.bipush 10, 2) := by decide +kernel
theorem dX11_cowsNow_63 : decode cX11_cowsNow 63 = .ok (.isub, 1) := by decide +kernel
theorem dX11_cowsNow_64 : decode cX11_cowsNow 64 = .ok (.invokevirtual 113, 3) := by decide +kernel
theorem dX11_cowsNow_67 : decode cX11_cowsNow 67 = .ok (.ifCond .eq 21, 3) := by decide +kernel
theorem dX11_cowsNow_70 : decode cX11_cowsNow 70 = .ok (.aload_n 0, 1) := by decide +kernel
theorem dX11_cowsNow_71 : decode cX11_cowsNow 71 = .ok (.getfield 19, 3) := by decide +kernel
theorem dX11_cowsNow_74 : decode cX11_cowsNow 74 = .ok (.bipush 8, 2) := by decide +kernel
theorem dX11_cowsNow_76 : decode cX11_cowsNow 76 = .ok (.iload 4, 2) := by decide +kernel
theorem dX11_cowsNow_78 : decode cX11_cowsNow 78 = .ok (.bipush 10, 2) := by decide +kernel
theorem dX11_cowsNow_80 : decode cX11_cowsNow 80 = .ok (.isub, 1) := by decide +kernel
theorem dX11_cowsNow_81 : decode cX11_cowsNow 81 = .ok (.imul, 1) := by decide +kernel
theorem dX11_cowsNow_82 : decode cX11_cowsNow 82 = .ok (.iload_n 1, 1) := by decide +kernel
theorem dX11_cowsNow_83 : decode cX11_cowsNow 83 = .ok (.iadd, 1) := by decide +kernel
theorem dX11_cowsNow_84 : decode cX11_cowsNow 84 = .ok (.iaload, 1) := by decide +kernel
theorem dX11_cowsNow_85 : decode cX11_cowsNow 85 = .ok (.goto 4, 3) := by decide +kernel
theorem dX11_cowsNow_88 : decode cX11_cowsNow 88 = .ok (.iconst (-1), 1) := by decide +kernel
theorem dX11_cowsNow_89 : decode cX11_cowsNow 89 = .ok (.istore 6, 2) := by decide +kernel
theorem dX11_cowsNow_91 : decode cX11_cowsNow 91 = .ok (.aload_n 0, 1) := by decide +kernel
theorem dX11_cowsNow_92 : decode cX11_cowsNow 92 = .ok (.iload_n 1, 1) := by decide +kernel
theorem dX11_cowsNow_93 : decode cX11_cowsNow 93 = .ok (.invokevirtual 238, 3) := by decide +kernel
theorem dX11_cowsNow_96 : decode cX11_cowsNow 96 = .ok (.iload 4, 2) := by decide +kernel
theorem dX11_cowsNow_98 : decode cX11_cowsNow 98 = .ok (.ifCond .ne 8, 3) := by decide +kernel
theorem dX11_cowsNow_101 : decode cX11_cowsNow 101 = .ok (.iload 5, 2) := by decide +kernel
theorem dX11_cowsNow_103 : decode cX11_cowsNow 103 = .ok (.goto 19, 3) := by decide +kernel
theorem dX11_cowsNow_106 : decode cX11_cowsNow 106 = .ok (.iload 4, 2) := by decide +kernel
theorem dX11_cowsNow_108 : decode cX11_cowsNow 108 = .ok (.iconst 1, 1) := by decide +kernel
theorem dX11_cowsNow_109 : decode cX11_cowsNow 109 = .ok (.if_icmp .ne 11, 3) := by decide +kernel
theorem dX11_cowsNow_112 : decode cX11_cowsNow 112 = .ok (.aload_n 0, 1) := by decide +kernel
theorem dX11_cowsNow_113 : decode cX11_cowsNow 113 = .ok (.getfield 249, 3) := by decide +kernel
theorem dX11_cowsNow_116 : decode cX11_cowsNow 116 = .ok (.l2i, 1) := by decide +kernel
theorem dX11_cowsNow_117 : decode cX11_cowsNow 117 = .ok (.goto 5, 3) := by decide +kernel
theorem dX11_cowsNow_120 : decode cX11_cowsNow 120 = .ok (.iload 6, 2) := by decide +kernel
theorem dX11_cowsNow_122 : decode cX11_cowsNow 122 = .ok (.ireturn, 1) := by decide +kernel
theorem dX11_cows_0 : decode cX11_cows 0 = .ok (.iload_n 1, 1) := by decide +kernel
theorem dX11_cows_1 : decode cX11_cows 1 = .ok (.invokestatic 119, 3) := by decide +kernel
theorem dX11_cows_4 : decode cX11_cows 4 = .ok (.ifCond .ne 6, 3) := by decide +kernel
theorem dX11_cows_7 : decode cX11_cows 7 = .ok (.bipush (-101), 2) := by decide +kernel
theorem dX11_cows_9 : decode cX11_cows 9 = .ok (.ireturn, 1) := by decide +kernel
theorem dX11_cows_10 : decode cX11_cows 10 = .ok (.iload_n 2, 1) := by decide +kernel
theorem dX11_cows_11 : decode cX11_cows 11 = .ok (.iconst 1, 1) := by decide +kernel
theorem dX11_cows_12 : decode cX11_cows 12 = .ok (.bipush 60, 2) := by decide +kernel
theorem dX11_cows_14 : decode cX11_cows 14 = .ok (.invokestatic 65, 3) := by decide +kernel
theorem dX11_cows_17 : decode cX11_cows 17 = .ok (.ifCond .eq 29, 3) := by decide +kernel
theorem dX11_cows_20 : decode cX11_cows 20 = .ok (.iload_n 3, 1) := by decide +kernel
theorem dX11_cows_21 : decode cX11_cows 21 = .ok (.ifCond .lt 25, 3) := by decide +kernel
theorem dX11_cows_24 : decode cX11_cows 24 = .ok (.iload 4, 2) := by decide +kernel
theorem dX11_cows_26 : decode cX11_cows 26 = .ok (.iconst 0, 1) := by decide +kernel
theorem dX11_cows_27 : decode cX11_cows 27 = .ok (.iconst 1, 1) := by decide +kernel
theorem dX11_cows_28 : decode cX11_cows 28 = .ok (.invokestatic 65, 3) := by decide +kernel
theorem dX11_cows_31 : decode cX11_cows 31 = .ok (.ifCond .ne 18, 3) := by decide +kernel
theorem dX11_cows_34 : decode cX11_cows 34 = .ok (.iload 4, 2) := by decide +kernel
theorem dX11_cows_36 : decode cX11_cows 36 = .ok (.bipush 10, 2) := by decide +kernel
theorem dX11_cows_38 : decode cX11_cows 38 = .ok (.bipush 17, 2) := by decide +kernel
theorem dX11_cows_40 : decode cX11_cows 40 = .ok (.invokestatic 65, 3) := by decide +kernel
theorem dX11_cows_43 : decode cX11_cows 43 = .ok (.ifCond .ne 6, 3) := by decide +kernel
theorem dX11_cows_46 : decode cX11_cows 46 = .ok (.bipush (-102), 2) := by decide +kernel
theorem dX11_cows_48 : decode cX11_cows 48 = .ok (.ireturn, 1) := by decide +kernel
theorem dX11_cows_49 : decode cX11_cows 49 = .ok (.aload_n 0, 1) := by decide +kernel
theorem dX11_cows_50 : decode cX11_cows 50 = .ok (.getfield 92, 3) := by decide +kernel
theorem dX11_cows_53 : decode cX11_cows 53 = .ok (.ifCond .ne 8, 3) := by decide +kernel
theorem dX11_cows_56 : decode cX11_cows 56 = .ok (.bipush (-103), 2) := by decide +kernel
theorem dX11_cows_58 : decode cX11_cows 58 = .ok (.goto 12, 3) := by decide +kernel
theorem dX11_cows_61 : decode cX11_cows 61 = .ok (.aload_n 0, 1) := by decide +kernel
theorem dX11_cows_62 : decode cX11_cows 62 = .ok (.iload_n 1, 1) := by decide +kernel
theorem dX11_cows_63 : decode cX11_cows 63 = .ok (.iload_n 2, 1) := by decide +kernel
theorem dX11_cows_64 : decode cX11_cows 64 = .ok (.iload_n 3, 1) := by decide +kernel
theorem dX11_cows_65 : decode cX11_cows 65 = .ok (.iload 4, 2) := by decide +kernel
theorem dX11_cows_67 : decode cX11_cows 67 = .ok (.invokevirtual 265, 3) := by decide +kernel
theorem dX11_cows_70 : decode cX11_cows 70 = .ok (.ireturn, 1) := by decide +kernel
theorem dX11_image_0 : decode cX11_image 0 = .ok (.aload_n 0, 1) := by decide +kernel
theorem dX11_image_1 : decode cX11_image 1 = .ok (.getfield 92, 3) := by decide +kernel
theorem dX11_image_4 : decode cX11_image 4 = .ok (.ifCond .ne 6, 3) := by decide +kernel
theorem dX11_image_7 : decode cX11_image 7 = .ok (.bipush (-103), 2) := by decide +kernel
theorem dX11_image_9 : decode cX11_image 9 = .ok (.ireturn, 1) := by decide +kernel
theorem dX11_image_10 : decode cX11_image 10 = .ok (.aload_n 0, 1) := by decide +kernel
theorem dX11_image_11 : decode cX11_image 11 = .ok (.iconst 1, 1) := by decide +kernel
theorem dX11_image_12 : decode cX11_image 12 = .ok (.putfield 269, 3) := by decide +kernel
theorem dX11_image_15 : decode cX11_image 15 = .ok (.aload_n 0, 1) := by decide +kernel
theorem dX11_image_16 : decode cX11_image 16 = .ok (.aload_n 0, 1) := by decide +kernel
theorem dX11_image_17 : decode cX11_image 17 = .ok (.getfield 98, 3) := by decide +kernel
theorem dX11_image_20 : decode cX11_image 20 = .ok (.putfield 272, 3) := by decide +kernel
theorem dX11_image_23 : decode cX11_image 23 = .ok (.aload_n 0, 1) := by decide +kernel
theorem dX11_image_24 : decode cX11_image 24 = .ok (.aload_n 0, 1) := by decide +kernel
theorem dX11_image_25 : decode cX11_image 25 = .ok (.getfield 95, 3) := by decide +kernel
theorem dX11_image_28 : decode cX11_image 28 = .ok (.putfield 275, 3) := by decide +kernel
theorem dX11_image_31 : decode cX11_image 31 = .ok (.iconst 0, 1) := by decide +kernel
theorem dX11_image_32 : decode cX11_image 32 = .ok (.istore_n 1, 1) := by decide +kernel
theorem dX11_image_33 : decode cX11_image 33 = .ok (.iload_n 1, 1) := by decide +kernel
theorem dX11_image_34 : decode cX11_image 34 = .ok (.bipush 64, 2) := by decide +kernel
theorem dX11_image_36 : decode cX11_image 36 = .ok (.if_icmp .ge 21, 3) := by decide +kernel
theorem dX11_image_39 : decode cX11_image 39 = .ok (.aload_n 0, 1) := by decide +kernel
theorem dX11_image_40 : decode cX11_image 40 = .ok (.getfield 47, 3) := by decide +kernel
theorem dX11_image_43 : decode cX11_image 43 = .ok (.iload_n 1, 1) := by decide +kernel
theorem dX11_image_44 : decode cX11_image 44 = .ok (.aload_n 0, 1) := by decide +kernel
theorem dX11_image_45 : decode cX11_image 45 = .ok (.getfield 19, 3) := by decide +kernel
theorem dX11_image_48 : decode cX11_image 48 = .ok (.iload_n 1, 1) := by decide +kernel
theorem dX11_image_49 : decode cX11_image 49 = .ok (.iaload, 1) := by decide +kernel
theorem dX11_image_50 : decode cX11_image 50 = .ok (.iastore, 1) := by decide +kernel
theorem dX11_image_51 : decode cX11_image 51 = .ok (.iinc 1 1, 3) := by decide +kernel
theorem dX11_image_54 : decode cX11_image 54 = .ok (.goto (-21), 3) := by decide +kernel
theorem dX11_image_57 : decode cX11_image 57 = .ok (.aload_n 0, 1) := by decide +kernel
theorem dX11_image_58 : decode cX11_image 58 = .ok (.getfield 95, 3) := by decide +kernel
theorem dX11_image_61 : decode cX11_image 61 = .ok (.ireturn, 1) := by decide +kernel
theorem dX11_restore_0 : decode cX11_restore 0 = .ok (.aload_n 0, 1) := by decide +kernel
theorem dX11_restore_1 : decode cX11_restore 1 = .ok (.getfield 269, 3) := by decide +kernel
theorem dX11_restore_4 : decode cX11_restore 4 = .ok (.ifCond .eq 14, 3) := by decide +kernel
theorem dX11_restore_7 : decode cX11_restore 7 = .ok (.aload_n 0, 1) := by decide +kernel
theorem dX11_restore_8 : decode cX11_restore 8 = .ok (.getfield 272, 3) := by decide +kernel
theorem dX11_restore_11 : decode cX11_restore 11 = .ok (.aload_n 0, 1) := by decide +kernel
theorem dX11_restore_12 : decode cX11_restore 12 = .ok (.getfield 98, 3) := by decide +kernel
theorem dX11_restore_15 : decode cX11_restore 15 = .ok (.if_icmp .eq 6, 3) := by decide +kernel
theorem dX11_restore_18 : decode cX11_restore 18 = .ok (.bipush (-103), 2) := by decide +kernel
theorem dX11_restore_20 : decode cX11_restore 20 = .ok (.ireturn, 1) := by decide +kernel
theorem dX11_restore_21 : decode cX11_restore 21 = .ok (.aload_n 0, 1) := by decide +kernel
theorem dX11_restore_22 : decode cX11_restore 22 = .ok (.aload_n 0, 1) := by decide +kernel
theorem dX11_restore_23 : decode cX11_restore 23 = .ok (.getfield 275, 3) := by decide +kernel
theorem dX11_restore_26 : decode cX11_restore 26 = .ok (.putfield 95, 3) := by decide +kernel
theorem dX11_restore_29 : decode cX11_restore 29 = .ok (.iconst 0, 1) := by decide +kernel
theorem dX11_restore_30 : decode cX11_restore 30 = .ok (.istore_n 1, 1) := by decide +kernel
theorem dX11_restore_31 : decode cX11_restore 31 = .ok (.iload_n 1, 1) := by decide +kernel
theorem dX11_restore_32 : decode cX11_restore 32 = .ok (.bipush 64, 2) := by decide +kernel
theorem dX11_restore_34 : decode cX11_restore 34 = .ok (.if_icmp .ge 21, 3) := by decide +kernel
theorem dX11_restore_37 : decode cX11_restore 37 = .ok (.aload_n 0, 1) := by decide +kernel
theorem dX11_restore_38 : decode cX11_restore 38 = .ok (.getfield 19, 3) := by decide +kernel
theorem dX11_restore_41 : decode cX11_restore 41 = .ok (.iload_n 1, 1) := by decide +kernel
theorem dX11_restore_42 : decode cX11_restore 42 = .ok (.aload_n 0, 1) := by decide +kernel
theorem dX11_restore_43 : decode cX11_restore 43 = .ok (.getfield 47, 3) := by decide +kernel
theorem dX11_restore_46 : decode cX11_restore 46 = .ok (.iload_n 1, 1) := by decide +kernel
theorem dX11_restore_47 : decode cX11_restore 47 = .ok (.iaload, 1) := by decide +kernel
theorem dX11_restore_48 : decode cX11_restore 48 = .ok (.iastore, 1) := by decide +kernel
theorem dX11_restore_49 : decode cX11_restore 49 = .ok (.iinc 1 1, 3) := by decide +kernel
theorem dX11_restore_52 : decode cX11_restore 52 = .ok (.goto (-21), 3) := by decide +kernel
theorem dX11_restore_55 : decode cX11_restore 55 = .ok (.aload_n 0, 1) := by decide +kernel
theorem dX11_restore_56 : decode cX11_restore 56 = .ok (.getfield 95, 3) := by decide +kernel
theorem dX11_restore_59 : decode cX11_restore 59 = .ok (.ireturn, 1) := by decide +kernel
theorem dX11_doorMany_0 : decode cX11_doorMany 0 = .ok (.iconst 0, 1) := by decide +kernel
theorem dX11_doorMany_1 : decode cX11_doorMany 1 = .ok (.istore_n 1, 1) := by decide +kernel
theorem dX11_doorMany_2 : decode cX11_doorMany 2 = .ok (.iconst 0, 1) := by decide +kernel
theorem dX11_doorMany_3 : decode cX11_doorMany 3 = .ok (.istore_n 2, 1) := by decide +kernel
theorem dX11_doorMany_4 : decode cX11_doorMany 4 = .ok (.iload_n 2, 1) := by decide +kernel
theorem dX11_doorMany_5 : decode cX11_doorMany 5 = .ok (.aload_n 0, 1) := by decide +kernel
theorem dX11_doorMany_6 : decode cX11_doorMany 6 = .ok (.getfield 92, 3) := by decide +kernel
theorem dX11_doorMany_9 : decode cX11_doorMany 9 = .ok (.if_icmp .ge 26, 3) := by decide +kernel
theorem dX11_doorMany_12 : decode cX11_doorMany 12 = .ok (.iload_n 1, 1) := by decide +kernel
theorem dX11_doorMany_13 : decode cX11_doorMany 13 = .ok (.aload_n 0, 1) := by decide +kernel
theorem dX11_doorMany_14 : decode cX11_doorMany 14 = .ok (.getfield 7, 3) := by decide +kernel
theorem dX11_doorMany_17 : decode cX11_doorMany 17 = .ok (.iload_n 2, 1) := by decide +kernel
theorem dX11_doorMany_18 : decode cX11_doorMany 18 = .ok (.iaload, 1) := by decide +kernel
theorem dX11_doorMany_19 : decode cX11_doorMany 19 = .ok (.ifCond .le 7, 3) := by decide +kernel
theorem dX11_doorMany_22 : decode cX11_doorMany 22 = .ok (.iconst 1, 1) := by decide +kernel
theorem dX11_doorMany_23 : decode cX11_doorMany 23 = .ok (.goto 4, 3) := by decide +kernel
theorem dX11_doorMany_26 : decode cX11_doorMany 26 = .ok (.iconst 0, 1) := by decide +kernel
theorem dX11_doorMany_27 : decode cX11_doorMany 27 = .ok (.iadd, 1) := by decide +kernel
theorem dX11_doorMany_28 : decode cX11_doorMany 28 = .ok (.istore_n 1, 1) := by decide +kernel
theorem dX11_doorMany_29 : decode cX11_doorMany 29 = .ok (.iinc 2 1, 3) := by decide +kernel
theorem dX11_doorMany_32 : decode cX11_doorMany 32 = .ok (.goto (-28), 3) := by decide +kernel
theorem dX11_doorMany_35 : decode cX11_doorMany 35 = .ok (.iload_n 1, 1) := by decide +kernel
theorem dX11_doorMany_36 : decode cX11_doorMany 36 = .ok (.ireturn, 1) := by decide +kernel
theorem dX11_howMany_0 : decode cX11_howMany 0 = .ok (.iload_n 1, 1) := by decide +kernel
theorem dX11_howMany_1 : decode cX11_howMany 1 = .ok (.tableswitch 87 0 7 #[47, 52, 57, 62, 67, 72, 77, 82], 47) := by decide +kernel
theorem dX11_howMany_48 : decode cX11_howMany 48 = .ok (.aload_n 0, 1) := by decide +kernel
theorem dX11_howMany_49 : decode cX11_howMany 49 = .ok (.getfield 92, 3) := by decide +kernel
theorem dX11_howMany_52 : decode cX11_howMany 52 = .ok (.ireturn, 1) := by decide +kernel
theorem dX11_howMany_53 : decode cX11_howMany 53 = .ok (.aload_n 0, 1) := by decide +kernel
theorem dX11_howMany_54 : decode cX11_howMany 54 = .ok (.invokevirtual 278, 3) := by decide +kernel
theorem dX11_howMany_57 : decode cX11_howMany 57 = .ok (.ireturn, 1) := by decide +kernel
theorem dX11_howMany_58 : decode cX11_howMany 58 = .ok (.aload_n 0, 1) := by decide +kernel
theorem dX11_howMany_59 : decode cX11_howMany 59 = .ok (.getfield 95, 3) := by decide +kernel
theorem dX11_howMany_62 : decode cX11_howMany 62 = .ok (.ireturn, 1) := by decide +kernel
theorem dX11_howMany_63 : decode cX11_howMany 63 = .ok (.aload_n 0, 1) := by decide +kernel
theorem dX11_howMany_64 : decode cX11_howMany 64 = .ok (.invokevirtual 158, 3) := by decide +kernel
theorem dX11_howMany_67 : decode cX11_howMany 67 = .ok (.ireturn, 1) := by decide +kernel
theorem dX11_howMany_68 : decode cX11_howMany 68 = .ok (.aload_n 0, 1) := by decide +kernel
theorem dX11_howMany_69 : decode cX11_howMany 69 = .ok (.getfield 52, 3) := by decide +kernel
theorem dX11_howMany_72 : decode cX11_howMany 72 = .ok (.ireturn, 1) := by decide +kernel
theorem dX11_howMany_73 : decode cX11_howMany 73 = .ok (.aload_n 0, 1) := by decide +kernel
theorem dX11_howMany_74 : decode cX11_howMany 74 = .ok (.getfield 98, 3) := by decide +kernel
theorem dX11_howMany_77 : decode cX11_howMany 77 = .ok (.ireturn, 1) := by decide +kernel
theorem dX11_howMany_78 : decode cX11_howMany 78 = .ok (.aload_n 0, 1) := by decide +kernel
theorem dX11_howMany_79 : decode cX11_howMany 79 = .ok (.getfield 173, 3) := by decide +kernel
theorem dX11_howMany_82 : decode cX11_howMany 82 = .ok (.ireturn, 1) := by decide +kernel
theorem dX11_howMany_83 : decode cX11_howMany 83 = .ok (.aload_n 0, 1) := by decide +kernel
theorem dX11_howMany_84 : decode cX11_howMany 84 = .ok (.getfield 212, 3) := by decide +kernel
theorem dX11_howMany_87 : decode cX11_howMany 87 = .ok (.ireturn, 1) := by decide +kernel
theorem dX11_howMany_88 : decode cX11_howMany 88 = .ok (.bipush (-102), 2) := by decide +kernel
theorem dX11_howMany_90 : decode cX11_howMany 90 = .ok (.ireturn, 1) := by decide +kernel
theorem dX11_count_0 : decode cX11_count 0 = .ok (.aload_n 0, 1) := by decide +kernel
theorem dX11_count_1 : decode cX11_count 1 = .ok (.iload_n 1, 1) := by decide +kernel
theorem dX11_count_2 : decode cX11_count 2 = .ok (.invokevirtual 281, 3) := by decide +kernel
theorem dX11_count_5 : decode cX11_count 5 = .ok (.ireturn, 1) := by decide +kernel
theorem dX11_mix_0 : decode cX11_mix 0 = .ok (.aload_n 0, 1) := by decide +kernel
theorem dX11_mix_1 : decode cX11_mix 1 = .ok (.ldc2_w 284, 3) := by decide +kernel
theorem dX11_mix_4 : decode cX11_mix 4 = .ok (.aload_n 0, 1) := by decide +kernel
theorem dX11_mix_5 : decode cX11_mix 5 = .ok (.getfield 286, 3) := by decide +kernel
theorem dX11_mix_8 : decode cX11_mix 8 = .ok (.lmul, 1) := by decide +kernel
theorem dX11_mix_9 : decode cX11_mix 9 = .ok (.lload_n 1, 1) := by decide +kernel
theorem dX11_mix_10 : decode cX11_mix 10 = .ok (.ladd, 1) := by decide +kernel
theorem dX11_mix_11 : decode cX11_mix 11 = .ok (.putfield 286, 3) := by decide +kernel
theorem dX11_mix_14 : decode cX11_mix 14 = .ok (.return_, 1) := by decide +kernel
theorem dX11_mixThing_0 : decode cX11_mixThing 0 = .ok (.aload_n 0, 1) := by decide +kernel
theorem dX11_mixThing_1 : decode cX11_mixThing 1 = .ok (.aload_n 0, 1) := by decide +kernel
theorem dX11_mixThing_2 : decode cX11_mixThing 2 = .ok (.getfield 13, 3) := by decide +kernel
theorem dX11_mixThing_5 : decode cX11_mixThing 5 = .ok (.iload_n 1, 1) := by decide +kernel
theorem dX11_mixThing_6 : decode cX11_mixThing 6 = .ok (.iaload, 1) := by decide +kernel
theorem dX11_mixThing_7 : decode cX11_mixThing 7 = .ok (.i2l, 1) := by decide +kernel
theorem dX11_mixThing_8 : decode cX11_mixThing 8 = .ok (.invokevirtual 289, 3) := by decide +kernel
theorem dX11_mixThing_11 : decode cX11_mixThing 11 = .ok (.aload_n 0, 1) := by decide +kernel
theorem dX11_mixThing_12 : decode cX11_mixThing 12 = .ok (.aload_n 0, 1) := by decide +kernel
theorem dX11_mixThing_13 : decode cX11_mixThing 13 = .ok (.getfield 16, 3) := by decide +kernel
theorem dX11_mixThing_16 : decode cX11_mixThing 16 = .ok (.iload_n 1, 1) := by decide +kernel
theorem dX11_mixThing_17 : decode cX11_mixThing 17 = .ok (.iaload, 1) := by decide +kernel
theorem dX11_mixThing_18 : decode cX11_mixThing 18 = .ok (.i2l, 1) := by decide +kernel
theorem dX11_mixThing_19 : decode cX11_mixThing 19 = .ok (.invokevirtual 289, 3) := by decide +kernel
theorem dX11_mixThing_22 : decode cX11_mixThing 22 = .ok (.aload_n 0, 1) := by decide +kernel
theorem dX11_mixThing_23 : decode cX11_mixThing 23 = .ok (.aload_n 0, 1) := by decide +kernel
theorem dX11_mixThing_24 : decode cX11_mixThing 24 = .ok (.iload_n 1, 1) := by decide +kernel
theorem dX11_mixThing_25 : decode cX11_mixThing 25 = .ok (.invokevirtual 116, 3) := by decide +kernel
theorem dX11_mixThing_28 : decode cX11_mixThing 28 = .ok (.i2l, 1) := by decide +kernel
theorem dX11_mixThing_29 : decode cX11_mixThing 29 = .ok (.invokevirtual 289, 3) := by decide +kernel
theorem dX11_mixThing_32 : decode cX11_mixThing 32 = .ok (.iconst 0, 1) := by decide +kernel
theorem dX11_mixThing_33 : decode cX11_mixThing 33 = .ok (.istore_n 2, 1) := by decide +kernel
theorem dX11_mixThing_34 : decode cX11_mixThing 34 = .ok (.iload_n 2, 1) := by decide +kernel
theorem dX11_mixThing_35 : decode cX11_mixThing 35 = .ok (.bipush 8, 2) := by decide +kernel
theorem dX11_mixThing_37 : decode cX11_mixThing 37 = .ok (.if_icmp .ge 25, 3) := by decide +kernel
theorem dX11_mixThing_40 : decode cX11_mixThing 40 = .ok (.aload_n 0, 1) := by decide +kernel
theorem dX11_mixThing_41 : decode cX11_mixThing 41 = .ok (.aload_n 0, 1) := by decide +kernel
theorem dX11_mixThing_42 : decode cX11_mixThing 42 = .ok (.getfield 19, 3) := by decide +kernel
theorem dX11_mixThing_45 : decode cX11_mixThing 45 = .ok (.bipush 8, 2) := by decide +kernel
theorem dX11_mixThing_47 : decode cX11_mixThing 47 = .ok (.iload_n 1, 1) := by decide +kernel
theorem dX11_mixThing_48 : decode cX11_mixThing 48 = .ok (.imul, 1) := by decide +kernel
theorem dX11_mixThing_49 : decode cX11_mixThing 49 = .ok (.iload_n 2, 1) := by decide +kernel
theorem dX11_mixThing_50 : decode cX11_mixThing 50 = .ok (.iadd, 1) := by decide +kernel
theorem dX11_mixThing_51 : decode cX11_mixThing 51 = .ok (.iaload, 1) := by decide +kernel
theorem dX11_mixThing_52 : decode cX11_mixThing 52 = .ok (.i2l, 1) := by decide +kernel
theorem dX11_mixThing_53 : decode cX11_mixThing 53 = .ok (.invokevirtual 289, 3) := by decide +kernel
theorem dX11_mixThing_56 : decode cX11_mixThing 56 = .ok (.iinc 2 1, 3) := by decide +kernel
theorem dX11_mixThing_59 : decode cX11_mixThing 59 = .ok (.goto (-25), 3) := by decide +kernel
theorem dX11_mixThing_62 : decode cX11_mixThing 62 = .ok (.return_, 1) := by decide +kernel
theorem dX11_digest_0 : decode cX11_digest 0 = .ok (.aload_n 0, 1) := by decide +kernel
theorem dX11_digest_1 : decode cX11_digest 1 = .ok (.ldc2_w 293, 3) := by decide +kernel
theorem dX11_digest_4 : decode cX11_digest 4 = .ok (.putfield 286, 3) := by decide +kernel
theorem dX11_digest_7 : decode cX11_digest 7 = .ok (.iconst 0, 1) := by decide +kernel
theorem dX11_digest_8 : decode cX11_digest 8 = .ok (.istore_n 1, 1) := by decide +kernel
theorem dX11_digest_9 : decode cX11_digest 9 = .ok (.iload_n 1, 1) := by decide +kernel
theorem dX11_digest_10 : decode cX11_digest 10 = .ok (.aload_n 0, 1) := by decide +kernel
theorem dX11_digest_11 : decode cX11_digest 11 = .ok (.getfield 92, 3) := by decide +kernel
theorem dX11_digest_14 : decode cX11_digest 14 = .ok (.if_icmp .ge 20, 3) := by decide +kernel
theorem dX11_digest_17 : decode cX11_digest 17 = .ok (.aload_n 0, 1) := by decide +kernel
theorem dX11_digest_18 : decode cX11_digest 18 = .ok (.aload_n 0, 1) := by decide +kernel
theorem dX11_digest_19 : decode cX11_digest 19 = .ok (.getfield 7, 3) := by decide +kernel
theorem dX11_digest_22 : decode cX11_digest 22 = .ok (.iload_n 1, 1) := by decide +kernel
theorem dX11_digest_23 : decode cX11_digest 23 = .ok (.iaload, 1) := by decide +kernel
theorem dX11_digest_24 : decode cX11_digest 24 = .ok (.i2l, 1) := by decide +kernel
theorem dX11_digest_25 : decode cX11_digest 25 = .ok (.invokevirtual 289, 3) := by decide +kernel
theorem dX11_digest_28 : decode cX11_digest 28 = .ok (.iinc 1 1, 3) := by decide +kernel
theorem dX11_digest_31 : decode cX11_digest 31 = .ok (.goto (-22), 3) := by decide +kernel
theorem dX11_digest_34 : decode cX11_digest 34 = .ok (.iconst 0, 1) := by decide +kernel
theorem dX11_digest_35 : decode cX11_digest 35 = .ok (.istore_n 1, 1) := by decide +kernel
theorem dX11_digest_36 : decode cX11_digest 36 = .ok (.iload_n 1, 1) := by decide +kernel
theorem dX11_digest_37 : decode cX11_digest 37 = .ok (.aload_n 0, 1) := by decide +kernel
theorem dX11_digest_38 : decode cX11_digest 38 = .ok (.getfield 95, 3) := by decide +kernel
theorem dX11_digest_41 : decode cX11_digest 41 = .ok (.if_icmp .ge 14, 3) := by decide +kernel
theorem dX11_digest_44 : decode cX11_digest 44 = .ok (.aload_n 0, 1) := by decide +kernel
theorem dX11_digest_45 : decode cX11_digest 45 = .ok (.iload_n 1, 1) := by decide +kernel
theorem dX11_digest_46 : decode cX11_digest 46 = .ok (.invokevirtual 295, 3) := by decide +kernel
theorem dX11_digest_49 : decode cX11_digest 49 = .ok (.iinc 1 1, 3) := by decide +kernel
theorem dX11_digest_52 : decode cX11_digest 52 = .ok (.goto (-16), 3) := by decide +kernel
theorem dX11_digest_55 : decode cX11_digest 55 = .ok (.iconst 0, 1) := by decide +kernel
theorem dX11_digest_56 : decode cX11_digest 56 = .ok (.istore_n 1, 1) := by decide +kernel
theorem dX11_digest_57 : decode cX11_digest 57 = .ok (.iload_n 1, 1) := by decide +kernel
theorem dX11_digest_58 : decode cX11_digest 58 = .ok (.bipush 8, 2) := by decide +kernel
theorem dX11_digest_60 : decode cX11_digest 60 = .ok (.if_icmp .ge 41, 3) := by decide +kernel
theorem dX11_digest_63 : decode cX11_digest 63 = .ok (.aload_n 0, 1) := by decide +kernel
theorem dX11_digest_64 : decode cX11_digest 64 = .ok (.aload_n 0, 1) := by decide +kernel
theorem dX11_digest_65 : decode cX11_digest 65 = .ok (.iload_n 1, 1) := by decide +kernel
theorem dX11_digest_66 : decode cX11_digest 66 = .ok (.iconst 0, 1) := by decide +kernel
theorem dX11_digest_67 : decode cX11_digest 67 = .ok (.invokevirtual 138, 3) := by decide +kernel
theorem dX11_digest_70 : decode cX11_digest 70 = .ok (.i2l, 1) := by decide +kernel
theorem dX11_digest_71 : decode cX11_digest 71 = .ok (.invokevirtual 289, 3) := by decide +kernel
theorem dX11_digest_74 : decode cX11_digest 74 = .ok (.aload_n 0, 1) := by decide +kernel
theorem dX11_digest_75 : decode cX11_digest 75 = .ok (.aload_n 0, 1) := by decide +kernel
theorem dX11_digest_76 : decode cX11_digest 76 = .ok (.iload_n 1, 1) := by decide +kernel
theorem dX11_digest_77 : decode cX11_digest 77 = .ok (.iconst 1, 1) := by decide +kernel
theorem dX11_digest_78 : decode cX11_digest 78 = .ok (.invokevirtual 138, 3) := by decide +kernel
theorem dX11_digest_81 : decode cX11_digest 81 = .ok (.i2l, 1) := by decide +kernel
theorem dX11_digest_82 : decode cX11_digest 82 = .ok (.invokevirtual 289, 3) := by decide +kernel
theorem dX11_digest_85 : decode cX11_digest 85 = .ok (.aload_n 0, 1) := by decide +kernel
theorem dX11_digest_86 : decode cX11_digest 86 = .ok (.aload_n 0, 1) := by decide +kernel
theorem dX11_digest_87 : decode cX11_digest 87 = .ok (.iload_n 1, 1) := by decide +kernel
theorem dX11_digest_88 : decode cX11_digest 88 = .ok (.invokevirtual 143, 3) := by decide +kernel
theorem dX11_digest_91 : decode cX11_digest 91 = .ok (.i2l, 1) := by decide +kernel
theorem dX11_digest_92 : decode cX11_digest 92 = .ok (.invokevirtual 289, 3) := by decide +kernel
theorem dX11_digest_95 : decode cX11_digest 95 = .ok (.iinc 1 1, 3) := by decide +kernel
theorem dX11_digest_98 : decode cX11_digest 98 = .ok (.goto (-41), 3) := by decide +kernel
theorem dX11_digest_101 : decode cX11_digest 101 = .ok (.aload_n 0, 1) := by decide +kernel
theorem dX11_digest_102 : decode cX11_digest 102 = .ok (.getfield 92, 3) := by decide +kernel
theorem dX11_digest_105 : decode cX11_digest 105 = .ok (.ifCond .le 64, 3) := by decide +kernel
theorem dX11_digest_108 : decode cX11_digest 108 = .ok (.aload_n 0, 1) := by decide +kernel
theorem dX11_digest_109 : decode cX11_digest 109 = .ok (.aload_n 0, 1) := by decide +kernel
theorem dX11_digest_110 : decode cX11_digest 110 = .ok (.bipush 10, 2) := by decide +kernel
theorem dX11_digest_112 : decode cX11_digest 112 = .ok (.invokevirtual 221, 3) := by decide +kernel
theorem dX11_digest_115 : decode cX11_digest 115 = .ok (.i2l, 1) := by decide +kernel
theorem dX11_digest_116 : decode cX11_digest 116 = .ok (.invokevirtual 289, 3) := by decide +kernel
theorem dX11_digest_119 : decode cX11_digest 119 = .ok (.aload_n 0, 1) := by decide +kernel
theorem dX11_digest_120 : decode cX11_digest 120 = .ok (.aload_n 0, 1) := by decide +kernel
theorem dX11_digest_121 : decode cX11_digest 121 = .ok (.invokevirtual 244, 3) := by decide +kernel
theorem dX11_digest_124 : decode cX11_digest 124 = .ok (.i2l, 1) := by decide +kernel
theorem dX11_digest_125 : decode cX11_digest 125 = .ok (.invokevirtual 289, 3) := by decide +kernel
theorem dX11_digest_128 : decode cX11_digest 128 = .ok (.aload_n 0, 1) := by decide +kernel
theorem dX11_digest_129 : decode cX11_digest 129 = .ok (.iconst 4, 1) := by decide +kernel
theorem dX11_digest_130 : decode cX11_digest 130 = .ok (.invokevirtual 143, 3) := by decide +kernel
theorem dX11_digest_133 : decode cX11_digest 133 = .ok (.istore_n 1, 1) := by decide +kernel
theorem dX11_digest_134 : decode cX11_digest 134 = .ok (.iconst 0, 1) := by decide +kernel
theorem dX11_digest_135 : decode cX11_digest 135 = .ok (.istore_n 2, 1) := by decide +kernel
theorem dX11_digest_136 : decode cX11_digest 136 = .ok (.iload_n 2, 1) := by decide +kernel
theorem dX11_digest_137 : decode cX11_digest 137 = .ok (.iconst 3, 1) := by decide +kernel
theorem dX11_digest_138 : decode cX11_digest 138 = .ok (.if_icmp .ge 21, 3) := by decide +kernel
theorem dX11_digest_141 : decode cX11_digest 141 = .ok (.aload_n 0, 1) := by decide +kernel
theorem dX11_digest_142 : decode cX11_digest 142 = .ok (.aload_n 0, 1) := by decide +kernel
theorem dX11_digest_143 : decode cX11_digest 143 = .ok (.iconst 4, 1) := by decide +kernel
theorem dX11_digest_144 : decode cX11_digest 144 = .ok (.iload_n 1, 1) := by decide +kernel
theorem dX11_digest_145 : decode cX11_digest 145 = .ok (.iload_n 2, 1) := by decide +kernel
theorem dX11_digest_146 : decode cX11_digest 146 = .ok (.invokevirtual 228, 3) := by decide +kernel
theorem dX11_digest_149 : decode cX11_digest 149 = .ok (.i2l, 1) := by decide +kernel
theorem dX11_digest_150 : decode cX11_digest 150 = .ok (.invokevirtual 289, 3) := by decide +kernel
theorem dX11_digest_153 : decode cX11_digest 153 = .ok (.iinc 2 1, 3) := by decide +kernel
theorem dX11_digest_156 : decode cX11_digest 156 = .ok (.goto (-20), 3) := by decide +kernel
theorem dX11_digest_159 : decode cX11_digest 159 = .ok (.aload_n 0, 1) := by decide +kernel
theorem dX11_digest_160 : decode cX11_digest 160 = .ok (.aload_n 0, 1) := by decide +kernel
theorem dX11_digest_161 : decode cX11_digest 161 = .ok (.iconst 4, 1) := by decide +kernel
theorem dX11_digest_162 : decode cX11_digest 162 = .ok (.invokevirtual 241, 3) := by decide +kernel
theorem dX11_digest_165 : decode cX11_digest 165 = .ok (.i2l, 1) := by decide +kernel
theorem dX11_digest_166 : decode cX11_digest 166 = .ok (.invokevirtual 289, 3) := by decide +kernel
theorem dX11_digest_169 : decode cX11_digest 169 = .ok (.iconst 0, 1) := by decide +kernel
theorem dX11_digest_170 : decode cX11_digest 170 = .ok (.istore_n 1, 1) := by decide +kernel
theorem dX11_digest_171 : decode cX11_digest 171 = .ok (.iload_n 1, 1) := by decide +kernel
theorem dX11_digest_172 : decode cX11_digest 172 = .ok (.aload_n 0, 1) := by decide +kernel
theorem dX11_digest_173 : decode cX11_digest 173 = .ok (.getfield 52, 3) := by decide +kernel
theorem dX11_digest_176 : decode cX11_digest 176 = .ok (.if_icmp .ge 20, 3) := by decide +kernel
theorem dX11_digest_179 : decode cX11_digest 179 = .ok (.aload_n 0, 1) := by decide +kernel
theorem dX11_digest_180 : decode cX11_digest 180 = .ok (.aload_n 0, 1) := by decide +kernel
theorem dX11_digest_181 : decode cX11_digest 181 = .ok (.getfield 22, 3) := by decide +kernel
theorem dX11_digest_184 : decode cX11_digest 184 = .ok (.iload_n 1, 1) := by decide +kernel
theorem dX11_digest_185 : decode cX11_digest 185 = .ok (.baload, 1) := by decide +kernel
theorem dX11_digest_186 : decode cX11_digest 186 = .ok (.i2l, 1) := by decide +kernel
theorem dX11_digest_187 : decode cX11_digest 187 = .ok (.invokevirtual 289, 3) := by decide +kernel
theorem dX11_digest_190 : decode cX11_digest 190 = .ok (.iinc 1 1, 3) := by decide +kernel
theorem dX11_digest_193 : decode cX11_digest 193 = .ok (.goto (-22), 3) := by decide +kernel
theorem dX11_digest_196 : decode cX11_digest 196 = .ok (.iconst 0, 1) := by decide +kernel
theorem dX11_digest_197 : decode cX11_digest 197 = .ok (.istore_n 1, 1) := by decide +kernel
theorem dX11_digest_198 : decode cX11_digest 198 = .ok (.iload_n 1, 1) := by decide +kernel
theorem dX11_digest_199 : decode cX11_digest 199 = .ok (.bipush 8, 2) := by decide +kernel
theorem dX11_digest_201 : decode cX11_digest 201 = .ok (.if_icmp .ge 19, 3) := by decide +kernel
theorem dX11_digest_204 : decode cX11_digest 204 = .ok (.aload_n 0, 1) := by decide +kernel
theorem dX11_digest_205 : decode cX11_digest 205 = .ok (.aload_n 0, 1) := by decide +kernel
theorem dX11_digest_206 : decode cX11_digest 206 = .ok (.iload_n 1, 1) := by decide +kernel
theorem dX11_digest_207 : decode cX11_digest 207 = .ok (.invokevirtual 281, 3) := by decide +kernel
theorem dX11_digest_210 : decode cX11_digest 210 = .ok (.i2l, 1) := by decide +kernel
theorem dX11_digest_211 : decode cX11_digest 211 = .ok (.invokevirtual 289, 3) := by decide +kernel
theorem dX11_digest_214 : decode cX11_digest 214 = .ok (.iinc 1 1, 3) := by decide +kernel
theorem dX11_digest_217 : decode cX11_digest 217 = .ok (.goto (-19), 3) := by decide +kernel
theorem dX11_digest_220 : decode cX11_digest 220 = .ok (.aload_n 0, 1) := by decide +kernel
theorem dX11_digest_221 : decode cX11_digest 221 = .ok (.getfield 286, 3) := by decide +kernel
theorem dX11_digest_224 : decode cX11_digest 224 = .ok (.lreturn, 1) := by decide +kernel
