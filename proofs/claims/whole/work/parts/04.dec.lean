theorem dX10_init_0 : decode cX10_init 0 = .ok (.aload_n 0, 1) := by decide +kernel
theorem dX10_init_1 : decode cX10_init 1 = .ok (.invokespecial 1, 3) := by decide +kernel
theorem dX10_init_4 : decode cX10_init 4 = .ok (.aload_n 0, 1) := by decide +kernel
theorem dX10_init_5 : decode cX10_init 5 = .ok (.new 7, 3) := by decide +kernel
theorem dX10_init_8 : decode cX10_init 8 = .ok (.dup, 1) := by decide +kernel
theorem dX10_init_9 : decode cX10_init 9 = .ok (.invokespecial 9, 3) := by decide +kernel
theorem dX10_init_12 : decode cX10_init 12 = .ok (.putfield 10, 3) := by decide +kernel
theorem dX10_init_15 : decode cX10_init 15 = .ok (.aload_n 0, 1) := by decide +kernel
theorem dX10_init_16 : decode cX10_init 16 = .ok (.new 16, 3) := by decide +kernel
theorem dX10_init_19 : decode cX10_init 19 = .ok (.dup, 1) := by decide +kernel
theorem dX10_init_20 : decode cX10_init 20 = .ok (.invokespecial 18, 3) := by decide +kernel
theorem dX10_init_23 : decode cX10_init 23 = .ok (.putfield 19, 3) := by decide +kernel
theorem dX10_init_26 : decode cX10_init 26 = .ok (.aload_n 0, 1) := by decide +kernel
theorem dX10_init_27 : decode cX10_init 27 = .ok (.new 23, 3) := by decide +kernel
theorem dX10_init_30 : decode cX10_init 30 = .ok (.dup, 1) := by decide +kernel
theorem dX10_init_31 : decode cX10_init 31 = .ok (.invokespecial 25, 3) := by decide +kernel
theorem dX10_init_34 : decode cX10_init 34 = .ok (.putfield 26, 3) := by decide +kernel
theorem dX10_init_37 : decode cX10_init 37 = .ok (.aload_n 0, 1) := by decide +kernel
theorem dX10_init_38 : decode cX10_init 38 = .ok (.new 30, 3) := by decide +kernel
theorem dX10_init_41 : decode cX10_init 41 = .ok (.dup, 1) := by decide +kernel
theorem dX10_init_42 : decode cX10_init 42 = .ok (.invokespecial 32, 3) := by decide +kernel
theorem dX10_init_45 : decode cX10_init 45 = .ok (.putfield 33, 3) := by decide +kernel
theorem dX10_init_48 : decode cX10_init 48 = .ok (.aload_n 0, 1) := by decide +kernel
theorem dX10_init_49 : decode cX10_init 49 = .ok (.new 37, 3) := by decide +kernel
theorem dX10_init_52 : decode cX10_init 52 = .ok (.dup, 1) := by decide +kernel
theorem dX10_init_53 : decode cX10_init 53 = .ok (.aload_n 0, 1) := by decide +kernel
theorem dX10_init_54 : decode cX10_init 54 = .ok (.getfield 26, 3) := by decide +kernel
theorem dX10_init_57 : decode cX10_init 57 = .ok (.aload_n 0, 1) := by decide +kernel
theorem dX10_init_58 : decode cX10_init 58 = .ok (.getfield 33, 3) := by decide +kernel
theorem dX10_init_61 : decode cX10_init 61 = .ok (.invokespecial 39, 3) := by decide +kernel
theorem dX10_init_64 : decode cX10_init 64 = .ok (.putfield 42, 3) := by decide +kernel
theorem dX10_init_67 : decode cX10_init 67 = .ok (.aload_n 0, 1) := by decide +kernel
theorem dX10_init_68 : decode cX10_init 68 = .ok (.new 46, 3) := by decide +kernel
theorem dX10_init_71 : decode cX10_init 71 = .ok (.dup, 1) := by decide +kernel
theorem dX10_init_72 : decode cX10_init 72 = .ok (.aload_n 0, 1) := by decide +kernel
theorem dX10_init_73 : decode cX10_init 73 = .ok (.getfield 10, 3) := by decide +kernel
theorem dX10_init_76 : decode cX10_init 76 = .ok (.aload_n 0, 1) := by decide +kernel
theorem dX10_init_77 : decode cX10_init 77 = .ok (.getfield 26, 3) := by decide +kernel
theorem dX10_init_80 : decode cX10_init 80 = .ok (.aload_n 0, 1) := by decide +kernel
theorem dX10_init_81 : decode cX10_init 81 = .ok (.getfield 42, 3) := by decide +kernel
theorem dX10_init_84 : decode cX10_init 84 = .ok (.invokespecial 48, 3) := by decide +kernel
theorem dX10_init_87 : decode cX10_init 87 = .ok (.putfield 51, 3) := by decide +kernel
theorem dX10_init_90 : decode cX10_init 90 = .ok (.aload_n 0, 1) := by decide +kernel
theorem dX10_init_91 : decode cX10_init 91 = .ok (.new 55, 3) := by decide +kernel
theorem dX10_init_94 : decode cX10_init 94 = .ok (.dup, 1) := by decide +kernel
theorem dX10_init_95 : decode cX10_init 95 = .ok (.aload_n 0, 1) := by decide +kernel
theorem dX10_init_96 : decode cX10_init 96 = .ok (.getfield 26, 3) := by decide +kernel
theorem dX10_init_99 : decode cX10_init 99 = .ok (.aload_n 0, 1) := by decide +kernel
theorem dX10_init_100 : decode cX10_init 100 = .ok (.getfield 33, 3) := by decide +kernel
theorem dX10_init_103 : decode cX10_init 103 = .ok (.aload_n 0, 1) := by decide +kernel
theorem dX10_init_104 : decode cX10_init 104 = .ok (.getfield 42, 3) := by decide +kernel
theorem dX10_init_107 : decode cX10_init 107 = .ok (.invokespecial 57, 3) := by decide +kernel
theorem dX10_init_110 : decode cX10_init 110 = .ok (.putfield 60, 3) := by decide +kernel
theorem dX10_init_113 : decode cX10_init 113 = .ok (.aload_n 0, 1) := by decide +kernel
theorem dX10_init_114 : decode cX10_init 114 = .ok (.new 64, 3) := by decide +kernel
theorem dX10_init_117 : decode cX10_init 117 = .ok (.dup, 1) := by decide +kernel
theorem dX10_init_118 : decode cX10_init 118 = .ok (.aload_n 0, 1) := by decide +kernel
theorem dX10_init_119 : decode cX10_init 119 = .ok (.getfield 26, 3) := by decide +kernel
theorem dX10_init_122 : decode cX10_init 122 = .ok (.aload_n 0, 1) := by decide +kernel
theorem dX10_init_123 : decode cX10_init 123 = .ok (.getfield 33, 3) := by decide +kernel
theorem dX10_init_126 : decode cX10_init 126 = .ok (.aload_n 0, 1) := by decide +kernel
theorem dX10_init_127 : decode cX10_init 127 = .ok (.getfield 42, 3) := by decide +kernel
theorem dX10_init_130 : decode cX10_init 130 = .ok (.invokespecial 66, 3) := by decide +kernel
theorem dX10_init_133 : decode cX10_init 133 = .ok (.putfield 67, 3) := by decide +kernel
theorem dX10_init_136 : decode cX10_init 136 = .ok (.aload_n 0, 1) := by decide +kernel
theorem dX10_init_137 : decode cX10_init 137 = .ok (.new 71, 3) := by decide +kernel
theorem dX10_init_140 : decode cX10_init 140 = .ok (.dup, 1) := by decide +kernel
theorem dX10_init_141 : decode cX10_init 141 = .ok (.aload_n 0, 1) := by decide +kernel
theorem dX10_init_142 : decode cX10_init 142 = .ok (.getfield 26, 3) := by decide +kernel
theorem dX10_init_145 : decode cX10_init 145 = .ok (.aload_n 0, 1) := by decide +kernel
theorem dX10_init_146 : decode cX10_init 146 = .ok (.getfield 33, 3) := by decide +kernel
theorem dX10_init_149 : decode cX10_init 149 = .ok (.aload_n 0, 1) := by decide +kernel
theorem dX10_init_150 : decode cX10_init 150 = .ok (.getfield 42, 3) := by decide +kernel
theorem dX10_init_153 : decode cX10_init 153 = .ok (.invokespecial 73, 3) := by decide +kernel
theorem dX10_init_156 : decode cX10_init 156 = .ok (.putfield 74, 3) := by decide +kernel
theorem dX10_init_159 : decode cX10_init 159 = .ok (.aload_n 0, 1) := by decide +kernel
theorem dX10_init_160 : decode cX10_init 160 = .ok (.new 78, 3) := by decide +kernel
theorem dX10_init_163 : decode cX10_init 163 = .ok (.dup, 1) := by decide +kernel
theorem dX10_init_164 : decode cX10_init 164 = .ok (.aload_n 0, 1) := by decide +kernel
theorem dX10_init_165 : decode cX10_init 165 = .ok (.getfield 26, 3) := by decide +kernel
theorem dX10_init_168 : decode cX10_init 168 = .ok (.aload_n 0, 1) := by decide +kernel
theorem dX10_init_169 : decode cX10_init 169 = .ok (.getfield 33, 3) := by decide +kernel
theorem dX10_init_172 : decode cX10_init 172 = .ok (.invokespecial 80, 3) := by decide +kernel
theorem dX10_init_175 : decode cX10_init 175 = .ok (.putfield 81, 3) := by decide +kernel
theorem dX10_init_178 : decode cX10_init 178 = .ok (.return_, 1) := by decide +kernel
theorem dX10_letters_0 : decode cX10_letters 0 = .ok (.aload_n 0, 1) := by decide +kernel
theorem dX10_letters_1 : decode cX10_letters 1 = .ok (.getfield 10, 3) := by decide +kernel
theorem dX10_letters_4 : decode cX10_letters 4 = .ok (.lload_n 1, 1) := by decide +kernel
theorem dX10_letters_5 : decode cX10_letters 5 = .ok (.invokevirtual 85, 3) := by decide +kernel
theorem dX10_letters_8 : decode cX10_letters 8 = .ok (.ireturn, 1) := by decide +kernel
theorem dX10_blank_0 : decode cX10_blank 0 = .ok (.aload_n 0, 1) := by decide +kernel
theorem dX10_blank_1 : decode cX10_blank 1 = .ok (.getfield 10, 3) := by decide +kernel
theorem dX10_blank_4 : decode cX10_blank 4 = .ok (.invokevirtual 89, 3) := by decide +kernel
theorem dX10_blank_7 : decode cX10_blank 7 = .ok (.istore_n 1, 1) := by decide +kernel
theorem dX10_blank_8 : decode cX10_blank 8 = .ok (.aload_n 0, 1) := by decide +kernel
theorem dX10_blank_9 : decode cX10_blank 9 = .ok (.getfield 10, 3) := by decide +kernel
theorem dX10_blank_12 : decode cX10_blank 12 = .ok (.invokevirtual 93, 3) := by decide +kernel
theorem dX10_blank_15 : decode cX10_blank 15 = .ok (.iload_n 1, 1) := by decide +kernel
theorem dX10_blank_16 : decode cX10_blank 16 = .ok (.ireturn, 1) := by decide +kernel
theorem dX10_fault_0 : decode cX10_fault 0 = .ok (.iload_n 1, 1) := by decide +kernel
theorem dX10_fault_1 : decode cX10_fault 1 = .ok (.ifCond .ne 15, 3) := by decide +kernel
theorem dX10_fault_4 : decode cX10_fault 4 = .ok (.aload_n 0, 1) := by decide +kernel
theorem dX10_fault_5 : decode cX10_fault 5 = .ok (.getfield 19, 3) := by decide +kernel
theorem dX10_fault_8 : decode cX10_fault 8 = .ok (.aload_n 0, 1) := by decide +kernel
theorem dX10_fault_9 : decode cX10_fault 9 = .ok (.getfield 10, 3) := by decide +kernel
theorem dX10_fault_12 : decode cX10_fault 12 = .ok (.invokevirtual 96, 3) := by decide +kernel
theorem dX10_fault_15 : decode cX10_fault 15 = .ok (.ireturn, 1) := by decide +kernel
theorem dX10_fault_16 : decode cX10_fault 16 = .ok (.iload_n 1, 1) := by decide +kernel
theorem dX10_fault_17 : decode cX10_fault 17 = .ok (.iconst 1, 1) := by decide +kernel
theorem dX10_fault_18 : decode cX10_fault 18 = .ok (.if_icmp .ne 13, 3) := by decide +kernel
theorem dX10_fault_21 : decode cX10_fault 21 = .ok (.aload_n 0, 1) := by decide +kernel
theorem dX10_fault_22 : decode cX10_fault 22 = .ok (.getfield 10, 3) := by decide +kernel
theorem dX10_fault_25 : decode cX10_fault 25 = .ok (.invokevirtual 100, 3) := by decide +kernel
theorem dX10_fault_28 : decode cX10_fault 28 = .ok (.goto 5, 3) := by decide +kernel
theorem dX10_fault_31 : decode cX10_fault 31 = .ok (.bipush (-102), 2) := by decide +kernel
theorem dX10_fault_33 : decode cX10_fault 33 = .ok (.ireturn, 1) := by decide +kernel
theorem dX10_plan_0 : decode cX10_plan 0 = .ok (.aload_n 0, 1) := by decide +kernel
theorem dX10_plan_1 : decode cX10_plan 1 = .ok (.getfield 19, 3) := by decide +kernel
theorem dX10_plan_4 : decode cX10_plan 4 = .ok (.aload_n 0, 1) := by decide +kernel
theorem dX10_plan_5 : decode cX10_plan 5 = .ok (.getfield 10, 3) := by decide +kernel
theorem dX10_plan_8 : decode cX10_plan 8 = .ok (.invokevirtual 103, 3) := by decide +kernel
theorem dX10_plan_11 : decode cX10_plan 11 = .ok (.ifCond .ne 6, 3) := by decide +kernel
theorem dX10_plan_14 : decode cX10_plan 14 = .ok (.bipush (-103), 2) := by decide +kernel
theorem dX10_plan_16 : decode cX10_plan 16 = .ok (.ireturn, 1) := by decide +kernel
theorem dX10_plan_17 : decode cX10_plan 17 = .ok (.aload_n 0, 1) := by decide +kernel
theorem dX10_plan_18 : decode cX10_plan 18 = .ok (.getfield 26, 3) := by decide +kernel
theorem dX10_plan_21 : decode cX10_plan 21 = .ok (.aload_n 0, 1) := by decide +kernel
theorem dX10_plan_22 : decode cX10_plan 22 = .ok (.getfield 10, 3) := by decide +kernel
theorem dX10_plan_25 : decode cX10_plan 25 = .ok (.aload_n 0, 1) := by decide +kernel
theorem dX10_plan_26 : decode cX10_plan 26 = .ok (.getfield 19, 3) := by decide +kernel
theorem dX10_plan_29 : decode cX10_plan 29 = .ok (.invokevirtual 107, 3) := by decide +kernel
theorem dX10_plan_32 : decode cX10_plan 32 = .ok (.aload_n 0, 1) := by decide +kernel
theorem dX10_plan_33 : decode cX10_plan 33 = .ok (.getfield 19, 3) := by decide +kernel
theorem dX10_plan_36 : decode cX10_plan 36 = .ok (.invokevirtual 110, 3) := by decide +kernel
theorem dX10_plan_39 : decode cX10_plan 39 = .ok (.invokevirtual 113, 3) := by decide +kernel
theorem dX10_plan_42 : decode cX10_plan 42 = .ok (.aload_n 0, 1) := by decide +kernel
theorem dX10_plan_43 : decode cX10_plan 43 = .ok (.getfield 33, 3) := by decide +kernel
theorem dX10_plan_46 : decode cX10_plan 46 = .ok (.invokevirtual 117, 3) := by decide +kernel
theorem dX10_plan_49 : decode cX10_plan 49 = .ok (.aload_n 0, 1) := by decide +kernel
theorem dX10_plan_50 : decode cX10_plan 50 = .ok (.getfield 10, 3) := by decide +kernel
theorem dX10_plan_53 : decode cX10_plan 53 = .ok (.invokevirtual 93, 3) := by decide +kernel
theorem dX10_plan_56 : decode cX10_plan 56 = .ok (.aload_n 0, 1) := by decide +kernel
theorem dX10_plan_57 : decode cX10_plan 57 = .ok (.dup, 1) := by decide +kernel
theorem dX10_plan_58 : decode cX10_plan 58 = .ok (.getfield 118, 3) := by decide +kernel
theorem dX10_plan_61 : decode cX10_plan 61 = .ok (.iconst 1, 1) := by decide +kernel
theorem dX10_plan_62 : decode cX10_plan 62 = .ok (.iadd, 1) := by decide +kernel
theorem dX10_plan_63 : decode cX10_plan 63 = .ok (.putfield 118, 3) := by decide +kernel
theorem dX10_plan_66 : decode cX10_plan 66 = .ok (.aload_n 0, 1) := by decide +kernel
theorem dX10_plan_67 : decode cX10_plan 67 = .ok (.getfield 26, 3) := by decide +kernel
theorem dX10_plan_70 : decode cX10_plan 70 = .ok (.invokevirtual 122, 3) := by decide +kernel
theorem dX10_plan_73 : decode cX10_plan 73 = .ok (.ireturn, 1) := by decide +kernel
theorem dX10_square_0 : decode cX10_square 0 = .ok (.aload_n 0, 1) := by decide +kernel
theorem dX10_square_1 : decode cX10_square 1 = .ok (.getfield 26, 3) := by decide +kernel
theorem dX10_square_4 : decode cX10_square 4 = .ok (.iload_n 1, 1) := by decide +kernel
theorem dX10_square_5 : decode cX10_square 5 = .ok (.invokevirtual 125, 3) := by decide +kernel
theorem dX10_square_8 : decode cX10_square 8 = .ok (.ifCond .ne 6, 3) := by decide +kernel
theorem dX10_square_11 : decode cX10_square 11 = .ok (.ldc 129, 2) := by decide +kernel
theorem dX10_square_13 : decode cX10_square 13 = .ok (.ireturn, 1) := by decide +kernel
theorem dX10_square_14 : decode cX10_square 14 = .ok (.iload_n 2, 1) := by decide +kernel
theorem dX10_square_15 : decode cX10_square 15 = .ok (.tableswitch 52 0 2 #[25, 34, 43], 25) := by decide +kernel
theorem dX10_square_40 : decode cX10_square 40 = .ok (.aload_n 0, 1) := by decide +kernel
theorem dX10_square_41 : decode cX10_square 41 = .ok (.getfield 26, 3) := by decide +kernel
theorem dX10_square_44 : decode cX10_square 44 = .ok (.iload_n 1, 1) := by decide +kernel
theorem dX10_square_45 : decode cX10_square 45 = .ok (.invokevirtual 130, 3) := by decide +kernel
theorem dX10_square_48 : decode cX10_square 48 = .ok (.ireturn, 1) := by decide +kernel
theorem dX10_square_49 : decode cX10_square 49 = .ok (.aload_n 0, 1) := by decide +kernel
theorem dX10_square_50 : decode cX10_square 50 = .ok (.getfield 26, 3) := by decide +kernel
theorem dX10_square_53 : decode cX10_square 53 = .ok (.iload_n 1, 1) := by decide +kernel
theorem dX10_square_54 : decode cX10_square 54 = .ok (.invokevirtual 134, 3) := by decide +kernel
theorem dX10_square_57 : decode cX10_square 57 = .ok (.ireturn, 1) := by decide +kernel
theorem dX10_square_58 : decode cX10_square 58 = .ok (.aload_n 0, 1) := by decide +kernel
theorem dX10_square_59 : decode cX10_square 59 = .ok (.getfield 26, 3) := by decide +kernel
theorem dX10_square_62 : decode cX10_square 62 = .ok (.iload_n 1, 1) := by decide +kernel
theorem dX10_square_63 : decode cX10_square 63 = .ok (.invokevirtual 137, 3) := by decide +kernel
theorem dX10_square_66 : decode cX10_square 66 = .ok (.ireturn, 1) := by decide +kernel
theorem dX10_square_67 : decode cX10_square 67 = .ok (.ldc 140, 2) := by decide +kernel
theorem dX10_square_69 : decode cX10_square 69 = .ok (.ireturn, 1) := by decide +kernel
theorem dX10_thing_0 : decode cX10_thing 0 = .ok (.iload_n 1, 1) := by decide +kernel
theorem dX10_thing_1 : decode cX10_thing 1 = .ok (.invokestatic 141, 3) := by decide +kernel
theorem dX10_thing_4 : decode cX10_thing 4 = .ok (.ifCond .eq 10, 3) := by decide +kernel
theorem dX10_thing_7 : decode cX10_thing 7 = .ok (.iload_n 2, 1) := by decide +kernel
theorem dX10_thing_8 : decode cX10_thing 8 = .ok (.invokestatic 144, 3) := by decide +kernel
theorem dX10_thing_11 : decode cX10_thing 11 = .ok (.ifCond .ne 6, 3) := by decide +kernel
theorem dX10_thing_14 : decode cX10_thing 14 = .ok (.bipush (-102), 2) := by decide +kernel
theorem dX10_thing_16 : decode cX10_thing 16 = .ok (.ireturn, 1) := by decide +kernel
theorem dX10_thing_17 : decode cX10_thing 17 = .ok (.aload_n 0, 1) := by decide +kernel
theorem dX10_thing_18 : decode cX10_thing 18 = .ok (.getfield 26, 3) := by decide +kernel
theorem dX10_thing_21 : decode cX10_thing 21 = .ok (.iload_n 3, 1) := by decide +kernel
theorem dX10_thing_22 : decode cX10_thing 22 = .ok (.invokevirtual 125, 3) := by decide +kernel
theorem dX10_thing_25 : decode cX10_thing 25 = .ok (.ifCond .ne 6, 3) := by decide +kernel
theorem dX10_thing_28 : decode cX10_thing 28 = .ok (.bipush (-101), 2) := by decide +kernel
theorem dX10_thing_30 : decode cX10_thing 30 = .ok (.ireturn, 1) := by decide +kernel
theorem dX10_thing_31 : decode cX10_thing 31 = .ok (.aload_n 0, 1) := by decide +kernel
theorem dX10_thing_32 : decode cX10_thing 32 = .ok (.getfield 33, 3) := by decide +kernel
theorem dX10_thing_35 : decode cX10_thing 35 = .ok (.iload_n 1, 1) := by decide +kernel
theorem dX10_thing_36 : decode cX10_thing 36 = .ok (.iload_n 2, 1) := by decide +kernel
theorem dX10_thing_37 : decode cX10_thing 37 = .ok (.iload_n 3, 1) := by decide +kernel
theorem dX10_thing_38 : decode cX10_thing 38 = .ok (.invokevirtual 147, 3) := by decide +kernel
theorem dX10_thing_41 : decode cX10_thing 41 = .ok (.ireturn, 1) := by decide +kernel
theorem dX10_about_0 : decode cX10_about 0 = .ok (.aload_n 0, 1) := by decide +kernel
theorem dX10_about_1 : decode cX10_about 1 = .ok (.getfield 33, 3) := by decide +kernel
theorem dX10_about_4 : decode cX10_about 4 = .ok (.iload_n 1, 1) := by decide +kernel
theorem dX10_about_5 : decode cX10_about 5 = .ok (.invokevirtual 150, 3) := by decide +kernel
theorem dX10_about_8 : decode cX10_about 8 = .ok (.ifCond .ne 6, 3) := by decide +kernel
theorem dX10_about_11 : decode cX10_about 11 = .ok (.bipush (-101), 2) := by decide +kernel
theorem dX10_about_13 : decode cX10_about 13 = .ok (.ireturn, 1) := by decide +kernel
theorem dX10_about_14 : decode cX10_about 14 = .ok (.iload_n 2, 1) := by decide +kernel
theorem dX10_about_15 : decode cX10_about 15 = .ok (.invokestatic 151, 3) := by decide +kernel
theorem dX10_about_18 : decode cX10_about 18 = .ok (.ifCond .eq 16, 3) := by decide +kernel
theorem dX10_about_21 : decode cX10_about 21 = .ok (.aload_n 0, 1) := by decide +kernel
theorem dX10_about_22 : decode cX10_about 22 = .ok (.getfield 33, 3) := by decide +kernel
theorem dX10_about_25 : decode cX10_about 25 = .ok (.iload_n 1, 1) := by decide +kernel
theorem dX10_about_26 : decode cX10_about 26 = .ok (.iload_n 2, 1) := by decide +kernel
theorem dX10_about_27 : decode cX10_about 27 = .ok (.bipush 10, 2) := by decide +kernel
theorem dX10_about_29 : decode cX10_about 29 = .ok (.isub, 1) := by decide +kernel
theorem dX10_about_30 : decode cX10_about 30 = .ok (.invokevirtual 154, 3) := by decide +kernel
theorem dX10_about_33 : decode cX10_about 33 = .ok (.ireturn, 1) := by decide +kernel
theorem dX10_about_34 : decode cX10_about 34 = .ok (.iload_n 2, 1) := by decide +kernel
theorem dX10_about_35 : decode cX10_about 35 = .ok (.tableswitch 52 0 2 #[25, 34, 43], 25) := by decide +kernel
theorem dX10_about_60 : decode cX10_about 60 = .ok (.aload_n 0, 1) := by decide +kernel
theorem dX10_about_61 : decode cX10_about 61 = .ok (.getfield 33, 3) := by decide +kernel
theorem dX10_about_64 : decode cX10_about 64 = .ok (.iload_n 1, 1) := by decide +kernel
theorem dX10_about_65 : decode cX10_about 65 = .ok (.invokevirtual 158, 3) := by decide +kernel
theorem dX10_about_68 : decode cX10_about 68 = .ok (.ireturn, 1) := by decide +kernel
theorem dX10_about_69 : decode cX10_about 69 = .ok (.aload_n 0, 1) := by decide +kernel
theorem dX10_about_70 : decode cX10_about 70 = .ok (.getfield 33, 3) := by decide +kernel
theorem dX10_about_73 : decode cX10_about 73 = .ok (.iload_n 1, 1) := by decide +kernel
theorem dX10_about_74 : decode cX10_about 74 = .ok (.invokevirtual 161, 3) := by decide +kernel
theorem dX10_about_77 : decode cX10_about 77 = .ok (.ireturn, 1) := by decide +kernel
theorem dX10_about_78 : decode cX10_about 78 = .ok (.aload_n 0, 1) := by decide +kernel
theorem dX10_about_79 : decode cX10_about 79 = .ok (.getfield 33, 3) := by decide +kernel
theorem dX10_about_82 : decode cX10_about 82 = .ok (.iload_n 1, 1) := by decide +kernel
theorem dX10_about_83 : decode cX10_about 83 = .ok (.invokevirtual 164, 3) := by decide +kernel
theorem dX10_about_86 : decode cX10_about 86 = .ok (.ireturn, 1) := by decide +kernel
theorem dX10_about_87 : decode cX10_about 87 = .ok (.bipush (-102), 2) := by decide +kernel
theorem dX10_about_89 : decode cX10_about 89 = .ok (.ireturn, 1) := by decide +kernel
theorem dX10_as_0 : decode cX10_as 0 = .ok (.aload_n 0, 1) := by decide +kernel
theorem dX10_as_1 : decode cX10_as 1 = .ok (.getfield 33, 3) := by decide +kernel
theorem dX10_as_4 : decode cX10_as 4 = .ok (.iload_n 1, 1) := by decide +kernel
theorem dX10_as_5 : decode cX10_as 5 = .ok (.invokevirtual 150, 3) := by decide +kernel
theorem dX10_as_8 : decode cX10_as 8 = .ok (.ifCond .ne 6, 3) := by decide +kernel
theorem dX10_as_11 : decode cX10_as 11 = .ok (.bipush (-101), 2) := by decide +kernel
theorem dX10_as_13 : decode cX10_as 13 = .ok (.ireturn, 1) := by decide +kernel
theorem dX10_as_14 : decode cX10_as 14 = .ok (.iload_n 2, 1) := by decide +kernel
theorem dX10_as_15 : decode cX10_as 15 = .ok (.invokestatic 141, 3) := by decide +kernel
theorem dX10_as_18 : decode cX10_as 18 = .ok (.ifCond .ne 6, 3) := by decide +kernel
theorem dX10_as_21 : decode cX10_as 21 = .ok (.bipush (-102), 2) := by decide +kernel
theorem dX10_as_23 : decode cX10_as 23 = .ok (.ireturn, 1) := by decide +kernel
theorem dX10_as_24 : decode cX10_as 24 = .ok (.aload_n 0, 1) := by decide +kernel
theorem dX10_as_25 : decode cX10_as 25 = .ok (.getfield 33, 3) := by decide +kernel
theorem dX10_as_28 : decode cX10_as 28 = .ok (.iload_n 1, 1) := by decide +kernel
theorem dX10_as_29 : decode cX10_as 29 = .ok (.iload_n 2, 1) := by decide +kernel
theorem dX10_as_30 : decode cX10_as 30 = .ok (.invokevirtual 167, 3) := by decide +kernel
theorem dX10_as_33 : decode cX10_as 33 = .ok (.ifCond .eq 7, 3) := by decide +kernel
theorem dX10_as_36 : decode cX10_as 36 = .ok (.iload_n 1, 1) := by decide +kernel
theorem dX10_as_37 : decode cX10_as 37 = .ok (.goto 4, 3) := by decide +kernel
theorem dX10_as_40 : decode cX10_as 40 = .ok (.iconst (-1), 1) := by decide +kernel
theorem dX10_as_41 : decode cX10_as 41 = .ok (.ireturn, 1) := by decide +kernel
theorem dX10_stand_0 : decode cX10_stand 0 = .ok (.aload_n 0, 1) := by decide +kernel
theorem dX10_stand_1 : decode cX10_stand 1 = .ok (.getfield 33, 3) := by decide +kernel
theorem dX10_stand_4 : decode cX10_stand 4 = .ok (.iload_n 1, 1) := by decide +kernel
theorem dX10_stand_5 : decode cX10_stand 5 = .ok (.invokevirtual 150, 3) := by decide +kernel
theorem dX10_stand_8 : decode cX10_stand 8 = .ok (.ifCond .eq 21, 3) := by decide +kernel
theorem dX10_stand_11 : decode cX10_stand 11 = .ok (.iload_n 2, 1) := by decide +kernel
theorem dX10_stand_12 : decode cX10_stand 12 = .ok (.invokestatic 171, 3) := by decide +kernel
theorem dX10_stand_15 : decode cX10_stand 15 = .ok (.ifCond .eq 14, 3) := by decide +kernel
theorem dX10_stand_18 : decode cX10_stand 18 = .ok (.aload_n 0, 1) := by decide +kernel
theorem dX10_stand_19 : decode cX10_stand 19 = .ok (.getfield 26, 3) := by decide +kernel
theorem dX10_stand_22 : decode cX10_stand 22 = .ok (.iload_n 3, 1) := by decide +kernel
theorem dX10_stand_23 : decode cX10_stand 23 = .ok (.invokevirtual 125, 3) := by decide +kernel
theorem dX10_stand_26 : decode cX10_stand 26 = .ok (.ifCond .ne 6, 3) := by decide +kernel
theorem dX10_stand_29 : decode cX10_stand 29 = .ok (.bipush (-101), 2) := by decide +kernel
theorem dX10_stand_31 : decode cX10_stand 31 = .ok (.ireturn, 1) := by decide +kernel
theorem dX10_stand_32 : decode cX10_stand 32 = .ok (.aload_n 0, 1) := by decide +kernel
theorem dX10_stand_33 : decode cX10_stand 33 = .ok (.getfield 33, 3) := by decide +kernel
theorem dX10_stand_36 : decode cX10_stand 36 = .ok (.iload_n 1, 1) := by decide +kernel
theorem dX10_stand_37 : decode cX10_stand 37 = .ok (.iconst 3, 1) := by decide +kernel
theorem dX10_stand_38 : decode cX10_stand 38 = .ok (.invokevirtual 167, 3) := by decide +kernel
theorem dX10_stand_41 : decode cX10_stand 41 = .ok (.ifCond .ne 6, 3) := by decide +kernel
theorem dX10_stand_44 : decode cX10_stand 44 = .ok (.bipush (-103), 2) := by decide +kernel
theorem dX10_stand_46 : decode cX10_stand 46 = .ok (.ireturn, 1) := by decide +kernel
theorem dX10_stand_47 : decode cX10_stand 47 = .ok (.aload_n 0, 1) := by decide +kernel
theorem dX10_stand_48 : decode cX10_stand 48 = .ok (.getfield 33, 3) := by decide +kernel
theorem dX10_stand_51 : decode cX10_stand 51 = .ok (.iload_n 1, 1) := by decide +kernel
theorem dX10_stand_52 : decode cX10_stand 52 = .ok (.iload_n 2, 1) := by decide +kernel
theorem dX10_stand_53 : decode cX10_stand 53 = .ok (.invokevirtual 154, 3) := by decide +kernel
theorem dX10_stand_56 : decode cX10_stand 56 = .ok (.istore 4, 2) := by decide +kernel
theorem dX10_stand_58 : decode cX10_stand 58 = .ok (.aload_n 0, 1) := by decide +kernel
theorem dX10_stand_59 : decode cX10_stand 59 = .ok (.getfield 33, 3) := by decide +kernel
theorem dX10_stand_62 : decode cX10_stand 62 = .ok (.iload_n 1, 1) := by decide +kernel
theorem dX10_stand_63 : decode cX10_stand 63 = .ok (.iload_n 2, 1) := by decide +kernel
theorem dX10_stand_64 : decode cX10_stand 64 = .ok (.iload_n 3, 1) := by decide +kernel
theorem dX10_stand_65 : decode cX10_stand 65 = .ok (.invokevirtual 174, 3) := by decide +kernel
theorem dX10_stand_68 : decode cX10_stand 68 = .ok (.iload 4, 2) := by decide +kernel
theorem dX10_stand_70 : decode cX10_stand 70 = .ok (.ireturn, 1) := by decide +kernel
theorem dX10_put_0 : decode cX10_put 0 = .ok (.aload_n 0, 1) := by decide +kernel
theorem dX10_put_1 : decode cX10_put 1 = .ok (.getfield 33, 3) := by decide +kernel
theorem dX10_put_4 : decode cX10_put 4 = .ok (.iload_n 1, 1) := by decide +kernel
theorem dX10_put_5 : decode cX10_put 5 = .ok (.invokevirtual 150, 3) := by decide +kernel
theorem dX10_put_8 : decode cX10_put 8 = .ok (.ifCond .eq 14, 3) := by decide +kernel
theorem dX10_put_11 : decode cX10_put 11 = .ok (.aload_n 0, 1) := by decide +kernel
theorem dX10_put_12 : decode cX10_put 12 = .ok (.getfield 26, 3) := by decide +kernel
theorem dX10_put_15 : decode cX10_put 15 = .ok (.iload_n 2, 1) := by decide +kernel
theorem dX10_put_16 : decode cX10_put 16 = .ok (.invokevirtual 125, 3) := by decide +kernel
theorem dX10_put_19 : decode cX10_put 19 = .ok (.ifCond .ne 6, 3) := by decide +kernel
theorem dX10_put_22 : decode cX10_put 22 = .ok (.bipush (-101), 2) := by decide +kernel
theorem dX10_put_24 : decode cX10_put 24 = .ok (.ireturn, 1) := by decide +kernel
theorem dX10_put_25 : decode cX10_put 25 = .ok (.aload_n 0, 1) := by decide +kernel
theorem dX10_put_26 : decode cX10_put 26 = .ok (.getfield 33, 3) := by decide +kernel
theorem dX10_put_29 : decode cX10_put 29 = .ok (.iload_n 1, 1) := by decide +kernel
theorem dX10_put_30 : decode cX10_put 30 = .ok (.iconst 3, 1) := by decide +kernel
theorem dX10_put_31 : decode cX10_put 31 = .ok (.invokevirtual 167, 3) := by decide +kernel
theorem dX10_put_34 : decode cX10_put 34 = .ok (.ifCond .eq 6, 3) := by decide +kernel
theorem dX10_put_37 : decode cX10_put 37 = .ok (.bipush (-103), 2) := by decide +kernel
theorem dX10_put_39 : decode cX10_put 39 = .ok (.ireturn, 1) := by decide +kernel
theorem dX10_put_40 : decode cX10_put 40 = .ok (.aload_n 0, 1) := by decide +kernel
theorem dX10_put_41 : decode cX10_put 41 = .ok (.getfield 33, 3) := by decide +kernel
theorem dX10_put_44 : decode cX10_put 44 = .ok (.iload_n 1, 1) := by decide +kernel
theorem dX10_put_45 : decode cX10_put 45 = .ok (.iconst 0, 1) := by decide +kernel
theorem dX10_put_46 : decode cX10_put 46 = .ok (.invokevirtual 154, 3) := by decide +kernel
theorem dX10_put_49 : decode cX10_put 49 = .ok (.istore_n 3, 1) := by decide +kernel
theorem dX10_put_50 : decode cX10_put 50 = .ok (.aload_n 0, 1) := by decide +kernel
theorem dX10_put_51 : decode cX10_put 51 = .ok (.getfield 33, 3) := by decide +kernel
theorem dX10_put_54 : decode cX10_put 54 = .ok (.iload_n 1, 1) := by decide +kernel
theorem dX10_put_55 : decode cX10_put 55 = .ok (.iload_n 2, 1) := by decide +kernel
theorem dX10_put_56 : decode cX10_put 56 = .ok (.invokevirtual 178, 3) := by decide +kernel
theorem dX10_put_59 : decode cX10_put 59 = .ok (.iload_n 3, 1) := by decide +kernel
theorem dX10_put_60 : decode cX10_put 60 = .ok (.ireturn, 1) := by decide +kernel
theorem dX10_trade_0 : decode cX10_trade 0 = .ok (.aload_n 0, 1) := by decide +kernel
theorem dX10_trade_1 : decode cX10_trade 1 = .ok (.getfield 33, 3) := by decide +kernel
theorem dX10_trade_4 : decode cX10_trade 4 = .ok (.iload_n 1, 1) := by decide +kernel
theorem dX10_trade_5 : decode cX10_trade 5 = .ok (.invokevirtual 150, 3) := by decide +kernel
theorem dX10_trade_8 : decode cX10_trade 8 = .ok (.ifCond .eq 21, 3) := by decide +kernel
theorem dX10_trade_11 : decode cX10_trade 11 = .ok (.aload_n 0, 1) := by decide +kernel
theorem dX10_trade_12 : decode cX10_trade 12 = .ok (.getfield 33, 3) := by decide +kernel
theorem dX10_trade_15 : decode cX10_trade 15 = .ok (.iload_n 2, 1) := by decide +kernel
theorem dX10_trade_16 : decode cX10_trade 16 = .ok (.invokevirtual 150, 3) := by decide +kernel
theorem dX10_trade_19 : decode cX10_trade 19 = .ok (.ifCond .eq 10, 3) := by decide +kernel
theorem dX10_trade_22 : decode cX10_trade 22 = .ok (.iload_n 3, 1) := by decide +kernel
theorem dX10_trade_23 : decode cX10_trade 23 = .ok (.invokestatic 171, 3) := by decide +kernel
theorem dX10_trade_26 : decode cX10_trade 26 = .ok (.ifCond .ne 6, 3) := by decide +kernel
theorem dX10_trade_29 : decode cX10_trade 29 = .ok (.bipush (-101), 2) := by decide +kernel
theorem dX10_trade_31 : decode cX10_trade 31 = .ok (.ireturn, 1) := by decide +kernel
theorem dX10_trade_32 : decode cX10_trade 32 = .ok (.aload_n 0, 1) := by decide +kernel
theorem dX10_trade_33 : decode cX10_trade 33 = .ok (.getfield 33, 3) := by decide +kernel
theorem dX10_trade_36 : decode cX10_trade 36 = .ok (.iload_n 1, 1) := by decide +kernel
theorem dX10_trade_37 : decode cX10_trade 37 = .ok (.iconst 3, 1) := by decide +kernel
theorem dX10_trade_38 : decode cX10_trade 38 = .ok (.invokevirtual 167, 3) := by decide +kernel
theorem dX10_trade_41 : decode cX10_trade 41 = .ok (.ifCond .eq 15, 3) := by decide +kernel
theorem dX10_trade_44 : decode cX10_trade 44 = .ok (.aload_n 0, 1) := by decide +kernel
theorem dX10_trade_45 : decode cX10_trade 45 = .ok (.getfield 33, 3) := by decide +kernel
theorem dX10_trade_48 : decode cX10_trade 48 = .ok (.iload_n 2, 1) := by decide +kernel
theorem dX10_trade_49 : decode cX10_trade 49 = .ok (.iconst 3, 1) := by decide +kernel
theorem dX10_trade_50 : decode cX10_trade 50 = .ok (.invokevirtual 167, 3) := by decide +kernel
theorem dX10_trade_53 : decode cX10_trade 53 = .ok (.ifCond .ne 6, 3) := by decide +kernel
theorem dX10_trade_56 : decode cX10_trade 56 = .ok (.bipush (-103), 2) := by decide +kernel
theorem dX10_trade_58 : decode cX10_trade 58 = .ok (.ireturn, 1) := by decide +kernel
theorem dX10_trade_59 : decode cX10_trade 59 = .ok (.aload_n 0, 1) := by decide +kernel
theorem dX10_trade_60 : decode cX10_trade 60 = .ok (.getfield 33, 3) := by decide +kernel
theorem dX10_trade_63 : decode cX10_trade 63 = .ok (.iload_n 1, 1) := by decide +kernel
theorem dX10_trade_64 : decode cX10_trade 64 = .ok (.iload_n 3, 1) := by decide +kernel
theorem dX10_trade_65 : decode cX10_trade 65 = .ok (.invokevirtual 154, 3) := by decide +kernel
theorem dX10_trade_68 : decode cX10_trade 68 = .ok (.istore 4, 2) := by decide +kernel
theorem dX10_trade_70 : decode cX10_trade 70 = .ok (.aload_n 0, 1) := by decide +kernel
theorem dX10_trade_71 : decode cX10_trade 71 = .ok (.getfield 33, 3) := by decide +kernel
theorem dX10_trade_74 : decode cX10_trade 74 = .ok (.iload_n 2, 1) := by decide +kernel
theorem dX10_trade_75 : decode cX10_trade 75 = .ok (.iload_n 3, 1) := by decide +kernel
theorem dX10_trade_76 : decode cX10_trade 76 = .ok (.invokevirtual 154, 3) := by decide +kernel
theorem dX10_trade_79 : decode cX10_trade 79 = .ok (.istore 5, 2) := by decide +kernel
theorem dX10_trade_81 : decode cX10_trade 81 = .ok (.aload_n 0, 1) := by decide +kernel
theorem dX10_trade_82 : decode cX10_trade 82 = .ok (.getfield 33, 3) := by decide +kernel
theorem dX10_trade_85 : decode cX10_trade 85 = .ok (.iload_n 1, 1) := by decide +kernel
theorem dX10_trade_86 : decode cX10_trade 86 = .ok (.iload_n 3, 1) := by decide +kernel
theorem dX10_trade_87 : decode cX10_trade 87 = .ok (.iload 5, 2) := by decide +kernel
theorem dX10_trade_89 : decode cX10_trade 89 = .ok (.invokevirtual 174, 3) := by decide +kernel
theorem dX10_trade_92 : decode cX10_trade 92 = .ok (.aload_n 0, 1) := by decide +kernel
theorem dX10_trade_93 : decode cX10_trade 93 = .ok (.getfield 33, 3) := by decide +kernel
theorem dX10_trade_96 : decode cX10_trade 96 = .ok (.iload_n 2, 1) := by decide +kernel
theorem dX10_trade_97 : decode cX10_trade 97 = .ok (.iload_n 3, 1) := by decide +kernel
theorem dX10_trade_98 : decode cX10_trade 98 = .ok (.iload 4, 2) := by decide +kernel
theorem dX10_trade_100 : decode cX10_trade 100 = .ok (.invokevirtual 174, 3) := by decide +kernel
theorem dX10_trade_103 : decode cX10_trade 103 = .ok (.iload 4, 2) := by decide +kernel
theorem dX10_trade_105 : decode cX10_trade 105 = .ok (.iload 5, 2) := by decide +kernel
theorem dX10_trade_107 : decode cX10_trade 107 = .ok (.if_icmp .ne 7, 3) := by decide +kernel
theorem dX10_trade_110 : decode cX10_trade 110 = .ok (.iconst 0, 1) := by decide +kernel
theorem dX10_trade_111 : decode cX10_trade 111 = .ok (.goto 4, 3) := by decide +kernel
theorem dX10_trade_114 : decode cX10_trade 114 = .ok (.iconst 1, 1) := by decide +kernel
theorem dX10_trade_115 : decode cX10_trade 115 = .ok (.ireturn, 1) := by decide +kernel
theorem dX10_leans_0 : decode cX10_leans 0 = .ok (.iload_n 1, 1) := by decide +kernel
theorem dX10_leans_1 : decode cX10_leans 1 = .ok (.invokestatic 171, 3) := by decide +kernel
theorem dX10_leans_4 : decode cX10_leans 4 = .ok (.ifCond .ne 6, 3) := by decide +kernel
theorem dX10_leans_7 : decode cX10_leans 7 = .ok (.ldc 129, 2) := by decide +kernel
theorem dX10_leans_9 : decode cX10_leans 9 = .ok (.ireturn, 1) := by decide +kernel
theorem dX10_leans_10 : decode cX10_leans 10 = .ok (.iload_n 2, 1) := by decide +kernel
theorem dX10_leans_11 : decode cX10_leans 11 = .ok (.ifCond .ne 12, 3) := by decide +kernel
theorem dX10_leans_14 : decode cX10_leans 14 = .ok (.aload_n 0, 1) := by decide +kernel
theorem dX10_leans_15 : decode cX10_leans 15 = .ok (.getfield 42, 3) := by decide +kernel
theorem dX10_leans_18 : decode cX10_leans 18 = .ok (.iload_n 1, 1) := by decide +kernel
theorem dX10_leans_19 : decode cX10_leans 19 = .ok (.invokevirtual 182, 3) := by decide +kernel
theorem dX10_leans_22 : decode cX10_leans 22 = .ok (.ireturn, 1) := by decide +kernel
theorem dX10_leans_23 : decode cX10_leans 23 = .ok (.iload_n 2, 1) := by decide +kernel
theorem dX10_leans_24 : decode cX10_leans 24 = .ok (.iconst 1, 1) := by decide +kernel
theorem dX10_leans_25 : decode cX10_leans 25 = .ok (.if_icmp .ne 14, 3) := by decide +kernel
theorem dX10_leans_28 : decode cX10_leans 28 = .ok (.aload_n 0, 1) := by decide +kernel
theorem dX10_leans_29 : decode cX10_leans 29 = .ok (.getfield 42, 3) := by decide +kernel
theorem dX10_leans_32 : decode cX10_leans 32 = .ok (.iload_n 1, 1) := by decide +kernel
theorem dX10_leans_33 : decode cX10_leans 33 = .ok (.invokevirtual 185, 3) := by decide +kernel
theorem dX10_leans_36 : decode cX10_leans 36 = .ok (.goto 5, 3) := by decide +kernel
theorem dX10_leans_39 : decode cX10_leans 39 = .ok (.ldc 140, 2) := by decide +kernel
theorem dX10_leans_41 : decode cX10_leans 41 = .ok (.ireturn, 1) := by decide +kernel
theorem dX10_dip_0 : decode cX10_dip 0 = .ok (.aload_n 0, 1) := by decide +kernel
theorem dX10_dip_1 : decode cX10_dip 1 = .ok (.getfield 26, 3) := by decide +kernel
theorem dX10_dip_4 : decode cX10_dip 4 = .ok (.iload_n 1, 1) := by decide +kernel
theorem dX10_dip_5 : decode cX10_dip 5 = .ok (.invokevirtual 125, 3) := by decide +kernel
theorem dX10_dip_8 : decode cX10_dip 8 = .ok (.ifCond .eq 10, 3) := by decide +kernel
theorem dX10_dip_11 : decode cX10_dip 11 = .ok (.iload_n 2, 1) := by decide +kernel
theorem dX10_dip_12 : decode cX10_dip 12 = .ok (.invokestatic 171, 3) := by decide +kernel
theorem dX10_dip_15 : decode cX10_dip 15 = .ok (.ifCond .ne 6, 3) := by decide +kernel
theorem dX10_dip_18 : decode cX10_dip 18 = .ok (.ldc 188, 2) := by decide +kernel
theorem dX10_dip_20 : decode cX10_dip 20 = .ok (.ireturn, 1) := by decide +kernel
theorem dX10_dip_21 : decode cX10_dip 21 = .ok (.aload_n 0, 1) := by decide +kernel
theorem dX10_dip_22 : decode cX10_dip 22 = .ok (.getfield 26, 3) := by decide +kernel
theorem dX10_dip_25 : decode cX10_dip 25 = .ok (.iload_n 1, 1) := by decide +kernel
theorem dX10_dip_26 : decode cX10_dip 26 = .ok (.aload_n 0, 1) := by decide +kernel
theorem dX10_dip_27 : decode cX10_dip 27 = .ok (.getfield 42, 3) := by decide +kernel
theorem dX10_dip_30 : decode cX10_dip 30 = .ok (.iload_n 2, 1) := by decide +kernel
theorem dX10_dip_31 : decode cX10_dip 31 = .ok (.invokevirtual 182, 3) := by decide +kernel
theorem dX10_dip_34 : decode cX10_dip 34 = .ok (.aload_n 0, 1) := by decide +kernel
theorem dX10_dip_35 : decode cX10_dip 35 = .ok (.getfield 42, 3) := by decide +kernel
theorem dX10_dip_38 : decode cX10_dip 38 = .ok (.iload_n 2, 1) := by decide +kernel
theorem dX10_dip_39 : decode cX10_dip 39 = .ok (.invokevirtual 185, 3) := by decide +kernel
theorem dX10_dip_42 : decode cX10_dip 42 = .ok (.invokevirtual 189, 3) := by decide +kernel
theorem dX10_dip_45 : decode cX10_dip 45 = .ok (.ireturn, 1) := by decide +kernel
theorem dX10_wet_0 : decode cX10_wet 0 = .ok (.iload_n 1, 1) := by decide +kernel
theorem dX10_wet_1 : decode cX10_wet 1 = .ok (.invokestatic 171, 3) := by decide +kernel
theorem dX10_wet_4 : decode cX10_wet 4 = .ok (.ifCond .eq 14, 3) := by decide +kernel
theorem dX10_wet_7 : decode cX10_wet 7 = .ok (.aload_n 0, 1) := by decide +kernel
theorem dX10_wet_8 : decode cX10_wet 8 = .ok (.getfield 42, 3) := by decide +kernel
theorem dX10_wet_11 : decode cX10_wet 11 = .ok (.iload_n 1, 1) := by decide +kernel
theorem dX10_wet_12 : decode cX10_wet 12 = .ok (.invokevirtual 192, 3) := by decide +kernel
theorem dX10_wet_15 : decode cX10_wet 15 = .ok (.goto 5, 3) := by decide +kernel
theorem dX10_wet_18 : decode cX10_wet 18 = .ok (.bipush (-101), 2) := by decide +kernel
theorem dX10_wet_20 : decode cX10_wet 20 = .ok (.ireturn, 1) := by decide +kernel
theorem dX10_trades_0 : decode cX10_trades 0 = .ok (.iload_n 1, 1) := by decide +kernel
theorem dX10_trades_1 : decode cX10_trades 1 = .ok (.invokestatic 171, 3) := by decide +kernel
theorem dX10_trades_4 : decode cX10_trades 4 = .ok (.ifCond .ne 6, 3) := by decide +kernel
theorem dX10_trades_7 : decode cX10_trades 7 = .ok (.bipush (-101), 2) := by decide +kernel
theorem dX10_trades_9 : decode cX10_trades 9 = .ok (.ireturn, 1) := by decide +kernel
theorem dX10_trades_10 : decode cX10_trades 10 = .ok (.iload_n 2, 1) := by decide +kernel
theorem dX10_trades_11 : decode cX10_trades 11 = .ok (.ifCond .eq 18, 3) := by decide +kernel
theorem dX10_trades_14 : decode cX10_trades 14 = .ok (.iload_n 2, 1) := by decide +kernel
theorem dX10_trades_15 : decode cX10_trades 15 = .ok (.iconst 1, 1) := by decide +kernel
theorem dX10_trades_16 : decode cX10_trades 16 = .ok (.if_icmp .eq 13, 3) := by decide +kernel
theorem dX10_trades_19 : decode cX10_trades 19 = .ok (.iload_n 2, 1) := by decide +kernel
theorem dX10_trades_20 : decode cX10_trades 20 = .ok (.invokestatic 151, 3) := by decide +kernel
theorem dX10_trades_23 : decode cX10_trades 23 = .ok (.ifCond .ne 6, 3) := by decide +kernel
theorem dX10_trades_26 : decode cX10_trades 26 = .ok (.bipush (-102), 2) := by decide +kernel
theorem dX10_trades_28 : decode cX10_trades 28 = .ok (.ireturn, 1) := by decide +kernel
theorem dX10_trades_29 : decode cX10_trades 29 = .ok (.aload_n 0, 1) := by decide +kernel
theorem dX10_trades_30 : decode cX10_trades 30 = .ok (.getfield 26, 3) := by decide +kernel
theorem dX10_trades_33 : decode cX10_trades 33 = .ok (.invokevirtual 195, 3) := by decide +kernel
theorem dX10_trades_36 : decode cX10_trades 36 = .ok (.ifCond .eq 24, 3) := by decide +kernel
theorem dX10_trades_39 : decode cX10_trades 39 = .ok (.aload_n 0, 1) := by decide +kernel
theorem dX10_trades_40 : decode cX10_trades 40 = .ok (.getfield 33, 3) := by decide +kernel
theorem dX10_trades_43 : decode cX10_trades 43 = .ok (.invokevirtual 199, 3) := by decide +kernel
theorem dX10_trades_46 : decode cX10_trades 46 = .ok (.bipush 6, 2) := by decide +kernel
theorem dX10_trades_48 : decode cX10_trades 48 = .ok (.if_icmp .gt 12, 3) := by decide +kernel
theorem dX10_trades_51 : decode cX10_trades 51 = .ok (.aload_n 0, 1) := by decide +kernel
theorem dX10_trades_52 : decode cX10_trades 52 = .ok (.getfield 202, 3) := by decide +kernel
theorem dX10_trades_55 : decode cX10_trades 55 = .ok (.bipush 30, 2) := by decide +kernel
theorem dX10_trades_57 : decode cX10_trades 57 = .ok (.if_icmp .lt 6, 3) := by decide +kernel
theorem dX10_trades_60 : decode cX10_trades 60 = .ok (.bipush (-103), 2) := by decide +kernel
theorem dX10_trades_62 : decode cX10_trades 62 = .ok (.ireturn, 1) := by decide +kernel
theorem dX10_trades_63 : decode cX10_trades 63 = .ok (.aload_n 0, 1) := by decide +kernel
theorem dX10_trades_64 : decode cX10_trades 64 = .ok (.dup, 1) := by decide +kernel
theorem dX10_trades_65 : decode cX10_trades 65 = .ok (.getfield 202, 3) := by decide +kernel
theorem dX10_trades_68 : decode cX10_trades 68 = .ok (.iconst 1, 1) := by decide +kernel
theorem dX10_trades_69 : decode cX10_trades 69 = .ok (.iadd, 1) := by decide +kernel
theorem dX10_trades_70 : decode cX10_trades 70 = .ok (.putfield 202, 3) := by decide +kernel
theorem dX10_trades_73 : decode cX10_trades 73 = .ok (.aload_n 0, 1) := by decide +kernel
theorem dX10_trades_74 : decode cX10_trades 74 = .ok (.getfield 60, 3) := by decide +kernel
theorem dX10_trades_77 : decode cX10_trades 77 = .ok (.iload_n 1, 1) := by decide +kernel
theorem dX10_trades_78 : decode cX10_trades 78 = .ok (.invokevirtual 205, 3) := by decide +kernel
theorem dX10_trades_81 : decode cX10_trades 81 = .ok (.iload_n 2, 1) := by decide +kernel
theorem dX10_trades_82 : decode cX10_trades 82 = .ok (.ifCond .ne 11, 3) := by decide +kernel
theorem dX10_trades_85 : decode cX10_trades 85 = .ok (.aload_n 0, 1) := by decide +kernel
theorem dX10_trades_86 : decode cX10_trades 86 = .ok (.getfield 60, 3) := by decide +kernel
theorem dX10_trades_89 : decode cX10_trades 89 = .ok (.invokevirtual 209, 3) := by decide +kernel
theorem dX10_trades_92 : decode cX10_trades 92 = .ok (.ireturn, 1) := by decide +kernel
theorem dX10_trades_93 : decode cX10_trades 93 = .ok (.iload_n 2, 1) := by decide +kernel
theorem dX10_trades_94 : decode cX10_trades 94 = .ok (.iconst 1, 1) := by decide +kernel
theorem dX10_trades_95 : decode cX10_trades 95 = .ok (.if_icmp .ne 13, 3) := by decide +kernel
theorem dX10_trades_98 : decode cX10_trades 98 = .ok (.aload_n 0, 1) := by decide +kernel
theorem dX10_trades_99 : decode cX10_trades 99 = .ok (.getfield 60, 3) := by decide +kernel
theorem dX10_trades_102 : decode cX10_trades 102 = .ok (.invokevirtual 212, 3) := by decide +kernel
theorem dX10_trades_105 : decode cX10_trades 105 = .ok (.goto 14, 3) := by decide +kernel
theorem dX10_trades_108 : decode cX10_trades 108 = .ok (.aload_n 0, 1) := by decide +kernel
theorem dX10_trades_109 : decode cX10_trades 109 = .ok (.getfield 60, 3) := by decide +kernel
theorem dX10_trades_112 : decode cX10_trades 112 = .ok (.iload_n 2, 1) := by decide +kernel
theorem dX10_trades_113 : decode cX10_trades 113 = .ok (.bipush 10, 2) := by decide +kernel
theorem dX10_trades_115 : decode cX10_trades 115 = .ok (.isub, 1) := by decide +kernel
theorem dX10_trades_116 : decode cX10_trades 116 = .ok (.invokevirtual 215, 3) := by decide +kernel
theorem dX10_trades_119 : decode cX10_trades 119 = .ok (.ireturn, 1) := by decide +kernel
theorem dX10_counter_0 : decode cX10_counter 0 = .ok (.aload_n 0, 1) := by decide +kernel
theorem dX10_counter_1 : decode cX10_counter 1 = .ok (.getfield 26, 3) := by decide +kernel
theorem dX10_counter_4 : decode cX10_counter 4 = .ok (.iload_n 1, 1) := by decide +kernel
theorem dX10_counter_5 : decode cX10_counter 5 = .ok (.invokevirtual 125, 3) := by decide +kernel
theorem dX10_counter_8 : decode cX10_counter 8 = .ok (.ifCond .ne 6, 3) := by decide +kernel
theorem dX10_counter_11 : decode cX10_counter 11 = .ok (.bipush (-101), 2) := by decide +kernel
theorem dX10_counter_13 : decode cX10_counter 13 = .ok (.ireturn, 1) := by decide +kernel
theorem dX10_counter_14 : decode cX10_counter 14 = .ok (.iload_n 2, 1) := by decide +kernel
theorem dX10_counter_15 : decode cX10_counter 15 = .ok (.invokestatic 144, 3) := by decide +kernel
theorem dX10_counter_18 : decode cX10_counter 18 = .ok (.ifCond .eq 12, 3) := by decide +kernel
theorem dX10_counter_21 : decode cX10_counter 21 = .ok (.iload_n 3, 1) := by decide +kernel
theorem dX10_counter_22 : decode cX10_counter 22 = .ok (.ifCond .eq 11, 3) := by decide +kernel
theorem dX10_counter_25 : decode cX10_counter 25 = .ok (.iload_n 3, 1) := by decide +kernel
theorem dX10_counter_26 : decode cX10_counter 26 = .ok (.iconst 1, 1) := by decide +kernel
theorem dX10_counter_27 : decode cX10_counter 27 = .ok (.if_icmp .eq 6, 3) := by decide +kernel
theorem dX10_counter_30 : decode cX10_counter 30 = .ok (.bipush (-102), 2) := by decide +kernel
theorem dX10_counter_32 : decode cX10_counter 32 = .ok (.ireturn, 1) := by decide +kernel
theorem dX10_counter_33 : decode cX10_counter 33 = .ok (.aload_n 0, 1) := by decide +kernel
theorem dX10_counter_34 : decode cX10_counter 34 = .ok (.getfield 10, 3) := by decide +kernel
theorem dX10_counter_37 : decode cX10_counter 37 = .ok (.invokevirtual 218, 3) := by decide +kernel
theorem dX10_counter_40 : decode cX10_counter 40 = .ok (.ifCond .eq 14, 3) := by decide +kernel
theorem dX10_counter_43 : decode cX10_counter 43 = .ok (.aload_n 0, 1) := by decide +kernel
theorem dX10_counter_44 : decode cX10_counter 44 = .ok (.getfield 51, 3) := by decide +kernel
theorem dX10_counter_47 : decode cX10_counter 47 = .ok (.iload_n 1, 1) := by decide +kernel
theorem dX10_counter_48 : decode cX10_counter 48 = .ok (.invokevirtual 221, 3) := by decide +kernel
theorem dX10_counter_51 : decode cX10_counter 51 = .ok (.ifCond .ne 6, 3) := by decide +kernel
theorem dX10_counter_54 : decode cX10_counter 54 = .ok (.bipush (-103), 2) := by decide +kernel
theorem dX10_counter_56 : decode cX10_counter 56 = .ok (.ireturn, 1) := by decide +kernel
theorem dX10_counter_57 : decode cX10_counter 57 = .ok (.aload_n 0, 1) := by decide +kernel
theorem dX10_counter_58 : decode cX10_counter 58 = .ok (.getfield 51, 3) := by decide +kernel
theorem dX10_counter_61 : decode cX10_counter 61 = .ok (.iload_n 2, 1) := by decide +kernel
theorem dX10_counter_62 : decode cX10_counter 62 = .ok (.invokevirtual 224, 3) := by decide +kernel
theorem dX10_counter_65 : decode cX10_counter 65 = .ok (.iload_n 3, 1) := by decide +kernel
theorem dX10_counter_66 : decode cX10_counter 66 = .ok (.ifCond .ne 13, 3) := by decide +kernel
theorem dX10_counter_69 : decode cX10_counter 69 = .ok (.aload_n 0, 1) := by decide +kernel
theorem dX10_counter_70 : decode cX10_counter 70 = .ok (.getfield 51, 3) := by decide +kernel
theorem dX10_counter_73 : decode cX10_counter 73 = .ok (.invokevirtual 225, 3) := by decide +kernel
theorem dX10_counter_76 : decode cX10_counter 76 = .ok (.goto 10, 3) := by decide +kernel
theorem dX10_counter_79 : decode cX10_counter 79 = .ok (.aload_n 0, 1) := by decide +kernel
theorem dX10_counter_80 : decode cX10_counter 80 = .ok (.getfield 51, 3) := by decide +kernel
theorem dX10_counter_83 : decode cX10_counter 83 = .ok (.invokevirtual 228, 3) := by decide +kernel
theorem dX10_counter_86 : decode cX10_counter 86 = .ok (.ireturn, 1) := by decide +kernel
theorem dX10_stones_0 : decode cX10_stones 0 = .ok (.iload_n 1, 1) := by decide +kernel
theorem dX10_stones_1 : decode cX10_stones 1 = .ok (.ifCond .lt 8, 3) := by decide +kernel
theorem dX10_stones_4 : decode cX10_stones 4 = .ok (.iload_n 1, 1) := by decide +kernel
theorem dX10_stones_5 : decode cX10_stones 5 = .ok (.iconst 5, 1) := by decide +kernel
theorem dX10_stones_6 : decode cX10_stones 6 = .ok (.if_icmp .lt 6, 3) := by decide +kernel
theorem dX10_stones_9 : decode cX10_stones 9 = .ok (.bipush (-102), 2) := by decide +kernel
theorem dX10_stones_11 : decode cX10_stones 11 = .ok (.ireturn, 1) := by decide +kernel
theorem dX10_stones_12 : decode cX10_stones 12 = .ok (.aload_n 0, 1) := by decide +kernel
theorem dX10_stones_13 : decode cX10_stones 13 = .ok (.getfield 26, 3) := by decide +kernel
theorem dX10_stones_16 : decode cX10_stones 16 = .ok (.invokevirtual 195, 3) := by decide +kernel
theorem dX10_stones_19 : decode cX10_stones 19 = .ok (.ifCond .eq 12, 3) := by decide +kernel
theorem dX10_stones_22 : decode cX10_stones 22 = .ok (.aload_n 0, 1) := by decide +kernel
theorem dX10_stones_23 : decode cX10_stones 23 = .ok (.getfield 229, 3) := by decide +kernel
theorem dX10_stones_26 : decode cX10_stones 26 = .ok (.bipush 20, 2) := by decide +kernel
theorem dX10_stones_28 : decode cX10_stones 28 = .ok (.if_icmp .lt 6, 3) := by decide +kernel
theorem dX10_stones_31 : decode cX10_stones 31 = .ok (.bipush (-103), 2) := by decide +kernel
theorem dX10_stones_33 : decode cX10_stones 33 = .ok (.ireturn, 1) := by decide +kernel
theorem dX10_stones_34 : decode cX10_stones 34 = .ok (.aload_n 0, 1) := by decide +kernel
theorem dX10_stones_35 : decode cX10_stones 35 = .ok (.dup, 1) := by decide +kernel
theorem dX10_stones_36 : decode cX10_stones 36 = .ok (.getfield 229, 3) := by decide +kernel
theorem dX10_stones_39 : decode cX10_stones 39 = .ok (.iconst 1, 1) := by decide +kernel
theorem dX10_stones_40 : decode cX10_stones 40 = .ok (.iadd, 1) := by decide +kernel
theorem dX10_stones_41 : decode cX10_stones 41 = .ok (.putfield 229, 3) := by decide +kernel
theorem dX10_stones_44 : decode cX10_stones 44 = .ok (.aload_n 0, 1) := by decide +kernel
theorem dX10_stones_45 : decode cX10_stones 45 = .ok (.getfield 67, 3) := by decide +kernel
theorem dX10_stones_48 : decode cX10_stones 48 = .ok (.invokevirtual 232, 3) := by decide +kernel
theorem dX10_stones_51 : decode cX10_stones 51 = .ok (.aload_n 0, 1) := by decide +kernel
theorem dX10_stones_52 : decode cX10_stones 52 = .ok (.getfield 67, 3) := by decide +kernel
theorem dX10_stones_55 : decode cX10_stones 55 = .ok (.iload_n 1, 1) := by decide +kernel
theorem dX10_stones_56 : decode cX10_stones 56 = .ok (.invokevirtual 234, 3) := by decide +kernel
theorem dX10_stones_59 : decode cX10_stones 59 = .ok (.ireturn, 1) := by decide +kernel
theorem dX10_site_0 : decode cX10_site 0 = .ok (.iload_n 1, 1) := by decide +kernel
theorem dX10_site_1 : decode cX10_site 1 = .ok (.invokestatic 144, 3) := by decide +kernel
theorem dX10_site_4 : decode cX10_site 4 = .ok (.ifCond .ne 6, 3) := by decide +kernel
theorem dX10_site_7 : decode cX10_site 7 = .ok (.bipush (-102), 2) := by decide +kernel
theorem dX10_site_9 : decode cX10_site 9 = .ok (.ireturn, 1) := by decide +kernel
theorem dX10_site_10 : decode cX10_site 10 = .ok (.aload_n 0, 1) := by decide +kernel
theorem dX10_site_11 : decode cX10_site 11 = .ok (.getfield 26, 3) := by decide +kernel
theorem dX10_site_14 : decode cX10_site 14 = .ok (.invokevirtual 195, 3) := by decide +kernel
theorem dX10_site_17 : decode cX10_site 17 = .ok (.ifCond .eq 14, 3) := by decide +kernel
theorem dX10_site_20 : decode cX10_site 20 = .ok (.aload_n 0, 1) := by decide +kernel
theorem dX10_site_21 : decode cX10_site 21 = .ok (.getfield 42, 3) := by decide +kernel
theorem dX10_site_24 : decode cX10_site 24 = .ok (.iload_n 1, 1) := by decide +kernel
theorem dX10_site_25 : decode cX10_site 25 = .ok (.invokevirtual 237, 3) := by decide +kernel
theorem dX10_site_28 : decode cX10_site 28 = .ok (.goto 5, 3) := by decide +kernel
theorem dX10_site_31 : decode cX10_site 31 = .ok (.bipush (-103), 2) := by decide +kernel
theorem dX10_site_33 : decode cX10_site 33 = .ok (.ireturn, 1) := by decide +kernel
theorem dX10_late_0 : decode cX10_late 0 = .ok (.iload_n 1, 1) := by decide +kernel
theorem dX10_late_1 : decode cX10_late 1 = .ok (.invokestatic 171, 3) := by decide +kernel
theorem dX10_late_4 : decode cX10_late 4 = .ok (.ifCond .eq 7, 3) := by decide +kernel
theorem dX10_late_7 : decode cX10_late 7 = .ok (.iload_n 1, 1) := by decide +kernel
theorem dX10_late_8 : decode cX10_late 8 = .ok (.ifCond .ne 6, 3) := by decide +kernel
theorem dX10_late_11 : decode cX10_late 11 = .ok (.bipush (-101), 2) := by decide +kernel
theorem dX10_late_13 : decode cX10_late 13 = .ok (.ireturn, 1) := by decide +kernel
theorem dX10_late_14 : decode cX10_late 14 = .ok (.aload_n 0, 1) := by decide +kernel
theorem dX10_late_15 : decode cX10_late 15 = .ok (.getfield 26, 3) := by decide +kernel
theorem dX10_late_18 : decode cX10_late 18 = .ok (.iload_n 2, 1) := by decide +kernel
theorem dX10_late_19 : decode cX10_late 19 = .ok (.invokevirtual 240, 3) := by decide +kernel
theorem dX10_late_22 : decode cX10_late 22 = .ok (.ifCond .eq 12, 3) := by decide +kernel
theorem dX10_late_25 : decode cX10_late 25 = .ok (.iload_n 3, 1) := by decide +kernel
theorem dX10_late_26 : decode cX10_late 26 = .ok (.ifCond .lt 8, 3) := by decide +kernel
theorem dX10_late_29 : decode cX10_late 29 = .ok (.iload_n 3, 1) := by decide +kernel
theorem dX10_late_30 : decode cX10_late 30 = .ok (.iconst 3, 1) := by decide +kernel
theorem dX10_late_31 : decode cX10_late 31 = .ok (.if_icmp .lt 6, 3) := by decide +kernel
theorem dX10_late_34 : decode cX10_late 34 = .ok (.bipush (-102), 2) := by decide +kernel
theorem dX10_late_36 : decode cX10_late 36 = .ok (.ireturn, 1) := by decide +kernel
theorem dX10_late_37 : decode cX10_late 37 = .ok (.aload_n 0, 1) := by decide +kernel
theorem dX10_late_38 : decode cX10_late 38 = .ok (.getfield 26, 3) := by decide +kernel
theorem dX10_late_41 : decode cX10_late 41 = .ok (.invokevirtual 195, 3) := by decide +kernel
theorem dX10_late_44 : decode cX10_late 44 = .ok (.ifCond .ne 6, 3) := by decide +kernel
theorem dX10_late_47 : decode cX10_late 47 = .ok (.bipush (-103), 2) := by decide +kernel
theorem dX10_late_49 : decode cX10_late 49 = .ok (.ireturn, 1) := by decide +kernel
theorem dX10_late_50 : decode cX10_late 50 = .ok (.aload_n 0, 1) := by decide +kernel
theorem dX10_late_51 : decode cX10_late 51 = .ok (.getfield 74, 3) := by decide +kernel
theorem dX10_late_54 : decode cX10_late 54 = .ok (.iload_n 1, 1) := by decide +kernel
theorem dX10_late_55 : decode cX10_late 55 = .ok (.iload_n 2, 1) := by decide +kernel
theorem dX10_late_56 : decode cX10_late 56 = .ok (.invokevirtual 243, 3) := by decide +kernel
theorem dX10_late_59 : decode cX10_late 59 = .ok (.aload_n 0, 1) := by decide +kernel
theorem dX10_late_60 : decode cX10_late 60 = .ok (.getfield 74, 3) := by decide +kernel
theorem dX10_late_63 : decode cX10_late 63 = .ok (.iload_n 3, 1) := by decide +kernel
theorem dX10_late_64 : decode cX10_late 64 = .ok (.invokevirtual 245, 3) := by decide +kernel
theorem dX10_late_67 : decode cX10_late 67 = .ok (.ireturn, 1) := by decide +kernel
theorem dX10_storm_0 : decode cX10_storm 0 = .ok (.iload_n 1, 1) := by decide +kernel
theorem dX10_storm_1 : decode cX10_storm 1 = .ok (.invokestatic 171, 3) := by decide +kernel
theorem dX10_storm_4 : decode cX10_storm 4 = .ok (.ifCond .ne 6, 3) := by decide +kernel
theorem dX10_storm_7 : decode cX10_storm 7 = .ok (.bipush (-101), 2) := by decide +kernel
theorem dX10_storm_9 : decode cX10_storm 9 = .ok (.ireturn, 1) := by decide +kernel
theorem dX10_storm_10 : decode cX10_storm 10 = .ok (.aload_n 0, 1) := by decide +kernel
theorem dX10_storm_11 : decode cX10_storm 11 = .ok (.getfield 26, 3) := by decide +kernel
theorem dX10_storm_14 : decode cX10_storm 14 = .ok (.invokevirtual 195, 3) := by decide +kernel
theorem dX10_storm_17 : decode cX10_storm 17 = .ok (.ifCond .eq 14, 3) := by decide +kernel
theorem dX10_storm_20 : decode cX10_storm 20 = .ok (.aload_n 0, 1) := by decide +kernel
theorem dX10_storm_21 : decode cX10_storm 21 = .ok (.getfield 81, 3) := by decide +kernel
theorem dX10_storm_24 : decode cX10_storm 24 = .ok (.iload_n 1, 1) := by decide +kernel
theorem dX10_storm_25 : decode cX10_storm 25 = .ok (.invokevirtual 246, 3) := by decide +kernel
theorem dX10_storm_28 : decode cX10_storm 28 = .ok (.goto 5, 3) := by decide +kernel
theorem dX10_storm_31 : decode cX10_storm 31 = .ok (.bipush (-103), 2) := by decide +kernel
theorem dX10_storm_33 : decode cX10_storm 33 = .ok (.ireturn, 1) := by decide +kernel
theorem dX10_moss_0 : decode cX10_moss 0 = .ok (.aload_n 0, 1) := by decide +kernel
theorem dX10_moss_1 : decode cX10_moss 1 = .ok (.getfield 26, 3) := by decide +kernel
theorem dX10_moss_4 : decode cX10_moss 4 = .ok (.invokevirtual 195, 3) := by decide +kernel
theorem dX10_moss_7 : decode cX10_moss 7 = .ok (.ifCond .eq 13, 3) := by decide +kernel
theorem dX10_moss_10 : decode cX10_moss 10 = .ok (.aload_n 0, 1) := by decide +kernel
theorem dX10_moss_11 : decode cX10_moss 11 = .ok (.getfield 67, 3) := by decide +kernel
theorem dX10_moss_14 : decode cX10_moss 14 = .ok (.invokevirtual 249, 3) := by decide +kernel
theorem dX10_moss_17 : decode cX10_moss 17 = .ok (.goto 5, 3) := by decide +kernel
theorem dX10_moss_20 : decode cX10_moss 20 = .ok (.bipush (-103), 2) := by decide +kernel
theorem dX10_moss_22 : decode cX10_moss 22 = .ok (.ireturn, 1) := by decide +kernel
theorem dX10_cows_0 : decode cX10_cows 0 = .ok (.iload_n 1, 1) := by decide +kernel
theorem dX10_cows_1 : decode cX10_cows 1 = .ok (.invokestatic 171, 3) := by decide +kernel
theorem dX10_cows_4 : decode cX10_cows 4 = .ok (.ifCond .ne 6, 3) := by decide +kernel
theorem dX10_cows_7 : decode cX10_cows 7 = .ok (.bipush (-101), 2) := by decide +kernel
theorem dX10_cows_9 : decode cX10_cows 9 = .ok (.ireturn, 1) := by decide +kernel
theorem dX10_cows_10 : decode cX10_cows 10 = .ok (.iload_n 2, 1) := by decide +kernel
theorem dX10_cows_11 : decode cX10_cows 11 = .ok (.iconst 1, 1) := by decide +kernel
theorem dX10_cows_12 : decode cX10_cows 12 = .ok (.if_icmp .lt 13, 3) := by decide +kernel
theorem dX10_cows_15 : decode cX10_cows 15 = .ok (.iload_n 2, 1) := by decide +kernel
theorem dX10_cows_16 : decode cX10_cows 16 = .ok (.bipush 60, 2) := by decide +kernel
theorem dX10_cows_18 : decode cX10_cows 18 = .ok (.if_icmp .gt 7, 3) := by decide +kernel
theorem dX10_cows_21 : decode cX10_cows 21 = .ok (.iload_n 3, 1) := by decide +kernel
theorem dX10_cows_22 : decode cX10_cows 22 = .ok (.ifCond .ge 6, 3) := by decide +kernel
theorem dX10_cows_25 : decode cX10_cows 25 = .ok (.bipush (-102), 2) := by decide +kernel
theorem dX10_cows_27 : decode cX10_cows 27 = .ok (.ireturn, 1) := by decide +kernel
theorem dX10_cows_28 : decode cX10_cows 28 = .ok (.iload 4, 2) := by decide +kernel
theorem dX10_cows_30 : decode cX10_cows 30 = .ok (.ifCond .eq 20, 3) := by decide +kernel
theorem dX10_cows_33 : decode cX10_cows 33 = .ok (.iload 4, 2) := by decide +kernel
theorem dX10_cows_35 : decode cX10_cows 35 = .ok (.iconst 1, 1) := by decide +kernel
theorem dX10_cows_36 : decode cX10_cows 36 = .ok (.if_icmp .eq 14, 3) := by decide +kernel
theorem dX10_cows_39 : decode cX10_cows 39 = .ok (.iload 4, 2) := by decide +kernel
theorem dX10_cows_41 : decode cX10_cows 41 = .ok (.invokestatic 151, 3) := by decide +kernel
theorem dX10_cows_44 : decode cX10_cows 44 = .ok (.ifCond .ne 6, 3) := by decide +kernel
theorem dX10_cows_47 : decode cX10_cows 47 = .ok (.bipush (-102), 2) := by decide +kernel
theorem dX10_cows_49 : decode cX10_cows 49 = .ok (.ireturn, 1) := by decide +kernel
theorem dX10_cows_50 : decode cX10_cows 50 = .ok (.aload_n 0, 1) := by decide +kernel
theorem dX10_cows_51 : decode cX10_cows 51 = .ok (.getfield 26, 3) := by decide +kernel
theorem dX10_cows_54 : decode cX10_cows 54 = .ok (.invokevirtual 195, 3) := by decide +kernel
theorem dX10_cows_57 : decode cX10_cows 57 = .ok (.ifCond .ne 6, 3) := by decide +kernel
theorem dX10_cows_60 : decode cX10_cows 60 = .ok (.bipush (-103), 2) := by decide +kernel
theorem dX10_cows_62 : decode cX10_cows 62 = .ok (.ireturn, 1) := by decide +kernel
theorem dX10_cows_63 : decode cX10_cows 63 = .ok (.aload_n 0, 1) := by decide +kernel
theorem dX10_cows_64 : decode cX10_cows 64 = .ok (.getfield 81, 3) := by decide +kernel
theorem dX10_cows_67 : decode cX10_cows 67 = .ok (.iload_n 1, 1) := by decide +kernel
theorem dX10_cows_68 : decode cX10_cows 68 = .ok (.iload_n 2, 1) := by decide +kernel
theorem dX10_cows_69 : decode cX10_cows 69 = .ok (.iload_n 3, 1) := by decide +kernel
theorem dX10_cows_70 : decode cX10_cows 70 = .ok (.invokevirtual 252, 3) := by decide +kernel
theorem dX10_cows_73 : decode cX10_cows 73 = .ok (.istore 5, 2) := by decide +kernel
theorem dX10_cows_75 : decode cX10_cows 75 = .ok (.iload 4, 2) := by decide +kernel
theorem dX10_cows_77 : decode cX10_cows 77 = .ok (.ifCond .ne 6, 3) := by decide +kernel
theorem dX10_cows_80 : decode cX10_cows 80 = .ok (.iload 5, 2) := by decide +kernel
theorem dX10_cows_82 : decode cX10_cows 82 = .ok (.ireturn, 1) := by decide +kernel
theorem dX10_cows_83 : decode cX10_cows 83 = .ok (.iload 4, 2) := by decide +kernel
theorem dX10_cows_85 : decode cX10_cows 85 = .ok (.iconst 1, 1) := by decide +kernel
theorem dX10_cows_86 : decode cX10_cows 86 = .ok (.if_icmp .ne 13, 3) := by decide +kernel
theorem dX10_cows_89 : decode cX10_cows 89 = .ok (.aload_n 0, 1) := by decide +kernel
theorem dX10_cows_90 : decode cX10_cows 90 = .ok (.getfield 81, 3) := by decide +kernel
theorem dX10_cows_93 : decode cX10_cows 93 = .ok (.invokevirtual 255, 3) := by decide +kernel
theorem dX10_cows_96 : decode cX10_cows 96 = .ok (.goto 15, 3) := by decide +kernel
theorem dX10_cows_99 : decode cX10_cows 99 = .ok (.aload_n 0, 1) := by decide +kernel
theorem dX10_cows_100 : decode cX10_cows 100 = .ok (.getfield 81, 3) := by decide +kernel
theorem dX10_cows_103 : decode cX10_cows 103 = .ok (.iload 4, 2) := by decide +kernel
theorem dX10_cows_105 : decode cX10_cows 105 = .ok (.bipush 10, 2) := by decide +kernel
theorem dX10_cows_107 : decode cX10_cows 107 = .ok (.isub, 1) := by decide +kernel
theorem dX10_cows_108 : decode cX10_cows 108 = .ok (.invokevirtual 258, 3) := by decide +kernel
theorem dX10_cows_111 : decode cX10_cows 111 = .ok (.ireturn, 1) := by decide +kernel
theorem dX10_image_0 : decode cX10_image 0 = .ok (.aload_n 0, 1) := by decide +kernel
theorem dX10_image_1 : decode cX10_image 1 = .ok (.getfield 26, 3) := by decide +kernel
theorem dX10_image_4 : decode cX10_image 4 = .ok (.invokevirtual 195, 3) := by decide +kernel
theorem dX10_image_7 : decode cX10_image 7 = .ok (.ifCond .ne 6, 3) := by decide +kernel
theorem dX10_image_10 : decode cX10_image 10 = .ok (.bipush (-103), 2) := by decide +kernel
theorem dX10_image_12 : decode cX10_image 12 = .ok (.ireturn, 1) := by decide +kernel
theorem dX10_image_13 : decode cX10_image 13 = .ok (.aload_n 0, 1) := by decide +kernel
theorem dX10_image_14 : decode cX10_image 14 = .ok (.getfield 33, 3) := by decide +kernel
theorem dX10_image_17 : decode cX10_image 17 = .ok (.invokevirtual 259, 3) := by decide +kernel
theorem dX10_image_20 : decode cX10_image 20 = .ok (.aload_n 0, 1) := by decide +kernel
theorem dX10_image_21 : decode cX10_image 21 = .ok (.getfield 33, 3) := by decide +kernel
theorem dX10_image_24 : decode cX10_image 24 = .ok (.invokevirtual 262, 3) := by decide +kernel
theorem dX10_image_27 : decode cX10_image 27 = .ok (.ireturn, 1) := by decide +kernel
theorem dX10_restore_0 : decode cX10_restore 0 = .ok (.aload_n 0, 1) := by decide +kernel
theorem dX10_restore_1 : decode cX10_restore 1 = .ok (.getfield 33, 3) := by decide +kernel
theorem dX10_restore_4 : decode cX10_restore 4 = .ok (.invokevirtual 265, 3) := by decide +kernel
theorem dX10_restore_7 : decode cX10_restore 7 = .ok (.ifCond .ne 6, 3) := by decide +kernel
theorem dX10_restore_10 : decode cX10_restore 10 = .ok (.bipush (-103), 2) := by decide +kernel
theorem dX10_restore_12 : decode cX10_restore 12 = .ok (.ireturn, 1) := by decide +kernel
theorem dX10_restore_13 : decode cX10_restore 13 = .ok (.aload_n 0, 1) := by decide +kernel
theorem dX10_restore_14 : decode cX10_restore 14 = .ok (.getfield 33, 3) := by decide +kernel
theorem dX10_restore_17 : decode cX10_restore 17 = .ok (.invokevirtual 268, 3) := by decide +kernel
theorem dX10_restore_20 : decode cX10_restore 20 = .ok (.aload_n 0, 1) := by decide +kernel
theorem dX10_restore_21 : decode cX10_restore 21 = .ok (.getfield 33, 3) := by decide +kernel
theorem dX10_restore_24 : decode cX10_restore 24 = .ok (.invokevirtual 262, 3) := by decide +kernel
theorem dX10_restore_27 : decode cX10_restore 27 = .ok (.ireturn, 1) := by decide +kernel
theorem dX10_count_0 : decode cX10_count 0 = .ok (.iload_n 1, 1) := by decide +kernel
theorem dX10_count_1 : decode cX10_count 1 = .ok (.tableswitch 102 0 7 #[47, 55, 63, 71, 79, 87, 92, 97], 47) := by decide +kernel
theorem dX10_count_48 : decode cX10_count 48 = .ok (.aload_n 0, 1) := by decide +kernel
theorem dX10_count_49 : decode cX10_count 49 = .ok (.getfield 26, 3) := by decide +kernel
theorem dX10_count_52 : decode cX10_count 52 = .ok (.invokevirtual 122, 3) := by decide +kernel
theorem dX10_count_55 : decode cX10_count 55 = .ok (.ireturn, 1) := by decide +kernel
theorem dX10_count_56 : decode cX10_count 56 = .ok (.aload_n 0, 1) := by decide +kernel
theorem dX10_count_57 : decode cX10_count 57 = .ok (.getfield 26, 3) := by decide +kernel
theorem dX10_count_60 : decode cX10_count 60 = .ok (.invokevirtual 271, 3) := by decide +kernel
theorem dX10_count_63 : decode cX10_count 63 = .ok (.ireturn, 1) := by decide +kernel
theorem dX10_count_64 : decode cX10_count 64 = .ok (.aload_n 0, 1) := by decide +kernel
theorem dX10_count_65 : decode cX10_count 65 = .ok (.getfield 33, 3) := by decide +kernel
theorem dX10_count_68 : decode cX10_count 68 = .ok (.invokevirtual 262, 3) := by decide +kernel
theorem dX10_count_71 : decode cX10_count 71 = .ok (.ireturn, 1) := by decide +kernel
theorem dX10_count_72 : decode cX10_count 72 = .ok (.aload_n 0, 1) := by decide +kernel
theorem dX10_count_73 : decode cX10_count 73 = .ok (.getfield 33, 3) := by decide +kernel
theorem dX10_count_76 : decode cX10_count 76 = .ok (.invokevirtual 199, 3) := by decide +kernel
theorem dX10_count_79 : decode cX10_count 79 = .ok (.ireturn, 1) := by decide +kernel
theorem dX10_count_80 : decode cX10_count 80 = .ok (.aload_n 0, 1) := by decide +kernel
theorem dX10_count_81 : decode cX10_count 81 = .ok (.getfield 10, 3) := by decide +kernel
theorem dX10_count_84 : decode cX10_count 84 = .ok (.invokevirtual 89, 3) := by decide +kernel
theorem dX10_count_87 : decode cX10_count 87 = .ok (.ireturn, 1) := by decide +kernel
theorem dX10_count_88 : decode cX10_count 88 = .ok (.aload_n 0, 1) := by decide +kernel
theorem dX10_count_89 : decode cX10_count 89 = .ok (.getfield 118, 3) := by decide +kernel
theorem dX10_count_92 : decode cX10_count 92 = .ok (.ireturn, 1) := by decide +kernel
theorem dX10_count_93 : decode cX10_count 93 = .ok (.aload_n 0, 1) := by decide +kernel
theorem dX10_count_94 : decode cX10_count 94 = .ok (.getfield 202, 3) := by decide +kernel
theorem dX10_count_97 : decode cX10_count 97 = .ok (.ireturn, 1) := by decide +kernel
theorem dX10_count_98 : decode cX10_count 98 = .ok (.aload_n 0, 1) := by decide +kernel
theorem dX10_count_99 : decode cX10_count 99 = .ok (.getfield 229, 3) := by decide +kernel
theorem dX10_count_102 : decode cX10_count 102 = .ok (.ireturn, 1) := by decide +kernel
theorem dX10_count_103 : decode cX10_count 103 = .ok (.bipush (-102), 2) := by decide +kernel
theorem dX10_count_105 : decode cX10_count 105 = .ok (.ireturn, 1) := by decide +kernel
theorem dX10_digest_0 : decode cX10_digest 0 = .ok (.ldc2_w 274, 3) := by decide +kernel
theorem dX10_digest_3 : decode cX10_digest 3 = .ok (.lstore_n 1, 1) := by decide +kernel
theorem dX10_digest_4 : decode cX10_digest 4 = .ok (.iconst 0, 1) := by decide +kernel
theorem dX10_digest_5 : decode cX10_digest 5 = .ok (.istore_n 3, 1) := by decide +kernel
theorem dX10_digest_6 : decode cX10_digest 6 = .ok (.iload_n 3, 1) := by decide +kernel
theorem dX10_digest_7 : decode cX10_digest 7 = .ok (.aload_n 0, 1) := by decide +kernel
theorem dX10_digest_8 : decode cX10_digest 8 = .ok (.getfield 26, 3) := by decide +kernel
theorem dX10_digest_11 : decode cX10_digest 11 = .ok (.invokevirtual 122, 3) := by decide +kernel
theorem dX10_digest_14 : decode cX10_digest 14 = .ok (.if_icmp .ge 22, 3) := by decide +kernel
theorem dX10_digest_17 : decode cX10_digest 17 = .ok (.lload_n 1, 1) := by decide +kernel
theorem dX10_digest_18 : decode cX10_digest 18 = .ok (.aload_n 0, 1) := by decide +kernel
theorem dX10_digest_19 : decode cX10_digest 19 = .ok (.getfield 26, 3) := by decide +kernel
theorem dX10_digest_22 : decode cX10_digest 22 = .ok (.iload_n 3, 1) := by decide +kernel
theorem dX10_digest_23 : decode cX10_digest 23 = .ok (.invokevirtual 130, 3) := by decide +kernel
theorem dX10_digest_26 : decode cX10_digest 26 = .ok (.invokestatic 276, 3) := by decide +kernel
theorem dX10_digest_29 : decode cX10_digest 29 = .ok (.lstore_n 1, 1) := by decide +kernel
theorem dX10_digest_30 : decode cX10_digest 30 = .ok (.iinc 3 1, 3) := by decide +kernel
theorem dX10_digest_33 : decode cX10_digest 33 = .ok (.goto (-27), 3) := by decide +kernel
theorem dX10_digest_36 : decode cX10_digest 36 = .ok (.iconst 0, 1) := by decide +kernel
theorem dX10_digest_37 : decode cX10_digest 37 = .ok (.istore_n 3, 1) := by decide +kernel
theorem dX10_digest_38 : decode cX10_digest 38 = .ok (.iload_n 3, 1) := by decide +kernel
theorem dX10_digest_39 : decode cX10_digest 39 = .ok (.aload_n 0, 1) := by decide +kernel
theorem dX10_digest_40 : decode cX10_digest 40 = .ok (.getfield 33, 3) := by decide +kernel
theorem dX10_digest_43 : decode cX10_digest 43 = .ok (.invokevirtual 262, 3) := by decide +kernel
theorem dX10_digest_46 : decode cX10_digest 46 = .ok (.if_icmp .ge 16, 3) := by decide +kernel
theorem dX10_digest_49 : decode cX10_digest 49 = .ok (.aload_n 0, 1) := by decide +kernel
theorem dX10_digest_50 : decode cX10_digest 50 = .ok (.lload_n 1, 1) := by decide +kernel
theorem dX10_digest_51 : decode cX10_digest 51 = .ok (.iload_n 3, 1) := by decide +kernel
theorem dX10_digest_52 : decode cX10_digest 52 = .ok (.invokevirtual 280, 3) := by decide +kernel
theorem dX10_digest_55 : decode cX10_digest 55 = .ok (.lstore_n 1, 1) := by decide +kernel
theorem dX10_digest_56 : decode cX10_digest 56 = .ok (.iinc 3 1, 3) := by decide +kernel
theorem dX10_digest_59 : decode cX10_digest 59 = .ok (.goto (-21), 3) := by decide +kernel
theorem dX10_digest_62 : decode cX10_digest 62 = .ok (.iconst 0, 1) := by decide +kernel
theorem dX10_digest_63 : decode cX10_digest 63 = .ok (.istore_n 3, 1) := by decide +kernel
theorem dX10_digest_64 : decode cX10_digest 64 = .ok (.iload_n 3, 1) := by decide +kernel
theorem dX10_digest_65 : decode cX10_digest 65 = .ok (.bipush 8, 2) := by decide +kernel
theorem dX10_digest_67 : decode cX10_digest 67 = .ok (.if_icmp .ge 48, 3) := by decide +kernel
theorem dX10_digest_70 : decode cX10_digest 70 = .ok (.lload_n 1, 1) := by decide +kernel
theorem dX10_digest_71 : decode cX10_digest 71 = .ok (.aload_n 0, 1) := by decide +kernel
theorem dX10_digest_72 : decode cX10_digest 72 = .ok (.getfield 42, 3) := by decide +kernel
theorem dX10_digest_75 : decode cX10_digest 75 = .ok (.iload_n 3, 1) := by decide +kernel
theorem dX10_digest_76 : decode cX10_digest 76 = .ok (.invokevirtual 182, 3) := by decide +kernel
theorem dX10_digest_79 : decode cX10_digest 79 = .ok (.invokestatic 276, 3) := by decide +kernel
theorem dX10_digest_82 : decode cX10_digest 82 = .ok (.lstore_n 1, 1) := by decide +kernel
theorem dX10_digest_83 : decode cX10_digest 83 = .ok (.lload_n 1, 1) := by decide +kernel
theorem dX10_digest_84 : decode cX10_digest 84 = .ok (.aload_n 0, 1) := by decide +kernel
theorem dX10_digest_85 : decode cX10_digest 85 = .ok (.getfield 42, 3) := by decide +kernel
theorem dX10_digest_88 : decode cX10_digest 88 = .ok (.iload_n 3, 1) := by decide +kernel
theorem dX10_digest_89 : decode cX10_digest 89 = .ok (.invokevirtual 185, 3) := by decide +kernel
theorem dX10_digest_92 : decode cX10_digest 92 = .ok (.invokestatic 276, 3) := by decide +kernel
theorem dX10_digest_95 : decode cX10_digest 95 = .ok (.lstore_n 1, 1) := by decide +kernel
theorem dX10_digest_96 : decode cX10_digest 96 = .ok (.lload_n 1, 1) := by decide +kernel
theorem dX10_digest_97 : decode cX10_digest 97 = .ok (.aload_n 0, 1) := by decide +kernel
theorem dX10_digest_98 : decode cX10_digest 98 = .ok (.getfield 42, 3) := by decide +kernel
theorem dX10_digest_101 : decode cX10_digest 101 = .ok (.iload_n 3, 1) := by decide +kernel
theorem dX10_digest_102 : decode cX10_digest 102 = .ok (.invokevirtual 192, 3) := by decide +kernel
theorem dX10_digest_105 : decode cX10_digest 105 = .ok (.invokestatic 276, 3) := by decide +kernel
theorem dX10_digest_108 : decode cX10_digest 108 = .ok (.lstore_n 1, 1) := by decide +kernel
theorem dX10_digest_109 : decode cX10_digest 109 = .ok (.iinc 3 1, 3) := by decide +kernel
theorem dX10_digest_112 : decode cX10_digest 112 = .ok (.goto (-48), 3) := by decide +kernel
theorem dX10_digest_115 : decode cX10_digest 115 = .ok (.aload_n 0, 1) := by decide +kernel
theorem dX10_digest_116 : decode cX10_digest 116 = .ok (.getfield 26, 3) := by decide +kernel
theorem dX10_digest_119 : decode cX10_digest 119 = .ok (.invokevirtual 195, 3) := by decide +kernel
theorem dX10_digest_122 : decode cX10_digest 122 = .ok (.ifCond .eq 9, 3) := by decide +kernel
theorem dX10_digest_125 : decode cX10_digest 125 = .ok (.aload_n 0, 1) := by decide +kernel
theorem dX10_digest_126 : decode cX10_digest 126 = .ok (.lload_n 1, 1) := by decide +kernel
theorem dX10_digest_127 : decode cX10_digest 127 = .ok (.invokevirtual 283, 3) := by decide +kernel
theorem dX10_digest_130 : decode cX10_digest 130 = .ok (.lstore_n 1, 1) := by decide +kernel
theorem dX10_digest_131 : decode cX10_digest 131 = .ok (.iconst 0, 1) := by decide +kernel
theorem dX10_digest_132 : decode cX10_digest 132 = .ok (.istore_n 3, 1) := by decide +kernel
theorem dX10_digest_133 : decode cX10_digest 133 = .ok (.iload_n 3, 1) := by decide +kernel
theorem dX10_digest_134 : decode cX10_digest 134 = .ok (.aload_n 0, 1) := by decide +kernel
theorem dX10_digest_135 : decode cX10_digest 135 = .ok (.getfield 10, 3) := by decide +kernel
theorem dX10_digest_138 : decode cX10_digest 138 = .ok (.invokevirtual 89, 3) := by decide +kernel
theorem dX10_digest_141 : decode cX10_digest 141 = .ok (.if_icmp .ge 22, 3) := by decide +kernel
theorem dX10_digest_144 : decode cX10_digest 144 = .ok (.lload_n 1, 1) := by decide +kernel
theorem dX10_digest_145 : decode cX10_digest 145 = .ok (.aload_n 0, 1) := by decide +kernel
theorem dX10_digest_146 : decode cX10_digest 146 = .ok (.getfield 10, 3) := by decide +kernel
theorem dX10_digest_149 : decode cX10_digest 149 = .ok (.iload_n 3, 1) := by decide +kernel
theorem dX10_digest_150 : decode cX10_digest 150 = .ok (.invokevirtual 287, 3) := by decide +kernel
theorem dX10_digest_153 : decode cX10_digest 153 = .ok (.invokestatic 276, 3) := by decide +kernel
theorem dX10_digest_156 : decode cX10_digest 156 = .ok (.lstore_n 1, 1) := by decide +kernel
theorem dX10_digest_157 : decode cX10_digest 157 = .ok (.iinc 3 1, 3) := by decide +kernel
theorem dX10_digest_160 : decode cX10_digest 160 = .ok (.goto (-27), 3) := by decide +kernel
theorem dX10_digest_163 : decode cX10_digest 163 = .ok (.iconst 0, 1) := by decide +kernel
theorem dX10_digest_164 : decode cX10_digest 164 = .ok (.istore_n 3, 1) := by decide +kernel
theorem dX10_digest_165 : decode cX10_digest 165 = .ok (.iload_n 3, 1) := by decide +kernel
theorem dX10_digest_166 : decode cX10_digest 166 = .ok (.bipush 8, 2) := by decide +kernel
theorem dX10_digest_168 : decode cX10_digest 168 = .ok (.if_icmp .ge 19, 3) := by decide +kernel
theorem dX10_digest_171 : decode cX10_digest 171 = .ok (.lload_n 1, 1) := by decide +kernel
theorem dX10_digest_172 : decode cX10_digest 172 = .ok (.aload_n 0, 1) := by decide +kernel
theorem dX10_digest_173 : decode cX10_digest 173 = .ok (.iload_n 3, 1) := by decide +kernel
theorem dX10_digest_174 : decode cX10_digest 174 = .ok (.invokevirtual 290, 3) := by decide +kernel
theorem dX10_digest_177 : decode cX10_digest 177 = .ok (.invokestatic 276, 3) := by decide +kernel
theorem dX10_digest_180 : decode cX10_digest 180 = .ok (.lstore_n 1, 1) := by decide +kernel
theorem dX10_digest_181 : decode cX10_digest 181 = .ok (.iinc 3 1, 3) := by decide +kernel
theorem dX10_digest_184 : decode cX10_digest 184 = .ok (.goto (-19), 3) := by decide +kernel
theorem dX10_digest_187 : decode cX10_digest 187 = .ok (.lload_n 1, 1) := by decide +kernel
theorem dX10_digest_188 : decode cX10_digest 188 = .ok (.lreturn, 1) := by decide +kernel
theorem dX10_digested_0 : decode cX10_digested 0 = .ok (.ldc2_w 293, 3) := by decide +kernel
theorem dX10_digested_3 : decode cX10_digested 3 = .ok (.lload_n 0, 1) := by decide +kernel
theorem dX10_digested_4 : decode cX10_digested 4 = .ok (.lmul, 1) := by decide +kernel
theorem dX10_digested_5 : decode cX10_digested 5 = .ok (.iload_n 2, 1) := by decide +kernel
theorem dX10_digested_6 : decode cX10_digested 6 = .ok (.i2l, 1) := by decide +kernel
theorem dX10_digested_7 : decode cX10_digested 7 = .ok (.ladd, 1) := by decide +kernel
theorem dX10_digested_8 : decode cX10_digested 8 = .ok (.lreturn, 1) := by decide +kernel
theorem dX10_digestedThing_0 : decode cX10_digestedThing 0 = .ok (.lload_n 1, 1) := by decide +kernel
theorem dX10_digestedThing_1 : decode cX10_digestedThing 1 = .ok (.aload_n 0, 1) := by decide +kernel
theorem dX10_digestedThing_2 : decode cX10_digestedThing 2 = .ok (.getfield 33, 3) := by decide +kernel
theorem dX10_digestedThing_5 : decode cX10_digestedThing 5 = .ok (.iload_n 3, 1) := by decide +kernel
theorem dX10_digestedThing_6 : decode cX10_digestedThing 6 = .ok (.invokevirtual 158, 3) := by decide +kernel
theorem dX10_digestedThing_9 : decode cX10_digestedThing 9 = .ok (.invokestatic 276, 3) := by decide +kernel
theorem dX10_digestedThing_12 : decode cX10_digestedThing 12 = .ok (.lstore 4, 2) := by decide +kernel
theorem dX10_digestedThing_14 : decode cX10_digestedThing 14 = .ok (.lload 4, 2) := by decide +kernel
theorem dX10_digestedThing_16 : decode cX10_digestedThing 16 = .ok (.aload_n 0, 1) := by decide +kernel
theorem dX10_digestedThing_17 : decode cX10_digestedThing 17 = .ok (.getfield 33, 3) := by decide +kernel
theorem dX10_digestedThing_20 : decode cX10_digestedThing 20 = .ok (.iload_n 3, 1) := by decide +kernel
theorem dX10_digestedThing_21 : decode cX10_digestedThing 21 = .ok (.invokevirtual 161, 3) := by decide +kernel
theorem dX10_digestedThing_24 : decode cX10_digestedThing 24 = .ok (.invokestatic 276, 3) := by decide +kernel
theorem dX10_digestedThing_27 : decode cX10_digestedThing 27 = .ok (.lstore 4, 2) := by decide +kernel
theorem dX10_digestedThing_29 : decode cX10_digestedThing 29 = .ok (.lload 4, 2) := by decide +kernel
theorem dX10_digestedThing_31 : decode cX10_digestedThing 31 = .ok (.aload_n 0, 1) := by decide +kernel
theorem dX10_digestedThing_32 : decode cX10_digestedThing 32 = .ok (.getfield 33, 3) := by decide +kernel
theorem dX10_digestedThing_35 : decode cX10_digestedThing 35 = .ok (.iload_n 3, 1) := by decide +kernel
theorem dX10_digestedThing_36 : decode cX10_digestedThing 36 = .ok (.invokevirtual 164, 3) := by decide +kernel
theorem dX10_digestedThing_39 : decode cX10_digestedThing 39 = .ok (.invokestatic 276, 3) := by decide +kernel
theorem dX10_digestedThing_42 : decode cX10_digestedThing 42 = .ok (.lstore 4, 2) := by decide +kernel
theorem dX10_digestedThing_44 : decode cX10_digestedThing 44 = .ok (.iconst 0, 1) := by decide +kernel
theorem dX10_digestedThing_45 : decode cX10_digestedThing 45 = .ok (.istore 6, 2) := by decide +kernel
theorem dX10_digestedThing_47 : decode cX10_digestedThing 47 = .ok (.iload 6, 2) := by decide +kernel
theorem dX10_digestedThing_49 : decode cX10_digestedThing 49 = .ok (.bipush 8, 2) := by decide +kernel
theorem dX10_digestedThing_51 : decode cX10_digestedThing 51 = .ok (.if_icmp .ge 26, 3) := by decide +kernel
theorem dX10_digestedThing_54 : decode cX10_digestedThing 54 = .ok (.lload 4, 2) := by decide +kernel
theorem dX10_digestedThing_56 : decode cX10_digestedThing 56 = .ok (.aload_n 0, 1) := by decide +kernel
theorem dX10_digestedThing_57 : decode cX10_digestedThing 57 = .ok (.getfield 33, 3) := by decide +kernel
theorem dX10_digestedThing_60 : decode cX10_digestedThing 60 = .ok (.iload_n 3, 1) := by decide +kernel
theorem dX10_digestedThing_61 : decode cX10_digestedThing 61 = .ok (.iload 6, 2) := by decide +kernel
theorem dX10_digestedThing_63 : decode cX10_digestedThing 63 = .ok (.invokevirtual 154, 3) := by decide +kernel
theorem dX10_digestedThing_66 : decode cX10_digestedThing 66 = .ok (.invokestatic 276, 3) := by decide +kernel
theorem dX10_digestedThing_69 : decode cX10_digestedThing 69 = .ok (.lstore 4, 2) := by decide +kernel
theorem dX10_digestedThing_71 : decode cX10_digestedThing 71 = .ok (.iinc 6 1, 3) := by decide +kernel
theorem dX10_digestedThing_74 : decode cX10_digestedThing 74 = .ok (.goto (-27), 3) := by decide +kernel
theorem dX10_digestedThing_77 : decode cX10_digestedThing 77 = .ok (.lload 4, 2) := by decide +kernel
theorem dX10_digestedThing_79 : decode cX10_digestedThing 79 = .ok (.lreturn, 1) := by decide +kernel
theorem dX10_digestedFindings_0 : decode cX10_digestedFindings 0 = .ok (.lload_n 1, 1) := by decide +kernel
theorem dX10_digestedFindings_1 : decode cX10_digestedFindings 1 = .ok (.aload_n 0, 1) := by decide +kernel
theorem dX10_digestedFindings_2 : decode cX10_digestedFindings 2 = .ok (.getfield 42, 3) := by decide +kernel
theorem dX10_digestedFindings_5 : decode cX10_digestedFindings 5 = .ok (.bipush 10, 2) := by decide +kernel
theorem dX10_digestedFindings_7 : decode cX10_digestedFindings 7 = .ok (.invokevirtual 237, 3) := by decide +kernel
theorem dX10_digestedFindings_10 : decode cX10_digestedFindings 10 = .ok (.invokestatic 276, 3) := by decide +kernel
theorem dX10_digestedFindings_13 : decode cX10_digestedFindings 13 = .ok (.lstore_n 3, 1) := by decide +kernel
theorem dX10_digestedFindings_14 : decode cX10_digestedFindings 14 = .ok (.lload_n 3, 1) := by decide +kernel
theorem dX10_digestedFindings_15 : decode cX10_digestedFindings 15 = .ok (.aload_n 0, 1) := by decide +kernel
theorem dX10_digestedFindings_16 : decode cX10_digestedFindings 16 = .ok (.getfield 67, 3) := by decide +kernel
theorem dX10_digestedFindings_19 : decode cX10_digestedFindings 19 = .ok (.invokevirtual 249, 3) := by decide +kernel
theorem dX10_digestedFindings_22 : decode cX10_digestedFindings 22 = .ok (.invokestatic 276, 3) := by decide +kernel
theorem dX10_digestedFindings_25 : decode cX10_digestedFindings 25 = .ok (.lstore_n 3, 1) := by decide +kernel
theorem dX10_digestedFindings_26 : decode cX10_digestedFindings 26 = .ok (.aload_n 0, 1) := by decide +kernel
theorem dX10_digestedFindings_27 : decode cX10_digestedFindings 27 = .ok (.getfield 74, 3) := by decide +kernel
theorem dX10_digestedFindings_30 : decode cX10_digestedFindings 30 = .ok (.iconst 4, 1) := by decide +kernel
theorem dX10_digestedFindings_31 : decode cX10_digestedFindings 31 = .ok (.aload_n 0, 1) := by decide +kernel
theorem dX10_digestedFindings_32 : decode cX10_digestedFindings 32 = .ok (.getfield 42, 3) := by decide +kernel
theorem dX10_digestedFindings_35 : decode cX10_digestedFindings 35 = .ok (.iconst 4, 1) := by decide +kernel
theorem dX10_digestedFindings_36 : decode cX10_digestedFindings 36 = .ok (.invokevirtual 192, 3) := by decide +kernel
theorem dX10_digestedFindings_39 : decode cX10_digestedFindings 39 = .ok (.invokevirtual 243, 3) := by decide +kernel
theorem dX10_digestedFindings_42 : decode cX10_digestedFindings 42 = .ok (.iconst 0, 1) := by decide +kernel
theorem dX10_digestedFindings_43 : decode cX10_digestedFindings 43 = .ok (.istore 5, 2) := by decide +kernel
theorem dX10_digestedFindings_45 : decode cX10_digestedFindings 45 = .ok (.iload 5, 2) := by decide +kernel
theorem dX10_digestedFindings_47 : decode cX10_digestedFindings 47 = .ok (.iconst 3, 1) := by decide +kernel
theorem dX10_digestedFindings_48 : decode cX10_digestedFindings 48 = .ok (.if_icmp .ge 23, 3) := by decide +kernel
theorem dX10_digestedFindings_51 : decode cX10_digestedFindings 51 = .ok (.lload_n 3, 1) := by decide +kernel
theorem dX10_digestedFindings_52 : decode cX10_digestedFindings 52 = .ok (.aload_n 0, 1) := by decide +kernel
theorem dX10_digestedFindings_53 : decode cX10_digestedFindings 53 = .ok (.getfield 74, 3) := by decide +kernel
theorem dX10_digestedFindings_56 : decode cX10_digestedFindings 56 = .ok (.iload 5, 2) := by decide +kernel
theorem dX10_digestedFindings_58 : decode cX10_digestedFindings 58 = .ok (.invokevirtual 245, 3) := by decide +kernel
theorem dX10_digestedFindings_61 : decode cX10_digestedFindings 61 = .ok (.invokestatic 276, 3) := by decide +kernel
theorem dX10_digestedFindings_64 : decode cX10_digestedFindings 64 = .ok (.lstore_n 3, 1) := by decide +kernel
theorem dX10_digestedFindings_65 : decode cX10_digestedFindings 65 = .ok (.iinc 5 1, 3) := by decide +kernel
theorem dX10_digestedFindings_68 : decode cX10_digestedFindings 68 = .ok (.goto (-23), 3) := by decide +kernel
theorem dX10_digestedFindings_71 : decode cX10_digestedFindings 71 = .ok (.lload_n 3, 1) := by decide +kernel
theorem dX10_digestedFindings_72 : decode cX10_digestedFindings 72 = .ok (.aload_n 0, 1) := by decide +kernel
theorem dX10_digestedFindings_73 : decode cX10_digestedFindings 73 = .ok (.getfield 81, 3) := by decide +kernel
theorem dX10_digestedFindings_76 : decode cX10_digestedFindings 76 = .ok (.iconst 4, 1) := by decide +kernel
theorem dX10_digestedFindings_77 : decode cX10_digestedFindings 77 = .ok (.invokevirtual 246, 3) := by decide +kernel
theorem dX10_digestedFindings_80 : decode cX10_digestedFindings 80 = .ok (.invokestatic 276, 3) := by decide +kernel
theorem dX10_digestedFindings_83 : decode cX10_digestedFindings 83 = .ok (.lreturn, 1) := by decide +kernel
theorem dX10_isQuarter_0 : decode cX10_isQuarter 0 = .ok (.iload_n 0, 1) := by decide +kernel
theorem dX10_isQuarter_1 : decode cX10_isQuarter 1 = .ok (.ifCond .lt 13, 3) := by decide +kernel
theorem dX10_isQuarter_4 : decode cX10_isQuarter 4 = .ok (.iload_n 0, 1) := by decide +kernel
theorem dX10_isQuarter_5 : decode cX10_isQuarter 5 = .ok (.bipush 8, 2) := by decide +kernel
theorem dX10_isQuarter_7 : decode cX10_isQuarter 7 = .ok (.if_icmp .ge 7, 3) := by decide +kernel
theorem dX10_isQuarter_10 : decode cX10_isQuarter 10 = .ok (.iconst 1, 1) := by decide +kernel
theorem dX10_isQuarter_11 : decode cX10_isQuarter 11 = .ok (.goto 4, 3) := by decide +kernel
theorem dX10_isQuarter_14 : decode cX10_isQuarter 14 = .ok (.iconst 0, 1) := by decide +kernel
theorem dX10_isQuarter_15 : decode cX10_isQuarter 15 = .ok (.ireturn, 1) := by decide +kernel
theorem dX10_isKind_0 : decode cX10_isKind 0 = .ok (.iload_n 0, 1) := by decide +kernel
theorem dX10_isKind_1 : decode cX10_isKind 1 = .ok (.ifCond .lt 12, 3) := by decide +kernel
theorem dX10_isKind_4 : decode cX10_isKind 4 = .ok (.iload_n 0, 1) := by decide +kernel
theorem dX10_isKind_5 : decode cX10_isKind 5 = .ok (.iconst 4, 1) := by decide +kernel
theorem dX10_isKind_6 : decode cX10_isKind 6 = .ok (.if_icmp .gt 7, 3) := by decide +kernel
theorem dX10_isKind_9 : decode cX10_isKind 9 = .ok (.iconst 1, 1) := by decide +kernel
theorem dX10_isKind_10 : decode cX10_isKind 10 = .ok (.goto 4, 3) := by decide +kernel
theorem dX10_isKind_13 : decode cX10_isKind 13 = .ok (.iconst 0, 1) := by decide +kernel
theorem dX10_isKind_14 : decode cX10_isKind 14 = .ok (.ireturn, 1) := by decide +kernel
theorem dX10_isWeight_0 : decode cX10_isWeight 0 = .ok (.iload_n 0, 1) := by decide +kernel
theorem dX10_isWeight_1 : decode cX10_isWeight 1 = .ok (.iconst 1, 1) := by decide +kernel
theorem dX10_isWeight_2 : decode cX10_isWeight 2 = .ok (.if_icmp .lt 13, 3) := by decide +kernel
theorem dX10_isWeight_5 : decode cX10_isWeight 5 = .ok (.iload_n 0, 1) := by decide +kernel
theorem dX10_isWeight_6 : decode cX10_isWeight 6 = .ok (.bipush 99, 2) := by decide +kernel
theorem dX10_isWeight_8 : decode cX10_isWeight 8 = .ok (.if_icmp .gt 7, 3) := by decide +kernel
theorem dX10_isWeight_11 : decode cX10_isWeight 11 = .ok (.iconst 1, 1) := by decide +kernel
theorem dX10_isWeight_12 : decode cX10_isWeight 12 = .ok (.goto 4, 3) := by decide +kernel
theorem dX10_isWeight_15 : decode cX10_isWeight 15 = .ok (.iconst 0, 1) := by decide +kernel
theorem dX10_isWeight_16 : decode cX10_isWeight 16 = .ok (.ireturn, 1) := by decide +kernel
theorem dX10_asksPlace_0 : decode cX10_asksPlace 0 = .ok (.iload_n 0, 1) := by decide +kernel
theorem dX10_asksPlace_1 : decode cX10_asksPlace 1 = .ok (.bipush 10, 2) := by decide +kernel
theorem dX10_asksPlace_3 : decode cX10_asksPlace 3 = .ok (.if_icmp .lt 13, 3) := by decide +kernel
theorem dX10_asksPlace_6 : decode cX10_asksPlace 6 = .ok (.iload_n 0, 1) := by decide +kernel
theorem dX10_asksPlace_7 : decode cX10_asksPlace 7 = .ok (.bipush 17, 2) := by decide +kernel
theorem dX10_asksPlace_9 : decode cX10_asksPlace 9 = .ok (.if_icmp .gt 7, 3) := by decide +kernel
theorem dX10_asksPlace_12 : decode cX10_asksPlace 12 = .ok (.iconst 1, 1) := by decide +kernel
theorem dX10_asksPlace_13 : decode cX10_asksPlace 13 = .ok (.goto 4, 3) := by decide +kernel
theorem dX10_asksPlace_16 : decode cX10_asksPlace 16 = .ok (.iconst 0, 1) := by decide +kernel
theorem dX10_asksPlace_17 : decode cX10_asksPlace 17 = .ok (.ireturn, 1) := by decide +kernel
theorem dL_law_0 : decode cL_law 0 = .ok (.new 7, 3) := by decide +kernel
theorem dL_law_3 : decode cL_law 3 = .ok (.dup, 1) := by decide +kernel
theorem dL_law_4 : decode cL_law 4 = .ok (.invokespecial 9, 3) := by decide +kernel
theorem dL_law_7 : decode cL_law 7 = .ok (.astore_n 1, 1) := by decide +kernel
theorem dL_law_8 : decode cL_law 8 = .ok (.new 10, 3) := by decide +kernel
theorem dL_law_11 : decode cL_law 11 = .ok (.dup, 1) := by decide +kernel
theorem dL_law_12 : decode cL_law 12 = .ok (.invokespecial 12, 3) := by decide +kernel
theorem dL_law_15 : decode cL_law 15 = .ok (.astore_n 2, 1) := by decide +kernel
theorem dL_law_16 : decode cL_law 16 = .ok (.iconst 0, 1) := by decide +kernel
theorem dL_law_17 : decode cL_law 17 = .ok (.istore_n 3, 1) := by decide +kernel
theorem dL_law_18 : decode cL_law 18 = .ok (.iload_n 3, 1) := by decide +kernel
theorem dL_law_19 : decode cL_law 19 = .ok (.aload_n 0, 1) := by decide +kernel
theorem dL_law_20 : decode cL_law 20 = .ok (.arraylength, 1) := by decide +kernel
theorem dL_law_21 : decode cL_law 21 = .ok (.iconst 5, 1) := by decide +kernel
theorem dL_law_22 : decode cL_law 22 = .ok (.isub, 1) := by decide +kernel
theorem dL_law_23 : decode cL_law 23 = .ok (.if_icmp .gt 904, 3) := by decide +kernel
theorem dL_law_26 : decode cL_law 26 = .ok (.aload_n 0, 1) := by decide +kernel
theorem dL_law_27 : decode cL_law 27 = .ok (.iload_n 3, 1) := by decide +kernel
theorem dL_law_28 : decode cL_law 28 = .ok (.iaload, 1) := by decide +kernel
theorem dL_law_29 : decode cL_law 29 = .ok (.bipush 31, 2) := by decide +kernel
theorem dL_law_31 : decode cL_law 31 = .ok (.iand, 1) := by decide +kernel
theorem dL_law_32 : decode cL_law 32 = .ok (.tableswitch 889 0 25 #[120, 173, 186, 209, 222, 255, 298, 331, 364, 407, 440, 483, 516, 549, 572, 605, 648, 671, 694, 737, 760, 773, 826, 839, 852, 875], 120) := by decide +kernel
theorem dL_law_152 : decode cL_law 152 = .ok (.aload_n 1, 1) := by decide +kernel
theorem dL_law_153 : decode cL_law 153 = .ok (.aload_n 0, 1) := by decide +kernel
theorem dL_law_154 : decode cL_law 154 = .ok (.iload_n 3, 1) := by decide +kernel
theorem dL_law_155 : decode cL_law 155 = .ok (.iconst 1, 1) := by decide +kernel
theorem dL_law_156 : decode cL_law 156 = .ok (.iadd, 1) := by decide +kernel
theorem dL_law_157 : decode cL_law 157 = .ok (.iaload, 1) := by decide +kernel
theorem dL_law_158 : decode cL_law 158 = .ok (.i2l, 1) := by decide +kernel
theorem dL_law_159 : decode cL_law 159 = .ok (.bipush 32, 2) := by decide +kernel
theorem dL_law_161 : decode cL_law 161 = .ok (.lshl, 1) := by decide +kernel
theorem dL_law_162 : decode cL_law 162 = .ok (.aload_n 0, 1) := by decide +kernel
theorem dL_law_163 : decode cL_law 163 = .ok (.iload_n 3, 1) := by decide +kernel
theorem dL_law_164 : decode cL_law 164 = .ok (.iconst 2, 1) := by decide +kernel
theorem dL_law_165 : decode cL_law 165 = .ok (.iadd, 1) := by decide +kernel
theorem dL_law_166 : decode cL_law 166 = .ok (.iaload, 1) := by decide +kernel
theorem dL_law_167 : decode cL_law 167 = .ok (.i2l, 1) := by decide +kernel
theorem dL_law_168 : decode cL_law 168 = .ok (.ldc2_w 13, 3) := by decide +kernel
theorem dL_law_171 : decode cL_law 171 = .ok (.land, 1) := by decide +kernel
theorem dL_law_172 : decode cL_law 172 = .ok (.lor, 1) := by decide +kernel
theorem dL_law_173 : decode cL_law 173 = .ok (.invokevirtual 15, 3) := by decide +kernel
theorem dL_law_176 : decode cL_law 176 = .ok (.aload_n 2, 1) := by decide +kernel
theorem dL_law_177 : decode cL_law 177 = .ok (.aload_n 0, 1) := by decide +kernel
theorem dL_law_178 : decode cL_law 178 = .ok (.iload_n 3, 1) := by decide +kernel
theorem dL_law_179 : decode cL_law 179 = .ok (.iconst 1, 1) := by decide +kernel
theorem dL_law_180 : decode cL_law 180 = .ok (.iadd, 1) := by decide +kernel
theorem dL_law_181 : decode cL_law 181 = .ok (.iaload, 1) := by decide +kernel
theorem dL_law_182 : decode cL_law 182 = .ok (.i2l, 1) := by decide +kernel
theorem dL_law_183 : decode cL_law 183 = .ok (.bipush 32, 2) := by decide +kernel
theorem dL_law_185 : decode cL_law 185 = .ok (.lshl, 1) := by decide +kernel
theorem dL_law_186 : decode cL_law 186 = .ok (.aload_n 0, 1) := by decide +kernel
theorem dL_law_187 : decode cL_law 187 = .ok (.iload_n 3, 1) := by decide +kernel
theorem dL_law_188 : decode cL_law 188 = .ok (.iconst 2, 1) := by decide +kernel
theorem dL_law_189 : decode cL_law 189 = .ok (.iadd, 1) := by decide +kernel
theorem dL_law_190 : decode cL_law 190 = .ok (.iaload, 1) := by decide +kernel
theorem dL_law_191 : decode cL_law 191 = .ok (.i2l, 1) := by decide +kernel
theorem dL_law_192 : decode cL_law 192 = .ok (.ldc2_w 13, 3) := by decide +kernel
theorem dL_law_195 : decode cL_law 195 = .ok (.land, 1) := by decide +kernel
theorem dL_law_196 : decode cL_law 196 = .ok (.lor, 1) := by decide +kernel
theorem dL_law_197 : decode cL_law 197 = .ok (.invokevirtual 19, 3) := by decide +kernel
theorem dL_law_200 : decode cL_law 200 = .ok (.if_icmp .eq 721, 3) := by decide +kernel
theorem dL_law_203 : decode cL_law 203 = .ok (.iconst 0, 1) := by decide +kernel
theorem dL_law_204 : decode cL_law 204 = .ok (.ireturn, 1) := by decide +kernel
theorem dL_law_205 : decode cL_law 205 = .ok (.aload_n 1, 1) := by decide +kernel
theorem dL_law_206 : decode cL_law 206 = .ok (.invokevirtual 20, 3) := by decide +kernel
theorem dL_law_209 : decode cL_law 209 = .ok (.aload_n 2, 1) := by decide +kernel
theorem dL_law_210 : decode cL_law 210 = .ok (.invokevirtual 24, 3) := by decide +kernel
theorem dL_law_213 : decode cL_law 213 = .ok (.if_icmp .eq 708, 3) := by decide +kernel
theorem dL_law_216 : decode cL_law 216 = .ok (.iconst 0, 1) := by decide +kernel
theorem dL_law_217 : decode cL_law 217 = .ok (.ireturn, 1) := by decide +kernel
theorem dL_law_218 : decode cL_law 218 = .ok (.aload_n 1, 1) := by decide +kernel
theorem dL_law_219 : decode cL_law 219 = .ok (.aload_n 0, 1) := by decide +kernel
theorem dL_law_220 : decode cL_law 220 = .ok (.iload_n 3, 1) := by decide +kernel
theorem dL_law_221 : decode cL_law 221 = .ok (.iconst 1, 1) := by decide +kernel
theorem dL_law_222 : decode cL_law 222 = .ok (.iadd, 1) := by decide +kernel
theorem dL_law_223 : decode cL_law 223 = .ok (.iaload, 1) := by decide +kernel
theorem dL_law_224 : decode cL_law 224 = .ok (.invokevirtual 25, 3) := by decide +kernel
theorem dL_law_227 : decode cL_law 227 = .ok (.aload_n 2, 1) := by decide +kernel
theorem dL_law_228 : decode cL_law 228 = .ok (.aload_n 0, 1) := by decide +kernel
theorem dL_law_229 : decode cL_law 229 = .ok (.iload_n 3, 1) := by decide +kernel
theorem dL_law_230 : decode cL_law 230 = .ok (.iconst 1, 1) := by decide +kernel
theorem dL_law_231 : decode cL_law 231 = .ok (.iadd, 1) := by decide +kernel
theorem dL_law_232 : decode cL_law 232 = .ok (.iaload, 1) := by decide +kernel
theorem dL_law_233 : decode cL_law 233 = .ok (.invokevirtual 29, 3) := by decide +kernel
theorem dL_law_236 : decode cL_law 236 = .ok (.if_icmp .eq 685, 3) := by decide +kernel
theorem dL_law_239 : decode cL_law 239 = .ok (.iconst 0, 1) := by decide +kernel
theorem dL_law_240 : decode cL_law 240 = .ok (.ireturn, 1) := by decide +kernel
theorem dL_law_241 : decode cL_law 241 = .ok (.aload_n 1, 1) := by decide +kernel
theorem dL_law_242 : decode cL_law 242 = .ok (.invokevirtual 30, 3) := by decide +kernel
theorem dL_law_245 : decode cL_law 245 = .ok (.aload_n 2, 1) := by decide +kernel
theorem dL_law_246 : decode cL_law 246 = .ok (.invokevirtual 33, 3) := by decide +kernel
theorem dL_law_249 : decode cL_law 249 = .ok (.if_icmp .eq 672, 3) := by decide +kernel
theorem dL_law_252 : decode cL_law 252 = .ok (.iconst 0, 1) := by decide +kernel
theorem dL_law_253 : decode cL_law 253 = .ok (.ireturn, 1) := by decide +kernel
theorem dL_law_254 : decode cL_law 254 = .ok (.aload_n 1, 1) := by decide +kernel
theorem dL_law_255 : decode cL_law 255 = .ok (.aload_n 0, 1) := by decide +kernel
theorem dL_law_256 : decode cL_law 256 = .ok (.iload_n 3, 1) := by decide +kernel
theorem dL_law_257 : decode cL_law 257 = .ok (.iconst 1, 1) := by decide +kernel
theorem dL_law_258 : decode cL_law 258 = .ok (.iadd, 1) := by decide +kernel
theorem dL_law_259 : decode cL_law 259 = .ok (.iaload, 1) := by decide +kernel
theorem dL_law_260 : decode cL_law 260 = .ok (.aload_n 0, 1) := by decide +kernel
theorem dL_law_261 : decode cL_law 261 = .ok (.iload_n 3, 1) := by decide +kernel
theorem dL_law_262 : decode cL_law 262 = .ok (.iconst 2, 1) := by decide +kernel
theorem dL_law_263 : decode cL_law 263 = .ok (.iadd, 1) := by decide +kernel
theorem dL_law_264 : decode cL_law 264 = .ok (.iaload, 1) := by decide +kernel
theorem dL_law_265 : decode cL_law 265 = .ok (.invokevirtual 34, 3) := by decide +kernel
theorem dL_law_268 : decode cL_law 268 = .ok (.aload_n 2, 1) := by decide +kernel
theorem dL_law_269 : decode cL_law 269 = .ok (.aload_n 0, 1) := by decide +kernel
theorem dL_law_270 : decode cL_law 270 = .ok (.iload_n 3, 1) := by decide +kernel
theorem dL_law_271 : decode cL_law 271 = .ok (.iconst 1, 1) := by decide +kernel
theorem dL_law_272 : decode cL_law 272 = .ok (.iadd, 1) := by decide +kernel
theorem dL_law_273 : decode cL_law 273 = .ok (.iaload, 1) := by decide +kernel
theorem dL_law_274 : decode cL_law 274 = .ok (.aload_n 0, 1) := by decide +kernel
theorem dL_law_275 : decode cL_law 275 = .ok (.iload_n 3, 1) := by decide +kernel
theorem dL_law_276 : decode cL_law 276 = .ok (.iconst 2, 1) := by decide +kernel
theorem dL_law_277 : decode cL_law 277 = .ok (.iadd, 1) := by decide +kernel
theorem dL_law_278 : decode cL_law 278 = .ok (.iaload, 1) := by decide +kernel
theorem dL_law_279 : decode cL_law 279 = .ok (.invokevirtual 38, 3) := by decide +kernel
theorem dL_law_282 : decode cL_law 282 = .ok (.if_icmp .eq 639, 3) := by decide +kernel
theorem dL_law_285 : decode cL_law 285 = .ok (.iconst 0, 1) := by decide +kernel
theorem dL_law_286 : decode cL_law 286 = .ok (.ireturn, 1) := by decide +kernel
theorem dL_law_287 : decode cL_law 287 = .ok (.aload_n 1, 1) := by decide +kernel
theorem dL_law_288 : decode cL_law 288 = .ok (.aload_n 0, 1) := by decide +kernel
theorem dL_law_289 : decode cL_law 289 = .ok (.iload_n 3, 1) := by decide +kernel
theorem dL_law_290 : decode cL_law 290 = .ok (.iconst 1, 1) := by decide +kernel
theorem dL_law_291 : decode cL_law 291 = .ok (.iadd, 1) := by decide +kernel
theorem dL_law_292 : decode cL_law 292 = .ok (.iaload, 1) := by decide +kernel
theorem dL_law_293 : decode cL_law 293 = .ok (.aload_n 0, 1) := by decide +kernel
theorem dL_law_294 : decode cL_law 294 = .ok (.iload_n 3, 1) := by decide +kernel
theorem dL_law_295 : decode cL_law 295 = .ok (.iconst 2, 1) := by decide +kernel
theorem dL_law_296 : decode cL_law 296 = .ok (.iadd, 1) := by decide +kernel
theorem dL_law_297 : decode cL_law 297 = .ok (.iaload, 1) := by decide +kernel
theorem dL_law_298 : decode cL_law 298 = .ok (.aload_n 0, 1) := by decide +kernel
theorem dL_law_299 : decode cL_law 299 = .ok (.iload_n 3, 1) := by decide +kernel
theorem dL_law_300 : decode cL_law 300 = .ok (.iconst 3, 1) := by decide +kernel
theorem dL_law_301 : decode cL_law 301 = .ok (.iadd, 1) := by decide +kernel
theorem dL_law_302 : decode cL_law 302 = .ok (.iaload, 1) := by decide +kernel
theorem dL_law_303 : decode cL_law 303 = .ok (.invokevirtual 39, 3) := by decide +kernel
theorem dL_law_306 : decode cL_law 306 = .ok (.aload_n 2, 1) := by decide +kernel
theorem dL_law_307 : decode cL_law 307 = .ok (.aload_n 0, 1) := by decide +kernel
theorem dL_law_308 : decode cL_law 308 = .ok (.iload_n 3, 1) := by decide +kernel
theorem dL_law_309 : decode cL_law 309 = .ok (.iconst 1, 1) := by decide +kernel
theorem dL_law_310 : decode cL_law 310 = .ok (.iadd, 1) := by decide +kernel
theorem dL_law_311 : decode cL_law 311 = .ok (.iaload, 1) := by decide +kernel
theorem dL_law_312 : decode cL_law 312 = .ok (.aload_n 0, 1) := by decide +kernel
theorem dL_law_313 : decode cL_law 313 = .ok (.iload_n 3, 1) := by decide +kernel
theorem dL_law_314 : decode cL_law 314 = .ok (.iconst 2, 1) := by decide +kernel
theorem dL_law_315 : decode cL_law 315 = .ok (.iadd, 1) := by decide +kernel
theorem dL_law_316 : decode cL_law 316 = .ok (.iaload, 1) := by decide +kernel
theorem dL_law_317 : decode cL_law 317 = .ok (.aload_n 0, 1) := by decide +kernel
theorem dL_law_318 : decode cL_law 318 = .ok (.iload_n 3, 1) := by decide +kernel
theorem dL_law_319 : decode cL_law 319 = .ok (.iconst 3, 1) := by decide +kernel
theorem dL_law_320 : decode cL_law 320 = .ok (.iadd, 1) := by decide +kernel
theorem dL_law_321 : decode cL_law 321 = .ok (.iaload, 1) := by decide +kernel
theorem dL_law_322 : decode cL_law 322 = .ok (.invokevirtual 43, 3) := by decide +kernel
theorem dL_law_325 : decode cL_law 325 = .ok (.if_icmp .eq 596, 3) := by decide +kernel
theorem dL_law_328 : decode cL_law 328 = .ok (.iconst 0, 1) := by decide +kernel
theorem dL_law_329 : decode cL_law 329 = .ok (.ireturn, 1) := by decide +kernel
theorem dL_law_330 : decode cL_law 330 = .ok (.aload_n 1, 1) := by decide +kernel
theorem dL_law_331 : decode cL_law 331 = .ok (.aload_n 0, 1) := by decide +kernel
theorem dL_law_332 : decode cL_law 332 = .ok (.iload_n 3, 1) := by decide +kernel
theorem dL_law_333 : decode cL_law 333 = .ok (.iconst 1, 1) := by decide +kernel
theorem dL_law_334 : decode cL_law 334 = .ok (.iadd, 1) := by decide +kernel
theorem dL_law_335 : decode cL_law 335 = .ok (.iaload, 1) := by decide +kernel
theorem dL_law_336 : decode cL_law 336 = .ok (.aload_n 0, 1) := by decide +kernel
theorem dL_law_337 : decode cL_law 337 = .ok (.iload_n 3, 1) := by decide +kernel
theorem dL_law_338 : decode cL_law 338 = .ok (.iconst 2, 1) := by decide +kernel
theorem dL_law_339 : decode cL_law 339 = .ok (.iadd, 1) := by decide +kernel
theorem dL_law_340 : decode cL_law 340 = .ok (.iaload, 1) := by decide +kernel
theorem dL_law_341 : decode cL_law 341 = .ok (.invokevirtual 44, 3) := by decide +kernel
theorem dL_law_344 : decode cL_law 344 = .ok (.aload_n 2, 1) := by decide +kernel
theorem dL_law_345 : decode cL_law 345 = .ok (.aload_n 0, 1) := by decide +kernel
theorem dL_law_346 : decode cL_law 346 = .ok (.iload_n 3, 1) := by decide +kernel
theorem dL_law_347 : decode cL_law 347 = .ok (.iconst 1, 1) := by decide +kernel
theorem dL_law_348 : decode cL_law 348 = .ok (.iadd, 1) := by decide +kernel
theorem dL_law_349 : decode cL_law 349 = .ok (.iaload, 1) := by decide +kernel
theorem dL_law_350 : decode cL_law 350 = .ok (.aload_n 0, 1) := by decide +kernel
theorem dL_law_351 : decode cL_law 351 = .ok (.iload_n 3, 1) := by decide +kernel
theorem dL_law_352 : decode cL_law 352 = .ok (.iconst 2, 1) := by decide +kernel
theorem dL_law_353 : decode cL_law 353 = .ok (.iadd, 1) := by decide +kernel
theorem dL_law_354 : decode cL_law 354 = .ok (.iaload, 1) := by decide +kernel
theorem dL_law_355 : decode cL_law 355 = .ok (.invokevirtual 47, 3) := by decide +kernel
theorem dL_law_358 : decode cL_law 358 = .ok (.if_icmp .eq 563, 3) := by decide +kernel
theorem dL_law_361 : decode cL_law 361 = .ok (.iconst 0, 1) := by decide +kernel
theorem dL_law_362 : decode cL_law 362 = .ok (.ireturn, 1) := by decide +kernel
theorem dL_law_363 : decode cL_law 363 = .ok (.aload_n 1, 1) := by decide +kernel
theorem dL_law_364 : decode cL_law 364 = .ok (.aload_n 0, 1) := by decide +kernel
theorem dL_law_365 : decode cL_law 365 = .ok (.iload_n 3, 1) := by decide +kernel
theorem dL_law_366 : decode cL_law 366 = .ok (.iconst 1, 1) := by decide +kernel
theorem dL_law_367 : decode cL_law 367 = .ok (.iadd, 1) := by decide +kernel
theorem dL_law_368 : decode cL_law 368 = .ok (.iaload, 1) := by decide +kernel
theorem dL_law_369 : decode cL_law 369 = .ok (.aload_n 0, 1) := by decide +kernel
theorem dL_law_370 : decode cL_law 370 = .ok (.iload_n 3, 1) := by decide +kernel
theorem dL_law_371 : decode cL_law 371 = .ok (.iconst 2, 1) := by decide +kernel
theorem dL_law_372 : decode cL_law 372 = .ok (.iadd, 1) := by decide +kernel
theorem dL_law_373 : decode cL_law 373 = .ok (.iaload, 1) := by decide +kernel
theorem dL_law_374 : decode cL_law 374 = .ok (.invokevirtual 48, 3) := by decide +kernel
theorem dL_law_377 : decode cL_law 377 = .ok (.aload_n 2, 1) := by decide +kernel
theorem dL_law_378 : decode cL_law 378 = .ok (.aload_n 0, 1) := by decide +kernel
theorem dL_law_379 : decode cL_law 379 = .ok (.iload_n 3, 1) := by decide +kernel
theorem dL_law_380 : decode cL_law 380 = .ok (.iconst 1, 1) := by decide +kernel
theorem dL_law_381 : decode cL_law 381 = .ok (.iadd, 1) := by decide +kernel
theorem dL_law_382 : decode cL_law 382 = .ok (.iaload, 1) := by decide +kernel
theorem dL_law_383 : decode cL_law 383 = .ok (.aload_n 0, 1) := by decide +kernel
theorem dL_law_384 : decode cL_law 384 = .ok (.iload_n 3, 1) := by decide +kernel
theorem dL_law_385 : decode cL_law 385 = .ok (.iconst 2, 1) := by decide +kernel
theorem dL_law_386 : decode cL_law 386 = .ok (.iadd, 1) := by decide +kernel
theorem dL_law_387 : decode cL_law 387 = .ok (.iaload, 1) := by decide +kernel
theorem dL_law_388 : decode cL_law 388 = .ok (.invokevirtual 51, 3) := by decide +kernel
theorem dL_law_391 : decode cL_law 391 = .ok (.if_icmp .eq 530, 3) := by decide +kernel
theorem dL_law_394 : decode cL_law 394 = .ok (.iconst 0, 1) := by decide +kernel
theorem dL_law_395 : decode cL_law 395 = .ok (.ireturn, 1) := by decide +kernel
theorem dL_law_396 : decode cL_law 396 = .ok (.aload_n 1, 1) := by decide +kernel
theorem dL_law_397 : decode cL_law 397 = .ok (.aload_n 0, 1) := by decide +kernel
theorem dL_law_398 : decode cL_law 398 = .ok (.iload_n 3, 1) := by decide +kernel
theorem dL_law_399 : decode cL_law 399 = .ok (.iconst 1, 1) := by decide +kernel
theorem dL_law_400 : decode cL_law 400 = .ok (.iadd, 1) := by decide +kernel
theorem dL_law_401 : decode cL_law 401 = .ok (.iaload, 1) := by decide +kernel
theorem dL_law_402 : decode cL_law 402 = .ok (.aload_n 0, 1) := by decide +kernel
theorem dL_law_403 : decode cL_law 403 = .ok (.iload_n 3, 1) := by decide +kernel
theorem dL_law_404 : decode cL_law 404 = .ok (.iconst 2, 1) := by decide +kernel
theorem dL_law_405 : decode cL_law 405 = .ok (.iadd, 1) := by decide +kernel
theorem dL_law_406 : decode cL_law 406 = .ok (.iaload, 1) := by decide +kernel
theorem dL_law_407 : decode cL_law 407 = .ok (.aload_n 0, 1) := by decide +kernel
theorem dL_law_408 : decode cL_law 408 = .ok (.iload_n 3, 1) := by decide +kernel
theorem dL_law_409 : decode cL_law 409 = .ok (.iconst 3, 1) := by decide +kernel
theorem dL_law_410 : decode cL_law 410 = .ok (.iadd, 1) := by decide +kernel
theorem dL_law_411 : decode cL_law 411 = .ok (.iaload, 1) := by decide +kernel
theorem dL_law_412 : decode cL_law 412 = .ok (.invokevirtual 52, 3) := by decide +kernel
theorem dL_law_415 : decode cL_law 415 = .ok (.aload_n 2, 1) := by decide +kernel
theorem dL_law_416 : decode cL_law 416 = .ok (.aload_n 0, 1) := by decide +kernel
theorem dL_law_417 : decode cL_law 417 = .ok (.iload_n 3, 1) := by decide +kernel
theorem dL_law_418 : decode cL_law 418 = .ok (.iconst 1, 1) := by decide +kernel
theorem dL_law_419 : decode cL_law 419 = .ok (.iadd, 1) := by decide +kernel
theorem dL_law_420 : decode cL_law 420 = .ok (.iaload, 1) := by decide +kernel
theorem dL_law_421 : decode cL_law 421 = .ok (.aload_n 0, 1) := by decide +kernel
theorem dL_law_422 : decode cL_law 422 = .ok (.iload_n 3, 1) := by decide +kernel
theorem dL_law_423 : decode cL_law 423 = .ok (.iconst 2, 1) := by decide +kernel
theorem dL_law_424 : decode cL_law 424 = .ok (.iadd, 1) := by decide +kernel
theorem dL_law_425 : decode cL_law 425 = .ok (.iaload, 1) := by decide +kernel
theorem dL_law_426 : decode cL_law 426 = .ok (.aload_n 0, 1) := by decide +kernel
theorem dL_law_427 : decode cL_law 427 = .ok (.iload_n 3, 1) := by decide +kernel
theorem dL_law_428 : decode cL_law 428 = .ok (.iconst 3, 1) := by decide +kernel
theorem dL_law_429 : decode cL_law 429 = .ok (.iadd, 1) := by decide +kernel
theorem dL_law_430 : decode cL_law 430 = .ok (.iaload, 1) := by decide +kernel
theorem dL_law_431 : decode cL_law 431 = .ok (.invokevirtual 55, 3) := by decide +kernel
theorem dL_law_434 : decode cL_law 434 = .ok (.if_icmp .eq 487, 3) := by decide +kernel
theorem dL_law_437 : decode cL_law 437 = .ok (.iconst 0, 1) := by decide +kernel
theorem dL_law_438 : decode cL_law 438 = .ok (.ireturn, 1) := by decide +kernel
theorem dL_law_439 : decode cL_law 439 = .ok (.aload_n 1, 1) := by decide +kernel
theorem dL_law_440 : decode cL_law 440 = .ok (.aload_n 0, 1) := by decide +kernel
theorem dL_law_441 : decode cL_law 441 = .ok (.iload_n 3, 1) := by decide +kernel
theorem dL_law_442 : decode cL_law 442 = .ok (.iconst 1, 1) := by decide +kernel
theorem dL_law_443 : decode cL_law 443 = .ok (.iadd, 1) := by decide +kernel
theorem dL_law_444 : decode cL_law 444 = .ok (.iaload, 1) := by decide +kernel
theorem dL_law_445 : decode cL_law 445 = .ok (.aload_n 0, 1) := by decide +kernel
theorem dL_law_446 : decode cL_law 446 = .ok (.iload_n 3, 1) := by decide +kernel
theorem dL_law_447 : decode cL_law 447 = .ok (.iconst 2, 1) := by decide +kernel
theorem dL_law_448 : decode cL_law 448 = .ok (.iadd, 1) := by decide +kernel
theorem dL_law_449 : decode cL_law 449 = .ok (.iaload, 1) := by decide +kernel
theorem dL_law_450 : decode cL_law 450 = .ok (.invokevirtual 56, 3) := by decide +kernel
theorem dL_law_453 : decode cL_law 453 = .ok (.aload_n 2, 1) := by decide +kernel
theorem dL_law_454 : decode cL_law 454 = .ok (.aload_n 0, 1) := by decide +kernel
theorem dL_law_455 : decode cL_law 455 = .ok (.iload_n 3, 1) := by decide +kernel
theorem dL_law_456 : decode cL_law 456 = .ok (.iconst 1, 1) := by decide +kernel
theorem dL_law_457 : decode cL_law 457 = .ok (.iadd, 1) := by decide +kernel
theorem dL_law_458 : decode cL_law 458 = .ok (.iaload, 1) := by decide +kernel
theorem dL_law_459 : decode cL_law 459 = .ok (.aload_n 0, 1) := by decide +kernel
theorem dL_law_460 : decode cL_law 460 = .ok (.iload_n 3, 1) := by decide +kernel
theorem dL_law_461 : decode cL_law 461 = .ok (.iconst 2, 1) := by decide +kernel
theorem dL_law_462 : decode cL_law 462 = .ok (.iadd, 1) := by decide +kernel
theorem dL_law_463 : decode cL_law 463 = .ok (.iaload, 1) := by decide +kernel
theorem dL_law_464 : decode cL_law 464 = .ok (.invokevirtual 59, 3) := by decide +kernel
theorem dL_law_467 : decode cL_law 467 = .ok (.if_icmp .eq 454, 3) := by decide +kernel
theorem dL_law_470 : decode cL_law 470 = .ok (.iconst 0, 1) := by decide +kernel
theorem dL_law_471 : decode cL_law 471 = .ok (.ireturn, 1) := by decide +kernel
theorem dL_law_472 : decode cL_law 472 = .ok (.aload_n 1, 1) := by decide +kernel
theorem dL_law_473 : decode cL_law 473 = .ok (.aload_n 0, 1) := by decide +kernel
theorem dL_law_474 : decode cL_law 474 = .ok (.iload_n 3, 1) := by decide +kernel
theorem dL_law_475 : decode cL_law 475 = .ok (.iconst 1, 1) := by decide +kernel
theorem dL_law_476 : decode cL_law 476 = .ok (.iadd, 1) := by decide +kernel
theorem dL_law_477 : decode cL_law 477 = .ok (.iaload, 1) := by decide +kernel
theorem dL_law_478 : decode cL_law 478 = .ok (.aload_n 0, 1) := by decide +kernel
theorem dL_law_479 : decode cL_law 479 = .ok (.iload_n 3, 1) := by decide +kernel
theorem dL_law_480 : decode cL_law 480 = .ok (.iconst 2, 1) := by decide +kernel
theorem dL_law_481 : decode cL_law 481 = .ok (.iadd, 1) := by decide +kernel
theorem dL_law_482 : decode cL_law 482 = .ok (.iaload, 1) := by decide +kernel
theorem dL_law_483 : decode cL_law 483 = .ok (.aload_n 0, 1) := by decide +kernel
theorem dL_law_484 : decode cL_law 484 = .ok (.iload_n 3, 1) := by decide +kernel
theorem dL_law_485 : decode cL_law 485 = .ok (.iconst 3, 1) := by decide +kernel
theorem dL_law_486 : decode cL_law 486 = .ok (.iadd, 1) := by decide +kernel
theorem dL_law_487 : decode cL_law 487 = .ok (.iaload, 1) := by decide +kernel
theorem dL_law_488 : decode cL_law 488 = .ok (.invokevirtual 60, 3) := by decide +kernel
theorem dL_law_491 : decode cL_law 491 = .ok (.aload_n 2, 1) := by decide +kernel
theorem dL_law_492 : decode cL_law 492 = .ok (.aload_n 0, 1) := by decide +kernel
theorem dL_law_493 : decode cL_law 493 = .ok (.iload_n 3, 1) := by decide +kernel
theorem dL_law_494 : decode cL_law 494 = .ok (.iconst 1, 1) := by decide +kernel
theorem dL_law_495 : decode cL_law 495 = .ok (.iadd, 1) := by decide +kernel
theorem dL_law_496 : decode cL_law 496 = .ok (.iaload, 1) := by decide +kernel
theorem dL_law_497 : decode cL_law 497 = .ok (.aload_n 0, 1) := by decide +kernel
theorem dL_law_498 : decode cL_law 498 = .ok (.iload_n 3, 1) := by decide +kernel
theorem dL_law_499 : decode cL_law 499 = .ok (.iconst 2, 1) := by decide +kernel
theorem dL_law_500 : decode cL_law 500 = .ok (.iadd, 1) := by decide +kernel
theorem dL_law_501 : decode cL_law 501 = .ok (.iaload, 1) := by decide +kernel
theorem dL_law_502 : decode cL_law 502 = .ok (.aload_n 0, 1) := by decide +kernel
theorem dL_law_503 : decode cL_law 503 = .ok (.iload_n 3, 1) := by decide +kernel
theorem dL_law_504 : decode cL_law 504 = .ok (.iconst 3, 1) := by decide +kernel
theorem dL_law_505 : decode cL_law 505 = .ok (.iadd, 1) := by decide +kernel
theorem dL_law_506 : decode cL_law 506 = .ok (.iaload, 1) := by decide +kernel
theorem dL_law_507 : decode cL_law 507 = .ok (.invokevirtual 63, 3) := by decide +kernel
theorem dL_law_510 : decode cL_law 510 = .ok (.if_icmp .eq 411, 3) := by decide +kernel
theorem dL_law_513 : decode cL_law 513 = .ok (.iconst 0, 1) := by decide +kernel
theorem dL_law_514 : decode cL_law 514 = .ok (.ireturn, 1) := by decide +kernel
theorem dL_law_515 : decode cL_law 515 = .ok (.aload_n 1, 1) := by decide +kernel
theorem dL_law_516 : decode cL_law 516 = .ok (.aload_n 0, 1) := by decide +kernel
theorem dL_law_517 : decode cL_law 517 = .ok (.iload_n 3, 1) := by decide +kernel
theorem dL_law_518 : decode cL_law 518 = .ok (.iconst 1, 1) := by decide +kernel
theorem dL_law_519 : decode cL_law 519 = .ok (.iadd, 1) := by decide +kernel
theorem dL_law_520 : decode cL_law 520 = .ok (.iaload, 1) := by decide +kernel
theorem dL_law_521 : decode cL_law 521 = .ok (.aload_n 0, 1) := by decide +kernel
theorem dL_law_522 : decode cL_law 522 = .ok (.iload_n 3, 1) := by decide +kernel
theorem dL_law_523 : decode cL_law 523 = .ok (.iconst 2, 1) := by decide +kernel
theorem dL_law_524 : decode cL_law 524 = .ok (.iadd, 1) := by decide +kernel
theorem dL_law_525 : decode cL_law 525 = .ok (.iaload, 1) := by decide +kernel
theorem dL_law_526 : decode cL_law 526 = .ok (.invokevirtual 64, 3) := by decide +kernel
theorem dL_law_529 : decode cL_law 529 = .ok (.aload_n 2, 1) := by decide +kernel
theorem dL_law_530 : decode cL_law 530 = .ok (.aload_n 0, 1) := by decide +kernel
theorem dL_law_531 : decode cL_law 531 = .ok (.iload_n 3, 1) := by decide +kernel
theorem dL_law_532 : decode cL_law 532 = .ok (.iconst 1, 1) := by decide +kernel
theorem dL_law_533 : decode cL_law 533 = .ok (.iadd, 1) := by decide +kernel
theorem dL_law_534 : decode cL_law 534 = .ok (.iaload, 1) := by decide +kernel
theorem dL_law_535 : decode cL_law 535 = .ok (.aload_n 0, 1) := by decide +kernel
theorem dL_law_536 : decode cL_law 536 = .ok (.iload_n 3, 1) := by decide +kernel
theorem dL_law_537 : decode cL_law 537 = .ok (.iconst 2, 1) := by decide +kernel
theorem dL_law_538 : decode cL_law 538 = .ok (.iadd, 1) := by decide +kernel
theorem dL_law_539 : decode cL_law 539 = .ok (.iaload, 1) := by decide +kernel
theorem dL_law_540 : decode cL_law 540 = .ok (.invokevirtual 67, 3) := by decide +kernel
theorem dL_law_543 : decode cL_law 543 = .ok (.if_icmp .eq 378, 3) := by decide +kernel
theorem dL_law_546 : decode cL_law 546 = .ok (.iconst 0, 1) := by decide +kernel
theorem dL_law_547 : decode cL_law 547 = .ok (.ireturn, 1) := by decide +kernel
theorem dL_law_548 : decode cL_law 548 = .ok (.aload_n 1, 1) := by decide +kernel
theorem dL_law_549 : decode cL_law 549 = .ok (.aload_n 0, 1) := by decide +kernel
theorem dL_law_550 : decode cL_law 550 = .ok (.iload_n 3, 1) := by decide +kernel
theorem dL_law_551 : decode cL_law 551 = .ok (.iconst 1, 1) := by decide +kernel
theorem dL_law_552 : decode cL_law 552 = .ok (.iadd, 1) := by decide +kernel
theorem dL_law_553 : decode cL_law 553 = .ok (.iaload, 1) := by decide +kernel
theorem dL_law_554 : decode cL_law 554 = .ok (.aload_n 0, 1) := by decide +kernel
theorem dL_law_555 : decode cL_law 555 = .ok (.iload_n 3, 1) := by decide +kernel
theorem dL_law_556 : decode cL_law 556 = .ok (.iconst 2, 1) := by decide +kernel
theorem dL_law_557 : decode cL_law 557 = .ok (.iadd, 1) := by decide +kernel
theorem dL_law_558 : decode cL_law 558 = .ok (.iaload, 1) := by decide +kernel
theorem dL_law_559 : decode cL_law 559 = .ok (.invokevirtual 68, 3) := by decide +kernel
theorem dL_law_562 : decode cL_law 562 = .ok (.aload_n 2, 1) := by decide +kernel
theorem dL_law_563 : decode cL_law 563 = .ok (.aload_n 0, 1) := by decide +kernel
theorem dL_law_564 : decode cL_law 564 = .ok (.iload_n 3, 1) := by decide +kernel
theorem dL_law_565 : decode cL_law 565 = .ok (.iconst 1, 1) := by decide +kernel
theorem dL_law_566 : decode cL_law 566 = .ok (.iadd, 1) := by decide +kernel
theorem dL_law_567 : decode cL_law 567 = .ok (.iaload, 1) := by decide +kernel
theorem dL_law_568 : decode cL_law 568 = .ok (.aload_n 0, 1) := by decide +kernel
theorem dL_law_569 : decode cL_law 569 = .ok (.iload_n 3, 1) := by decide +kernel
theorem dL_law_570 : decode cL_law 570 = .ok (.iconst 2, 1) := by decide +kernel
theorem dL_law_571 : decode cL_law 571 = .ok (.iadd, 1) := by decide +kernel
theorem dL_law_572 : decode cL_law 572 = .ok (.iaload, 1) := by decide +kernel
theorem dL_law_573 : decode cL_law 573 = .ok (.invokevirtual 71, 3) := by decide +kernel
theorem dL_law_576 : decode cL_law 576 = .ok (.if_icmp .eq 345, 3) := by decide +kernel
theorem dL_law_579 : decode cL_law 579 = .ok (.iconst 0, 1) := by decide +kernel
theorem dL_law_580 : decode cL_law 580 = .ok (.ireturn, 1) := by decide +kernel
theorem dL_law_581 : decode cL_law 581 = .ok (.aload_n 1, 1) := by decide +kernel
theorem dL_law_582 : decode cL_law 582 = .ok (.aload_n 0, 1) := by decide +kernel
theorem dL_law_583 : decode cL_law 583 = .ok (.iload_n 3, 1) := by decide +kernel
theorem dL_law_584 : decode cL_law 584 = .ok (.iconst 1, 1) := by decide +kernel
theorem dL_law_585 : decode cL_law 585 = .ok (.iadd, 1) := by decide +kernel
theorem dL_law_586 : decode cL_law 586 = .ok (.iaload, 1) := by decide +kernel
theorem dL_law_587 : decode cL_law 587 = .ok (.invokevirtual 72, 3) := by decide +kernel
theorem dL_law_590 : decode cL_law 590 = .ok (.aload_n 2, 1) := by decide +kernel
theorem dL_law_591 : decode cL_law 591 = .ok (.aload_n 0, 1) := by decide +kernel
theorem dL_law_592 : decode cL_law 592 = .ok (.iload_n 3, 1) := by decide +kernel
theorem dL_law_593 : decode cL_law 593 = .ok (.iconst 1, 1) := by decide +kernel
theorem dL_law_594 : decode cL_law 594 = .ok (.iadd, 1) := by decide +kernel
theorem dL_law_595 : decode cL_law 595 = .ok (.iaload, 1) := by decide +kernel
theorem dL_law_596 : decode cL_law 596 = .ok (.invokevirtual 75, 3) := by decide +kernel
theorem dL_law_599 : decode cL_law 599 = .ok (.if_icmp .eq 322, 3) := by decide +kernel
theorem dL_law_602 : decode cL_law 602 = .ok (.iconst 0, 1) := by decide +kernel
theorem dL_law_603 : decode cL_law 603 = .ok (.ireturn, 1) := by decide +kernel
theorem dL_law_604 : decode cL_law 604 = .ok (.aload_n 1, 1) := by decide +kernel
theorem dL_law_605 : decode cL_law 605 = .ok (.aload_n 0, 1) := by decide +kernel
theorem dL_law_606 : decode cL_law 606 = .ok (.iload_n 3, 1) := by decide +kernel
theorem dL_law_607 : decode cL_law 607 = .ok (.iconst 1, 1) := by decide +kernel
theorem dL_law_608 : decode cL_law 608 = .ok (.iadd, 1) := by decide +kernel
theorem dL_law_609 : decode cL_law 609 = .ok (.iaload, 1) := by decide +kernel
theorem dL_law_610 : decode cL_law 610 = .ok (.aload_n 0, 1) := by decide +kernel
theorem dL_law_611 : decode cL_law 611 = .ok (.iload_n 3, 1) := by decide +kernel
theorem dL_law_612 : decode cL_law 612 = .ok (.iconst 2, 1) := by decide +kernel
theorem dL_law_613 : decode cL_law 613 = .ok (.iadd, 1) := by decide +kernel
theorem dL_law_614 : decode cL_law 614 = .ok (.iaload, 1) := by decide +kernel
theorem dL_law_615 : decode cL_law 615 = .ok (.invokevirtual 76, 3) := by decide +kernel
theorem dL_law_618 : decode cL_law 618 = .ok (.aload_n 2, 1) := by decide +kernel
theorem dL_law_619 : decode cL_law 619 = .ok (.aload_n 0, 1) := by decide +kernel
theorem dL_law_620 : decode cL_law 620 = .ok (.iload_n 3, 1) := by decide +kernel
theorem dL_law_621 : decode cL_law 621 = .ok (.iconst 1, 1) := by decide +kernel
theorem dL_law_622 : decode cL_law 622 = .ok (.iadd, 1) := by decide +kernel
theorem dL_law_623 : decode cL_law 623 = .ok (.iaload, 1) := by decide +kernel
theorem dL_law_624 : decode cL_law 624 = .ok (.aload_n 0, 1) := by decide +kernel
theorem dL_law_625 : decode cL_law 625 = .ok (.iload_n 3, 1) := by decide +kernel
theorem dL_law_626 : decode cL_law 626 = .ok (.iconst 2, 1) := by decide +kernel
theorem dL_law_627 : decode cL_law 627 = .ok (.iadd, 1) := by decide +kernel
theorem dL_law_628 : decode cL_law 628 = .ok (.iaload, 1) := by decide +kernel
theorem dL_law_629 : decode cL_law 629 = .ok (.invokevirtual 79, 3) := by decide +kernel
theorem dL_law_632 : decode cL_law 632 = .ok (.if_icmp .eq 289, 3) := by decide +kernel
theorem dL_law_635 : decode cL_law 635 = .ok (.iconst 0, 1) := by decide +kernel
theorem dL_law_636 : decode cL_law 636 = .ok (.ireturn, 1) := by decide +kernel
theorem dL_law_637 : decode cL_law 637 = .ok (.aload_n 1, 1) := by decide +kernel
theorem dL_law_638 : decode cL_law 638 = .ok (.aload_n 0, 1) := by decide +kernel
theorem dL_law_639 : decode cL_law 639 = .ok (.iload_n 3, 1) := by decide +kernel
theorem dL_law_640 : decode cL_law 640 = .ok (.iconst 1, 1) := by decide +kernel
theorem dL_law_641 : decode cL_law 641 = .ok (.iadd, 1) := by decide +kernel
theorem dL_law_642 : decode cL_law 642 = .ok (.iaload, 1) := by decide +kernel
theorem dL_law_643 : decode cL_law 643 = .ok (.aload_n 0, 1) := by decide +kernel
theorem dL_law_644 : decode cL_law 644 = .ok (.iload_n 3, 1) := by decide +kernel
theorem dL_law_645 : decode cL_law 645 = .ok (.iconst 2, 1) := by decide +kernel
theorem dL_law_646 : decode cL_law 646 = .ok (.iadd, 1) := by decide +kernel
theorem dL_law_647 : decode cL_law 647 = .ok (.iaload, 1) := by decide +kernel
theorem dL_law_648 : decode cL_law 648 = .ok (.aload_n 0, 1) := by decide +kernel
theorem dL_law_649 : decode cL_law 649 = .ok (.iload_n 3, 1) := by decide +kernel
theorem dL_law_650 : decode cL_law 650 = .ok (.iconst 3, 1) := by decide +kernel
theorem dL_law_651 : decode cL_law 651 = .ok (.iadd, 1) := by decide +kernel
theorem dL_law_652 : decode cL_law 652 = .ok (.iaload, 1) := by decide +kernel
theorem dL_law_653 : decode cL_law 653 = .ok (.invokevirtual 80, 3) := by decide +kernel
theorem dL_law_656 : decode cL_law 656 = .ok (.aload_n 2, 1) := by decide +kernel
theorem dL_law_657 : decode cL_law 657 = .ok (.aload_n 0, 1) := by decide +kernel
theorem dL_law_658 : decode cL_law 658 = .ok (.iload_n 3, 1) := by decide +kernel
theorem dL_law_659 : decode cL_law 659 = .ok (.iconst 1, 1) := by decide +kernel
theorem dL_law_660 : decode cL_law 660 = .ok (.iadd, 1) := by decide +kernel
theorem dL_law_661 : decode cL_law 661 = .ok (.iaload, 1) := by decide +kernel
theorem dL_law_662 : decode cL_law 662 = .ok (.aload_n 0, 1) := by decide +kernel
theorem dL_law_663 : decode cL_law 663 = .ok (.iload_n 3, 1) := by decide +kernel
theorem dL_law_664 : decode cL_law 664 = .ok (.iconst 2, 1) := by decide +kernel
theorem dL_law_665 : decode cL_law 665 = .ok (.iadd, 1) := by decide +kernel
theorem dL_law_666 : decode cL_law 666 = .ok (.iaload, 1) := by decide +kernel
theorem dL_law_667 : decode cL_law 667 = .ok (.aload_n 0, 1) := by decide +kernel
theorem dL_law_668 : decode cL_law 668 = .ok (.iload_n 3, 1) := by decide +kernel
theorem dL_law_669 : decode cL_law 669 = .ok (.iconst 3, 1) := by decide +kernel
theorem dL_law_670 : decode cL_law 670 = .ok (.iadd, 1) := by decide +kernel
theorem dL_law_671 : decode cL_law 671 = .ok (.iaload, 1) := by decide +kernel
theorem dL_law_672 : decode cL_law 672 = .ok (.invokevirtual 83, 3) := by decide +kernel
theorem dL_law_675 : decode cL_law 675 = .ok (.if_icmp .eq 246, 3) := by decide +kernel
theorem dL_law_678 : decode cL_law 678 = .ok (.iconst 0, 1) := by decide +kernel
theorem dL_law_679 : decode cL_law 679 = .ok (.ireturn, 1) := by decide +kernel
theorem dL_law_680 : decode cL_law 680 = .ok (.aload_n 1, 1) := by decide +kernel
theorem dL_law_681 : decode cL_law 681 = .ok (.aload_n 0, 1) := by decide +kernel
theorem dL_law_682 : decode cL_law 682 = .ok (.iload_n 3, 1) := by decide +kernel
theorem dL_law_683 : decode cL_law 683 = .ok (.iconst 1, 1) := by decide +kernel
theorem dL_law_684 : decode cL_law 684 = .ok (.iadd, 1) := by decide +kernel
theorem dL_law_685 : decode cL_law 685 = .ok (.iaload, 1) := by decide +kernel
theorem dL_law_686 : decode cL_law 686 = .ok (.invokevirtual 84, 3) := by decide +kernel
theorem dL_law_689 : decode cL_law 689 = .ok (.aload_n 2, 1) := by decide +kernel
theorem dL_law_690 : decode cL_law 690 = .ok (.aload_n 0, 1) := by decide +kernel
theorem dL_law_691 : decode cL_law 691 = .ok (.iload_n 3, 1) := by decide +kernel
theorem dL_law_692 : decode cL_law 692 = .ok (.iconst 1, 1) := by decide +kernel
theorem dL_law_693 : decode cL_law 693 = .ok (.iadd, 1) := by decide +kernel
theorem dL_law_694 : decode cL_law 694 = .ok (.iaload, 1) := by decide +kernel
theorem dL_law_695 : decode cL_law 695 = .ok (.invokevirtual 87, 3) := by decide +kernel
theorem dL_law_698 : decode cL_law 698 = .ok (.if_icmp .eq 223, 3) := by decide +kernel
theorem dL_law_701 : decode cL_law 701 = .ok (.iconst 0, 1) := by decide +kernel
theorem dL_law_702 : decode cL_law 702 = .ok (.ireturn, 1) := by decide +kernel
theorem dL_law_703 : decode cL_law 703 = .ok (.aload_n 1, 1) := by decide +kernel
theorem dL_law_704 : decode cL_law 704 = .ok (.aload_n 0, 1) := by decide +kernel
theorem dL_law_705 : decode cL_law 705 = .ok (.iload_n 3, 1) := by decide +kernel
theorem dL_law_706 : decode cL_law 706 = .ok (.iconst 1, 1) := by decide +kernel
theorem dL_law_707 : decode cL_law 707 = .ok (.iadd, 1) := by decide +kernel
theorem dL_law_708 : decode cL_law 708 = .ok (.iaload, 1) := by decide +kernel
theorem dL_law_709 : decode cL_law 709 = .ok (.invokevirtual 88, 3) := by decide +kernel
theorem dL_law_712 : decode cL_law 712 = .ok (.aload_n 2, 1) := by decide +kernel
theorem dL_law_713 : decode cL_law 713 = .ok (.aload_n 0, 1) := by decide +kernel
theorem dL_law_714 : decode cL_law 714 = .ok (.iload_n 3, 1) := by decide +kernel
theorem dL_law_715 : decode cL_law 715 = .ok (.iconst 1, 1) := by decide +kernel
theorem dL_law_716 : decode cL_law 716 = .ok (.iadd, 1) := by decide +kernel
theorem dL_law_717 : decode cL_law 717 = .ok (.iaload, 1) := by decide +kernel
theorem dL_law_718 : decode cL_law 718 = .ok (.invokevirtual 91, 3) := by decide +kernel
theorem dL_law_721 : decode cL_law 721 = .ok (.if_icmp .eq 200, 3) := by decide +kernel
theorem dL_law_724 : decode cL_law 724 = .ok (.iconst 0, 1) := by decide +kernel
theorem dL_law_725 : decode cL_law 725 = .ok (.ireturn, 1) := by decide +kernel
theorem dL_law_726 : decode cL_law 726 = .ok (.aload_n 1, 1) := by decide +kernel
theorem dL_law_727 : decode cL_law 727 = .ok (.aload_n 0, 1) := by decide +kernel
theorem dL_law_728 : decode cL_law 728 = .ok (.iload_n 3, 1) := by decide +kernel
theorem dL_law_729 : decode cL_law 729 = .ok (.iconst 1, 1) := by decide +kernel
theorem dL_law_730 : decode cL_law 730 = .ok (.iadd, 1) := by decide +kernel
theorem dL_law_731 : decode cL_law 731 = .ok (.iaload, 1) := by decide +kernel
theorem dL_law_732 : decode cL_law 732 = .ok (.aload_n 0, 1) := by decide +kernel
theorem dL_law_733 : decode cL_law 733 = .ok (.iload_n 3, 1) := by decide +kernel
theorem dL_law_734 : decode cL_law 734 = .ok (.iconst 2, 1) := by decide +kernel
theorem dL_law_735 : decode cL_law 735 = .ok (.iadd, 1) := by decide +kernel
theorem dL_law_736 : decode cL_law 736 = .ok (.iaload, 1) := by decide +kernel
theorem dL_law_737 : decode cL_law 737 = .ok (.aload_n 0, 1) := by decide +kernel
theorem dL_law_738 : decode cL_law 738 = .ok (.iload_n 3, 1) := by decide +kernel
theorem dL_law_739 : decode cL_law 739 = .ok (.iconst 3, 1) := by decide +kernel
theorem dL_law_740 : decode cL_law 740 = .ok (.iadd, 1) := by decide +kernel
theorem dL_law_741 : decode cL_law 741 = .ok (.iaload, 1) := by decide +kernel
theorem dL_law_742 : decode cL_law 742 = .ok (.invokevirtual 92, 3) := by decide +kernel
theorem dL_law_745 : decode cL_law 745 = .ok (.aload_n 2, 1) := by decide +kernel
theorem dL_law_746 : decode cL_law 746 = .ok (.aload_n 0, 1) := by decide +kernel
theorem dL_law_747 : decode cL_law 747 = .ok (.iload_n 3, 1) := by decide +kernel
theorem dL_law_748 : decode cL_law 748 = .ok (.iconst 1, 1) := by decide +kernel
theorem dL_law_749 : decode cL_law 749 = .ok (.iadd, 1) := by decide +kernel
theorem dL_law_750 : decode cL_law 750 = .ok (.iaload, 1) := by decide +kernel
theorem dL_law_751 : decode cL_law 751 = .ok (.aload_n 0, 1) := by decide +kernel
theorem dL_law_752 : decode cL_law 752 = .ok (.iload_n 3, 1) := by decide +kernel
theorem dL_law_753 : decode cL_law 753 = .ok (.iconst 2, 1) := by decide +kernel
theorem dL_law_754 : decode cL_law 754 = .ok (.iadd, 1) := by decide +kernel
theorem dL_law_755 : decode cL_law 755 = .ok (.iaload, 1) := by decide +kernel
theorem dL_law_756 : decode cL_law 756 = .ok (.aload_n 0, 1) := by decide +kernel
theorem dL_law_757 : decode cL_law 757 = .ok (.iload_n 3, 1) := by decide +kernel
theorem dL_law_758 : decode cL_law 758 = .ok (.iconst 3, 1) := by decide +kernel
theorem dL_law_759 : decode cL_law 759 = .ok (.iadd, 1) := by decide +kernel
theorem dL_law_760 : decode cL_law 760 = .ok (.iaload, 1) := by decide +kernel
theorem dL_law_761 : decode cL_law 761 = .ok (.invokevirtual 95, 3) := by decide +kernel
theorem dL_law_764 : decode cL_law 764 = .ok (.if_icmp .eq 157, 3) := by decide +kernel
theorem dL_law_767 : decode cL_law 767 = .ok (.iconst 0, 1) := by decide +kernel
theorem dL_law_768 : decode cL_law 768 = .ok (.ireturn, 1) := by decide +kernel
theorem dL_law_769 : decode cL_law 769 = .ok (.aload_n 1, 1) := by decide +kernel
theorem dL_law_770 : decode cL_law 770 = .ok (.aload_n 0, 1) := by decide +kernel
theorem dL_law_771 : decode cL_law 771 = .ok (.iload_n 3, 1) := by decide +kernel
theorem dL_law_772 : decode cL_law 772 = .ok (.iconst 1, 1) := by decide +kernel
theorem dL_law_773 : decode cL_law 773 = .ok (.iadd, 1) := by decide +kernel
theorem dL_law_774 : decode cL_law 774 = .ok (.iaload, 1) := by decide +kernel
theorem dL_law_775 : decode cL_law 775 = .ok (.invokevirtual 96, 3) := by decide +kernel
theorem dL_law_778 : decode cL_law 778 = .ok (.aload_n 2, 1) := by decide +kernel
theorem dL_law_779 : decode cL_law 779 = .ok (.aload_n 0, 1) := by decide +kernel
theorem dL_law_780 : decode cL_law 780 = .ok (.iload_n 3, 1) := by decide +kernel
theorem dL_law_781 : decode cL_law 781 = .ok (.iconst 1, 1) := by decide +kernel
theorem dL_law_782 : decode cL_law 782 = .ok (.iadd, 1) := by decide +kernel
theorem dL_law_783 : decode cL_law 783 = .ok (.iaload, 1) := by decide +kernel
theorem dL_law_784 : decode cL_law 784 = .ok (.invokevirtual 99, 3) := by decide +kernel
theorem dL_law_787 : decode cL_law 787 = .ok (.if_icmp .eq 134, 3) := by decide +kernel
theorem dL_law_790 : decode cL_law 790 = .ok (.iconst 0, 1) := by decide +kernel
theorem dL_law_791 : decode cL_law 791 = .ok (.ireturn, 1) := by decide +kernel
theorem dL_law_792 : decode cL_law 792 = .ok (.aload_n 1, 1) := by decide +kernel
theorem dL_law_793 : decode cL_law 793 = .ok (.invokevirtual 100, 3) := by decide +kernel
theorem dL_law_796 : decode cL_law 796 = .ok (.aload_n 2, 1) := by decide +kernel
theorem dL_law_797 : decode cL_law 797 = .ok (.invokevirtual 103, 3) := by decide +kernel
theorem dL_law_800 : decode cL_law 800 = .ok (.if_icmp .eq 121, 3) := by decide +kernel
theorem dL_law_803 : decode cL_law 803 = .ok (.iconst 0, 1) := by decide +kernel
theorem dL_law_804 : decode cL_law 804 = .ok (.ireturn, 1) := by decide +kernel
theorem dL_law_805 : decode cL_law 805 = .ok (.aload_n 1, 1) := by decide +kernel
theorem dL_law_806 : decode cL_law 806 = .ok (.aload_n 0, 1) := by decide +kernel
theorem dL_law_807 : decode cL_law 807 = .ok (.iload_n 3, 1) := by decide +kernel
theorem dL_law_808 : decode cL_law 808 = .ok (.iconst 1, 1) := by decide +kernel
theorem dL_law_809 : decode cL_law 809 = .ok (.iadd, 1) := by decide +kernel
theorem dL_law_810 : decode cL_law 810 = .ok (.iaload, 1) := by decide +kernel
theorem dL_law_811 : decode cL_law 811 = .ok (.aload_n 0, 1) := by decide +kernel
theorem dL_law_812 : decode cL_law 812 = .ok (.iload_n 3, 1) := by decide +kernel
theorem dL_law_813 : decode cL_law 813 = .ok (.iconst 2, 1) := by decide +kernel
theorem dL_law_814 : decode cL_law 814 = .ok (.iadd, 1) := by decide +kernel
theorem dL_law_815 : decode cL_law 815 = .ok (.iaload, 1) := by decide +kernel
theorem dL_law_816 : decode cL_law 816 = .ok (.aload_n 0, 1) := by decide +kernel
theorem dL_law_817 : decode cL_law 817 = .ok (.iload_n 3, 1) := by decide +kernel
theorem dL_law_818 : decode cL_law 818 = .ok (.iconst 3, 1) := by decide +kernel
theorem dL_law_819 : decode cL_law 819 = .ok (.iadd, 1) := by decide +kernel
theorem dL_law_820 : decode cL_law 820 = .ok (.iaload, 1) := by decide +kernel
theorem dL_law_821 : decode cL_law 821 = .ok (.aload_n 0, 1) := by decide +kernel
theorem dL_law_822 : decode cL_law 822 = .ok (.iload_n 3, 1) := by decide +kernel
theorem dL_law_823 : decode cL_law 823 = .ok (.iconst 4, 1) := by decide +kernel
theorem dL_law_824 : decode cL_law 824 = .ok (.iadd, 1) := by decide +kernel
theorem dL_law_825 : decode cL_law 825 = .ok (.iaload, 1) := by decide +kernel
theorem dL_law_826 : decode cL_law 826 = .ok (.invokevirtual 104, 3) := by decide +kernel
theorem dL_law_829 : decode cL_law 829 = .ok (.aload_n 2, 1) := by decide +kernel
theorem dL_law_830 : decode cL_law 830 = .ok (.aload_n 0, 1) := by decide +kernel
theorem dL_law_831 : decode cL_law 831 = .ok (.iload_n 3, 1) := by decide +kernel
theorem dL_law_832 : decode cL_law 832 = .ok (.iconst 1, 1) := by decide +kernel
theorem dL_law_833 : decode cL_law 833 = .ok (.iadd, 1) := by decide +kernel
theorem dL_law_834 : decode cL_law 834 = .ok (.iaload, 1) := by decide +kernel
theorem dL_law_835 : decode cL_law 835 = .ok (.aload_n 0, 1) := by decide +kernel
theorem dL_law_836 : decode cL_law 836 = .ok (.iload_n 3, 1) := by decide +kernel
theorem dL_law_837 : decode cL_law 837 = .ok (.iconst 2, 1) := by decide +kernel
theorem dL_law_838 : decode cL_law 838 = .ok (.iadd, 1) := by decide +kernel
theorem dL_law_839 : decode cL_law 839 = .ok (.iaload, 1) := by decide +kernel
theorem dL_law_840 : decode cL_law 840 = .ok (.aload_n 0, 1) := by decide +kernel
theorem dL_law_841 : decode cL_law 841 = .ok (.iload_n 3, 1) := by decide +kernel
theorem dL_law_842 : decode cL_law 842 = .ok (.iconst 3, 1) := by decide +kernel
theorem dL_law_843 : decode cL_law 843 = .ok (.iadd, 1) := by decide +kernel
theorem dL_law_844 : decode cL_law 844 = .ok (.iaload, 1) := by decide +kernel
theorem dL_law_845 : decode cL_law 845 = .ok (.aload_n 0, 1) := by decide +kernel
theorem dL_law_846 : decode cL_law 846 = .ok (.iload_n 3, 1) := by decide +kernel
theorem dL_law_847 : decode cL_law 847 = .ok (.iconst 4, 1) := by decide +kernel
theorem dL_law_848 : decode cL_law 848 = .ok (.iadd, 1) := by decide +kernel
theorem dL_law_849 : decode cL_law 849 = .ok (.iaload, 1) := by decide +kernel
theorem dL_law_850 : decode cL_law 850 = .ok (.invokevirtual 108, 3) := by decide +kernel
theorem dL_law_853 : decode cL_law 853 = .ok (.if_icmp .eq 68, 3) := by decide +kernel
theorem dL_law_856 : decode cL_law 856 = .ok (.iconst 0, 1) := by decide +kernel
theorem dL_law_857 : decode cL_law 857 = .ok (.ireturn, 1) := by decide +kernel
theorem dL_law_858 : decode cL_law 858 = .ok (.aload_n 1, 1) := by decide +kernel
theorem dL_law_859 : decode cL_law 859 = .ok (.invokevirtual 109, 3) := by decide +kernel
theorem dL_law_862 : decode cL_law 862 = .ok (.aload_n 2, 1) := by decide +kernel
theorem dL_law_863 : decode cL_law 863 = .ok (.invokevirtual 112, 3) := by decide +kernel
theorem dL_law_866 : decode cL_law 866 = .ok (.if_icmp .eq 55, 3) := by decide +kernel
theorem dL_law_869 : decode cL_law 869 = .ok (.iconst 0, 1) := by decide +kernel
theorem dL_law_870 : decode cL_law 870 = .ok (.ireturn, 1) := by decide +kernel
theorem dL_law_871 : decode cL_law 871 = .ok (.aload_n 1, 1) := by decide +kernel
theorem dL_law_872 : decode cL_law 872 = .ok (.invokevirtual 113, 3) := by decide +kernel
theorem dL_law_875 : decode cL_law 875 = .ok (.aload_n 2, 1) := by decide +kernel
theorem dL_law_876 : decode cL_law 876 = .ok (.invokevirtual 116, 3) := by decide +kernel
theorem dL_law_879 : decode cL_law 879 = .ok (.if_icmp .eq 42, 3) := by decide +kernel
theorem dL_law_882 : decode cL_law 882 = .ok (.iconst 0, 1) := by decide +kernel
theorem dL_law_883 : decode cL_law 883 = .ok (.ireturn, 1) := by decide +kernel
theorem dL_law_884 : decode cL_law 884 = .ok (.aload_n 1, 1) := by decide +kernel
theorem dL_law_885 : decode cL_law 885 = .ok (.aload_n 0, 1) := by decide +kernel
theorem dL_law_886 : decode cL_law 886 = .ok (.iload_n 3, 1) := by decide +kernel
theorem dL_law_887 : decode cL_law 887 = .ok (.iconst 1, 1) := by decide +kernel
theorem dL_law_888 : decode cL_law 888 = .ok (.iadd, 1) := by decide +kernel
theorem dL_law_889 : decode cL_law 889 = .ok (.iaload, 1) := by decide +kernel
theorem dL_law_890 : decode cL_law 890 = .ok (.invokevirtual 117, 3) := by decide +kernel
theorem dL_law_893 : decode cL_law 893 = .ok (.aload_n 2, 1) := by decide +kernel
theorem dL_law_894 : decode cL_law 894 = .ok (.aload_n 0, 1) := by decide +kernel
theorem dL_law_895 : decode cL_law 895 = .ok (.iload_n 3, 1) := by decide +kernel
theorem dL_law_896 : decode cL_law 896 = .ok (.iconst 1, 1) := by decide +kernel
theorem dL_law_897 : decode cL_law 897 = .ok (.iadd, 1) := by decide +kernel
theorem dL_law_898 : decode cL_law 898 = .ok (.iaload, 1) := by decide +kernel
theorem dL_law_899 : decode cL_law 899 = .ok (.invokevirtual 120, 3) := by decide +kernel
theorem dL_law_902 : decode cL_law 902 = .ok (.if_icmp .eq 19, 3) := by decide +kernel
theorem dL_law_905 : decode cL_law 905 = .ok (.iconst 0, 1) := by decide +kernel
theorem dL_law_906 : decode cL_law 906 = .ok (.ireturn, 1) := by decide +kernel
theorem dL_law_907 : decode cL_law 907 = .ok (.aload_n 1, 1) := by decide +kernel
theorem dL_law_908 : decode cL_law 908 = .ok (.invokevirtual 121, 3) := by decide +kernel
theorem dL_law_911 : decode cL_law 911 = .ok (.aload_n 2, 1) := by decide +kernel
theorem dL_law_912 : decode cL_law 912 = .ok (.invokevirtual 125, 3) := by decide +kernel
theorem dL_law_915 : decode cL_law 915 = .ok (.lcmp, 1) := by decide +kernel
theorem dL_law_916 : decode cL_law 916 = .ok (.ifCond .eq 5, 3) := by decide +kernel
theorem dL_law_919 : decode cL_law 919 = .ok (.iconst 0, 1) := by decide +kernel
theorem dL_law_920 : decode cL_law 920 = .ok (.ireturn, 1) := by decide +kernel
theorem dL_law_921 : decode cL_law 921 = .ok (.iinc 3 5, 3) := by decide +kernel
theorem dL_law_924 : decode cL_law 924 = .ok (.goto (-906), 3) := by decide +kernel
theorem dL_law_927 : decode cL_law 927 = .ok (.iconst 1, 1) := by decide +kernel
theorem dL_law_928 : decode cL_law 928 = .ok (.ireturn, 1) := by decide +kernel
