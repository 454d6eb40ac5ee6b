theorem dX10_init_0 : decode cX10_init 0 = .ok (.aload_n 0, 1) := by decide +kernel
theorem dX10_init_1 : decode cX10_init 1 = .ok (.invokespecial 1, 3) := by decide +kernel
theorem dX10_init_4 : decode cX10_init 4 = .ok (.aload_n 0, 1) := by decide +kernel
theorem dX10_init_5 : decode cX10_init 5 = .ok (.new 7, 3) := by decide +kernel
theorem dX10_init_8 : decode cX10_init 8 = .ok (.dup, 1) := by decide +kernel
theorem dX10_init_9 : decode cX10_init 9 = .ok (.invokespecial 9, 3) := by decide +kernel
theorem dX10_init_12 : decode cX10_init 12 = .ok (.putfield 10, 3) := by decide +kernel
theorem dX10_init_15 : decode cX10_init 15 = .ok (.aload_n 0, 1) := by decide +kernel
theorem dX10_init_16 : decode cX10_init 16 = .ok (.new 16, 3) := by decide +kernel
theorem dX10_init_19 : decode cX10_init 19 = .ok (.dup, 1) := by decide +kernel
theorem dX10_init_20 : decode cX10_init 20 = .ok (.invokespecial 18, 3) := by decide +kernel
theorem dX10_init_23 : decode cX10_init 23 = .ok (.putfield 19, 3) := by decide +kernel
theorem dX10_init_26 : decode cX10_init 26 = .ok (.aload_n 0, 1) := by decide +kernel
theorem dX10_init_27 : decode cX10_init 27 = .ok (.new 23, 3) := by decide +kernel
theorem dX10_init_30 : decode cX10_init 30 = .ok (.dup, 1) := by decide +kernel
theorem dX10_init_31 : decode cX10_init 31 = .ok (.invokespecial 25, 3) := by decide +kernel
theorem dX10_init_34 : decode cX10_init 34 = .ok (.putfield 26, 3) := by decide +kernel
theorem dX10_init_37 : decode cX10_init 37 = .ok (.aload_n 0, 1) := by decide +kernel
theorem dX10_init_38 : decode cX10_init 38 = .ok (.new 30, 3) := by decide +kernel
theorem dX10_init_41 : decode cX10_init 41 = .ok (.dup, 1) := by decide +kernel
theorem dX10_init_42 : decode cX10_init 42 = .ok (.invokespecial 32, 3) := by decide +kernel
theorem dX10_init_45 : decode cX10_init 45 = .ok (.putfield 33, 3) := by decide +kernel
theorem dX10_init_48 : decode cX10_init 48 = .ok (.aload_n 0, 1) := by decide +kernel
theorem dX10_init_49 : decode cX10_init 49 = .ok (.new 37, 3) := by decide +kernel
theorem dX10_init_52 : decode cX10_init 52 = .ok (.dup, 1) := by decide +kernel
theorem dX10_init_53 : decode cX10_init 53 = .ok (.aload_n 0, 1) := by decide +kernel
theorem dX10_init_54 : decode cX10_init 54 = .ok (.getfield 26, 3) := by decide +kernel
theorem dX10_init_57 : decode cX10_init 57 = .ok (.aload_n 0, 1) := by decide +kernel
theorem dX10_init_58 : decode cX10_init 58 = .ok (.getfield 33, 3) := by decide +kernel
theorem dX10_init_61 : decode cX10_init 61 = .ok (.invokespecial 39, 3) := by decide +kernel
theorem dX10_init_64 : decode cX10_init 64 = .ok (.putfield 42, 3) := by decide +kernel
theorem dX10_init_67 : decode cX10_init 67 = .ok (.aload_n 0, 1) := by decide +kernel
theorem dX10_init_68 : decode cX10_init 68 = .ok (.new 46, 3) := by decide +kernel
theorem dX10_init_71 : decode cX10_init 71 = .ok (.dup, 1) := by decide +kernel
theorem dX10_init_72 : decode cX10_init 72 = .ok (.aload_n 0, 1) := by decide +kernel
theorem dX10_init_73 : decode cX10_init 73 = .ok (.getfield 10, 3) := by decide +kernel
theorem dX10_init_76 : decode cX10_init 76 = .ok (.aload_n 0, 1) := by decide +kernel
theorem dX10_init_77 : decode cX10_init 77 = .ok (.getfield 26, 3) := by decide +kernel
theorem dX10_init_80 : decode cX10_init 80 = .ok (.aload_n 0, 1) := by decide +kernel
theorem dX10_init_81 : decode cX10_init 81 = .ok (.getfield 42, 3) := by decide +kernel
theorem dX10_init_84 : decode cX10_init 84 = .ok (.invokespecial 48, 3) := by decide +kernel
theorem dX10_init_87 : decode cX10_init 87 = .ok (.putfield 51, 3) := by decide +kernel
theorem dX10_init_90 : decode cX10_init 90 = .ok (.aload_n 0, 1) := by decide +kernel
theorem dX10_init_91 : decode cX10_init 91 = .ok (.new 55, 3) := by decide +kernel
theorem dX10_init_94 : decode cX10_init 94 = .ok (.dup, 1) := by decide +kernel
theorem dX10_init_95 : decode cX10_init 95 = .ok (.aload_n 0, 1) := by decide +kernel
theorem dX10_init_96 : decode cX10_init 96 = .ok (.getfield 26, 3) := by decide +kernel
theorem dX10_init_99 : decode cX10_init 99 = .ok (.aload_n 0, 1) := by decide +kernel
theorem dX10_init_100 : decode cX10_init 100 = .ok (.getfield 33, 3) := by decide +kernel
theorem dX10_init_103 : decode cX10_init 103 = .ok (.aload_n 0, 1) := by decide +kernel
theorem dX10_init_104 : decode cX10_init 104 = .ok (.getfield 42, 3) := by decide +kernel
theorem dX10_init_107 : decode cX10_init 107 = .ok (.invokespecial 57, 3) := by decide +kernel
theorem dX10_init_110 : decode cX10_init 110 = .ok (.putfield 60, 3) := by decide +kernel
theorem dX10_init_113 : decode cX10_init 113 = .ok (.aload_n 0, 1) := by decide +kernel
theorem dX10_init_114 : decode cX10_init 114 = .ok (.new 64, 3) := by decide +kernel
theorem dX10_init_117 : decode cX10_init 117 = .ok (.dup, 1) := by decide +kernel
theorem dX10_init_118 : decode cX10_init 118 = .ok (.aload_n 0, 1) := by decide +kernel
theorem dX10_init_119 : decode cX10_init 119 = .ok (.getfield 26, 3) := by decide +kernel
theorem dX10_init_122 : decode cX10_init 122 = .ok (.aload_n 0, 1) := by decide +kernel
theorem dX10_init_123 : decode cX10_init 123 = .ok (.getfield 33, 3) := by decide +kernel
theorem dX10_init_126 : decode cX10_init 126 = .ok (.aload_n 0, 1) := by decide +kernel
theorem dX10_init_127 : decode cX10_init 127 = .ok (.getfield 42, 3) := by decide +kernel
theorem dX10_init_130 : decode cX10_init 130 = .ok (.invokespecial 66, 3) := by decide +kernel
theorem dX10_init_133 : decode cX10_init 133 = .ok (.putfield 67, 3) := by decide +kernel
theorem dX10_init_136 : decode cX10_init 136 = .ok (.aload_n 0, 1) := by decide +kernel
theorem dX10_init_137 : decode cX10_init 137 = .ok (.new 71, 3) := by decide +kernel
theorem dX10_init_140 : decode cX10_init 140 = .ok (.dup, 1) := by decide +kernel
theorem dX10_init_141 : decode cX10_init 141 = .ok (.aload_n 0, 1) := by decide +kernel
theorem dX10_init_142 : decode cX10_init 142 = .ok (.getfield 26, 3) := by decide +kernel
theorem dX10_init_145 : decode cX10_init 145 = .ok (.aload_n 0, 1) := by decide +kernel
theorem dX10_init_146 : decode cX10_init 146 = .ok (.getfield 33, 3) := by decide +kernel
theorem dX10_init_149 : decode cX10_init 149 = .ok (.aload_n 0, 1) := by decide +kernel
theorem dX10_init_150 : decode cX10_init 150 = .ok (.getfield 42, 3) := by decide +kernel
theorem dX10_init_153 : decode cX10_init 153 = .ok (.invokespecial 73, 3) := by decide +kernel
theorem dX10_init_156 : decode cX10_init 156 = .ok (.putfield 74, 3) := by decide +kernel
theorem dX10_init_159 : decode cX10_init 159 = .ok (.aload_n 0, 1) := by decide +kernel
theorem dX10_init_160 : decode cX10_init 160 = .ok (.new 78, 3) := by decide +kernel
theorem dX10_init_163 : decode cX10_init 163 = .ok (.dup, 1) := by decide +kernel
theorem dX10_init_164 : decode cX10_init 164 = .ok (.aload_n 0, 1) := by decide +kernel
theorem dX10_init_165 : decode cX10_init 165 = .ok (.getfield 26, 3) := by decide +kernel
theorem dX10_init_168 : decode cX10_init 168 = .ok (.aload_n 0, 1) := by decide +kernel
theorem dX10_init_169 : decode cX10_init 169 = .ok (.getfield 33, 3) := by decide +kernel
theorem dX10_init_172 : decode cX10_init 172 = .ok (.invokespecial 80, 3) := by decide +kernel
theorem dX10_init_175 : decode cX10_init 175 = .ok (.putfield 81, 3) := by decide +kernel
theorem dX10_init_178 : decode cX10_init 178 = .ok (.return_, 1) := by decide +kernel
theorem dX10_letters_0 : decode cX10_letters 0 = .ok (.aload_n 0, 1) := by decide +kernel
theorem dX10_letters_1 : decode cX10_letters 1 = .ok (.getfield 10, 3) := by decide +kernel
theorem dX10_letters_4 : decode cX10_letters 4 = .ok (.lload_n 1, 1) := by decide +kernel
theorem dX10_letters_5 : decode cX10_letters 5 = .ok (.invokevirtual 85, 3) := by decide +kernel
theorem dX10_letters_8 : decode cX10_letters 8 = .ok (.ireturn, 1) := by decide +kernel
theorem dX10_fault_0 : decode cX10_fault 0 = .ok (.iload_n 1, 1) := by decide +kernel
theorem dX10_fault_1 : decode cX10_fault 1 = .ok (.ifCond .ne 15, 3) := by decide +kernel
theorem dX10_fault_4 : decode cX10_fault 4 = .ok (.aload_n 0, 1) := by decide +kernel
theorem dX10_fault_5 : decode cX10_fault 5 = .ok (.getfield 19, 3) := by decide +kernel
theorem dX10_fault_8 : decode cX10_fault 8 = .ok (.aload_n 0, 1) := by decide +kernel
theorem dX10_fault_9 : decode cX10_fault 9 = .ok (.getfield 10, 3) := by decide +kernel
theorem dX10_fault_12 : decode cX10_fault 12 = .ok (.invokevirtual 96, 3) := by decide +kernel
theorem dX10_fault_15 : decode cX10_fault 15 = .ok (.ireturn, 1) := by decide +kernel
theorem dX10_fault_16 : decode cX10_fault 16 = .ok (.iload_n 1, 1) := by decide +kernel
theorem dX10_fault_17 : decode cX10_fault 17 = .ok (.iconst 1, 1) := by decide +kernel
theorem dX10_fault_18 : decode cX10_fault 18 = .ok (.if_icmp .ne 13, 3) := by decide +kernel
theorem dX10_fault_21 : decode cX10_fault 21 = .ok (.aload_n 0, 1) := by decide +kernel
theorem dX10_fault_22 : decode cX10_fault 22 = .ok (.getfield 10, 3) := by decide +kernel
theorem dX10_fault_25 : decode cX10_fault 25 = .ok (.invokevirtual 100, 3) := by decide +kernel
theorem dX10_fault_28 : decode cX10_fault 28 = .ok (.goto 5, 3) := by decide +kernel
theorem dX10_fault_31 : decode cX10_fault 31 = .ok (.bipush (-102), 2) := by decide +kernel
theorem dX10_fault_33 : decode cX10_fault 33 = .ok (.ireturn, 1) := by decide +kernel
theorem dX10_plan_0 : decode cX10_plan 0 = .ok (.aload_n 0, 1) := by decide +kernel
theorem dX10_plan_1 : decode cX10_plan 1 = .ok (.getfield 19, 3) := by decide +kernel
theorem dX10_plan_4 : decode cX10_plan 4 = .ok (.aload_n 0, 1) := by decide +kernel
theorem dX10_plan_5 : decode cX10_plan 5 = .ok (.getfield 10, 3) := by decide +kernel
theorem dX10_plan_8 : decode cX10_plan 8 = .ok (.invokevirtual 103, 3) := by decide +kernel
theorem dX10_plan_11 : decode cX10_plan 11 = .ok (.ifCond .ne 6, 3) := by decide +kernel
theorem dX10_plan_14 : decode cX10_plan 14 = .ok (.bipush (-103), 2) := by decide +kernel
theorem dX10_plan_16 : decode cX10_plan 16 = .ok (.ireturn, 1) := by decide +kernel
theorem dX10_plan_17 : decode cX10_plan 17 = .ok (.aload_n 0, 1) := by decide +kernel
theorem dX10_plan_18 : decode cX10_plan 18 = .ok (.getfield 26, 3) := by decide +kernel
theorem dX10_plan_21 : decode cX10_plan 21 = .ok (.aload_n 0, 1) := by decide +kernel
theorem dX10_plan_22 : decode cX10_plan 22 = .ok (.getfield 10, 3) := by decide +kernel
theorem dX10_plan_25 : decode cX10_plan 25 = .ok (.aload_n 0, 1) := by decide +kernel
theorem dX10_plan_26 : decode cX10_plan 26 = .ok (.getfield 19, 3) := by decide +kernel
theorem dX10_plan_29 : decode cX10_plan 29 = .ok (.invokevirtual 107, 3) := by decide +kernel
theorem dX10_plan_32 : decode cX10_plan 32 = .ok (.aload_n 0, 1) := by decide +kernel
theorem dX10_plan_33 : decode cX10_plan 33 = .ok (.getfield 19, 3) := by decide +kernel
theorem dX10_plan_36 : decode cX10_plan 36 = .ok (.invokevirtual 110, 3) := by decide +kernel
theorem dX10_plan_39 : decode cX10_plan 39 = .ok (.invokevirtual 113, 3) := by decide +kernel
theorem dX10_plan_42 : decode cX10_plan 42 = .ok (.aload_n 0, 1) := by decide +kernel
theorem dX10_plan_43 : decode cX10_plan 43 = .ok (.getfield 33, 3) := by decide +kernel
theorem dX10_plan_46 : decode cX10_plan 46 = .ok (.invokevirtual 117, 3) := by decide +kernel
theorem dX10_plan_49 : decode cX10_plan 49 = .ok (.aload_n 0, 1) := by decide +kernel
theorem dX10_plan_50 : decode cX10_plan 50 = .ok (.getfield 10, 3) := by decide +kernel
theorem dX10_plan_53 : decode cX10_plan 53 = .ok (.invokevirtual 93, 3) := by decide +kernel
theorem dX10_plan_56 : decode cX10_plan 56 = .ok (.aload_n 0, 1) := by decide +kernel
theorem dX10_plan_57 : decode cX10_plan 57 = .ok (.dup, 1) := by decide +kernel
theorem dX10_plan_58 : decode cX10_plan 58 = .ok (.getfield 118, 3) := by decide +kernel
theorem dX10_plan_61 : decode cX10_plan 61 = .ok (.iconst 1, 1) := by decide +kernel
theorem dX10_plan_62 : decode cX10_plan 62 = .ok (.iadd, 1) := by decide +kernel
theorem dX10_plan_63 : decode cX10_plan 63 = .ok (.putfield 118, 3) := by decide +kernel
theorem dX10_plan_66 : decode cX10_plan 66 = .ok (.aload_n 0, 1) := by decide +kernel
theorem dX10_plan_67 : decode cX10_plan 67 = .ok (.getfield 26, 3) := by decide +kernel
theorem dX10_plan_70 : decode cX10_plan 70 = .ok (.invokevirtual 122, 3) := by decide +kernel
theorem dX10_plan_73 : decode cX10_plan 73 = .ok (.ireturn, 1) := by decide +kernel
theorem dX10_thing_0 : decode cX10_thing 0 = .ok (.iload_n 1, 1) := by decide +kernel
theorem dX10_thing_1 : decode cX10_thing 1 = .ok (.invokestatic 141, 3) := by decide +kernel
theorem dX10_thing_4 : decode cX10_thing 4 = .ok (.ifCond .eq 10, 3) := by decide +kernel
theorem dX10_thing_7 : decode cX10_thing 7 = .ok (.iload_n 2, 1) := by decide +kernel
theorem dX10_thing_8 : decode cX10_thing 8 = .ok (.invokestatic 144, 3) := by decide +kernel
theorem dX10_thing_11 : decode cX10_thing 11 = .ok (.ifCond .ne 6, 3) := by decide +kernel
theorem dX10_thing_14 : decode cX10_thing 14 = .ok (.bipush (-102), 2) := by decide +kernel
theorem dX10_thing_16 : decode cX10_thing 16 = .ok (.ireturn, 1) := by decide +kernel
theorem dX10_thing_17 : decode cX10_thing 17 = .ok (.aload_n 0, 1) := by decide +kernel
theorem dX10_thing_18 : decode cX10_thing 18 = .ok (.getfield 26, 3) := by decide +kernel
theorem dX10_thing_21 : decode cX10_thing 21 = .ok (.iload_n 3, 1) := by decide +kernel
theorem dX10_thing_22 : decode cX10_thing 22 = .ok (.invokevirtual 125, 3) := by decide +kernel
theorem dX10_thing_25 : decode cX10_thing 25 = .ok (.ifCond .ne 6, 3) := by decide +kernel
theorem dX10_thing_28 : decode cX10_thing 28 = .ok (.bipush (-101), 2) := by decide +kernel
theorem dX10_thing_30 : decode cX10_thing 30 = .ok (.ireturn, 1) := by decide +kernel
theorem dX10_thing_31 : decode cX10_thing 31 = .ok (.aload_n 0, 1) := by decide +kernel
theorem dX10_thing_32 : decode cX10_thing 32 = .ok (.getfield 33, 3) := by decide +kernel
theorem dX10_thing_35 : decode cX10_thing 35 = .ok (.iload_n 1, 1) := by decide +kernel
theorem dX10_thing_36 : decode cX10_thing 36 = .ok (.iload_n 2, 1) := by decide +kernel
theorem dX10_thing_37 : decode cX10_thing 37 = .ok (.iload_n 3, 1) := by decide +kernel
theorem dX10_thing_38 : decode cX10_thing 38 = .ok (.invokevirtual 147, 3) := by decide +kernel
theorem dX10_thing_41 : decode cX10_thing 41 = .ok (.ireturn, 1) := by decide +kernel
theorem dX10_about_0 : decode cX10_about 0 = .ok (.aload_n 0, 1) := by decide +kernel
theorem dX10_about_1 : decode cX10_about 1 = .ok (.getfield 33, 3) := by decide +kernel
theorem dX10_about_4 : decode cX10_about 4 = .ok (.iload_n 1, 1) := by decide +kernel
theorem dX10_about_5 : decode cX10_about 5 = .ok (.invokevirtual 150, 3) := by decide +kernel
theorem dX10_about_8 : decode cX10_about 8 = .ok (.ifCond .ne 6, 3) := by decide +kernel
theorem dX10_about_11 : decode cX10_about 11 = .ok (.bipush (-101), 2) := by decide +kernel
theorem dX10_about_13 : decode cX10_about 13 = .ok (.ireturn, 1) := by decide +kernel
theorem dX10_about_14 : decode cX10_about 14 = .ok (.iload_n 2, 1) := by decide +kernel
theorem dX10_about_15 : decode cX10_about 15 = .ok (.invokestatic 151, 3) := by decide +kernel
theorem dX10_about_18 : decode cX10_about 18 = .ok (.ifCond .eq 16, 3) := by decide +kernel
theorem dX10_about_21 : decode cX10_about 21 = .ok (.aload_n 0, 1) := by decide +kernel
theorem dX10_about_22 : decode cX10_about 22 = .ok (.getfield 33, 3) := by decide +kernel
theorem dX10_about_25 : decode cX10_about 25 = .ok (.iload_n 1, 1) := by decide +kernel
theorem dX10_about_26 : decode cX10_about 26 = .ok (.iload_n 2, 1) := by decide +kernel
theorem dX10_about_27 : decode cX10_about 27 = .ok (.bipush 10, 2) := by decide +kernel
theorem dX10_about_29 : decode cX10_about 29 = .ok (.isub, 1) := by decide +kernel
theorem dX10_about_30 : decode cX10_about 30 = .ok (.invokevirtual 154, 3) := by decide +kernel
theorem dX10_about_33 : decode cX10_about 33 = .ok (.ireturn, 1) := by decide +kernel
theorem dX10_about_34 : decode cX10_about 34 = .ok (.iload_n 2, 1) := by decide +kernel
theorem dX10_about_35 : decode cX10_about 35 = .ok (.tableswitch 52 0 2 #[25, 34, 43], 25) := by decide +kernel
theorem dX10_about_60 : decode cX10_about 60 = .ok (.aload_n 0, 1) := by decide +kernel
theorem dX10_about_61 : decode cX10_about 61 = .ok (.getfield 33, 3) := by decide +kernel
theorem dX10_about_64 : decode cX10_about 64 = .ok (.iload_n 1, 1) := by decide +kernel
theorem dX10_about_65 : decode cX10_about 65 = .ok (.invokevirtual 158, 3) := by decide +kernel
theorem dX10_about_68 : decode cX10_about 68 = .ok (.ireturn, 1) := by decide +kernel
theorem dX10_about_69 : decode cX10_about 69 = .ok (.aload_n 0, 1) := by decide +kernel
theorem dX10_about_70 : decode cX10_about 70 = .ok (.getfield 33, 3) := by decide +kernel
theorem dX10_about_73 : decode cX10_about 73 = .ok (.iload_n 1, 1) := by decide +kernel
theorem dX10_about_74 : decode cX10_about 74 = .ok (.invokevirtual 161, 3) := by decide +kernel
theorem dX10_about_77 : decode cX10_about 77 = .ok (.ireturn, 1) := by decide +kernel
theorem dX10_about_78 : decode cX10_about 78 = .ok (.aload_n 0, 1) := by decide +kernel
theorem dX10_about_79 : decode cX10_about 79 = .ok (.getfield 33, 3) := by decide +kernel
theorem dX10_about_82 : decode cX10_about 82 = .ok (.iload_n 1, 1) := by decide +kernel
theorem dX10_about_83 : decode cX10_about 83 = .ok (.invokevirtual 164, 3) := by decide +kernel
theorem dX10_about_86 : decode cX10_about 86 = .ok (.ireturn, 1) := by decide +kernel
theorem dX10_about_87 : decode cX10_about 87 = .ok (.bipush (-102), 2) := by decide +kernel
theorem dX10_about_89 : decode cX10_about 89 = .ok (.ireturn, 1) := by decide +kernel
theorem dX10_as_0 : decode cX10_as 0 = .ok (.aload_n 0, 1) := by decide +kernel
theorem dX10_as_1 : decode cX10_as 1 = .ok (.getfield 33, 3) := by decide +kernel
theorem dX10_as_4 : decode cX10_as 4 = .ok (.iload_n 1, 1) := by decide +kernel
theorem dX10_as_5 : decode cX10_as 5 = .ok (.invokevirtual 150, 3) := by decide +kernel
theorem dX10_as_8 : decode cX10_as 8 = .ok (.ifCond .ne 6, 3) := by decide +kernel
theorem dX10_as_11 : decode cX10_as 11 = .ok (.bipush (-101), 2) := by decide +kernel
theorem dX10_as_13 : decode cX10_as 13 = .ok (.ireturn, 1) := by decide +kernel
theorem dX10_as_14 : decode cX10_as 14 = .ok (.iload_n 2, 1) := by decide +kernel
theorem dX10_as_15 : decode cX10_as 15 = .ok (.invokestatic 141, 3) := by decide +kernel
theorem dX10_as_18 : decode cX10_as 18 = .ok (.ifCond .ne 6, 3) := by decide +kernel
theorem dX10_as_21 : decode cX10_as 21 = .ok (.bipush (-102), 2) := by decide +kernel
theorem dX10_as_23 : decode cX10_as 23 = .ok (.ireturn, 1) := by decide +kernel
theorem dX10_as_24 : decode cX10_as 24 = .ok (.aload_n 0, 1) := by decide +kernel
theorem dX10_as_25 : decode cX10_as 25 = .ok (.getfield 33, 3) := by decide +kernel
theorem dX10_as_28 : decode cX10_as 28 = .ok (.iload_n 1, 1) := by decide +kernel
theorem dX10_as_29 : decode cX10_as 29 = .ok (.iload_n 2, 1) := by decide +kernel
theorem dX10_as_30 : decode cX10_as 30 = .ok (.invokevirtual 167, 3) := by decide +kernel
theorem dX10_as_33 : decode cX10_as 33 = .ok (.ifCond .eq 7, 3) := by decide +kernel
theorem dX10_as_36 : decode cX10_as 36 = .ok (.iload_n 1, 1) := by decide +kernel
theorem dX10_as_37 : decode cX10_as 37 = .ok (.goto 4, 3) := by decide +kernel
theorem dX10_as_40 : decode cX10_as 40 = .ok (.iconst (-1), 1) := by decide +kernel
theorem dX10_as_41 : decode cX10_as 41 = .ok (.ireturn, 1) := by decide +kernel
theorem dX10_stand_0 : decode cX10_stand 0 = .ok (.aload_n 0, 1) := by decide +kernel
theorem dX10_stand_1 : decode cX10_stand 1 = .ok (.getfield 33, 3) := by decide +kernel
theorem dX10_stand_4 : decode cX10_stand 4 = .ok (.iload_n 1, 1) := by decide +kernel
theorem dX10_stand_5 : decode cX10_stand 5 = .ok (.invokevirtual 150, 3) := by decide +kernel
theorem dX10_stand_8 : decode cX10_stand 8 = .ok (.ifCond .eq 21, 3) := by decide +kernel
theorem dX10_stand_11 : decode cX10_stand 11 = .ok (.iload_n 2, 1) := by decide +kernel
theorem dX10_stand_12 : decode cX10_stand 12 = .ok (.invokestatic 171, 3) := by decide +kernel
theorem dX10_stand_15 : decode cX10_stand 15 = .ok (.ifCond .eq 14, 3) := by decide +kernel
theorem dX10_stand_18 : decode cX10_stand 18 = .ok (.aload_n 0, 1) := by decide +kernel
theorem dX10_stand_19 : decode cX10_stand 19 = .ok (.getfield 26, 3) := by decide +kernel
theorem dX10_stand_22 : decode cX10_stand 22 = .ok (.iload_n 3, 1) := by decide +kernel
theorem dX10_stand_23 : decode cX10_stand 23 = .ok (.invokevirtual 125, 3) := by decide +kernel
theorem dX10_stand_26 : decode cX10_stand 26 = .ok (.ifCond .ne 6, 3) := by decide +kernel
theorem dX10_stand_29 : decode cX10_stand 29 = .ok (.bipush (-101), 2) := by decide +kernel
theorem dX10_stand_31 : decode cX10_stand 31 = .ok (.ireturn, 1) := by decide +kernel
theorem dX10_stand_32 : decode cX10_stand 32 = .ok (.aload_n 0, 1) := by decide +kernel
theorem dX10_stand_33 : decode cX10_stand 33 = .ok (.getfield 33, 3) := by decide +kernel
theorem dX10_stand_36 : decode cX10_stand 36 = .ok (.iload_n 1, 1) := by decide +kernel
theorem dX10_stand_37 : decode cX10_stand 37 = .ok (.iconst 3, 1) := by decide +kernel
theorem dX10_stand_38 : decode cX10_stand 38 = .ok (.invokevirtual 167, 3) := by decide +kernel
theorem dX10_stand_41 : decode cX10_stand 41 = .ok (.ifCond .ne 6, 3) := by decide +kernel
theorem dX10_stand_44 : decode cX10_stand 44 = .ok (.bipush (-103), 2) := by decide +kernel
theorem dX10_stand_46 : decode cX10_stand 46 = .ok (.ireturn, 1) := by decide +kernel
theorem dX10_stand_47 : decode cX10_stand 47 = .ok (.aload_n 0, 1) := by decide +kernel
theorem dX10_stand_48 : decode cX10_stand 48 = .ok (.getfield 33, 3) := by decide +kernel
theorem dX10_stand_51 : decode cX10_stand 51 = .ok (.iload_n 1, 1) := by decide +kernel
theorem dX10_stand_52 : decode cX10_stand 52 = .ok (.iload_n 2, 1) := by decide +kernel
theorem dX10_stand_53 : decode cX10_stand 53 = .ok (.invokevirtual 154, 3) := by decide +kernel
theorem dX10_stand_56 : decode cX10_stand 56 = .ok (.istore 4, 2) := by decide +kernel
theorem dX10_stand_58 : decode cX10_stand 58 = .ok (.aload_n 0, 1) := by decide +kernel
theorem dX10_stand_59 : decode cX10_stand 59 = .ok (.getfield 33, 3) := by decide +kernel
theorem dX10_stand_62 : decode cX10_stand 62 = .ok (.iload_n 1, 1) := by decide +kernel
theorem dX10_stand_63 : decode cX10_stand 63 = .ok (.iload_n 2, 1) := by decide +kernel
theorem dX10_stand_64 : decode cX10_stand 64 = .ok (.iload_n 3, 1) := by decide +kernel
theorem dX10_stand_65 : decode cX10_stand 65 = .ok (.invokevirtual 174, 3) := by decide +kernel
theorem dX10_stand_68 : decode cX10_stand 68 = .ok (.iload 4, 2) := by decide +kernel
theorem dX10_stand_70 : decode cX10_stand 70 = .ok (.ireturn, 1) := by decide +kernel
theorem dX10_put_0 : decode cX10_put 0 = .ok (.aload_n 0, 1) := by decide +kernel
theorem dX10_put_1 : decode cX10_put 1 = .ok (.getfield 33, 3) := by decide +kernel
theorem dX10_put_4 : decode cX10_put 4 = .ok (.iload_n 1, 1) := by decide +kernel
theorem dX10_put_5 : decode cX10_put 5 = .ok (.invokevirtual 150, 3) := by decide +kernel
theorem dX10_put_8 : decode cX10_put 8 = .ok (.ifCond .eq 14, 3) := by decide +kernel
theorem dX10_put_11 : decode cX10_put 11 = .ok (.aload_n 0, 1) := by decide +kernel
theorem dX10_put_12 : decode cX10_put 12 = .ok (.getfield 26, 3) := by decide +kernel
theorem dX10_put_15 : decode cX10_put 15 = .ok (.iload_n 2, 1) := by decide +kernel
theorem dX10_put_16 : decode cX10_put 16 = .ok (.invokevirtual 125, 3) := by decide +kernel
theorem dX10_put_19 : decode cX10_put 19 = .ok (.ifCond .ne 6, 3) := by decide +kernel
theorem dX10_put_22 : decode cX10_put 22 = .ok (.bipush (-101), 2) := by decide +kernel
theorem dX10_put_24 : decode cX10_put 24 = .ok (.ireturn, 1) := by decide +kernel
theorem dX10_put_25 : decode cX10_put 25 = .ok (.aload_n 0, 1) := by decide +kernel
theorem dX10_put_26 : decode cX10_put 26 = .ok (.getfield 33, 3) := by decide +kernel
theorem dX10_put_29 : decode cX10_put 29 = .ok (.iload_n 1, 1) := by decide +kernel
theorem dX10_put_30 : decode cX10_put 30 = .ok (.iconst 3, 1) := by decide +kernel
theorem dX10_put_31 : decode cX10_put 31 = .ok (.invokevirtual 167, 3) := by decide +kernel
theorem dX10_put_34 : decode cX10_put 34 = .ok (.ifCond .eq 6, 3) := by decide +kernel
theorem dX10_put_37 : decode cX10_put 37 = .ok (.bipush (-103), 2) := by decide +kernel
theorem dX10_put_39 : decode cX10_put 39 = .ok (.ireturn, 1) := by decide +kernel
theorem dX10_put_40 : decode cX10_put 40 = .ok (.aload_n 0, 1) := by decide +kernel
theorem dX10_put_41 : decode cX10_put 41 = .ok (.getfield 33, 3) := by decide +kernel
theorem dX10_put_44 : decode cX10_put 44 = .ok (.iload_n 1, 1) := by decide +kernel
theorem dX10_put_45 : decode cX10_put 45 = .ok (.iconst 0, 1) := by decide +kernel
theorem dX10_put_46 : decode cX10_put 46 = .ok (.invokevirtual 154, 3) := by decide +kernel
theorem dX10_put_49 : decode cX10_put 49 = .ok (.istore_n 3, 1) := by decide +kernel
theorem dX10_put_50 : decode cX10_put 50 = .ok (.aload_n 0, 1) := by decide +kernel
theorem dX10_put_51 : decode cX10_put 51 = .ok (.getfield 33, 3) := by decide +kernel
theorem dX10_put_54 : decode cX10_put 54 = .ok (.iload_n 1, 1) := by decide +kernel
theorem dX10_put_55 : decode cX10_put 55 = .ok (.iload_n 2, 1) := by decide +kernel
theorem dX10_put_56 : decode cX10_put 56 = .ok (.invokevirtual 178, 3) := by decide +kernel
theorem dX10_put_59 : decode cX10_put 59 = .ok (.iload_n 3, 1) := by decide +kernel
theorem dX10_put_60 : decode cX10_put 60 = .ok (.ireturn, 1) := by decide +kernel
theorem dX10_trade_0 : decode cX10_trade 0 = .ok (.aload_n 0, 1) := by decide +kernel
theorem dX10_trade_1 : decode cX10_trade 1 = .ok (.getfield 33, 3) := by decide +kernel
theorem dX10_trade_4 : decode cX10_trade 4 = .ok (.iload_n 1, 1) := by decide +kernel
theorem dX10_trade_5 : decode cX10_trade 5 = .ok (.invokevirtual 150, 3) := by decide +kernel
theorem dX10_trade_8 : decode cX10_trade 8 = .ok (.ifCond .eq 21, 3) := by decide +kernel
theorem dX10_trade_11 : decode cX10_trade 11 = .ok (.aload_n 0, 1) := by decide +kernel
theorem dX10_trade_12 : decode cX10_trade 12 = .ok (.getfield 33, 3) := by decide +kernel
theorem dX10_trade_15 : decode cX10_trade 15 = .ok (.iload_n 2, 1) := by decide +kernel
theorem dX10_trade_16 : decode cX10_trade 16 = .ok (.invokevirtual 150, 3) := by decide +kernel
theorem dX10_trade_19 : decode cX10_trade 19 = .ok (.ifCond .eq 10, 3) := by decide +kernel
theorem dX10_trade_22 : decode cX10_trade 22 = .ok (.iload_n 3, 1) := by decide +kernel
theorem dX10_trade_23 : decode cX10_trade 23 = .ok (.invokestatic 171, 3) := by decide +kernel
theorem dX10_trade_26 : decode cX10_trade 26 = .ok (.ifCond .ne 6, 3) := by decide +kernel
theorem dX10_trade_29 : decode cX10_trade 29 = .ok (.bipush (-101), 2) := by decide +kernel
theorem dX10_trade_31 : decode cX10_trade 31 = .ok (.ireturn, 1) := by decide +kernel
theorem dX10_trade_32 : decode cX10_trade 32 = .ok (.aload_n 0, 1) := by decide +kernel
theorem dX10_trade_33 : decode cX10_trade 33 = .ok (.getfield 33, 3) := by decide +kernel
theorem dX10_trade_36 : decode cX10_trade 36 = .ok (.iload_n 1, 1) := by decide +kernel
theorem dX10_trade_37 : decode cX10_trade 37 = .ok (.iconst 3, 1) := by decide +kernel
theorem dX10_trade_38 : decode cX10_trade 38 = .ok (.invokevirtual 167, 3) := by decide +kernel
theorem dX10_trade_41 : decode cX10_trade 41 = .ok (.ifCond .eq 15, 3) := by decide +kernel
theorem dX10_trade_44 : decode cX10_trade 44 = .ok (.aload_n 0, 1) := by decide +kernel
theorem dX10_trade_45 : decode cX10_trade 45 = .ok (.getfield 33, 3) := by decide +kernel
theorem dX10_trade_48 : decode cX10_trade 48 = .ok (.iload_n 2, 1) := by decide +kernel
theorem dX10_trade_49 : decode cX10_trade 49 = .ok (.iconst 3, 1) := by decide +kernel
theorem dX10_trade_50 : decode cX10_trade 50 = .ok (.invokevirtual 167, 3) := by decide +kernel
theorem dX10_trade_53 : decode cX10_trade 53 = .ok (.ifCond .ne 6, 3) := by decide +kernel
theorem dX10_trade_56 : decode cX10_trade 56 = .ok (.bipush (-103), 2) := by decide +kernel
theorem dX10_trade_58 : decode cX10_trade 58 = .ok (.ireturn, 1) := by decide +kernel
theorem dX10_trade_59 : decode cX10_trade 59 = .ok (.aload_n 0, 1) := by decide +kernel
theorem dX10_trade_60 : decode cX10_trade 60 = .ok (.getfield 33, 3) := by decide +kernel
theorem dX10_trade_63 : decode cX10_trade 63 = .ok (.iload_n 1, 1) := by decide +kernel
theorem dX10_trade_64 : decode cX10_trade 64 = .ok (.iload_n 3, 1) := by decide +kernel
theorem dX10_trade_65 : decode cX10_trade 65 = .ok (.invokevirtual 154, 3) := by decide +kernel
theorem dX10_trade_68 : decode cX10_trade 68 = .ok (.istore 4, 2) := by decide +kernel
theorem dX10_trade_70 : decode cX10_trade 70 = .ok (.aload_n 0, 1) := by decide +kernel
theorem dX10_trade_71 : decode cX10_trade 71 = .ok (.getfield 33, 3) := by decide +kernel
theorem dX10_trade_74 : decode cX10_trade 74 = .ok (.iload_n 2, 1) := by decide +kernel
theorem dX10_trade_75 : decode cX10_trade 75 = .ok (.iload_n 3, 1) := by decide +kernel
theorem dX10_trade_76 : decode cX10_trade 76 = .ok (.invokevirtual 154, 3) := by decide +kernel
theorem dX10_trade_79 : decode cX10_trade 79 = .ok (.istore 5, 2) := by decide +kernel
theorem dX10_trade_81 : decode cX10_trade 81 = .ok (.aload_n 0, 1) := by decide +kernel
theorem dX10_trade_82 : decode cX10_trade 82 = .ok (.getfield 33, 3) := by decide +kernel
theorem dX10_trade_85 : decode cX10_trade 85 = .ok (.iload_n 1, 1) := by decide +kernel
theorem dX10_trade_86 : decode cX10_trade 86 = .ok (.iload_n 3, 1) := by decide +kernel
theorem dX10_trade_87 : decode cX10_trade 87 = .ok (.iload 5, 2) := by decide +kernel
theorem dX10_trade_89 : decode cX10_trade 89 = .ok (.invokevirtual 174, 3) := by decide +kernel
theorem dX10_trade_92 : decode cX10_trade 92 = .ok (.aload_n 0, 1) := by decide +kernel
theorem dX10_trade_93 : decode cX10_trade 93 = .ok (.getfield 33, 3) := by decide +kernel
theorem dX10_trade_96 : decode cX10_trade 96 = .ok (.iload_n 2, 1) := by decide +kernel
theorem dX10_trade_97 : decode cX10_trade 97 = .ok (.iload_n 3, 1) := by decide +kernel
theorem dX10_trade_98 : decode cX10_trade 98 = .ok (.iload 4, 2) := by decide +kernel
theorem dX10_trade_100 : decode cX10_trade 100 = .ok (.invokevirtual 174, 3) := by decide +kernel
theorem dX10_trade_103 : decode cX10_trade 103 = .ok (.iload 4, 2) := by decide +kernel
theorem dX10_trade_105 : decode cX10_trade 105 = .ok (.iload 5, 2) := by decide +kernel
theorem dX10_trade_107 : decode cX10_trade 107 = .ok (.if_icmp .ne 7, 3) := by decide +kernel
theorem dX10_trade_110 : decode cX10_trade 110 = .ok (.iconst 0, 1) := by decide +kernel
theorem dX10_trade_111 : decode cX10_trade 111 = .ok (.goto 4, 3) := by decide +kernel
theorem dX10_trade_114 : decode cX10_trade 114 = .ok (.iconst 1, 1) := by decide +kernel
theorem dX10_trade_115 : decode cX10_trade 115 = .ok (.ireturn, 1) := by decide +kernel
theorem dX10_leans_0 : decode cX10_leans 0 = .ok (.iload_n 1, 1) := by decide +kernel
theorem dX10_leans_1 : decode cX10_leans 1 = .ok (.invokestatic 171, 3) := by decide +kernel
theorem dX10_leans_4 : decode cX10_leans 4 = .ok (.ifCond .ne 6, 3) := by decide +kernel
theorem dX10_leans_7 : decode cX10_leans 7 = .ok (.ldc 129, 2) := by decide +kernel
theorem dX10_leans_9 : decode cX10_leans 9 = .ok (.ireturn, 1) := by decide +kernel
theorem dX10_leans_10 : decode cX10_leans 10 = .ok (.iload_n 2, 1) := by decide +kernel
theorem dX10_leans_11 : decode cX10_leans 11 = .ok (.ifCond .ne 12, 3) := by decide +kernel
theorem dX10_leans_14 : decode cX10_leans 14 = .ok (.aload_n 0, 1) := by decide +kernel
theorem dX10_leans_15 : decode cX10_leans 15 = .ok (.getfield 42, 3) := by decide +kernel
theorem dX10_leans_18 : decode cX10_leans 18 = .ok (.iload_n 1, 1) := by decide +kernel
theorem dX10_leans_19 : decode cX10_leans 19 = .ok (.invokevirtual 182, 3) := by decide +kernel
theorem dX10_leans_22 : decode cX10_leans 22 = .ok (.ireturn, 1) := by decide +kernel
theorem dX10_leans_23 : decode cX10_leans 23 = .ok (.iload_n 2, 1) := by decide +kernel
theorem dX10_leans_24 : decode cX10_leans 24 = .ok (.iconst 1, 1) := by decide +kernel
theorem dX10_leans_25 : decode cX10_leans 25 = .ok (.if_icmp .ne 14, 3) := by decide +kernel
theorem dX10_leans_28 : decode cX10_leans 28 = .ok (.aload_n 0, 1) := by decide +kernel
theorem dX10_leans_29 : decode cX10_leans 29 = .ok (.getfield 42, 3) := by decide +kernel
theorem dX10_leans_32 : decode cX10_leans 32 = .ok (.iload_n 1, 1) := by decide +kernel
theorem dX10_leans_33 : decode cX10_leans 33 = .ok (.invokevirtual 185, 3) := by decide +kernel
theorem dX10_leans_36 : decode cX10_leans 36 = .ok (.goto 5, 3) := by decide +kernel
theorem dX10_leans_39 : decode cX10_leans 39 = .ok (.ldc 140, 2) := by decide +kernel
theorem dX10_leans_41 : decode cX10_leans 41 = .ok (.ireturn, 1) := by decide +kernel
theorem dX10_dip_0 : decode cX10_dip 0 = .ok (.aload_n 0, 1) := by decide +kernel
theorem dX10_dip_1 : decode cX10_dip 1 = .ok (.getfield 26, 3) := by decide +kernel
theorem dX10_dip_4 : decode cX10_dip 4 = .ok (.iload_n 1, 1) := by decide +kernel
theorem dX10_dip_5 : decode cX10_dip 5 = .ok (.invokevirtual 125, 3) := by decide +kernel
theorem dX10_dip_8 : decode cX10_dip 8 = .ok (.ifCond .eq 10, 3) := by decide +kernel
theorem dX10_dip_11 : decode cX10_dip 11 = .ok (.iload_n 2, 1) := by decide +kernel
theorem dX10_dip_12 : decode cX10_dip 12 = .ok (.invokestatic 171, 3) := by decide +kernel
theorem dX10_dip_15 : decode cX10_dip 15 = .ok (.ifCond .ne 6, 3) := by decide +kernel
theorem dX10_dip_18 : decode cX10_dip 18 = .ok (.ldc 188, 2) := by decide +kernel
theorem dX10_dip_20 : decode cX10_dip 20 = .ok (.ireturn, 1) := by decide +kernel
theorem dX10_dip_21 : decode cX10_dip 21 = .ok (.aload_n 0, 1) := by decide +kernel
theorem dX10_dip_22 : decode cX10_dip 22 = .ok (.getfield 26, 3) := by decide +kernel
theorem dX10_dip_25 : decode cX10_dip 25 = .ok (.iload_n 1, 1) := by decide +kernel
theorem dX10_dip_26 : decode cX10_dip 26 = .ok (.aload_n 0, 1) := by decide +kernel
theorem dX10_dip_27 : decode cX10_dip 27 = .ok (.getfield 42, 3) := by decide +kernel
theorem dX10_dip_30 : decode cX10_dip 30 = .ok (.iload_n 2, 1) := by decide +kernel
theorem dX10_dip_31 : decode cX10_dip 31 = .ok (.invokevirtual 182, 3) := by decide +kernel
theorem dX10_dip_34 : decode cX10_dip 34 = .ok (.aload_n 0, 1) := by decide +kernel
theorem dX10_dip_35 : decode cX10_dip 35 = .ok (.getfield 42, 3) := by decide +kernel
theorem dX10_dip_38 : decode cX10_dip 38 = .ok (.iload_n 2, 1) := by decide +kernel
theorem dX10_dip_39 : decode cX10_dip 39 = .ok (.invokevirtual 185, 3) := by decide +kernel
theorem dX10_dip_42 : decode cX10_dip 42 = .ok (.invokevirtual 189, 3) := by decide +kernel
theorem dX10_dip_45 : decode cX10_dip 45 = .ok (.ireturn, 1) := by decide +kernel
theorem dX10_wet_0 : decode cX10_wet 0 = .ok (.iload_n 1, 1) := by decide +kernel
theorem dX10_wet_1 : decode cX10_wet 1 = .ok (.invokestatic 171, 3) := by decide +kernel
theorem dX10_wet_4 : decode cX10_wet 4 = .ok (.ifCond .eq 14, 3) := by decide +kernel
theorem dX10_wet_7 : decode cX10_wet 7 = .ok (.aload_n 0, 1) := by decide +kernel
theorem dX10_wet_8 : decode cX10_wet 8 = .ok (.getfield 42, 3) := by decide +kernel
theorem dX10_wet_11 : decode cX10_wet 11 = .ok (.iload_n 1, 1) := by decide +kernel
theorem dX10_wet_12 : decode cX10_wet 12 = .ok (.invokevirtual 192, 3) := by decide +kernel
theorem dX10_wet_15 : decode cX10_wet 15 = .ok (.goto 5, 3) := by decide +kernel
theorem dX10_wet_18 : decode cX10_wet 18 = .ok (.bipush (-101), 2) := by decide +kernel
theorem dX10_wet_20 : decode cX10_wet 20 = .ok (.ireturn, 1) := by decide +kernel
theorem dX10_late_0 : decode cX10_late 0 = .ok (.iload_n 1, 1) := by decide +kernel
theorem dX10_late_1 : decode cX10_late 1 = .ok (.invokestatic 171, 3) := by decide +kernel
theorem dX10_late_4 : decode cX10_late 4 = .ok (.ifCond .eq 7, 3) := by decide +kernel
theorem dX10_late_7 : decode cX10_late 7 = .ok (.iload_n 1, 1) := by decide +kernel
theorem dX10_late_8 : decode cX10_late 8 = .ok (.ifCond .ne 6, 3) := by decide +kernel
theorem dX10_late_11 : decode cX10_late 11 = .ok (.bipush (-101), 2) := by decide +kernel
theorem dX10_late_13 : decode cX10_late 13 = .ok (.ireturn, 1) := by decide +kernel
theorem dX10_late_14 : decode cX10_late 14 = .ok (.aload_n 0, 1) := by decide +kernel
theorem dX10_late_15 : decode cX10_late 15 = .ok (.getfield 26, 3) := by decide +kernel
theorem dX10_late_18 : decode cX10_late 18 = .ok (.iload_n 2, 1) := by decide +kernel
theorem dX10_late_19 : decode cX10_late 19 = .ok (.invokevirtual 240, 3) := by decide +kernel
theorem dX10_late_22 : decode cX10_late 22 = .ok (.ifCond .eq 12, 3) := by decide +kernel
theorem dX10_late_25 : decode cX10_late 25 = .ok (.iload_n 3, 1) := by decide +kernel
theorem dX10_late_26 : decode cX10_late 26 = .ok (.ifCond .lt 8, 3) := by decide +kernel
theorem dX10_late_29 : decode cX10_late 29 = .ok (.iload_n 3, 1) := by decide +kernel
theorem dX10_late_30 : decode cX10_late 30 = .ok (.iconst 3, 1) := by decide +kernel
theorem dX10_late_31 : decode cX10_late 31 = .ok (.if_icmp .lt 6, 3) := by decide +kernel
theorem dX10_late_34 : decode cX10_late 34 = .ok (.bipush (-102), 2) := by decide +kernel
theorem dX10_late_36 : decode cX10_late 36 = .ok (.ireturn, 1) := by decide +kernel
theorem dX10_late_37 : decode cX10_late 37 = .ok (.aload_n 0, 1) := by decide +kernel
theorem dX10_late_38 : decode cX10_late 38 = .ok (.getfield 26, 3) := by decide +kernel
theorem dX10_late_41 : decode cX10_late 41 = .ok (.invokevirtual 195, 3) := by decide +kernel
theorem dX10_late_44 : decode cX10_late 44 = .ok (.ifCond .ne 6, 3) := by decide +kernel
theorem dX10_late_47 : decode cX10_late 47 = .ok (.bipush (-103), 2) := by decide +kernel
theorem dX10_late_49 : decode cX10_late 49 = .ok (.ireturn, 1) := by decide +kernel
theorem dX10_late_50 : decode cX10_late 50 = .ok (.aload_n 0, 1) := by decide +kernel
theorem dX10_late_51 : decode cX10_late 51 = .ok (.getfield 74, 3) := by decide +kernel
theorem dX10_late_54 : decode cX10_late 54 = .ok (.iload_n 1, 1) := by decide +kernel
theorem dX10_late_55 : decode cX10_late 55 = .ok (.iload_n 2, 1) := by decide +kernel
theorem dX10_late_56 : decode cX10_late 56 = .ok (.invokevirtual 243, 3) := by decide +kernel
theorem dX10_late_59 : decode cX10_late 59 = .ok (.aload_n 0, 1) := by decide +kernel
theorem dX10_late_60 : decode cX10_late 60 = .ok (.getfield 74, 3) := by decide +kernel
theorem dX10_late_63 : decode cX10_late 63 = .ok (.iload_n 3, 1) := by decide +kernel
theorem dX10_late_64 : decode cX10_late 64 = .ok (.invokevirtual 245, 3) := by decide +kernel
theorem dX10_late_67 : decode cX10_late 67 = .ok (.ireturn, 1) := by decide +kernel
theorem dX10_count_0 : decode cX10_count 0 = .ok (.iload_n 1, 1) := by decide +kernel
theorem dX10_count_1 : decode cX10_count 1 = .ok (.tableswitch 102 0 7 #[47, 55, 63, 71, 79, 87, 92, 97], 47) := by decide +kernel
theorem dX10_count_48 : decode cX10_count 48 = .ok (.aload_n 0, 1) := by decide +kernel
theorem dX10_count_49 : decode cX10_count 49 = .ok (.getfield 26, 3) := by decide +kernel
theorem dX10_count_52 : decode cX10_count 52 = .ok (.invokevirtual 122, 3) := by decide +kernel
theorem dX10_count_55 : decode cX10_count 55 = .ok (.ireturn, 1) := by decide +kernel
theorem dX10_count_56 : decode cX10_count 56 = .ok (.aload_n 0, 1) := by decide +kernel
theorem dX10_count_57 : decode cX10_count 57 = .ok (.getfield 26, 3) := by decide +kernel
theorem dX10_count_60 : decode cX10_count 60 = .ok (.invokevirtual 271, 3) := by decide +kernel
theorem dX10_count_63 : decode cX10_count 63 = .ok (.ireturn, 1) := by decide +kernel
theorem dX10_count_64 : decode cX10_count 64 = .ok (.aload_n 0, 1) := by decide +kernel
theorem dX10_count_65 : decode cX10_count 65 = .ok (.getfield 33, 3) := by decide +kernel
theorem dX10_count_68 : decode cX10_count 68 = .ok (.invokevirtual 262, 3) := by decide +kernel
theorem dX10_count_71 : decode cX10_count 71 = .ok (.ireturn, 1) := by decide +kernel
theorem dX10_count_72 : decode cX10_count 72 = .ok (.aload_n 0, 1) := by decide +kernel
theorem dX10_count_73 : decode cX10_count 73 = .ok (.getfield 33, 3) := by decide +kernel
theorem dX10_count_76 : decode cX10_count 76 = .ok (.invokevirtual 199, 3) := by decide +kernel
theorem dX10_count_79 : decode cX10_count 79 = .ok (.ireturn, 1) := by decide +kernel
theorem dX10_count_80 : decode cX10_count 80 = .ok (.aload_n 0, 1) := by decide +kernel
theorem dX10_count_81 : decode cX10_count 81 = .ok (.getfield 10, 3) := by decide +kernel
theorem dX10_count_84 : decode cX10_count 84 = .ok (.invokevirtual 89, 3) := by decide +kernel
theorem dX10_count_87 : decode cX10_count 87 = .ok (.ireturn, 1) := by decide +kernel
theorem dX10_count_88 : decode cX10_count 88 = .ok (.aload_n 0, 1) := by decide +kernel
theorem dX10_count_89 : decode cX10_count 89 = .ok (.getfield 118, 3) := by decide +kernel
theorem dX10_count_92 : decode cX10_count 92 = .ok (.ireturn, 1) := by decide +kernel
theorem dX10_count_93 : decode cX10_count 93 = .ok (.aload_n 0, 1) := by decide +kernel
theorem dX10_count_94 : decode cX10_count 94 = .ok (.getfield 202, 3) := by decide +kernel
theorem dX10_count_97 : decode cX10_count 97 = .ok (.ireturn, 1) := by decide +kernel
theorem dX10_count_98 : decode cX10_count 98 = .ok (.aload_n 0, 1) := by decide +kernel
theorem dX10_count_99 : decode cX10_count 99 = .ok (.getfield 229, 3) := by decide +kernel
theorem dX10_count_102 : decode cX10_count 102 = .ok (.ireturn, 1) := by decide +kernel
theorem dX10_count_103 : decode cX10_count 103 = .ok (.bipush (-102), 2) := by decide +kernel
theorem dX10_count_105 : decode cX10_count 105 = .ok (.ireturn, 1) := by decide +kernel
theorem dX10_isQuarter_0 : decode cX10_isQuarter 0 = .ok (.iload_n 0, 1) := by decide +kernel
theorem dX10_isQuarter_1 : decode cX10_isQuarter 1 = .ok (.ifCond .lt 13, 3) := by decide +kernel
theorem dX10_isQuarter_4 : decode cX10_isQuarter 4 = .ok (.iload_n 0, 1) := by decide +kernel
theorem dX10_isQuarter_5 : decode cX10_isQuarter 5 = .ok (.bipush 8, 2) := by decide +kernel
theorem dX10_isQuarter_7 : decode cX10_isQuarter 7 = .ok (.if_icmp .ge 7, 3) := by decide +kernel
theorem dX10_isQuarter_10 : decode cX10_isQuarter 10 = .ok (.iconst 1, 1) := by decide +kernel
theorem dX10_isQuarter_11 : decode cX10_isQuarter 11 = .ok (.goto 4, 3) := by decide +kernel
theorem dX10_isQuarter_14 : decode cX10_isQuarter 14 = .ok (.iconst 0, 1) := by decide +kernel
theorem dX10_isQuarter_15 : decode cX10_isQuarter 15 = .ok (.ireturn, 1) := by decide +kernel
theorem dX10_isKind_0 : decode cX10_isKind 0 = .ok (.iload_n 0, 1) := by decide +kernel
theorem dX10_isKind_1 : decode cX10_isKind 1 = .ok (.ifCond .lt 12, 3) := by decide +kernel
theorem dX10_isKind_4 : decode cX10_isKind 4 = .ok (.iload_n 0, 1) := by decide +kernel
theorem dX10_isKind_5 : decode cX10_isKind 5 = .ok (.iconst 4, 1) := by decide +kernel
theorem dX10_isKind_6 : decode cX10_isKind 6 = .ok (.if_icmp .gt 7, 3) := by decide +kernel
theorem dX10_isKind_9 : decode cX10_isKind 9 = .ok (.iconst 1, 1) := by decide +kernel
theorem dX10_isKind_10 : decode cX10_isKind 10 = .ok (.goto 4, 3) := by decide +kernel
theorem dX10_isKind_13 : decode cX10_isKind 13 = .ok (.iconst 0, 1) := by decide +kernel
theorem dX10_isKind_14 : decode cX10_isKind 14 = .ok (.ireturn, 1) := by decide +kernel
theorem dX10_isWeight_0 : decode cX10_isWeight 0 = .ok (.iload_n 0, 1) := by decide +kernel
theorem dX10_isWeight_1 : decode cX10_isWeight 1 = .ok (.iconst 1, 1) := by decide +kernel
theorem dX10_isWeight_2 : decode cX10_isWeight 2 = .ok (.if_icmp .lt 13, 3) := by decide +kernel
theorem dX10_isWeight_5 : decode cX10_isWeight 5 = .ok (.iload_n 0, 1) := by decide +kernel
theorem dX10_isWeight_6 : decode cX10_isWeight 6 = .ok (.bipush 99, 2) := by decide +kernel
theorem dX10_isWeight_8 : decode cX10_isWeight 8 = .ok (.if_icmp .gt 7, 3) := by decide +kernel
theorem dX10_isWeight_11 : decode cX10_isWeight 11 = .ok (.iconst 1, 1) := by decide +kernel
theorem dX10_isWeight_12 : decode cX10_isWeight 12 = .ok (.goto 4, 3) := by decide +kernel
theorem dX10_isWeight_15 : decode cX10_isWeight 15 = .ok (.iconst 0, 1) := by decide +kernel
theorem dX10_isWeight_16 : decode cX10_isWeight 16 = .ok (.ireturn, 1) := by decide +kernel
theorem dX10_asksPlace_0 : decode cX10_asksPlace 0 = .ok (.iload_n 0, 1) := by decide +kernel
theorem dX10_asksPlace_1 : decode cX10_asksPlace 1 = .ok (.bipush 10, 2) := by decide +kernel
theorem dX10_asksPlace_3 : decode cX10_asksPlace 3 = .ok (.if_icmp .lt 13, 3) := by decide +kernel
theorem dX10_asksPlace_6 : decode cX10_asksPlace 6 = .ok (.iload_n 0, 1) := by decide +kernel
theorem dX10_asksPlace_7 : decode cX10_asksPlace 7 = .ok (.bipush 17, 2) := by decide +kernel
theorem dX10_asksPlace_9 : decode cX10_asksPlace 9 = .ok (.if_icmp .gt 7, 3) := by decide +kernel
theorem dX10_asksPlace_12 : decode cX10_asksPlace 12 = .ok (.iconst 1, 1) := by decide +kernel
theorem dX10_asksPlace_13 : decode cX10_asksPlace 13 = .ok (.goto 4, 3) := by decide +kernel
theorem dX10_asksPlace_16 : decode cX10_asksPlace 16 = .ok (.iconst 0, 1) := by decide +kernel
theorem dX10_asksPlace_17 : decode cX10_asksPlace 17 = .ok (.ireturn, 1) := by decide +kernel
theorem dL_cell_0 : decode cL_cell 0 = .ok (.iload_n 1, 1) := by decide +kernel
theorem dL_cell_1 : decode cL_cell 1 = .ok (.aload_n 0, 1) := by decide +kernel
theorem dL_cell_2 : decode cL_cell 2 = .ok (.arraylength, 1) := by decide +kernel
theorem dL_cell_3 : decode cL_cell 3 = .ok (.if_icmp .ge 9, 3) := by decide +kernel
theorem dL_cell_6 : decode cL_cell 6 = .ok (.aload_n 0, 1) := by decide +kernel
theorem dL_cell_7 : decode cL_cell 7 = .ok (.iload_n 1, 1) := by decide +kernel
theorem dL_cell_8 : decode cL_cell 8 = .ok (.iaload, 1) := by decide +kernel
theorem dL_cell_9 : decode cL_cell 9 = .ok (.goto 11, 3) := by decide +kernel
theorem dL_cell_12 : decode cL_cell 12 = .ok (.sipush 7919, 3) := by decide +kernel
theorem dL_cell_15 : decode cL_cell 15 = .ok (.iload_n 1, 1) := by decide +kernel
theorem dL_cell_16 : decode cL_cell 16 = .ok (.imul, 1) := by decide +kernel
theorem dL_cell_17 : decode cL_cell 17 = .ok (.bipush 13, 2) := by decide +kernel
theorem dL_cell_19 : decode cL_cell 19 = .ok (.iadd, 1) := by decide +kernel
theorem dL_cell_20 : decode cL_cell 20 = .ok (.ldc 7, 2) := by decide +kernel
theorem dL_cell_22 : decode cL_cell 22 = .ok (.iand, 1) := by decide +kernel
theorem dL_cell_23 : decode cL_cell 23 = .ok (.ireturn, 1) := by decide +kernel
theorem dL_put_0 : decode cL_put 0 = .ok (.aload_n 0, 1) := by decide +kernel
theorem dL_put_1 : decode cL_put 1 = .ok (.iload_n 1, 1) := by decide +kernel
theorem dL_put_2 : decode cL_put 2 = .ok (.i2l, 1) := by decide +kernel
theorem dL_put_3 : decode cL_put 3 = .ok (.invokevirtual 8, 3) := by decide +kernel
theorem dL_put_6 : decode cL_put 6 = .ok (.ifCond .le 7, 3) := by decide +kernel
theorem dL_put_9 : decode cL_put 9 = .ok (.iconst 1, 1) := by decide +kernel
theorem dL_put_10 : decode cL_put 10 = .ok (.goto 4, 3) := by decide +kernel
theorem dL_put_13 : decode cL_put 13 = .ok (.iconst 0, 1) := by decide +kernel
theorem dL_put_14 : decode cL_put 14 = .ok (.ireturn, 1) := by decide +kernel
theorem dL_plan_0 : decode cL_plan 0 = .ok (.aload 4, 2) := by decide +kernel
theorem dL_plan_2 : decode cL_plan 2 = .ok (.iconst 0, 1) := by decide +kernel
theorem dL_plan_3 : decode cL_plan 3 = .ok (.iconst 2, 1) := by decide +kernel
theorem dL_plan_4 : decode cL_plan 4 = .ok (.aload_n 1, 1) := by decide +kernel
theorem dL_plan_5 : decode cL_plan 5 = .ok (.iload_n 2, 1) := by decide +kernel
theorem dL_plan_6 : decode cL_plan 6 = .ok (.invokestatic 14, 3) := by decide +kernel
theorem dL_plan_9 : decode cL_plan 9 = .ok (.iload_n 3, 1) := by decide +kernel
theorem dL_plan_10 : decode cL_plan 10 = .ok (.iconst 1, 1) := by decide +kernel
theorem dL_plan_11 : decode cL_plan 11 = .ok (.isub, 1) := by decide +kernel
theorem dL_plan_12 : decode cL_plan 12 = .ok (.irem, 1) := by decide +kernel
theorem dL_plan_13 : decode cL_plan 13 = .ok (.iadd, 1) := by decide +kernel
theorem dL_plan_14 : decode cL_plan 14 = .ok (.iastore, 1) := by decide +kernel
theorem dL_plan_15 : decode cL_plan 15 = .ok (.aload 4, 2) := by decide +kernel
theorem dL_plan_17 : decode cL_plan 17 = .ok (.iconst 1, 1) := by decide +kernel
theorem dL_plan_18 : decode cL_plan 18 = .ok (.iconst 2, 1) := by decide +kernel
theorem dL_plan_19 : decode cL_plan 19 = .ok (.aload_n 1, 1) := by decide +kernel
theorem dL_plan_20 : decode cL_plan 20 = .ok (.iload_n 2, 1) := by decide +kernel
theorem dL_plan_21 : decode cL_plan 21 = .ok (.invokestatic 14, 3) := by decide +kernel
theorem dL_plan_24 : decode cL_plan 24 = .ok (.bipush 8, 2) := by decide +kernel
theorem dL_plan_26 : decode cL_plan 26 = .ok (.idiv, 1) := by decide +kernel
theorem dL_plan_27 : decode cL_plan 27 = .ok (.iload_n 3, 1) := by decide +kernel
theorem dL_plan_28 : decode cL_plan 28 = .ok (.irem, 1) := by decide +kernel
theorem dL_plan_29 : decode cL_plan 29 = .ok (.iadd, 1) := by decide +kernel
theorem dL_plan_30 : decode cL_plan 30 = .ok (.iastore, 1) := by decide +kernel
theorem dL_plan_31 : decode cL_plan 31 = .ok (.iconst 1, 1) := by decide +kernel
theorem dL_plan_32 : decode cL_plan 32 = .ok (.istore 6, 2) := by decide +kernel
theorem dL_plan_34 : decode cL_plan 34 = .ok (.iconst 0, 1) := by decide +kernel
theorem dL_plan_35 : decode cL_plan 35 = .ok (.istore 7, 2) := by decide +kernel
theorem dL_plan_37 : decode cL_plan 37 = .ok (.iload 7, 2) := by decide +kernel
theorem dL_plan_39 : decode cL_plan 39 = .ok (.aload 4, 2) := by decide +kernel
theorem dL_plan_41 : decode cL_plan 41 = .ok (.iconst 0, 1) := by decide +kernel
theorem dL_plan_42 : decode cL_plan 42 = .ok (.iaload, 1) := by decide +kernel
theorem dL_plan_43 : decode cL_plan 43 = .ok (.aload 4, 2) := by decide +kernel
theorem dL_plan_45 : decode cL_plan 45 = .ok (.iconst 1, 1) := by decide +kernel
theorem dL_plan_46 : decode cL_plan 46 = .ok (.iaload, 1) := by decide +kernel
theorem dL_plan_47 : decode cL_plan 47 = .ok (.imul, 1) := by decide +kernel
theorem dL_plan_48 : decode cL_plan 48 = .ok (.if_icmp .ge 140, 3) := by decide +kernel
theorem dL_plan_51 : decode cL_plan 51 = .ok (.aload_n 1, 1) := by decide +kernel
theorem dL_plan_52 : decode cL_plan 52 = .ok (.iload_n 2, 1) := by decide +kernel
theorem dL_plan_53 : decode cL_plan 53 = .ok (.iconst 1, 1) := by decide +kernel
theorem dL_plan_54 : decode cL_plan 54 = .ok (.iadd, 1) := by decide +kernel
theorem dL_plan_55 : decode cL_plan 55 = .ok (.iload 7, 2) := by decide +kernel
theorem dL_plan_57 : decode cL_plan 57 = .ok (.iconst 5, 1) := by decide +kernel
theorem dL_plan_58 : decode cL_plan 58 = .ok (.idiv, 1) := by decide +kernel
theorem dL_plan_59 : decode cL_plan 59 = .ok (.iadd, 1) := by decide +kernel
theorem dL_plan_60 : decode cL_plan 60 = .ok (.invokestatic 14, 3) := by decide +kernel
theorem dL_plan_63 : decode cL_plan 63 = .ok (.bipush 6, 2) := by decide +kernel
theorem dL_plan_65 : decode cL_plan 65 = .ok (.iload 7, 2) := by decide +kernel
theorem dL_plan_67 : decode cL_plan 67 = .ok (.iconst 5, 1) := by decide +kernel
theorem dL_plan_68 : decode cL_plan 68 = .ok (.irem, 1) := by decide +kernel
theorem dL_plan_69 : decode cL_plan 69 = .ok (.imul, 1) := by decide +kernel
theorem dL_plan_70 : decode cL_plan 70 = .ok (.ishr, 1) := by decide +kernel
theorem dL_plan_71 : decode cL_plan 71 = .ok (.bipush 63, 2) := by decide +kernel
theorem dL_plan_73 : decode cL_plan 73 = .ok (.iand, 1) := by decide +kernel
theorem dL_plan_74 : decode cL_plan 74 = .ok (.istore 8, 2) := by decide +kernel
theorem dL_plan_76 : decode cL_plan 76 = .ok (.aload 5, 2) := by decide +kernel
theorem dL_plan_78 : decode cL_plan 78 = .ok (.iload 7, 2) := by decide +kernel
theorem dL_plan_80 : decode cL_plan 80 = .ok (.iload 8, 2) := by decide +kernel
theorem dL_plan_82 : decode cL_plan 82 = .ok (.iconst 3, 1) := by decide +kernel
theorem dL_plan_83 : decode cL_plan 83 = .ok (.irem, 1) := by decide +kernel
theorem dL_plan_84 : decode cL_plan 84 = .ok (.ifCond .le 7, 3) := by decide +kernel
theorem dL_plan_87 : decode cL_plan 87 = .ok (.iconst 0, 1) := by decide +kernel
theorem dL_plan_88 : decode cL_plan 88 = .ok (.goto 29, 3) := by decide +kernel
theorem dL_plan_91 : decode cL_plan 91 = .ok (.iconst 1, 1) := by decide +kernel
theorem dL_plan_92 : decode cL_plan 92 = .ok (.iload 8, 2) := by decide +kernel
theorem dL_plan_94 : decode cL_plan 94 = .ok (.iconst 3, 1) := by decide +kernel
theorem dL_plan_95 : decode cL_plan 95 = .ok (.idiv, 1) := by decide +kernel
theorem dL_plan_96 : decode cL_plan 96 = .ok (.aload_n 1, 1) := by decide +kernel
theorem dL_plan_97 : decode cL_plan 97 = .ok (.iload_n 2, 1) := by decide +kernel
theorem dL_plan_98 : decode cL_plan 98 = .ok (.invokestatic 14, 3) := by decide +kernel
theorem dL_plan_101 : decode cL_plan 101 = .ok (.bipush 64, 2) := by decide +kernel
theorem dL_plan_103 : decode cL_plan 103 = .ok (.idiv, 1) := by decide +kernel
theorem dL_plan_104 : decode cL_plan 104 = .ok (.iconst 2, 1) := by decide +kernel
theorem dL_plan_105 : decode cL_plan 105 = .ok (.irem, 1) := by decide +kernel
theorem dL_plan_106 : decode cL_plan 106 = .ok (.ifCond .ne 8, 3) := by decide +kernel
theorem dL_plan_109 : decode cL_plan 109 = .ok (.bipush 9, 2) := by decide +kernel
theorem dL_plan_111 : decode cL_plan 111 = .ok (.goto 4, 3) := by decide +kernel
theorem dL_plan_114 : decode cL_plan 114 = .ok (.iconst 3, 1) := by decide +kernel
theorem dL_plan_115 : decode cL_plan 115 = .ok (.irem, 1) := by decide +kernel
theorem dL_plan_116 : decode cL_plan 116 = .ok (.iadd, 1) := by decide +kernel
theorem dL_plan_117 : decode cL_plan 117 = .ok (.iastore, 1) := by decide +kernel
theorem dL_plan_118 : decode cL_plan 118 = .ok (.iload 6, 2) := by decide +kernel
theorem dL_plan_120 : decode cL_plan 120 = .ok (.ifCond .eq 59, 3) := by decide +kernel
theorem dL_plan_123 : decode cL_plan 123 = .ok (.iload 7, 2) := by decide +kernel
theorem dL_plan_125 : decode cL_plan 125 = .ok (.ifCond .eq 22, 3) := by decide +kernel
theorem dL_plan_128 : decode cL_plan 128 = .ok (.iload 7, 2) := by decide +kernel
theorem dL_plan_130 : decode cL_plan 130 = .ok (.aload 4, 2) := by decide +kernel
theorem dL_plan_132 : decode cL_plan 132 = .ok (.iconst 1, 1) := by decide +kernel
theorem dL_plan_133 : decode cL_plan 133 = .ok (.iaload, 1) := by decide +kernel
theorem dL_plan_134 : decode cL_plan 134 = .ok (.irem, 1) := by decide +kernel
theorem dL_plan_135 : decode cL_plan 135 = .ok (.ifCond .gt 12, 3) := by decide +kernel
theorem dL_plan_138 : decode cL_plan 138 = .ok (.aload_n 0, 1) := by decide +kernel
theorem dL_plan_139 : decode cL_plan 139 = .ok (.bipush 47, 2) := by decide +kernel
theorem dL_plan_141 : decode cL_plan 141 = .ok (.invokestatic 20, 3) := by decide +kernel
theorem dL_plan_144 : decode cL_plan 144 = .ok (.ifCond .eq 35, 3) := by decide +kernel
theorem dL_plan_147 : decode cL_plan 147 = .ok (.aload_n 0, 1) := by decide +kernel
theorem dL_plan_148 : decode cL_plan 148 = .ok (.aload 5, 2) := by decide +kernel
theorem dL_plan_150 : decode cL_plan 150 = .ok (.iload 7, 2) := by decide +kernel
theorem dL_plan_152 : decode cL_plan 152 = .ok (.iaload, 1) := by decide +kernel
theorem dL_plan_153 : decode cL_plan 153 = .ok (.ifCond .ne 8, 3) := by decide +kernel
theorem dL_plan_156 : decode cL_plan 156 = .ok (.bipush 46, 2) := by decide +kernel
theorem dL_plan_158 : decode cL_plan 158 = .ok (.goto 11, 3) := by decide +kernel
theorem dL_plan_161 : decode cL_plan 161 = .ok (.bipush 48, 2) := by decide +kernel
theorem dL_plan_163 : decode cL_plan 163 = .ok (.aload 5, 2) := by decide +kernel
theorem dL_plan_165 : decode cL_plan 165 = .ok (.iload 7, 2) := by decide +kernel
theorem dL_plan_167 : decode cL_plan 167 = .ok (.iaload, 1) := by decide +kernel
theorem dL_plan_168 : decode cL_plan 168 = .ok (.iadd, 1) := by decide +kernel
theorem dL_plan_169 : decode cL_plan 169 = .ok (.invokestatic 20, 3) := by decide +kernel
theorem dL_plan_172 : decode cL_plan 172 = .ok (.ifCond .eq 7, 3) := by decide +kernel
theorem dL_plan_175 : decode cL_plan 175 = .ok (.iconst 1, 1) := by decide +kernel
theorem dL_plan_176 : decode cL_plan 176 = .ok (.goto 4, 3) := by decide +kernel
theorem dL_plan_179 : decode cL_plan 179 = .ok (.iconst 0, 1) := by decide +kernel
theorem dL_plan_180 : decode cL_plan 180 = .ok (.istore 6, 2) := by decide +kernel
theorem dL_plan_182 : decode cL_plan 182 = .ok (.iinc 7 1, 3) := by decide +kernel
theorem dL_plan_185 : decode cL_plan 185 = .ok (.goto (-148), 3) := by decide +kernel
theorem dL_plan_188 : decode cL_plan 188 = .ok (.iload 6, 2) := by decide +kernel
theorem dL_plan_190 : decode cL_plan 190 = .ok (.ifCond .eq 36, 3) := by decide +kernel
theorem dL_plan_193 : decode cL_plan 193 = .ok (.aload_n 0, 1) := by decide +kernel
theorem dL_plan_194 : decode cL_plan 194 = .ok (.iconst 0, 1) := by decide +kernel
theorem dL_plan_195 : decode cL_plan 195 = .ok (.invokevirtual 24, 3) := by decide +kernel
theorem dL_plan_198 : decode cL_plan 198 = .ok (.aload_n 0, 1) := by decide +kernel
theorem dL_plan_199 : decode cL_plan 199 = .ok (.iconst 4, 1) := by decide +kernel
theorem dL_plan_200 : decode cL_plan 200 = .ok (.invokevirtual 28, 3) := by decide +kernel
theorem dL_plan_203 : decode cL_plan 203 = .ok (.if_icmp .ne 23, 3) := by decide +kernel
theorem dL_plan_206 : decode cL_plan 206 = .ok (.aload_n 0, 1) := by decide +kernel
theorem dL_plan_207 : decode cL_plan 207 = .ok (.invokevirtual 31, 3) := by decide +kernel
theorem dL_plan_210 : decode cL_plan 210 = .ok (.aload 4, 2) := by decide +kernel
theorem dL_plan_212 : decode cL_plan 212 = .ok (.iconst 0, 1) := by decide +kernel
theorem dL_plan_213 : decode cL_plan 213 = .ok (.iaload, 1) := by decide +kernel
theorem dL_plan_214 : decode cL_plan 214 = .ok (.aload 4, 2) := by decide +kernel
theorem dL_plan_216 : decode cL_plan 216 = .ok (.iconst 1, 1) := by decide +kernel
theorem dL_plan_217 : decode cL_plan 217 = .ok (.iaload, 1) := by decide +kernel
theorem dL_plan_218 : decode cL_plan 218 = .ok (.imul, 1) := by decide +kernel
theorem dL_plan_219 : decode cL_plan 219 = .ok (.if_icmp .ne 7, 3) := by decide +kernel
theorem dL_plan_222 : decode cL_plan 222 = .ok (.iconst 1, 1) := by decide +kernel
theorem dL_plan_223 : decode cL_plan 223 = .ok (.goto 4, 3) := by decide +kernel
theorem dL_plan_226 : decode cL_plan 226 = .ok (.iconst 0, 1) := by decide +kernel
theorem dL_plan_227 : decode cL_plan 227 = .ok (.ireturn, 1) := by decide +kernel
theorem dL_things_0 : decode cL_things 0 = .ok (.aload 4, 2) := by decide +kernel
theorem dL_things_2 : decode cL_things 2 = .ok (.iconst 0, 1) := by decide +kernel
theorem dL_things_3 : decode cL_things 3 = .ok (.iaload, 1) := by decide +kernel
theorem dL_things_4 : decode cL_things 4 = .ok (.aload 4, 2) := by decide +kernel
theorem dL_things_6 : decode cL_things 6 = .ok (.iconst 1, 1) := by decide +kernel
theorem dL_things_7 : decode cL_things 7 = .ok (.iaload, 1) := by decide +kernel
theorem dL_things_8 : decode cL_things 8 = .ok (.imul, 1) := by decide +kernel
theorem dL_things_9 : decode cL_things 9 = .ok (.istore 6, 2) := by decide +kernel
theorem dL_things_11 : decode cL_things 11 = .ok (.iconst 1, 1) := by decide +kernel
theorem dL_things_12 : decode cL_things 12 = .ok (.istore 7, 2) := by decide +kernel
theorem dL_things_14 : decode cL_things 14 = .ok (.iconst 0, 1) := by decide +kernel
theorem dL_things_15 : decode cL_things 15 = .ok (.istore 8, 2) := by decide +kernel
theorem dL_things_17 : decode cL_things 17 = .ok (.iload 8, 2) := by decide +kernel
theorem dL_things_19 : decode cL_things 19 = .ok (.iload_n 3, 1) := by decide +kernel
theorem dL_things_20 : decode cL_things 20 = .ok (.if_icmp .ge 217, 3) := by decide +kernel
theorem dL_things_23 : decode cL_things 23 = .ok (.aload_n 1, 1) := by decide +kernel
theorem dL_things_24 : decode cL_things 24 = .ok (.iload_n 2, 1) := by decide +kernel
theorem dL_things_25 : decode cL_things 25 = .ok (.iconst 2, 1) := by decide +kernel
theorem dL_things_26 : decode cL_things 26 = .ok (.iload 8, 2) := by decide +kernel
theorem dL_things_28 : decode cL_things 28 = .ok (.imul, 1) := by decide +kernel
theorem dL_things_29 : decode cL_things 29 = .ok (.iadd, 1) := by decide +kernel
theorem dL_things_30 : decode cL_things 30 = .ok (.invokestatic 14, 3) := by decide +kernel
theorem dL_things_33 : decode cL_things 33 = .ok (.istore 9, 2) := by decide +kernel
theorem dL_things_35 : decode cL_things 35 = .ok (.aload_n 1, 1) := by decide +kernel
theorem dL_things_36 : decode cL_things 36 = .ok (.iload_n 2, 1) := by decide +kernel
theorem dL_things_37 : decode cL_things 37 = .ok (.iconst 2, 1) := by decide +kernel
theorem dL_things_38 : decode cL_things 38 = .ok (.iload 8, 2) := by decide +kernel
theorem dL_things_40 : decode cL_things 40 = .ok (.imul, 1) := by decide +kernel
theorem dL_things_41 : decode cL_things 41 = .ok (.iadd, 1) := by decide +kernel
theorem dL_things_42 : decode cL_things 42 = .ok (.iconst 1, 1) := by decide +kernel
theorem dL_things_43 : decode cL_things 43 = .ok (.iadd, 1) := by decide +kernel
theorem dL_things_44 : decode cL_things 44 = .ok (.invokestatic 14, 3) := by decide +kernel
theorem dL_things_47 : decode cL_things 47 = .ok (.istore 10, 2) := by decide +kernel
theorem dL_things_49 : decode cL_things 49 = .ok (.aload 5, 2) := by decide +kernel
theorem dL_things_51 : decode cL_things 51 = .ok (.bipush 10, 2) := by decide +kernel
theorem dL_things_53 : decode cL_things 53 = .ok (.iload 8, 2) := by decide +kernel
theorem dL_things_55 : decode cL_things 55 = .ok (.imul, 1) := by decide +kernel
theorem dL_things_56 : decode cL_things 56 = .ok (.iload 9, 2) := by decide +kernel
theorem dL_things_58 : decode cL_things 58 = .ok (.iconst 5, 1) := by decide +kernel
theorem dL_things_59 : decode cL_things 59 = .ok (.irem, 1) := by decide +kernel
theorem dL_things_60 : decode cL_things 60 = .ok (.iastore, 1) := by decide +kernel
theorem dL_things_61 : decode cL_things 61 = .ok (.aload 5, 2) := by decide +kernel
theorem dL_things_63 : decode cL_things 63 = .ok (.bipush 10, 2) := by decide +kernel
theorem dL_things_65 : decode cL_things 65 = .ok (.iload 8, 2) := by decide +kernel
theorem dL_things_67 : decode cL_things 67 = .ok (.imul, 1) := by decide +kernel
theorem dL_things_68 : decode cL_things 68 = .ok (.iconst 1, 1) := by decide +kernel
theorem dL_things_69 : decode cL_things 69 = .ok (.iadd, 1) := by decide +kernel
theorem dL_things_70 : decode cL_things 70 = .ok (.iconst 1, 1) := by decide +kernel
theorem dL_things_71 : decode cL_things 71 = .ok (.iload 9, 2) := by decide +kernel
theorem dL_things_73 : decode cL_things 73 = .ok (.bipush 8, 2) := by decide +kernel
theorem dL_things_75 : decode cL_things 75 = .ok (.idiv, 1) := by decide +kernel
theorem dL_things_76 : decode cL_things 76 = .ok (.bipush 99, 2) := by decide +kernel
theorem dL_things_78 : decode cL_things 78 = .ok (.irem, 1) := by decide +kernel
theorem dL_things_79 : decode cL_things 79 = .ok (.iload 9, 2) := by decide +kernel
theorem dL_things_81 : decode cL_things 81 = .ok (.iconst 2, 1) := by decide +kernel
theorem dL_things_82 : decode cL_things 82 = .ok (.irem, 1) := by decide +kernel
theorem dL_things_83 : decode cL_things 83 = .ok (.iconst 1, 1) := by decide +kernel
theorem dL_things_84 : decode cL_things 84 = .ok (.iadd, 1) := by decide +kernel
theorem dL_things_85 : decode cL_things 85 = .ok (.idiv, 1) := by decide +kernel
theorem dL_things_86 : decode cL_things 86 = .ok (.iadd, 1) := by decide +kernel
theorem dL_things_87 : decode cL_things 87 = .ok (.iastore, 1) := by decide +kernel
theorem dL_things_88 : decode cL_things 88 = .ok (.iload 7, 2) := by decide +kernel
theorem dL_things_90 : decode cL_things 90 = .ok (.ifCond .eq 39, 3) := by decide +kernel
theorem dL_things_93 : decode cL_things 93 = .ok (.aload_n 0, 1) := by decide +kernel
theorem dL_things_94 : decode cL_things 94 = .ok (.iload 9, 2) := by decide +kernel
theorem dL_things_96 : decode cL_things 96 = .ok (.iconst 5, 1) := by decide +kernel
theorem dL_things_97 : decode cL_things 97 = .ok (.irem, 1) := by decide +kernel
theorem dL_things_98 : decode cL_things 98 = .ok (.aload 5, 2) := by decide +kernel
theorem dL_things_100 : decode cL_things 100 = .ok (.bipush 10, 2) := by decide +kernel
theorem dL_things_102 : decode cL_things 102 = .ok (.iload 8, 2) := by decide +kernel
theorem dL_things_104 : decode cL_things 104 = .ok (.imul, 1) := by decide +kernel
theorem dL_things_105 : decode cL_things 105 = .ok (.iconst 1, 1) := by decide +kernel
theorem dL_things_106 : decode cL_things 106 = .ok (.iadd, 1) := by decide +kernel
theorem dL_things_107 : decode cL_things 107 = .ok (.iaload, 1) := by decide +kernel
theorem dL_things_108 : decode cL_things 108 = .ok (.iload 9, 2) := by decide +kernel
theorem dL_things_110 : decode cL_things 110 = .ok (.sipush 1024, 3) := by decide +kernel
theorem dL_things_113 : decode cL_things 113 = .ok (.idiv, 1) := by decide +kernel
theorem dL_things_114 : decode cL_things 114 = .ok (.iload 6, 2) := by decide +kernel
theorem dL_things_116 : decode cL_things 116 = .ok (.irem, 1) := by decide +kernel
theorem dL_things_117 : decode cL_things 117 = .ok (.invokevirtual 35, 3) := by decide +kernel
theorem dL_things_120 : decode cL_things 120 = .ok (.iload 8, 2) := by decide +kernel
theorem dL_things_122 : decode cL_things 122 = .ok (.if_icmp .ne 7, 3) := by decide +kernel
theorem dL_things_125 : decode cL_things 125 = .ok (.iconst 1, 1) := by decide +kernel
theorem dL_things_126 : decode cL_things 126 = .ok (.goto 4, 3) := by decide +kernel
theorem dL_things_129 : decode cL_things 129 = .ok (.iconst 0, 1) := by decide +kernel
theorem dL_things_130 : decode cL_things 130 = .ok (.istore 7, 2) := by decide +kernel
theorem dL_things_132 : decode cL_things 132 = .ok (.iconst 0, 1) := by decide +kernel
theorem dL_things_133 : decode cL_things 133 = .ok (.istore 11, 2) := by decide +kernel
theorem dL_things_135 : decode cL_things 135 = .ok (.iload 11, 2) := by decide +kernel
theorem dL_things_137 : decode cL_things 137 = .ok (.bipush 8, 2) := by decide +kernel
theorem dL_things_139 : decode cL_things 139 = .ok (.if_icmp .ge 92, 3) := by decide +kernel
theorem dL_things_142 : decode cL_things 142 = .ok (.iload 9, 2) := by decide +kernel
theorem dL_things_144 : decode cL_things 144 = .ok (.iconst 5, 1) := by decide +kernel
theorem dL_things_145 : decode cL_things 145 = .ok (.irem, 1) := by decide +kernel
theorem dL_things_146 : decode cL_things 146 = .ok (.iconst 3, 1) := by decide +kernel
theorem dL_things_147 : decode cL_things 147 = .ok (.if_icmp .ge 15, 3) := by decide +kernel
theorem dL_things_150 : decode cL_things 150 = .ok (.iload 9, 2) := by decide +kernel
theorem dL_things_152 : decode cL_things 152 = .ok (.sipush 1024, 3) := by decide +kernel
theorem dL_things_155 : decode cL_things 155 = .ok (.idiv, 1) := by decide +kernel
theorem dL_things_156 : decode cL_things 156 = .ok (.iload 6, 2) := by decide +kernel
theorem dL_things_158 : decode cL_things 158 = .ok (.irem, 1) := by decide +kernel
theorem dL_things_159 : decode cL_things 159 = .ok (.goto 16, 3) := by decide +kernel
theorem dL_things_162 : decode cL_things 162 = .ok (.iload 10, 2) := by decide +kernel
theorem dL_things_164 : decode cL_things 164 = .ok (.iconst 3, 1) := by decide +kernel
theorem dL_things_165 : decode cL_things 165 = .ok (.iload 11, 2) := by decide +kernel
theorem dL_things_167 : decode cL_things 167 = .ok (.imul, 1) := by decide +kernel
theorem dL_things_168 : decode cL_things 168 = .ok (.ishr, 1) := by decide +kernel
theorem dL_things_169 : decode cL_things 169 = .ok (.bipush 127, 2) := by decide +kernel
theorem dL_things_171 : decode cL_things 171 = .ok (.iand, 1) := by decide +kernel
theorem dL_things_172 : decode cL_things 172 = .ok (.iload 6, 2) := by decide +kernel
theorem dL_things_174 : decode cL_things 174 = .ok (.irem, 1) := by decide +kernel
theorem dL_things_175 : decode cL_things 175 = .ok (.istore 12, 2) := by decide +kernel
theorem dL_things_177 : decode cL_things 177 = .ok (.aload 5, 2) := by decide +kernel
theorem dL_things_179 : decode cL_things 179 = .ok (.bipush 10, 2) := by decide +kernel
theorem dL_things_181 : decode cL_things 181 = .ok (.iload 8, 2) := by decide +kernel
theorem dL_things_183 : decode cL_things 183 = .ok (.imul, 1) := by decide +kernel
theorem dL_things_184 : decode cL_things 184 = .ok (.iconst 2, 1) := by decide +kernel
theorem dL_things_185 : decode cL_things 185 = .ok (.iadd, 1) := by decide +kernel
theorem dL_things_186 : decode cL_things 186 = .ok (.iload 11, 2) := by decide +kernel
theorem dL_things_188 : decode cL_things 188 = .ok (.iadd, 1) := by decide +kernel
theorem dL_things_189 : decode cL_things 189 = .ok (.iload 12, 2) := by decide +kernel
theorem dL_things_191 : decode cL_things 191 = .ok (.iastore, 1) := by decide +kernel
theorem dL_things_192 : decode cL_things 192 = .ok (.iload 7, 2) := by decide +kernel
theorem dL_things_194 : decode cL_things 194 = .ok (.ifCond .eq 28, 3) := by decide +kernel
theorem dL_things_197 : decode cL_things 197 = .ok (.iload 9, 2) := by decide +kernel
theorem dL_things_199 : decode cL_things 199 = .ok (.iconst 5, 1) := by decide +kernel
theorem dL_things_200 : decode cL_things 200 = .ok (.irem, 1) := by decide +kernel
theorem dL_things_201 : decode cL_things 201 = .ok (.iconst 3, 1) := by decide +kernel
theorem dL_things_202 : decode cL_things 202 = .ok (.if_icmp .lt 16, 3) := by decide +kernel
theorem dL_things_205 : decode cL_things 205 = .ok (.aload_n 0, 1) := by decide +kernel
theorem dL_things_206 : decode cL_things 206 = .ok (.iload 8, 2) := by decide +kernel
theorem dL_things_208 : decode cL_things 208 = .ok (.iload 11, 2) := by decide +kernel
theorem dL_things_210 : decode cL_things 210 = .ok (.iload 12, 2) := by decide +kernel
theorem dL_things_212 : decode cL_things 212 = .ok (.invokevirtual 39, 3) := by decide +kernel
theorem dL_things_215 : decode cL_things 215 = .ok (.ifCond .lt 7, 3) := by decide +kernel
theorem dL_things_218 : decode cL_things 218 = .ok (.iconst 1, 1) := by decide +kernel
theorem dL_things_219 : decode cL_things 219 = .ok (.goto 4, 3) := by decide +kernel
theorem dL_things_222 : decode cL_things 222 = .ok (.iconst 0, 1) := by decide +kernel
theorem dL_things_223 : decode cL_things 223 = .ok (.istore 7, 2) := by decide +kernel
theorem dL_things_225 : decode cL_things 225 = .ok (.iinc 11 1, 3) := by decide +kernel
theorem dL_things_228 : decode cL_things 228 = .ok (.goto (-93), 3) := by decide +kernel
theorem dL_things_231 : decode cL_things 231 = .ok (.iinc 8 1, 3) := by decide +kernel
theorem dL_things_234 : decode cL_things 234 = .ok (.goto (-217), 3) := by decide +kernel
theorem dL_things_237 : decode cL_things 237 = .ok (.iload 7, 2) := by decide +kernel
theorem dL_things_239 : decode cL_things 239 = .ok (.ireturn, 1) := by decide +kernel
theorem dL_weighs_0 : decode cL_weighs 0 = .ok (.aload_n 0, 1) := by decide +kernel
theorem dL_weighs_1 : decode cL_weighs 1 = .ok (.bipush 10, 2) := by decide +kernel
theorem dL_weighs_3 : decode cL_weighs 3 = .ok (.iload_n 1, 1) := by decide +kernel
theorem dL_weighs_4 : decode cL_weighs 4 = .ok (.imul, 1) := by decide +kernel
theorem dL_weighs_5 : decode cL_weighs 5 = .ok (.iaload, 1) := by decide +kernel
theorem dL_weighs_6 : decode cL_weighs 6 = .ok (.iconst 4, 1) := by decide +kernel
theorem dL_weighs_7 : decode cL_weighs 7 = .ok (.if_icmp .ne 23, 3) := by decide +kernel
theorem dL_weighs_10 : decode cL_weighs 10 = .ok (.aload_n 0, 1) := by decide +kernel
theorem dL_weighs_11 : decode cL_weighs 11 = .ok (.bipush 10, 2) := by decide +kernel
theorem dL_weighs_13 : decode cL_weighs 13 = .ok (.iload_n 1, 1) := by decide +kernel
theorem dL_weighs_14 : decode cL_weighs 14 = .ok (.imul, 1) := by decide +kernel
theorem dL_weighs_15 : decode cL_weighs 15 = .ok (.iconst 1, 1) := by decide +kernel
theorem dL_weighs_16 : decode cL_weighs 16 = .ok (.iadd, 1) := by decide +kernel
theorem dL_weighs_17 : decode cL_weighs 17 = .ok (.iaload, 1) := by decide +kernel
theorem dL_weighs_18 : decode cL_weighs 18 = .ok (.aload_n 0, 1) := by decide +kernel
theorem dL_weighs_19 : decode cL_weighs 19 = .ok (.bipush 10, 2) := by decide +kernel
theorem dL_weighs_21 : decode cL_weighs 21 = .ok (.iload_n 1, 1) := by decide +kernel
theorem dL_weighs_22 : decode cL_weighs 22 = .ok (.imul, 1) := by decide +kernel
theorem dL_weighs_23 : decode cL_weighs 23 = .ok (.iconst 1, 1) := by decide +kernel
theorem dL_weighs_24 : decode cL_weighs 24 = .ok (.iadd, 1) := by decide +kernel
theorem dL_weighs_25 : decode cL_weighs 25 = .ok (.iaload, 1) := by decide +kernel
theorem dL_weighs_26 : decode cL_weighs 26 = .ok (.iadd, 1) := by decide +kernel
theorem dL_weighs_27 : decode cL_weighs 27 = .ok (.goto 11, 3) := by decide +kernel
theorem dL_weighs_30 : decode cL_weighs 30 = .ok (.aload_n 0, 1) := by decide +kernel
theorem dL_weighs_31 : decode cL_weighs 31 = .ok (.bipush 10, 2) := by decide +kernel
theorem dL_weighs_33 : decode cL_weighs 33 = .ok (.iload_n 1, 1) := by decide +kernel
theorem dL_weighs_34 : decode cL_weighs 34 = .ok (.imul, 1) := by decide +kernel
theorem dL_weighs_35 : decode cL_weighs 35 = .ok (.iconst 1, 1) := by decide +kernel
theorem dL_weighs_36 : decode cL_weighs 36 = .ok (.iadd, 1) := by decide +kernel
theorem dL_weighs_37 : decode cL_weighs 37 = .ok (.iaload, 1) := by decide +kernel
theorem dL_weighs_38 : decode cL_weighs 38 = .ok (.ireturn, 1) := by decide +kernel
theorem dL_east_0 : decode cL_east 0 = .ok (.iload_n 1, 1) := by decide +kernel
theorem dL_east_1 : decode cL_east 1 = .ok (.aload_n 0, 1) := by decide +kernel
theorem dL_east_2 : decode cL_east 2 = .ok (.iconst 1, 1) := by decide +kernel
theorem dL_east_3 : decode cL_east 3 = .ok (.iaload, 1) := by decide +kernel
theorem dL_east_4 : decode cL_east 4 = .ok (.irem, 1) := by decide +kernel
theorem dL_east_5 : decode cL_east 5 = .ok (.iload_n 1, 1) := by decide +kernel
theorem dL_east_6 : decode cL_east 6 = .ok (.aload_n 0, 1) := by decide +kernel
theorem dL_east_7 : decode cL_east 7 = .ok (.iconst 1, 1) := by decide +kernel
theorem dL_east_8 : decode cL_east 8 = .ok (.iaload, 1) := by decide +kernel
theorem dL_east_9 : decode cL_east 9 = .ok (.irem, 1) := by decide +kernel
theorem dL_east_10 : decode cL_east 10 = .ok (.iadd, 1) := by decide +kernel
theorem dL_east_11 : decode cL_east 11 = .ok (.iconst 1, 1) := by decide +kernel
theorem dL_east_12 : decode cL_east 12 = .ok (.iadd, 1) := by decide +kernel
theorem dL_east_13 : decode cL_east 13 = .ok (.aload_n 0, 1) := by decide +kernel
theorem dL_east_14 : decode cL_east 14 = .ok (.iconst 1, 1) := by decide +kernel
theorem dL_east_15 : decode cL_east 15 = .ok (.iaload, 1) := by decide +kernel
theorem dL_east_16 : decode cL_east 16 = .ok (.isub, 1) := by decide +kernel
theorem dL_east_17 : decode cL_east 17 = .ok (.ireturn, 1) := by decide +kernel
theorem dL_south_0 : decode cL_south 0 = .ok (.iload_n 1, 1) := by decide +kernel
theorem dL_south_1 : decode cL_south 1 = .ok (.aload_n 0, 1) := by decide +kernel
theorem dL_south_2 : decode cL_south 2 = .ok (.iconst 1, 1) := by decide +kernel
theorem dL_south_3 : decode cL_south 3 = .ok (.iaload, 1) := by decide +kernel
theorem dL_south_4 : decode cL_south 4 = .ok (.idiv, 1) := by decide +kernel
theorem dL_south_5 : decode cL_south 5 = .ok (.iload_n 1, 1) := by decide +kernel
theorem dL_south_6 : decode cL_south 6 = .ok (.aload_n 0, 1) := by decide +kernel
theorem dL_south_7 : decode cL_south 7 = .ok (.iconst 1, 1) := by decide +kernel
theorem dL_south_8 : decode cL_south 8 = .ok (.iaload, 1) := by decide +kernel
theorem dL_south_9 : decode cL_south 9 = .ok (.idiv, 1) := by decide +kernel
theorem dL_south_10 : decode cL_south 10 = .ok (.iadd, 1) := by decide +kernel
theorem dL_south_11 : decode cL_south 11 = .ok (.iconst 1, 1) := by decide +kernel
theorem dL_south_12 : decode cL_south 12 = .ok (.iadd, 1) := by decide +kernel
theorem dL_south_13 : decode cL_south 13 = .ok (.aload_n 0, 1) := by decide +kernel
theorem dL_south_14 : decode cL_south 14 = .ok (.iconst 0, 1) := by decide +kernel
theorem dL_south_15 : decode cL_south 15 = .ok (.iaload, 1) := by decide +kernel
theorem dL_south_16 : decode cL_south 16 = .ok (.isub, 1) := by decide +kernel
theorem dL_south_17 : decode cL_south 17 = .ok (.ireturn, 1) := by decide +kernel
theorem dL_wet_0 : decode cL_wet 0 = .ok (.iconst 0, 1) := by decide +kernel
theorem dL_wet_1 : decode cL_wet 1 = .ok (.istore 4, 2) := by decide +kernel
theorem dL_wet_3 : decode cL_wet 3 = .ok (.iconst 0, 1) := by decide +kernel
theorem dL_wet_4 : decode cL_wet 4 = .ok (.istore 5, 2) := by decide +kernel
theorem dL_wet_6 : decode cL_wet 6 = .ok (.iload 5, 2) := by decide +kernel
theorem dL_wet_8 : decode cL_wet 8 = .ok (.aload_n 0, 1) := by decide +kernel
theorem dL_wet_9 : decode cL_wet 9 = .ok (.iconst 0, 1) := by decide +kernel
theorem dL_wet_10 : decode cL_wet 10 = .ok (.iaload, 1) := by decide +kernel
theorem dL_wet_11 : decode cL_wet 11 = .ok (.aload_n 0, 1) := by decide +kernel
theorem dL_wet_12 : decode cL_wet 12 = .ok (.iconst 1, 1) := by decide +kernel
theorem dL_wet_13 : decode cL_wet 13 = .ok (.iaload, 1) := by decide +kernel
theorem dL_wet_14 : decode cL_wet 14 = .ok (.imul, 1) := by decide +kernel
theorem dL_wet_15 : decode cL_wet 15 = .ok (.if_icmp .ge 60, 3) := by decide +kernel
theorem dL_wet_18 : decode cL_wet 18 = .ok (.iload_n 2, 1) := by decide +kernel
theorem dL_wet_19 : decode cL_wet 19 = .ok (.aload_n 0, 1) := by decide +kernel
theorem dL_wet_20 : decode cL_wet 20 = .ok (.iload 5, 2) := by decide +kernel
theorem dL_wet_22 : decode cL_wet 22 = .ok (.invokestatic 42, 3) := by decide +kernel
theorem dL_wet_25 : decode cL_wet 25 = .ok (.imul, 1) := by decide +kernel
theorem dL_wet_26 : decode cL_wet 26 = .ok (.iload_n 3, 1) := by decide +kernel
theorem dL_wet_27 : decode cL_wet 27 = .ok (.aload_n 0, 1) := by decide +kernel
theorem dL_wet_28 : decode cL_wet 28 = .ok (.iload 5, 2) := by decide +kernel
theorem dL_wet_30 : decode cL_wet 30 = .ok (.invokestatic 45, 3) := by decide +kernel
theorem dL_wet_33 : decode cL_wet 33 = .ok (.imul, 1) := by decide +kernel
theorem dL_wet_34 : decode cL_wet 34 = .ok (.iadd, 1) := by decide +kernel
theorem dL_wet_35 : decode cL_wet 35 = .ok (.istore 6, 2) := by decide +kernel
theorem dL_wet_37 : decode cL_wet 37 = .ok (.iload 4, 2) := by decide +kernel
theorem dL_wet_39 : decode cL_wet 39 = .ok (.aload_n 1, 1) := by decide +kernel
theorem dL_wet_40 : decode cL_wet 40 = .ok (.iload 5, 2) := by decide +kernel
theorem dL_wet_42 : decode cL_wet 42 = .ok (.iaload, 1) := by decide +kernel
theorem dL_wet_43 : decode cL_wet 43 = .ok (.ifCond .le 22, 3) := by decide +kernel
theorem dL_wet_46 : decode cL_wet 46 = .ok (.iload 6, 2) := by decide +kernel
theorem dL_wet_48 : decode cL_wet 48 = .ok (.bipush 50, 2) := by decide +kernel
theorem dL_wet_50 : decode cL_wet 50 = .ok (.aload_n 1, 1) := by decide +kernel
theorem dL_wet_51 : decode cL_wet 51 = .ok (.iload 5, 2) := by decide +kernel
theorem dL_wet_53 : decode cL_wet 53 = .ok (.iaload, 1) := by decide +kernel
theorem dL_wet_54 : decode cL_wet 54 = .ok (.imul, 1) := by decide +kernel
theorem dL_wet_55 : decode cL_wet 55 = .ok (.if_icmp .lt 10, 3) := by decide +kernel
theorem dL_wet_58 : decode cL_wet 58 = .ok (.iconst 1, 1) := by decide +kernel
theorem dL_wet_59 : decode cL_wet 59 = .ok (.iload 5, 2) := by decide +kernel
theorem dL_wet_61 : decode cL_wet 61 = .ok (.ishl, 1) := by decide +kernel
theorem dL_wet_62 : decode cL_wet 62 = .ok (.goto 4, 3) := by decide +kernel
theorem dL_wet_65 : decode cL_wet 65 = .ok (.iconst 0, 1) := by decide +kernel
theorem dL_wet_66 : decode cL_wet 66 = .ok (.ior, 1) := by decide +kernel
theorem dL_wet_67 : decode cL_wet 67 = .ok (.istore 4, 2) := by decide +kernel
theorem dL_wet_69 : decode cL_wet 69 = .ok (.iinc 5 1, 3) := by decide +kernel
theorem dL_wet_72 : decode cL_wet 72 = .ok (.goto (-66), 3) := by decide +kernel
theorem dL_wet_75 : decode cL_wet 75 = .ok (.iload 4, 2) := by decide +kernel
theorem dL_wet_77 : decode cL_wet 77 = .ok (.ireturn, 1) := by decide +kernel
theorem dL_wetAt_0 : decode cL_wetAt 0 = .ok (.iconst 0, 1) := by decide +kernel
theorem dL_wetAt_1 : decode cL_wetAt 1 = .ok (.istore 5, 2) := by decide +kernel
theorem dL_wetAt_3 : decode cL_wetAt 3 = .ok (.iconst 0, 1) := by decide +kernel
theorem dL_wetAt_4 : decode cL_wetAt 4 = .ok (.istore 6, 2) := by decide +kernel
theorem dL_wetAt_6 : decode cL_wetAt 6 = .ok (.iconst 0, 1) := by decide +kernel
theorem dL_wetAt_7 : decode cL_wetAt 7 = .ok (.istore 7, 2) := by decide +kernel
theorem dL_wetAt_9 : decode cL_wetAt 9 = .ok (.iload 7, 2) := by decide +kernel
theorem dL_wetAt_11 : decode cL_wetAt 11 = .ok (.iload_n 3, 1) := by decide +kernel
theorem dL_wetAt_12 : decode cL_wetAt 12 = .ok (.if_icmp .ge 51, 3) := by decide +kernel
theorem dL_wetAt_15 : decode cL_wetAt 15 = .ok (.iload 5, 2) := by decide +kernel
theorem dL_wetAt_17 : decode cL_wetAt 17 = .ok (.aload_n 2, 1) := by decide +kernel
theorem dL_wetAt_18 : decode cL_wetAt 18 = .ok (.iload 7, 2) := by decide +kernel
theorem dL_wetAt_20 : decode cL_wetAt 20 = .ok (.invokestatic 48, 3) := by decide +kernel
theorem dL_wetAt_23 : decode cL_wetAt 23 = .ok (.aload_n 0, 1) := by decide +kernel
theorem dL_wetAt_24 : decode cL_wetAt 24 = .ok (.aload 4, 2) := by decide +kernel
theorem dL_wetAt_26 : decode cL_wetAt 26 = .ok (.iload 7, 2) := by decide +kernel
theorem dL_wetAt_28 : decode cL_wetAt 28 = .ok (.iaload, 1) := by decide +kernel
theorem dL_wetAt_29 : decode cL_wetAt 29 = .ok (.invokestatic 42, 3) := by decide +kernel
theorem dL_wetAt_32 : decode cL_wetAt 32 = .ok (.imul, 1) := by decide +kernel
theorem dL_wetAt_33 : decode cL_wetAt 33 = .ok (.iadd, 1) := by decide +kernel
theorem dL_wetAt_34 : decode cL_wetAt 34 = .ok (.istore 5, 2) := by decide +kernel
theorem dL_wetAt_36 : decode cL_wetAt 36 = .ok (.iload 6, 2) := by decide +kernel
theorem dL_wetAt_38 : decode cL_wetAt 38 = .ok (.aload_n 2, 1) := by decide +kernel
theorem dL_wetAt_39 : decode cL_wetAt 39 = .ok (.iload 7, 2) := by decide +kernel
theorem dL_wetAt_41 : decode cL_wetAt 41 = .ok (.invokestatic 48, 3) := by decide +kernel
theorem dL_wetAt_44 : decode cL_wetAt 44 = .ok (.aload_n 0, 1) := by decide +kernel
theorem dL_wetAt_45 : decode cL_wetAt 45 = .ok (.aload 4, 2) := by decide +kernel
theorem dL_wetAt_47 : decode cL_wetAt 47 = .ok (.iload 7, 2) := by decide +kernel
theorem dL_wetAt_49 : decode cL_wetAt 49 = .ok (.iaload, 1) := by decide +kernel
theorem dL_wetAt_50 : decode cL_wetAt 50 = .ok (.invokestatic 45, 3) := by decide +kernel
theorem dL_wetAt_53 : decode cL_wetAt 53 = .ok (.imul, 1) := by decide +kernel
theorem dL_wetAt_54 : decode cL_wetAt 54 = .ok (.iadd, 1) := by decide +kernel
theorem dL_wetAt_55 : decode cL_wetAt 55 = .ok (.istore 6, 2) := by decide +kernel
theorem dL_wetAt_57 : decode cL_wetAt 57 = .ok (.iinc 7 1, 3) := by decide +kernel
theorem dL_wetAt_60 : decode cL_wetAt 60 = .ok (.goto (-51), 3) := by decide +kernel
theorem dL_wetAt_63 : decode cL_wetAt 63 = .ok (.aload_n 0, 1) := by decide +kernel
theorem dL_wetAt_64 : decode cL_wetAt 64 = .ok (.aload_n 1, 1) := by decide +kernel
theorem dL_wetAt_65 : decode cL_wetAt 65 = .ok (.iload 5, 2) := by decide +kernel
theorem dL_wetAt_67 : decode cL_wetAt 67 = .ok (.iload 6, 2) := by decide +kernel
theorem dL_wetAt_69 : decode cL_wetAt 69 = .ok (.invokestatic 51, 3) := by decide +kernel
theorem dL_wetAt_72 : decode cL_wetAt 72 = .ok (.ireturn, 1) := by decide +kernel
