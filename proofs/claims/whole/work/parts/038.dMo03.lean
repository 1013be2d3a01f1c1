theorem d_Mo_areFlags_0 : decode cd_Mo_areFlags 0 = .ok (.iload_n 0, 1) := by decide +kernel
theorem d_Mo_areFlags_1 : decode cd_Mo_areFlags 1 = .ok (.bipush 64, 2) := by decide +kernel
theorem d_Mo_areFlags_3 : decode cd_Mo_areFlags 3 = .ok (.if_icmp .lt 20, 3) := by decide +kernel
theorem d_Mo_areFlags_6 : decode cd_Mo_areFlags 6 = .ok (.iload_n 0, 1) := by decide +kernel
theorem d_Mo_areFlags_7 : decode cd_Mo_areFlags 7 = .ok (.sipush 128, 3) := by decide +kernel
theorem d_Mo_areFlags_10 : decode cd_Mo_areFlags 10 = .ok (.if_icmp .ge 13, 3) := by decide +kernel
theorem d_Mo_areFlags_13 : decode cd_Mo_areFlags 13 = .ok (.iload_n 0, 1) := by decide +kernel
theorem d_Mo_areFlags_14 : decode cd_Mo_areFlags 14 = .ok (.iconst 2, 1) := by decide +kernel
theorem d_Mo_areFlags_15 : decode cd_Mo_areFlags 15 = .ok (.iand, 1) := by decide +kernel
theorem d_Mo_areFlags_16 : decode cd_Mo_areFlags 16 = .ok (.ifCond .ne 7, 3) := by decide +kernel
theorem d_Mo_areFlags_19 : decode cd_Mo_areFlags 19 = .ok (.iconst 1, 1) := by decide +kernel
theorem d_Mo_areFlags_20 : decode cd_Mo_areFlags 20 = .ok (.goto 4, 3) := by decide +kernel
theorem d_Mo_areFlags_23 : decode cd_Mo_areFlags 23 = .ok (.iconst 0, 1) := by decide +kernel
theorem d_Mo_areFlags_24 : decode cd_Mo_areFlags 24 = .ok (.ireturn, 1) := by decide +kernel
theorem d_Mo_makeNumber_0 : decode cd_Mo_makeNumber 0 = .ok (.iconst 0, 1) := by decide +kernel
theorem d_Mo_makeNumber_1 : decode cd_Mo_makeNumber 1 = .ok (.istore 4, 2) := by decide +kernel
theorem d_Mo_makeNumber_3 : decode cd_Mo_makeNumber 3 = .ok (.iload 4, 2) := by decide +kernel
theorem d_Mo_makeNumber_5 : decode cd_Mo_makeNumber 5 = .ok (.iload_n 3, 1) := by decide +kernel
theorem d_Mo_makeNumber_6 : decode cd_Mo_makeNumber 6 = .ok (.if_icmp .ge 25, 3) := by decide +kernel
theorem d_Mo_makeNumber_9 : decode cd_Mo_makeNumber 9 = .ok (.aload_n 0, 1) := by decide +kernel
theorem d_Mo_makeNumber_10 : decode cd_Mo_makeNumber 10 = .ok (.lload_n 1, 1) := by decide +kernel
theorem d_Mo_makeNumber_11 : decode cd_Mo_makeNumber 11 = .ok (.bipush 8, 2) := by decide +kernel
theorem d_Mo_makeNumber_13 : decode cd_Mo_makeNumber 13 = .ok (.iload 4, 2) := by decide +kernel
theorem d_Mo_makeNumber_15 : decode cd_Mo_makeNumber 15 = .ok (.imul, 1) := by decide +kernel
theorem d_Mo_makeNumber_16 : decode cd_Mo_makeNumber 16 = .ok (.lshr, 1) := by decide +kernel
theorem d_Mo_makeNumber_17 : decode cd_Mo_makeNumber 17 = .ok (.ldc2_w 42, 3) := by decide +kernel
theorem d_Mo_makeNumber_20 : decode cd_Mo_makeNumber 20 = .ok (.land, 1) := by decide +kernel
theorem d_Mo_makeNumber_21 : decode cd_Mo_makeNumber 21 = .ok (.l2i, 1) := by decide +kernel
theorem d_Mo_makeNumber_22 : decode cd_Mo_makeNumber 22 = .ok (.invokevirtual 149, 3) := by decide +kernel
theorem d_Mo_makeNumber_25 : decode cd_Mo_makeNumber 25 = .ok (.iinc 4 1, 3) := by decide +kernel
theorem d_Mo_makeNumber_28 : decode cd_Mo_makeNumber 28 = .ok (.goto (-25), 3) := by decide +kernel
theorem d_Mo_makeNumber_31 : decode cd_Mo_makeNumber 31 = .ok (.return_, 1) := by decide +kernel
theorem d_Mo_make_0 : decode cd_Mo_make 0 = .ok (.aload_n 0, 1) := by decide +kernel
theorem d_Mo_make_1 : decode cd_Mo_make 1 = .ok (.getfield 146, 3) := by decide +kernel
theorem d_Mo_make_4 : decode cd_Mo_make 4 = .ok (.sipush 9000, 3) := by decide +kernel
theorem d_Mo_make_7 : decode cd_Mo_make 7 = .ok (.if_icmp .ge 13, 3) := by decide +kernel
theorem d_Mo_make_10 : decode cd_Mo_make 10 = .ok (.aload_n 0, 1) := by decide +kernel
theorem d_Mo_make_11 : decode cd_Mo_make 11 = .ok (.getfield 22, 3) := by decide +kernel
theorem d_Mo_make_14 : decode cd_Mo_make 14 = .ok (.aload_n 0, 1) := by decide +kernel
theorem d_Mo_make_15 : decode cd_Mo_make 15 = .ok (.getfield 146, 3) := by decide +kernel
theorem d_Mo_make_18 : decode cd_Mo_make 18 = .ok (.iload_n 1, 1) := by decide +kernel
theorem d_Mo_make_19 : decode cd_Mo_make 19 = .ok (.iastore, 1) := by decide +kernel
theorem d_Mo_make_20 : decode cd_Mo_make 20 = .ok (.aload_n 0, 1) := by decide +kernel
theorem d_Mo_make_21 : decode cd_Mo_make 21 = .ok (.dup, 1) := by decide +kernel
theorem d_Mo_make_22 : decode cd_Mo_make 22 = .ok (.getfield 146, 3) := by decide +kernel
theorem d_Mo_make_25 : decode cd_Mo_make 25 = .ok (.iconst 1, 1) := by decide +kernel
theorem d_Mo_make_26 : decode cd_Mo_make 26 = .ok (.iadd, 1) := by decide +kernel
theorem d_Mo_make_27 : decode cd_Mo_make 27 = .ok (.putfield 146, 3) := by decide +kernel
theorem d_Mo_make_30 : decode cd_Mo_make 30 = .ok (.return_, 1) := by decide +kernel
theorem d_Mo_unframe_0 : decode cd_Mo_unframe 0 = .ok (.iload_n 1, 1) := by decide +kernel
theorem d_Mo_unframe_1 : decode cd_Mo_unframe 1 = .ok (.ifCond .lt 10, 3) := by decide +kernel
theorem d_Mo_unframe_4 : decode cd_Mo_unframe 4 = .ok (.iload_n 1, 1) := by decide +kernel
theorem d_Mo_unframe_5 : decode cd_Mo_unframe 5 = .ok (.sipush 8000, 3) := by decide +kernel
theorem d_Mo_unframe_8 : decode cd_Mo_unframe 8 = .ok (.if_icmp .le 6, 3) := by decide +kernel
theorem d_Mo_unframe_11 : decode cd_Mo_unframe 11 = .ok (.bipush (-12), 2) := by decide +kernel
theorem d_Mo_unframe_13 : decode cd_Mo_unframe 13 = .ok (.ireturn, 1) := by decide +kernel
theorem d_Mo_unframe_14 : decode cd_Mo_unframe 14 = .ok (.aload_n 0, 1) := by decide +kernel
theorem d_Mo_unframe_15 : decode cd_Mo_unframe 15 = .ok (.iconst 0, 1) := by decide +kernel
theorem d_Mo_unframe_16 : decode cd_Mo_unframe 16 = .ok (.putfield 127, 3) := by decide +kernel
theorem d_Mo_unframe_19 : decode cd_Mo_unframe 19 = .ok (.aload_n 0, 1) := by decide +kernel
theorem d_Mo_unframe_20 : decode cd_Mo_unframe 20 = .ok (.iconst 0, 1) := by decide +kernel
theorem d_Mo_unframe_21 : decode cd_Mo_unframe 21 = .ok (.putfield 182, 3) := by decide +kernel
theorem d_Mo_unframe_24 : decode cd_Mo_unframe 24 = .ok (.iconst 0, 1) := by decide +kernel
theorem d_Mo_unframe_25 : decode cd_Mo_unframe 25 = .ok (.istore_n 2, 1) := by decide +kernel
theorem d_Mo_unframe_26 : decode cd_Mo_unframe 26 = .ok (.aload_n 0, 1) := by decide +kernel
theorem d_Mo_unframe_27 : decode cd_Mo_unframe 27 = .ok (.getfield 127, 3) := by decide +kernel
theorem d_Mo_unframe_30 : decode cd_Mo_unframe 30 = .ok (.aload_n 0, 1) := by decide +kernel
theorem d_Mo_unframe_31 : decode cd_Mo_unframe 31 = .ok (.getfield 38, 3) := by decide +kernel
theorem d_Mo_unframe_34 : decode cd_Mo_unframe 34 = .ok (.if_icmp .ge 16, 3) := by decide +kernel
theorem d_Mo_unframe_37 : decode cd_Mo_unframe 37 = .ok (.iload_n 2, 1) := by decide +kernel
theorem d_Mo_unframe_38 : decode cd_Mo_unframe 38 = .ok (.ifCond .ne 12, 3) := by decide +kernel
theorem d_Mo_unframe_41 : decode cd_Mo_unframe 41 = .ok (.aload_n 0, 1) := by decide +kernel
theorem d_Mo_unframe_42 : decode cd_Mo_unframe 42 = .ok (.iload_n 1, 1) := by decide +kernel
theorem d_Mo_unframe_43 : decode cd_Mo_unframe 43 = .ok (.invokevirtual 189, 3) := by decide +kernel
theorem d_Mo_unframe_46 : decode cd_Mo_unframe 46 = .ok (.istore_n 2, 1) := by decide +kernel
theorem d_Mo_unframe_47 : decode cd_Mo_unframe 47 = .ok (.goto (-21), 3) := by decide +kernel
theorem d_Mo_unframe_50 : decode cd_Mo_unframe 50 = .ok (.iload_n 2, 1) := by decide +kernel
theorem d_Mo_unframe_51 : decode cd_Mo_unframe 51 = .ok (.ifCond .le 6, 3) := by decide +kernel
theorem d_Mo_unframe_54 : decode cd_Mo_unframe 54 = .ok (.iload_n 2, 1) := by decide +kernel
theorem d_Mo_unframe_55 : decode cd_Mo_unframe 55 = .ok (.ineg, 1) := by decide +kernel
theorem d_Mo_unframe_56 : decode cd_Mo_unframe 56 = .ok (.ireturn, 1) := by decide +kernel
theorem d_Mo_unframe_57 : decode cd_Mo_unframe 57 = .ok (.aload_n 0, 1) := by decide +kernel
theorem d_Mo_unframe_58 : decode cd_Mo_unframe 58 = .ok (.aload_n 0, 1) := by decide +kernel
theorem d_Mo_unframe_59 : decode cd_Mo_unframe 59 = .ok (.getfield 38, 3) := by decide +kernel
theorem d_Mo_unframe_62 : decode cd_Mo_unframe 62 = .ok (.putfield 133, 3) := by decide +kernel
theorem d_Mo_unframe_65 : decode cd_Mo_unframe 65 = .ok (.aload_n 0, 1) := by decide +kernel
theorem d_Mo_unframe_66 : decode cd_Mo_unframe 66 = .ok (.aload_n 0, 1) := by decide +kernel
theorem d_Mo_unframe_67 : decode cd_Mo_unframe 67 = .ok (.getfield 31, 3) := by decide +kernel
theorem d_Mo_unframe_70 : decode cd_Mo_unframe 70 = .ok (.aload_n 0, 1) := by decide +kernel
theorem d_Mo_unframe_71 : decode cd_Mo_unframe 71 = .ok (.getfield 182, 3) := by decide +kernel
theorem d_Mo_unframe_74 : decode cd_Mo_unframe 74 = .ok (.invokevirtual 120, 3) := by decide +kernel
theorem d_Mo_unframe_77 : decode cd_Mo_unframe 77 = .ok (.ireturn, 1) := by decide +kernel
theorem d_Mo_readNext_0 : decode cd_Mo_readNext 0 = .ok (.aload_n 0, 1) := by decide +kernel
theorem d_Mo_readNext_1 : decode cd_Mo_readNext 1 = .ok (.iconst 4, 1) := by decide +kernel
theorem d_Mo_readNext_2 : decode cd_Mo_readNext 2 = .ok (.invokevirtual 164, 3) := by decide +kernel
theorem d_Mo_readNext_5 : decode cd_Mo_readNext 5 = .ok (.ifCond .ne 13, 3) := by decide +kernel
theorem d_Mo_readNext_8 : decode cd_Mo_readNext 8 = .ok (.aload_n 0, 1) := by decide +kernel
theorem d_Mo_readNext_9 : decode cd_Mo_readNext 9 = .ok (.iconst 1, 1) := by decide +kernel
theorem d_Mo_readNext_10 : decode cd_Mo_readNext 10 = .ok (.aload_n 0, 1) := by decide +kernel
theorem d_Mo_readNext_11 : decode cd_Mo_readNext 11 = .ok (.getfield 38, 3) := by decide +kernel
theorem d_Mo_readNext_14 : decode cd_Mo_readNext 14 = .ok (.invokevirtual 167, 3) := by decide +kernel
theorem d_Mo_readNext_17 : decode cd_Mo_readNext 17 = .ok (.ireturn, 1) := by decide +kernel
theorem d_Mo_readNext_18 : decode cd_Mo_readNext 18 = .ok (.aload_n 0, 1) := by decide +kernel
theorem d_Mo_readNext_19 : decode cd_Mo_readNext 19 = .ok (.aload_n 0, 1) := by decide +kernel
theorem d_Mo_readNext_20 : decode cd_Mo_readNext 20 = .ok (.getfield 127, 3) := by decide +kernel
theorem d_Mo_readNext_23 : decode cd_Mo_readNext 23 = .ok (.iconst 4, 1) := by decide +kernel
theorem d_Mo_readNext_24 : decode cd_Mo_readNext 24 = .ok (.invokevirtual 170, 3) := by decide +kernel
theorem d_Mo_readNext_27 : decode cd_Mo_readNext 27 = .ok (.lstore_n 2, 1) := by decide +kernel
theorem d_Mo_readNext_28 : decode cd_Mo_readNext 28 = .ok (.lload_n 2, 1) := by decide +kernel
theorem d_Mo_readNext_29 : decode cd_Mo_readNext 29 = .ok (.ldc2_w 174, 3) := by decide +kernel
theorem d_Mo_readNext_32 : decode cd_Mo_readNext 32 = .ok (.lcmp, 1) := by decide +kernel
theorem d_Mo_readNext_33 : decode cd_Mo_readNext 33 = .ok (.ifCond .lt 100, 3) := by decide +kernel
theorem d_Mo_readNext_36 : decode cd_Mo_readNext 36 = .ok (.lload_n 2, 1) := by decide +kernel
theorem d_Mo_readNext_37 : decode cd_Mo_readNext 37 = .ok (.ldc2_w 176, 3) := by decide +kernel
theorem d_Mo_readNext_40 : decode cd_Mo_readNext 40 = .ok (.lcmp, 1) := by decide +kernel
theorem d_Mo_readNext_41 : decode cd_Mo_readNext 41 = .ok (.ifCond .gt 92, 3) := by decide +kernel
theorem d_Mo_readNext_44 : decode cd_Mo_readNext 44 = .ok (.aload_n 0, 1) := by decide +kernel
theorem d_Mo_readNext_45 : decode cd_Mo_readNext 45 = .ok (.dup, 1) := by decide +kernel
theorem d_Mo_readNext_46 : decode cd_Mo_readNext 46 = .ok (.getfield 127, 3) := by decide +kernel
theorem d_Mo_readNext_49 : decode cd_Mo_readNext 49 = .ok (.iconst 4, 1) := by decide +kernel
theorem d_Mo_readNext_50 : decode cd_Mo_readNext 50 = .ok (.iadd, 1) := by decide +kernel
theorem d_Mo_readNext_51 : decode cd_Mo_readNext 51 = .ok (.putfield 127, 3) := by decide +kernel
theorem d_Mo_readNext_54 : decode cd_Mo_readNext 54 = .ok (.aload_n 0, 1) := by decide +kernel
theorem d_Mo_readNext_55 : decode cd_Mo_readNext 55 = .ok (.iconst 4, 1) := by decide +kernel
theorem d_Mo_readNext_56 : decode cd_Mo_readNext 56 = .ok (.invokevirtual 164, 3) := by decide +kernel
theorem d_Mo_readNext_59 : decode cd_Mo_readNext 59 = .ok (.ifCond .ne 13, 3) := by decide +kernel
theorem d_Mo_readNext_62 : decode cd_Mo_readNext 62 = .ok (.aload_n 0, 1) := by decide +kernel
theorem d_Mo_readNext_63 : decode cd_Mo_readNext 63 = .ok (.iconst 1, 1) := by decide +kernel
theorem d_Mo_readNext_64 : decode cd_Mo_readNext 64 = .ok (.aload_n 0, 1) := by decide +kernel
theorem d_Mo_readNext_65 : decode cd_Mo_readNext 65 = .ok (.getfield 38, 3) := by decide +kernel
theorem d_Mo_readNext_68 : decode cd_Mo_readNext 68 = .ok (.invokevirtual 167, 3) := by decide +kernel
theorem d_Mo_readNext_71 : decode cd_Mo_readNext 71 = .ok (.ireturn, 1) := by decide +kernel
theorem d_Mo_readNext_72 : decode cd_Mo_readNext 72 = .ok (.aload_n 0, 1) := by decide +kernel
theorem d_Mo_readNext_73 : decode cd_Mo_readNext 73 = .ok (.aload_n 0, 1) := by decide +kernel
theorem d_Mo_readNext_74 : decode cd_Mo_readNext 74 = .ok (.getfield 127, 3) := by decide +kernel
theorem d_Mo_readNext_77 : decode cd_Mo_readNext 77 = .ok (.iconst 4, 1) := by decide +kernel
theorem d_Mo_readNext_78 : decode cd_Mo_readNext 78 = .ok (.invokevirtual 170, 3) := by decide +kernel
theorem d_Mo_readNext_81 : decode cd_Mo_readNext 81 = .ok (.lstore 4, 2) := by decide +kernel
theorem d_Mo_readNext_83 : decode cd_Mo_readNext 83 = .ok (.aload_n 0, 1) := by decide +kernel
theorem d_Mo_readNext_84 : decode cd_Mo_readNext 84 = .ok (.dup, 1) := by decide +kernel
theorem d_Mo_readNext_85 : decode cd_Mo_readNext 85 = .ok (.getfield 127, 3) := by decide +kernel
theorem d_Mo_readNext_88 : decode cd_Mo_readNext 88 = .ok (.iconst 4, 1) := by decide +kernel
theorem d_Mo_readNext_89 : decode cd_Mo_readNext 89 = .ok (.iadd, 1) := by decide +kernel
theorem d_Mo_readNext_90 : decode cd_Mo_readNext 90 = .ok (.putfield 127, 3) := by decide +kernel
theorem d_Mo_readNext_93 : decode cd_Mo_readNext 93 = .ok (.lload 4, 2) := by decide +kernel
theorem d_Mo_readNext_95 : decode cd_Mo_readNext 95 = .ok (.aload_n 0, 1) := by decide +kernel
theorem d_Mo_readNext_96 : decode cd_Mo_readNext 96 = .ok (.getfield 38, 3) := by decide +kernel
theorem d_Mo_readNext_99 : decode cd_Mo_readNext 99 = .ok (.aload_n 0, 1) := by decide +kernel
theorem d_Mo_readNext_100 : decode cd_Mo_readNext 100 = .ok (.getfield 127, 3) := by decide +kernel
theorem d_Mo_readNext_103 : decode cd_Mo_readNext 103 = .ok (.isub, 1) := by decide +kernel
theorem d_Mo_readNext_104 : decode cd_Mo_readNext 104 = .ok (.i2l, 1) := by decide +kernel
theorem d_Mo_readNext_105 : decode cd_Mo_readNext 105 = .ok (.lcmp, 1) := by decide +kernel
theorem d_Mo_readNext_106 : decode cd_Mo_readNext 106 = .ok (.ifCond .le 13, 3) := by decide +kernel
theorem d_Mo_readNext_109 : decode cd_Mo_readNext 109 = .ok (.aload_n 0, 1) := by decide +kernel
theorem d_Mo_readNext_110 : decode cd_Mo_readNext 110 = .ok (.iconst 1, 1) := by decide +kernel
theorem d_Mo_readNext_111 : decode cd_Mo_readNext 111 = .ok (.aload_n 0, 1) := by decide +kernel
theorem d_Mo_readNext_112 : decode cd_Mo_readNext 112 = .ok (.getfield 38, 3) := by decide +kernel
theorem d_Mo_readNext_115 : decode cd_Mo_readNext 115 = .ok (.invokevirtual 167, 3) := by decide +kernel
theorem d_Mo_readNext_118 : decode cd_Mo_readNext 118 = .ok (.ireturn, 1) := by decide +kernel
theorem d_Mo_readNext_119 : decode cd_Mo_readNext 119 = .ok (.aload_n 0, 1) := by decide +kernel
theorem d_Mo_readNext_120 : decode cd_Mo_readNext 120 = .ok (.dup, 1) := by decide +kernel
theorem d_Mo_readNext_121 : decode cd_Mo_readNext 121 = .ok (.getfield 127, 3) := by decide +kernel
theorem d_Mo_readNext_124 : decode cd_Mo_readNext 124 = .ok (.lload 4, 2) := by decide +kernel
theorem d_Mo_readNext_126 : decode cd_Mo_readNext 126 = .ok (.l2i, 1) := by decide +kernel
theorem d_Mo_readNext_127 : decode cd_Mo_readNext 127 = .ok (.iadd, 1) := by decide +kernel
theorem d_Mo_readNext_128 : decode cd_Mo_readNext 128 = .ok (.putfield 127, 3) := by decide +kernel
theorem d_Mo_readNext_131 : decode cd_Mo_readNext 131 = .ok (.iconst 0, 1) := by decide +kernel
theorem d_Mo_readNext_132 : decode cd_Mo_readNext 132 = .ok (.ireturn, 1) := by decide +kernel
theorem d_Mo_readNext_133 : decode cd_Mo_readNext 133 = .ok (.lload_n 2, 1) := by decide +kernel
theorem d_Mo_readNext_134 : decode cd_Mo_readNext 134 = .ok (.ldc2_w 156, 3) := by decide +kernel
theorem d_Mo_readNext_137 : decode cd_Mo_readNext 137 = .ok (.lcmp, 1) := by decide +kernel
theorem d_Mo_readNext_138 : decode cd_Mo_readNext 138 = .ok (.ifCond .eq 13, 3) := by decide +kernel
theorem d_Mo_readNext_141 : decode cd_Mo_readNext 141 = .ok (.aload_n 0, 1) := by decide +kernel
theorem d_Mo_readNext_142 : decode cd_Mo_readNext 142 = .ok (.iconst 4, 1) := by decide +kernel
theorem d_Mo_readNext_143 : decode cd_Mo_readNext 143 = .ok (.aload_n 0, 1) := by decide +kernel
theorem d_Mo_readNext_144 : decode cd_Mo_readNext 144 = .ok (.getfield 127, 3) := by decide +kernel
theorem d_Mo_readNext_147 : decode cd_Mo_readNext 147 = .ok (.invokevirtual 167, 3) := by decide +kernel
theorem d_Mo_readNext_150 : decode cd_Mo_readNext 150 = .ok (.ireturn, 1) := by decide +kernel
theorem d_Mo_readNext_151 : decode cd_Mo_readNext 151 = .ok (.aload_n 0, 1) := by decide +kernel
theorem d_Mo_readNext_152 : decode cd_Mo_readNext 152 = .ok (.dup, 1) := by decide +kernel
theorem d_Mo_readNext_153 : decode cd_Mo_readNext 153 = .ok (.getfield 127, 3) := by decide +kernel
theorem d_Mo_readNext_156 : decode cd_Mo_readNext 156 = .ok (.iconst 4, 1) := by decide +kernel
theorem d_Mo_readNext_157 : decode cd_Mo_readNext 157 = .ok (.iadd, 1) := by decide +kernel
theorem d_Mo_readNext_158 : decode cd_Mo_readNext 158 = .ok (.putfield 127, 3) := by decide +kernel
theorem d_Mo_readNext_161 : decode cd_Mo_readNext 161 = .ok (.aload_n 0, 1) := by decide +kernel
theorem d_Mo_readNext_162 : decode cd_Mo_readNext 162 = .ok (.iload_n 1, 1) := by decide +kernel
theorem d_Mo_readNext_163 : decode cd_Mo_readNext 163 = .ok (.invokevirtual 178, 3) := by decide +kernel
theorem d_Mo_readNext_166 : decode cd_Mo_readNext 166 = .ok (.ireturn, 1) := by decide +kernel
theorem d_Mo_has_0 : decode cd_Mo_has 0 = .ok (.aload_n 0, 1) := by decide +kernel
theorem d_Mo_has_1 : decode cd_Mo_has 1 = .ok (.getfield 127, 3) := by decide +kernel
theorem d_Mo_has_4 : decode cd_Mo_has 4 = .ok (.iload_n 1, 1) := by decide +kernel
theorem d_Mo_has_5 : decode cd_Mo_has 5 = .ok (.iadd, 1) := by decide +kernel
theorem d_Mo_has_6 : decode cd_Mo_has 6 = .ok (.aload_n 0, 1) := by decide +kernel
theorem d_Mo_has_7 : decode cd_Mo_has 7 = .ok (.getfield 38, 3) := by decide +kernel
theorem d_Mo_has_10 : decode cd_Mo_has 10 = .ok (.if_icmp .gt 7, 3) := by decide +kernel
theorem d_Mo_has_13 : decode cd_Mo_has 13 = .ok (.iconst 1, 1) := by decide +kernel
theorem d_Mo_has_14 : decode cd_Mo_has 14 = .ok (.goto 4, 3) := by decide +kernel
theorem d_Mo_has_17 : decode cd_Mo_has 17 = .ok (.iconst 0, 1) := by decide +kernel
theorem d_Mo_has_18 : decode cd_Mo_has 18 = .ok (.ireturn, 1) := by decide +kernel
theorem d_Mo_fault_0 : decode cd_Mo_fault 0 = .ok (.aload_n 0, 1) := by decide +kernel
theorem d_Mo_fault_1 : decode cd_Mo_fault 1 = .ok (.iload_n 2, 1) := by decide +kernel
theorem d_Mo_fault_2 : decode cd_Mo_fault 2 = .ok (.putfield 133, 3) := by decide +kernel
theorem d_Mo_fault_5 : decode cd_Mo_fault 5 = .ok (.iload_n 1, 1) := by decide +kernel
theorem d_Mo_fault_6 : decode cd_Mo_fault 6 = .ok (.ireturn, 1) := by decide +kernel
theorem d_Mo_numberAt_0 : decode cd_Mo_numberAt 0 = .ok (.lconst 0, 1) := by decide +kernel
theorem d_Mo_numberAt_1 : decode cd_Mo_numberAt 1 = .ok (.lstore_n 3, 1) := by decide +kernel
theorem d_Mo_numberAt_2 : decode cd_Mo_numberAt 2 = .ok (.iload_n 2, 1) := by decide +kernel
theorem d_Mo_numberAt_3 : decode cd_Mo_numberAt 3 = .ok (.iconst 1, 1) := by decide +kernel
theorem d_Mo_numberAt_4 : decode cd_Mo_numberAt 4 = .ok (.isub, 1) := by decide +kernel
theorem d_Mo_numberAt_5 : decode cd_Mo_numberAt 5 = .ok (.istore 5, 2) := by decide +kernel
theorem d_Mo_numberAt_7 : decode cd_Mo_numberAt 7 = .ok (.iload 5, 2) := by decide +kernel
theorem d_Mo_numberAt_9 : decode cd_Mo_numberAt 9 = .ok (.ifCond .lt 25, 3) := by decide +kernel
theorem d_Mo_numberAt_12 : decode cd_Mo_numberAt 12 = .ok (.lload_n 3, 1) := by decide +kernel
theorem d_Mo_numberAt_13 : decode cd_Mo_numberAt 13 = .ok (.bipush 8, 2) := by decide +kernel
theorem d_Mo_numberAt_15 : decode cd_Mo_numberAt 15 = .ok (.lshl, 1) := by decide +kernel
theorem d_Mo_numberAt_16 : decode cd_Mo_numberAt 16 = .ok (.aload_n 0, 1) := by decide +kernel
theorem d_Mo_numberAt_17 : decode cd_Mo_numberAt 17 = .ok (.getfield 7, 3) := by decide +kernel
theorem d_Mo_numberAt_20 : decode cd_Mo_numberAt 20 = .ok (.iload_n 1, 1) := by decide +kernel
theorem d_Mo_numberAt_21 : decode cd_Mo_numberAt 21 = .ok (.iload 5, 2) := by decide +kernel
theorem d_Mo_numberAt_23 : decode cd_Mo_numberAt 23 = .ok (.iadd, 1) := by decide +kernel
theorem d_Mo_numberAt_24 : decode cd_Mo_numberAt 24 = .ok (.iaload, 1) := by decide +kernel
theorem d_Mo_numberAt_25 : decode cd_Mo_numberAt 25 = .ok (.i2l, 1) := by decide +kernel
theorem d_Mo_numberAt_26 : decode cd_Mo_numberAt 26 = .ok (.lor, 1) := by decide +kernel
theorem d_Mo_numberAt_27 : decode cd_Mo_numberAt 27 = .ok (.lstore_n 3, 1) := by decide +kernel
theorem d_Mo_numberAt_28 : decode cd_Mo_numberAt 28 = .ok (.iinc 5 (-1), 3) := by decide +kernel
theorem d_Mo_numberAt_31 : decode cd_Mo_numberAt 31 = .ok (.goto (-24), 3) := by decide +kernel
theorem d_Mo_numberAt_34 : decode cd_Mo_numberAt 34 = .ok (.lload_n 3, 1) := by decide +kernel
theorem d_Mo_numberAt_35 : decode cd_Mo_numberAt 35 = .ok (.lreturn, 1) := by decide +kernel
theorem d_Mo_readFrame_0 : decode cd_Mo_readFrame 0 = .ok (.aload_n 0, 1) := by decide +kernel
theorem d_Mo_readFrame_1 : decode cd_Mo_readFrame 1 = .ok (.getfield 127, 3) := by decide +kernel
theorem d_Mo_readFrame_4 : decode cd_Mo_readFrame 4 = .ok (.istore_n 2, 1) := by decide +kernel
theorem d_Mo_readFrame_5 : decode cd_Mo_readFrame 5 = .ok (.aload_n 0, 1) := by decide +kernel
theorem d_Mo_readFrame_6 : decode cd_Mo_readFrame 6 = .ok (.iconst 1, 1) := by decide +kernel
theorem d_Mo_readFrame_7 : decode cd_Mo_readFrame 7 = .ok (.invokevirtual 164, 3) := by decide +kernel
theorem d_Mo_readFrame_10 : decode cd_Mo_readFrame 10 = .ok (.ifCond .ne 13, 3) := by decide +kernel
theorem d_Mo_readFrame_13 : decode cd_Mo_readFrame 13 = .ok (.aload_n 0, 1) := by decide +kernel
theorem d_Mo_readFrame_14 : decode cd_Mo_readFrame 14 = .ok (.iconst 1, 1) := by decide +kernel
theorem d_Mo_readFrame_15 : decode cd_Mo_readFrame 15 = .ok (.aload_n 0, 1) := by decide +kernel
theorem d_Mo_readFrame_16 : decode cd_Mo_readFrame 16 = .ok (.getfield 38, 3) := by decide +kernel
theorem d_Mo_readFrame_19 : decode cd_Mo_readFrame 19 = .ok (.invokevirtual 167, 3) := by decide +kernel
theorem d_Mo_readFrame_22 : decode cd_Mo_readFrame 22 = .ok (.ireturn, 1) := by decide +kernel
theorem d_Mo_readFrame_23 : decode cd_Mo_readFrame 23 = .ok (.aload_n 0, 1) := by decide +kernel
theorem d_Mo_readFrame_24 : decode cd_Mo_readFrame 24 = .ok (.getfield 7, 3) := by decide +kernel
theorem d_Mo_readFrame_27 : decode cd_Mo_readFrame 27 = .ok (.aload_n 0, 1) := by decide +kernel
theorem d_Mo_readFrame_28 : decode cd_Mo_readFrame 28 = .ok (.getfield 127, 3) := by decide +kernel
theorem d_Mo_readFrame_31 : decode cd_Mo_readFrame 31 = .ok (.iaload, 1) := by decide +kernel
theorem d_Mo_readFrame_32 : decode cd_Mo_readFrame 32 = .ok (.istore_n 3, 1) := by decide +kernel
theorem d_Mo_readFrame_33 : decode cd_Mo_readFrame 33 = .ok (.iload_n 3, 1) := by decide +kernel
theorem d_Mo_readFrame_34 : decode cd_Mo_readFrame 34 = .ok (.invokestatic 152, 3) := by decide +kernel
theorem d_Mo_readFrame_37 : decode cd_Mo_readFrame 37 = .ok (.ifCond .ne 13, 3) := by decide +kernel
theorem d_Mo_readFrame_40 : decode cd_Mo_readFrame 40 = .ok (.aload_n 0, 1) := by decide +kernel
theorem d_Mo_readFrame_41 : decode cd_Mo_readFrame 41 = .ok (.iconst 5, 1) := by decide +kernel
theorem d_Mo_readFrame_42 : decode cd_Mo_readFrame 42 = .ok (.aload_n 0, 1) := by decide +kernel
theorem d_Mo_readFrame_43 : decode cd_Mo_readFrame 43 = .ok (.getfield 127, 3) := by decide +kernel
theorem d_Mo_readFrame_46 : decode cd_Mo_readFrame 46 = .ok (.invokevirtual 167, 3) := by decide +kernel
theorem d_Mo_readFrame_49 : decode cd_Mo_readFrame 49 = .ok (.ireturn, 1) := by decide +kernel
theorem d_Mo_readFrame_50 : decode cd_Mo_readFrame 50 = .ok (.aload_n 0, 1) := by decide +kernel
theorem d_Mo_readFrame_51 : decode cd_Mo_readFrame 51 = .ok (.dup, 1) := by decide +kernel
theorem d_Mo_readFrame_52 : decode cd_Mo_readFrame 52 = .ok (.getfield 127, 3) := by decide +kernel
theorem d_Mo_readFrame_55 : decode cd_Mo_readFrame 55 = .ok (.iconst 1, 1) := by decide +kernel
theorem d_Mo_readFrame_56 : decode cd_Mo_readFrame 56 = .ok (.iadd, 1) := by decide +kernel
theorem d_Mo_readFrame_57 : decode cd_Mo_readFrame 57 = .ok (.putfield 127, 3) := by decide +kernel
theorem d_Mo_readFrame_60 : decode cd_Mo_readFrame 60 = .ok (.aload_n 0, 1) := by decide +kernel
theorem d_Mo_readFrame_61 : decode cd_Mo_readFrame 61 = .ok (.iconst 1, 1) := by decide +kernel
theorem d_Mo_readFrame_62 : decode cd_Mo_readFrame 62 = .ok (.invokevirtual 164, 3) := by decide +kernel
theorem d_Mo_readFrame_65 : decode cd_Mo_readFrame 65 = .ok (.ifCond .ne 13, 3) := by decide +kernel
theorem d_Mo_readFrame_68 : decode cd_Mo_readFrame 68 = .ok (.aload_n 0, 1) := by decide +kernel
theorem d_Mo_readFrame_69 : decode cd_Mo_readFrame 69 = .ok (.iconst 1, 1) := by decide +kernel
theorem d_Mo_readFrame_70 : decode cd_Mo_readFrame 70 = .ok (.aload_n 0, 1) := by decide +kernel
theorem d_Mo_readFrame_71 : decode cd_Mo_readFrame 71 = .ok (.getfield 38, 3) := by decide +kernel
theorem d_Mo_readFrame_74 : decode cd_Mo_readFrame 74 = .ok (.invokevirtual 167, 3) := by decide +kernel
theorem d_Mo_readFrame_77 : decode cd_Mo_readFrame 77 = .ok (.ireturn, 1) := by decide +kernel
theorem d_Mo_readFrame_78 : decode cd_Mo_readFrame 78 = .ok (.aload_n 0, 1) := by decide +kernel
theorem d_Mo_readFrame_79 : decode cd_Mo_readFrame 79 = .ok (.getfield 7, 3) := by decide +kernel
theorem d_Mo_readFrame_82 : decode cd_Mo_readFrame 82 = .ok (.aload_n 0, 1) := by decide +kernel
theorem d_Mo_readFrame_83 : decode cd_Mo_readFrame 83 = .ok (.getfield 127, 3) := by decide +kernel
theorem d_Mo_readFrame_86 : decode cd_Mo_readFrame 86 = .ok (.iaload, 1) := by decide +kernel
theorem d_Mo_readFrame_87 : decode cd_Mo_readFrame 87 = .ok (.bipush 16, 2) := by decide +kernel
theorem d_Mo_readFrame_89 : decode cd_Mo_readFrame 89 = .ok (.idiv, 1) := by decide +kernel
theorem d_Mo_readFrame_90 : decode cd_Mo_readFrame 90 = .ok (.istore 4, 2) := by decide +kernel
theorem d_Mo_readFrame_92 : decode cd_Mo_readFrame 92 = .ok (.iload 4, 2) := by decide +kernel
theorem d_Mo_readFrame_94 : decode cd_Mo_readFrame 94 = .ok (.iconst 4, 1) := by decide +kernel
theorem d_Mo_readFrame_95 : decode cd_Mo_readFrame 95 = .ok (.if_icmp .lt 25, 3) := by decide +kernel
theorem d_Mo_readFrame_98 : decode cd_Mo_readFrame 98 = .ok (.iload 4, 2) := by decide +kernel
theorem d_Mo_readFrame_100 : decode cd_Mo_readFrame 100 = .ok (.bipush 7, 2) := by decide +kernel
theorem d_Mo_readFrame_102 : decode cd_Mo_readFrame 102 = .ok (.if_icmp .gt 18, 3) := by decide +kernel
theorem d_Mo_readFrame_105 : decode cd_Mo_readFrame 105 = .ok (.aload_n 0, 1) := by decide +kernel
theorem d_Mo_readFrame_106 : decode cd_Mo_readFrame 106 = .ok (.getfield 7, 3) := by decide +kernel
theorem d_Mo_readFrame_109 : decode cd_Mo_readFrame 109 = .ok (.aload_n 0, 1) := by decide +kernel
theorem d_Mo_readFrame_110 : decode cd_Mo_readFrame 110 = .ok (.getfield 127, 3) := by decide +kernel
theorem d_Mo_readFrame_113 : decode cd_Mo_readFrame 113 = .ok (.iaload, 1) := by decide +kernel
theorem d_Mo_readFrame_114 : decode cd_Mo_readFrame 114 = .ok (.bipush 16, 2) := by decide +kernel
theorem d_Mo_readFrame_116 : decode cd_Mo_readFrame 116 = .ok (.irem, 1) := by decide +kernel
theorem d_Mo_readFrame_117 : decode cd_Mo_readFrame 117 = .ok (.ifCond .eq 13, 3) := by decide +kernel
theorem d_Mo_readFrame_120 : decode cd_Mo_readFrame 120 = .ok (.aload_n 0, 1) := by decide +kernel
theorem d_Mo_readFrame_121 : decode cd_Mo_readFrame 121 = .ok (.iconst 5, 1) := by decide +kernel
theorem d_Mo_readFrame_122 : decode cd_Mo_readFrame 122 = .ok (.aload_n 0, 1) := by decide +kernel
theorem d_Mo_readFrame_123 : decode cd_Mo_readFrame 123 = .ok (.getfield 127, 3) := by decide +kernel
theorem d_Mo_readFrame_126 : decode cd_Mo_readFrame 126 = .ok (.invokevirtual 167, 3) := by decide +kernel
theorem d_Mo_readFrame_129 : decode cd_Mo_readFrame 129 = .ok (.ireturn, 1) := by decide +kernel
theorem d_Mo_readFrame_130 : decode cd_Mo_readFrame 130 = .ok (.aload_n 0, 1) := by decide +kernel
theorem d_Mo_readFrame_131 : decode cd_Mo_readFrame 131 = .ok (.dup, 1) := by decide +kernel
theorem d_Mo_readFrame_132 : decode cd_Mo_readFrame 132 = .ok (.getfield 127, 3) := by decide +kernel
theorem d_Mo_readFrame_135 : decode cd_Mo_readFrame 135 = .ok (.iconst 1, 1) := by decide +kernel
theorem d_Mo_readFrame_136 : decode cd_Mo_readFrame 136 = .ok (.iadd, 1) := by decide +kernel
theorem d_Mo_readFrame_137 : decode cd_Mo_readFrame 137 = .ok (.putfield 127, 3) := by decide +kernel
theorem d_Mo_readFrame_140 : decode cd_Mo_readFrame 140 = .ok (.aload_n 0, 1) := by decide +kernel
theorem d_Mo_readFrame_141 : decode cd_Mo_readFrame 141 = .ok (.getfield 127, 3) := by decide +kernel
theorem d_Mo_readFrame_144 : decode cd_Mo_readFrame 144 = .ok (.istore 5, 2) := by decide +kernel
theorem d_Mo_readFrame_146 : decode cd_Mo_readFrame 146 = .ok (.iload_n 3, 1) := by decide +kernel
theorem d_Mo_readFrame_147 : decode cd_Mo_readFrame 147 = .ok (.bipush 8, 2) := by decide +kernel
theorem d_Mo_readFrame_149 : decode cd_Mo_readFrame 149 = .ok (.iand, 1) := by decide +kernel
theorem d_Mo_readFrame_150 : decode cd_Mo_readFrame 150 = .ok (.ifCond .eq 14, 3) := by decide +kernel
theorem d_Mo_readFrame_153 : decode cd_Mo_readFrame 153 = .ok (.aload_n 0, 1) := by decide +kernel
theorem d_Mo_readFrame_154 : decode cd_Mo_readFrame 154 = .ok (.dup, 1) := by decide +kernel
theorem d_Mo_readFrame_155 : decode cd_Mo_readFrame 155 = .ok (.getfield 127, 3) := by decide +kernel
theorem d_Mo_readFrame_158 : decode cd_Mo_readFrame 158 = .ok (.bipush 8, 2) := by decide +kernel
theorem d_Mo_readFrame_160 : decode cd_Mo_readFrame 160 = .ok (.iadd, 1) := by decide +kernel
theorem d_Mo_readFrame_161 : decode cd_Mo_readFrame 161 = .ok (.putfield 127, 3) := by decide +kernel
theorem d_Mo_readFrame_164 : decode cd_Mo_readFrame 164 = .ok (.iload_n 3, 1) := by decide +kernel
theorem d_Mo_readFrame_165 : decode cd_Mo_readFrame 165 = .ok (.iconst 1, 1) := by decide +kernel
theorem d_Mo_readFrame_166 : decode cd_Mo_readFrame 166 = .ok (.iand, 1) := by decide +kernel
theorem d_Mo_readFrame_167 : decode cd_Mo_readFrame 167 = .ok (.ifCond .eq 13, 3) := by decide +kernel
theorem d_Mo_readFrame_170 : decode cd_Mo_readFrame 170 = .ok (.aload_n 0, 1) := by decide +kernel
theorem d_Mo_readFrame_171 : decode cd_Mo_readFrame 171 = .ok (.dup, 1) := by decide +kernel
theorem d_Mo_readFrame_172 : decode cd_Mo_readFrame 172 = .ok (.getfield 127, 3) := by decide +kernel
theorem d_Mo_readFrame_175 : decode cd_Mo_readFrame 175 = .ok (.iconst 4, 1) := by decide +kernel
theorem d_Mo_readFrame_176 : decode cd_Mo_readFrame 176 = .ok (.iadd, 1) := by decide +kernel
theorem d_Mo_readFrame_177 : decode cd_Mo_readFrame 177 = .ok (.putfield 127, 3) := by decide +kernel
theorem d_Mo_readFrame_180 : decode cd_Mo_readFrame 180 = .ok (.aload_n 0, 1) := by decide +kernel
theorem d_Mo_readFrame_181 : decode cd_Mo_readFrame 181 = .ok (.iconst 1, 1) := by decide +kernel
theorem d_Mo_readFrame_182 : decode cd_Mo_readFrame 182 = .ok (.invokevirtual 164, 3) := by decide +kernel
theorem d_Mo_readFrame_185 : decode cd_Mo_readFrame 185 = .ok (.ifCond .ne 13, 3) := by decide +kernel
theorem d_Mo_readFrame_188 : decode cd_Mo_readFrame 188 = .ok (.aload_n 0, 1) := by decide +kernel
theorem d_Mo_readFrame_189 : decode cd_Mo_readFrame 189 = .ok (.iconst 1, 1) := by decide +kernel
theorem d_Mo_readFrame_190 : decode cd_Mo_readFrame 190 = .ok (.aload_n 0, 1) := by decide +kernel
theorem d_Mo_readFrame_191 : decode cd_Mo_readFrame 191 = .ok (.getfield 38, 3) := by decide +kernel
theorem d_Mo_readFrame_194 : decode cd_Mo_readFrame 194 = .ok (.invokevirtual 167, 3) := by decide +kernel
theorem d_Mo_readFrame_197 : decode cd_Mo_readFrame 197 = .ok (.ireturn, 1) := by decide +kernel
theorem d_Mo_readFrame_198 : decode cd_Mo_readFrame 198 = .ok (.aload_n 0, 1) := by decide +kernel
theorem d_Mo_readFrame_199 : decode cd_Mo_readFrame 199 = .ok (.getfield 7, 3) := by decide +kernel
theorem d_Mo_readFrame_202 : decode cd_Mo_readFrame 202 = .ok (.aload_n 0, 1) := by decide +kernel
theorem d_Mo_readFrame_203 : decode cd_Mo_readFrame 203 = .ok (.getfield 127, 3) := by decide +kernel
theorem d_Mo_readFrame_206 : decode cd_Mo_readFrame 206 = .ok (.iaload, 1) := by decide +kernel
theorem d_Mo_readFrame_207 : decode cd_Mo_readFrame 207 = .ok (.i2l, 1) := by decide +kernel
theorem d_Mo_readFrame_208 : decode cd_Mo_readFrame 208 = .ok (.aload_n 0, 1) := by decide +kernel
theorem d_Mo_readFrame_209 : decode cd_Mo_readFrame 209 = .ok (.aload_n 0, 1) := by decide +kernel
theorem d_Mo_readFrame_210 : decode cd_Mo_readFrame 210 = .ok (.getfield 7, 3) := by decide +kernel
theorem d_Mo_readFrame_213 : decode cd_Mo_readFrame 213 = .ok (.iload_n 2, 1) := by decide +kernel
theorem d_Mo_readFrame_214 : decode cd_Mo_readFrame 214 = .ok (.aload_n 0, 1) := by decide +kernel
theorem d_Mo_readFrame_215 : decode cd_Mo_readFrame 215 = .ok (.getfield 127, 3) := by decide +kernel
theorem d_Mo_readFrame_218 : decode cd_Mo_readFrame 218 = .ok (.invokevirtual 74, 3) := by decide +kernel
theorem d_Mo_readFrame_221 : decode cd_Mo_readFrame 221 = .ok (.bipush 8, 2) := by decide +kernel
theorem d_Mo_readFrame_223 : decode cd_Mo_readFrame 223 = .ok (.lshr, 1) := by decide +kernel
theorem d_Mo_readFrame_224 : decode cd_Mo_readFrame 224 = .ok (.ldc2_w 42, 3) := by decide +kernel
theorem d_Mo_readFrame_227 : decode cd_Mo_readFrame 227 = .ok (.land, 1) := by decide +kernel
theorem d_Mo_readFrame_228 : decode cd_Mo_readFrame 228 = .ok (.lcmp, 1) := by decide +kernel
theorem d_Mo_readFrame_229 : decode cd_Mo_readFrame 229 = .ok (.ifCond .eq 14, 3) := by decide +kernel
theorem d_Mo_readFrame_232 : decode cd_Mo_readFrame 232 = .ok (.aload_n 0, 1) := by decide +kernel
theorem d_Mo_readFrame_233 : decode cd_Mo_readFrame 233 = .ok (.bipush 6, 2) := by decide +kernel
theorem d_Mo_readFrame_235 : decode cd_Mo_readFrame 235 = .ok (.aload_n 0, 1) := by decide +kernel
theorem d_Mo_readFrame_236 : decode cd_Mo_readFrame 236 = .ok (.getfield 127, 3) := by decide +kernel
theorem d_Mo_readFrame_239 : decode cd_Mo_readFrame 239 = .ok (.invokevirtual 167, 3) := by decide +kernel
theorem d_Mo_readFrame_242 : decode cd_Mo_readFrame 242 = .ok (.ireturn, 1) := by decide +kernel
theorem d_Mo_readFrame_243 : decode cd_Mo_readFrame 243 = .ok (.aload_n 0, 1) := by decide +kernel
theorem d_Mo_readFrame_244 : decode cd_Mo_readFrame 244 = .ok (.dup, 1) := by decide +kernel
theorem d_Mo_readFrame_245 : decode cd_Mo_readFrame 245 = .ok (.getfield 127, 3) := by decide +kernel
theorem d_Mo_readFrame_248 : decode cd_Mo_readFrame 248 = .ok (.iconst 1, 1) := by decide +kernel
theorem d_Mo_readFrame_249 : decode cd_Mo_readFrame 249 = .ok (.iadd, 1) := by decide +kernel
theorem d_Mo_readFrame_250 : decode cd_Mo_readFrame 250 = .ok (.putfield 127, 3) := by decide +kernel
theorem d_Mo_readFrame_253 : decode cd_Mo_readFrame 253 = .ok (.aload_n 0, 1) := by decide +kernel
theorem d_Mo_readFrame_254 : decode cd_Mo_readFrame 254 = .ok (.getfield 182, 3) := by decide +kernel
theorem d_Mo_readFrame_257 : decode cd_Mo_readFrame 257 = .ok (.istore 6, 2) := by decide +kernel
theorem d_Mo_readFrame_259 : decode cd_Mo_readFrame 259 = .ok (.iconst 1, 1) := by decide +kernel
theorem d_Mo_readFrame_260 : decode cd_Mo_readFrame 260 = .ok (.istore 7, 2) := by decide +kernel
theorem d_Mo_readFrame_262 : decode cd_Mo_readFrame 262 = .ok (.iload 7, 2) := by decide +kernel
theorem d_Mo_readFrame_264 : decode cd_Mo_readFrame 264 = .ok (.ifCond .eq 109, 3) := by decide +kernel
theorem d_Mo_readFrame_267 : decode cd_Mo_readFrame 267 = .ok (.aload_n 0, 1) := by decide +kernel
theorem d_Mo_readFrame_268 : decode cd_Mo_readFrame 268 = .ok (.iconst 4, 1) := by decide +kernel
theorem d_Mo_readFrame_269 : decode cd_Mo_readFrame 269 = .ok (.invokevirtual 164, 3) := by decide +kernel
theorem d_Mo_readFrame_272 : decode cd_Mo_readFrame 272 = .ok (.ifCond .ne 13, 3) := by decide +kernel
theorem d_Mo_readFrame_275 : decode cd_Mo_readFrame 275 = .ok (.aload_n 0, 1) := by decide +kernel
theorem d_Mo_readFrame_276 : decode cd_Mo_readFrame 276 = .ok (.iconst 1, 1) := by decide +kernel
theorem d_Mo_readFrame_277 : decode cd_Mo_readFrame 277 = .ok (.aload_n 0, 1) := by decide +kernel
theorem d_Mo_readFrame_278 : decode cd_Mo_readFrame 278 = .ok (.getfield 38, 3) := by decide +kernel
theorem d_Mo_readFrame_281 : decode cd_Mo_readFrame 281 = .ok (.invokevirtual 167, 3) := by decide +kernel
theorem d_Mo_readFrame_284 : decode cd_Mo_readFrame 284 = .ok (.ireturn, 1) := by decide +kernel
theorem d_Mo_readFrame_285 : decode cd_Mo_readFrame 285 = .ok (.aload_n 0, 1) := by decide +kernel
theorem d_Mo_readFrame_286 : decode cd_Mo_readFrame 286 = .ok (.aload_n 0, 1) := by decide +kernel
theorem d_Mo_readFrame_287 : decode cd_Mo_readFrame 287 = .ok (.getfield 127, 3) := by decide +kernel
theorem d_Mo_readFrame_290 : decode cd_Mo_readFrame 290 = .ok (.iconst 4, 1) := by decide +kernel
theorem d_Mo_readFrame_291 : decode cd_Mo_readFrame 291 = .ok (.invokevirtual 170, 3) := by decide +kernel
theorem d_Mo_readFrame_294 : decode cd_Mo_readFrame 294 = .ok (.lstore 8, 2) := by decide +kernel
theorem d_Mo_readFrame_296 : decode cd_Mo_readFrame 296 = .ok (.lload 8, 2) := by decide +kernel
theorem d_Mo_readFrame_298 : decode cd_Mo_readFrame 298 = .ok (.lconst 0, 1) := by decide +kernel
theorem d_Mo_readFrame_299 : decode cd_Mo_readFrame 299 = .ok (.lcmp, 1) := by decide +kernel
theorem d_Mo_readFrame_300 : decode cd_Mo_readFrame 300 = .ok (.ifCond .eq 7, 3) := by decide +kernel
theorem d_Mo_readFrame_303 : decode cd_Mo_readFrame 303 = .ok (.iconst 1, 1) := by decide +kernel
theorem d_Mo_readFrame_304 : decode cd_Mo_readFrame 304 = .ok (.goto 4, 3) := by decide +kernel
theorem d_Mo_readFrame_307 : decode cd_Mo_readFrame 307 = .ok (.iconst 0, 1) := by decide +kernel
theorem d_Mo_readFrame_308 : decode cd_Mo_readFrame 308 = .ok (.istore 7, 2) := by decide +kernel
theorem d_Mo_readFrame_310 : decode cd_Mo_readFrame 310 = .ok (.iload 7, 2) := by decide +kernel
theorem d_Mo_readFrame_312 : decode cd_Mo_readFrame 312 = .ok (.ifCond .eq 25, 3) := by decide +kernel
theorem d_Mo_readFrame_315 : decode cd_Mo_readFrame 315 = .ok (.aload_n 0, 1) := by decide +kernel
theorem d_Mo_readFrame_316 : decode cd_Mo_readFrame 316 = .ok (.lload 8, 2) := by decide +kernel
theorem d_Mo_readFrame_318 : decode cd_Mo_readFrame 318 = .ok (.iload_n 3, 1) := by decide +kernel
theorem d_Mo_readFrame_319 : decode cd_Mo_readFrame 319 = .ok (.iconst 1, 1) := by decide +kernel
theorem d_Mo_readFrame_320 : decode cd_Mo_readFrame 320 = .ok (.bipush 8, 2) := by decide +kernel
theorem d_Mo_readFrame_322 : decode cd_Mo_readFrame 322 = .ok (.iconst 2, 1) := by decide +kernel
theorem d_Mo_readFrame_323 : decode cd_Mo_readFrame 323 = .ok (.iload 4, 2) := by decide +kernel
theorem d_Mo_readFrame_325 : decode cd_Mo_readFrame 325 = .ok (.imul, 1) := by decide +kernel
theorem d_Mo_readFrame_326 : decode cd_Mo_readFrame 326 = .ok (.iadd, 1) := by decide +kernel
theorem d_Mo_readFrame_327 : decode cd_Mo_readFrame 327 = .ok (.ishl, 1) := by decide +kernel
theorem d_Mo_readFrame_328 : decode cd_Mo_readFrame 328 = .ok (.iload 6, 2) := by decide +kernel
theorem d_Mo_readFrame_330 : decode cd_Mo_readFrame 330 = .ok (.iload_n 1, 1) := by decide +kernel
theorem d_Mo_readFrame_331 : decode cd_Mo_readFrame 331 = .ok (.invokevirtual 185, 3) := by decide +kernel
theorem d_Mo_readFrame_334 : decode cd_Mo_readFrame 334 = .ok (.goto 4, 3) := by decide +kernel
theorem d_Mo_readFrame_337 : decode cd_Mo_readFrame 337 = .ok (.iconst 0, 1) := by decide +kernel
theorem d_Mo_readFrame_338 : decode cd_Mo_readFrame 338 = .ok (.istore 10, 2) := by decide +kernel
theorem d_Mo_readFrame_340 : decode cd_Mo_readFrame 340 = .ok (.iload 10, 2) := by decide +kernel
theorem d_Mo_readFrame_342 : decode cd_Mo_readFrame 342 = .ok (.ifCond .le 6, 3) := by decide +kernel
theorem d_Mo_readFrame_345 : decode cd_Mo_readFrame 345 = .ok (.iload 10, 2) := by decide +kernel
theorem d_Mo_readFrame_347 : decode cd_Mo_readFrame 347 = .ok (.ireturn, 1) := by decide +kernel
theorem d_Mo_readFrame_348 : decode cd_Mo_readFrame 348 = .ok (.aload_n 0, 1) := by decide +kernel
theorem d_Mo_readFrame_349 : decode cd_Mo_readFrame 349 = .ok (.iload 7, 2) := by decide +kernel
theorem d_Mo_readFrame_351 : decode cd_Mo_readFrame 351 = .ok (.ifCond .eq 10, 3) := by decide +kernel
theorem d_Mo_readFrame_354 : decode cd_Mo_readFrame 354 = .ok (.aload_n 0, 1) := by decide +kernel
theorem d_Mo_readFrame_355 : decode cd_Mo_readFrame 355 = .ok (.getfield 127, 3) := by decide +kernel
theorem d_Mo_readFrame_358 : decode cd_Mo_readFrame 358 = .ok (.goto 9, 3) := by decide +kernel
theorem d_Mo_readFrame_361 : decode cd_Mo_readFrame 361 = .ok (.aload_n 0, 1) := by decide +kernel
theorem d_Mo_readFrame_362 : decode cd_Mo_readFrame 362 = .ok (.getfield 127, 3) := by decide +kernel
theorem d_Mo_readFrame_365 : decode cd_Mo_readFrame 365 = .ok (.iconst 4, 1) := by decide +kernel
theorem d_Mo_readFrame_366 : decode cd_Mo_readFrame 366 = .ok (.iadd, 1) := by decide +kernel
theorem d_Mo_readFrame_367 : decode cd_Mo_readFrame 367 = .ok (.putfield 127, 3) := by decide +kernel
theorem d_Mo_readFrame_370 : decode cd_Mo_readFrame 370 = .ok (.goto (-108), 3) := by decide +kernel
theorem d_Mo_readFrame_373 : decode cd_Mo_readFrame 373 = .ok (.iload_n 3, 1) := by decide +kernel
theorem d_Mo_readFrame_374 : decode cd_Mo_readFrame 374 = .ok (.iconst 4, 1) := by decide +kernel
theorem d_Mo_readFrame_375 : decode cd_Mo_readFrame 375 = .ok (.iand, 1) := by decide +kernel
theorem d_Mo_readFrame_376 : decode cd_Mo_readFrame 376 = .ok (.ifCond .eq 69, 3) := by decide +kernel
theorem d_Mo_readFrame_379 : decode cd_Mo_readFrame 379 = .ok (.aload_n 0, 1) := by decide +kernel
theorem d_Mo_readFrame_380 : decode cd_Mo_readFrame 380 = .ok (.iconst 4, 1) := by decide +kernel
theorem d_Mo_readFrame_381 : decode cd_Mo_readFrame 381 = .ok (.invokevirtual 164, 3) := by decide +kernel
theorem d_Mo_readFrame_384 : decode cd_Mo_readFrame 384 = .ok (.ifCond .ne 13, 3) := by decide +kernel
theorem d_Mo_readFrame_387 : decode cd_Mo_readFrame 387 = .ok (.aload_n 0, 1) := by decide +kernel
theorem d_Mo_readFrame_388 : decode cd_Mo_readFrame 388 = .ok (.iconst 1, 1) := by decide +kernel
theorem d_Mo_readFrame_389 : decode cd_Mo_readFrame 389 = .ok (.aload_n 0, 1) := by decide +kernel
theorem d_Mo_readFrame_390 : decode cd_Mo_readFrame 390 = .ok (.getfield 38, 3) := by decide +kernel
theorem d_Mo_readFrame_393 : decode cd_Mo_readFrame 393 = .ok (.invokevirtual 167, 3) := by decide +kernel
theorem d_Mo_readFrame_396 : decode cd_Mo_readFrame 396 = .ok (.ireturn, 1) := by decide +kernel
theorem d_Mo_readFrame_397 : decode cd_Mo_readFrame 397 = .ok (.aload_n 0, 1) := by decide +kernel
theorem d_Mo_readFrame_398 : decode cd_Mo_readFrame 398 = .ok (.aload_n 0, 1) := by decide +kernel
theorem d_Mo_readFrame_399 : decode cd_Mo_readFrame 399 = .ok (.getfield 127, 3) := by decide +kernel
theorem d_Mo_readFrame_402 : decode cd_Mo_readFrame 402 = .ok (.iconst 4, 1) := by decide +kernel
theorem d_Mo_readFrame_403 : decode cd_Mo_readFrame 403 = .ok (.invokevirtual 170, 3) := by decide +kernel
theorem d_Mo_readFrame_406 : decode cd_Mo_readFrame 406 = .ok (.aload_n 0, 1) := by decide +kernel
theorem d_Mo_readFrame_407 : decode cd_Mo_readFrame 407 = .ok (.aload_n 0, 1) := by decide +kernel
theorem d_Mo_readFrame_408 : decode cd_Mo_readFrame 408 = .ok (.getfield 31, 3) := by decide +kernel
theorem d_Mo_readFrame_411 : decode cd_Mo_readFrame 411 = .ok (.iload 6, 2) := by decide +kernel
theorem d_Mo_readFrame_413 : decode cd_Mo_readFrame 413 = .ok (.aload_n 0, 1) := by decide +kernel
theorem d_Mo_readFrame_414 : decode cd_Mo_readFrame 414 = .ok (.getfield 182, 3) := by decide +kernel
theorem d_Mo_readFrame_417 : decode cd_Mo_readFrame 417 = .ok (.invokevirtual 74, 3) := by decide +kernel
theorem d_Mo_readFrame_420 : decode cd_Mo_readFrame 420 = .ok (.lcmp, 1) := by decide +kernel
theorem d_Mo_readFrame_421 : decode cd_Mo_readFrame 421 = .ok (.ifCond .eq 14, 3) := by decide +kernel
theorem d_Mo_readFrame_424 : decode cd_Mo_readFrame 424 = .ok (.aload_n 0, 1) := by decide +kernel
theorem d_Mo_readFrame_425 : decode cd_Mo_readFrame 425 = .ok (.bipush 10, 2) := by decide +kernel
theorem d_Mo_readFrame_427 : decode cd_Mo_readFrame 427 = .ok (.aload_n 0, 1) := by decide +kernel
theorem d_Mo_readFrame_428 : decode cd_Mo_readFrame 428 = .ok (.getfield 127, 3) := by decide +kernel
theorem d_Mo_readFrame_431 : decode cd_Mo_readFrame 431 = .ok (.invokevirtual 167, 3) := by decide +kernel
theorem d_Mo_readFrame_434 : decode cd_Mo_readFrame 434 = .ok (.ireturn, 1) := by decide +kernel
theorem d_Mo_readFrame_435 : decode cd_Mo_readFrame 435 = .ok (.aload_n 0, 1) := by decide +kernel
theorem d_Mo_readFrame_436 : decode cd_Mo_readFrame 436 = .ok (.dup, 1) := by decide +kernel
theorem d_Mo_readFrame_437 : decode cd_Mo_readFrame 437 = .ok (.getfield 127, 3) := by decide +kernel
theorem d_Mo_readFrame_440 : decode cd_Mo_readFrame 440 = .ok (.iconst 4, 1) := by decide +kernel
theorem d_Mo_readFrame_441 : decode cd_Mo_readFrame 441 = .ok (.iadd, 1) := by decide +kernel
theorem d_Mo_readFrame_442 : decode cd_Mo_readFrame 442 = .ok (.putfield 127, 3) := by decide +kernel
theorem d_Mo_readFrame_445 : decode cd_Mo_readFrame 445 = .ok (.iload_n 3, 1) := by decide +kernel
theorem d_Mo_readFrame_446 : decode cd_Mo_readFrame 446 = .ok (.bipush 8, 2) := by decide +kernel
theorem d_Mo_readFrame_448 : decode cd_Mo_readFrame 448 = .ok (.iand, 1) := by decide +kernel
theorem d_Mo_readFrame_449 : decode cd_Mo_readFrame 449 = .ok (.ifCond .eq 34, 3) := by decide +kernel
theorem d_Mo_readFrame_452 : decode cd_Mo_readFrame 452 = .ok (.aload_n 0, 1) := by decide +kernel
theorem d_Mo_readFrame_453 : decode cd_Mo_readFrame 453 = .ok (.iload 5, 2) := by decide +kernel
theorem d_Mo_readFrame_455 : decode cd_Mo_readFrame 455 = .ok (.bipush 8, 2) := by decide +kernel
theorem d_Mo_readFrame_457 : decode cd_Mo_readFrame 457 = .ok (.invokevirtual 170, 3) := by decide +kernel
theorem d_Mo_readFrame_460 : decode cd_Mo_readFrame 460 = .ok (.aload_n 0, 1) := by decide +kernel
theorem d_Mo_readFrame_461 : decode cd_Mo_readFrame 461 = .ok (.getfield 182, 3) := by decide +kernel
theorem d_Mo_readFrame_464 : decode cd_Mo_readFrame 464 = .ok (.iload 6, 2) := by decide +kernel
theorem d_Mo_readFrame_466 : decode cd_Mo_readFrame 466 = .ok (.isub, 1) := by decide +kernel
theorem d_Mo_readFrame_467 : decode cd_Mo_readFrame 467 = .ok (.i2l, 1) := by decide +kernel
theorem d_Mo_readFrame_468 : decode cd_Mo_readFrame 468 = .ok (.lcmp, 1) := by decide +kernel
theorem d_Mo_readFrame_469 : decode cd_Mo_readFrame 469 = .ok (.ifCond .eq 14, 3) := by decide +kernel
theorem d_Mo_readFrame_472 : decode cd_Mo_readFrame 472 = .ok (.aload_n 0, 1) := by decide +kernel
theorem d_Mo_readFrame_473 : decode cd_Mo_readFrame 473 = .ok (.bipush 11, 2) := by decide +kernel
theorem d_Mo_readFrame_475 : decode cd_Mo_readFrame 475 = .ok (.iload 5, 2) := by decide +kernel
theorem d_Mo_readFrame_477 : decode cd_Mo_readFrame 477 = .ok (.invokevirtual 167, 3) := by decide +kernel
theorem d_Mo_readFrame_480 : decode cd_Mo_readFrame 480 = .ok (.goto 4, 3) := by decide +kernel
theorem d_Mo_readFrame_483 : decode cd_Mo_readFrame 483 = .ok (.iconst 0, 1) := by decide +kernel
theorem d_Mo_readFrame_484 : decode cd_Mo_readFrame 484 = .ok (.ireturn, 1) := by decide +kernel
