theorem d_FW_init_0 : decode cd_FW_init 0 = .ok (.aload_n 0, 1) := by decide +kernel
theorem d_FW_init_1 : decode cd_FW_init 1 = .ok (.invokespecial 3, 3) := by decide +kernel
theorem d_FW_init_4 : decode cd_FW_init 4 = .ok (.aload_n 0, 1) := by decide +kernel
theorem d_FW_init_5 : decode cd_FW_init 5 = .ok (.aload_n 1, 1) := by decide +kernel
theorem d_FW_init_6 : decode cd_FW_init 6 = .ok (.putfield 9, 3) := by decide +kernel
theorem d_FW_init_9 : decode cd_FW_init 9 = .ok (.aload_n 0, 1) := by decide +kernel
theorem d_FW_init_10 : decode cd_FW_init 10 = .ok (.aload_n 2, 1) := by decide +kernel
theorem d_FW_init_11 : decode cd_FW_init 11 = .ok (.putfield 15, 3) := by decide +kernel
theorem d_FW_init_14 : decode cd_FW_init 14 = .ok (.aload_n 0, 1) := by decide +kernel
theorem d_FW_init_15 : decode cd_FW_init 15 = .ok (.aload_n 3, 1) := by decide +kernel
theorem d_FW_init_16 : decode cd_FW_init 16 = .ok (.putfield 18, 3) := by decide +kernel
theorem d_FW_init_19 : decode cd_FW_init 19 = .ok (.aload_n 0, 1) := by decide +kernel
theorem d_FW_init_20 : decode cd_FW_init 20 = .ok (.new 22, 3) := by decide +kernel
theorem d_FW_init_23 : decode cd_FW_init 23 = .ok (.dup, 1) := by decide +kernel
theorem d_FW_init_24 : decode cd_FW_init 24 = .ok (.sipush 8000, 3) := by decide +kernel
theorem d_FW_init_27 : decode cd_FW_init 27 = .ok (.invokespecial 24, 3) := by decide +kernel
theorem d_FW_init_30 : decode cd_FW_init 30 = .ok (.putfield 27, 3) := by decide +kernel
theorem d_FW_init_33 : decode cd_FW_init 33 = .ok (.return_, 1) := by decide +kernel
theorem d_FW_writeFrame_0 : decode cd_FW_writeFrame 0 = .ok (.aload_n 0, 1) := by decide +kernel
theorem d_FW_writeFrame_1 : decode cd_FW_writeFrame 1 = .ok (.getfield 15, 3) := by decide +kernel
theorem d_FW_writeFrame_4 : decode cd_FW_writeFrame 4 = .ok (.iconst 0, 1) := by decide +kernel
theorem d_FW_writeFrame_5 : decode cd_FW_writeFrame 5 = .ok (.invokevirtual 30, 3) := by decide +kernel
theorem d_FW_writeFrame_8 : decode cd_FW_writeFrame 8 = .ok (.aload_n 0, 1) := by decide +kernel
theorem d_FW_writeFrame_9 : decode cd_FW_writeFrame 9 = .ok (.iload_n 1, 1) := by decide +kernel
theorem d_FW_writeFrame_10 : decode cd_FW_writeFrame 10 = .ok (.iload_n 2, 1) := by decide +kernel
theorem d_FW_writeFrame_11 : decode cd_FW_writeFrame 11 = .ok (.iload_n 3, 1) := by decide +kernel
theorem d_FW_writeFrame_12 : decode cd_FW_writeFrame 12 = .ok (.invokevirtual 33, 3) := by decide +kernel
theorem d_FW_writeFrame_15 : decode cd_FW_writeFrame 15 = .ok (.istore 6, 2) := by decide +kernel
theorem d_FW_writeFrame_17 : decode cd_FW_writeFrame 17 = .ok (.aload_n 0, 1) := by decide +kernel
theorem d_FW_writeFrame_18 : decode cd_FW_writeFrame 18 = .ok (.getfield 18, 3) := by decide +kernel
theorem d_FW_writeFrame_21 : decode cd_FW_writeFrame 21 = .ok (.invokevirtual 37, 3) := by decide +kernel
theorem d_FW_writeFrame_24 : decode cd_FW_writeFrame 24 = .ok (.iconst 1, 1) := by decide +kernel
theorem d_FW_writeFrame_25 : decode cd_FW_writeFrame 25 = .ok (.iload 4, 2) := by decide +kernel
theorem d_FW_writeFrame_27 : decode cd_FW_writeFrame 27 = .ok (.invokestatic 42, 3) := by decide +kernel
theorem d_FW_writeFrame_30 : decode cd_FW_writeFrame 30 = .ok (.istore 7, 2) := by decide +kernel
theorem d_FW_writeFrame_32 : decode cd_FW_writeFrame 32 = .ok (.iconst 0, 1) := by decide +kernel
theorem d_FW_writeFrame_33 : decode cd_FW_writeFrame 33 = .ok (.istore 8, 2) := by decide +kernel
theorem d_FW_writeFrame_35 : decode cd_FW_writeFrame 35 = .ok (.iload 8, 2) := by decide +kernel
theorem d_FW_writeFrame_37 : decode cd_FW_writeFrame 37 = .ok (.aload_n 0, 1) := by decide +kernel
theorem d_FW_writeFrame_38 : decode cd_FW_writeFrame 38 = .ok (.getfield 9, 3) := by decide +kernel
theorem d_FW_writeFrame_41 : decode cd_FW_writeFrame 41 = .ok (.invokevirtual 48, 3) := by decide +kernel
theorem d_FW_writeFrame_44 : decode cd_FW_writeFrame 44 = .ok (.if_icmp .ge 44, 3) := by decide +kernel
theorem d_FW_writeFrame_47 : decode cd_FW_writeFrame 47 = .ok (.iload 6, 2) := by decide +kernel
theorem d_FW_writeFrame_49 : decode cd_FW_writeFrame 49 = .ok (.ifCond .eq 39, 3) := by decide +kernel
theorem d_FW_writeFrame_52 : decode cd_FW_writeFrame 52 = .ok (.aload_n 0, 1) := by decide +kernel
theorem d_FW_writeFrame_53 : decode cd_FW_writeFrame 53 = .ok (.iload 8, 2) := by decide +kernel
theorem d_FW_writeFrame_55 : decode cd_FW_writeFrame 55 = .ok (.aload_n 0, 1) := by decide +kernel
theorem d_FW_writeFrame_56 : decode cd_FW_writeFrame 56 = .ok (.getfield 9, 3) := by decide +kernel
theorem d_FW_writeFrame_59 : decode cd_FW_writeFrame 59 = .ok (.invokevirtual 48, 3) := by decide +kernel
theorem d_FW_writeFrame_62 : decode cd_FW_writeFrame 62 = .ok (.iload 8, 2) := by decide +kernel
theorem d_FW_writeFrame_64 : decode cd_FW_writeFrame 64 = .ok (.iload 7, 2) := by decide +kernel
theorem d_FW_writeFrame_66 : decode cd_FW_writeFrame 66 = .ok (.iadd, 1) := by decide +kernel
theorem d_FW_writeFrame_67 : decode cd_FW_writeFrame 67 = .ok (.invokestatic 52, 3) := by decide +kernel
theorem d_FW_writeFrame_70 : decode cd_FW_writeFrame 70 = .ok (.iload_n 1, 1) := by decide +kernel
theorem d_FW_writeFrame_71 : decode cd_FW_writeFrame 71 = .ok (.iload 5, 2) := by decide +kernel
theorem d_FW_writeFrame_73 : decode cd_FW_writeFrame 73 = .ok (.invokevirtual 55, 3) := by decide +kernel
theorem d_FW_writeFrame_76 : decode cd_FW_writeFrame 76 = .ok (.istore 6, 2) := by decide +kernel
theorem d_FW_writeFrame_78 : decode cd_FW_writeFrame 78 = .ok (.iload 8, 2) := by decide +kernel
theorem d_FW_writeFrame_80 : decode cd_FW_writeFrame 80 = .ok (.iload 7, 2) := by decide +kernel
theorem d_FW_writeFrame_82 : decode cd_FW_writeFrame 82 = .ok (.iadd, 1) := by decide +kernel
theorem d_FW_writeFrame_83 : decode cd_FW_writeFrame 83 = .ok (.istore 8, 2) := by decide +kernel
theorem d_FW_writeFrame_85 : decode cd_FW_writeFrame 85 = .ok (.goto (-50), 3) := by decide +kernel
theorem d_FW_writeFrame_88 : decode cd_FW_writeFrame 88 = .ok (.iload 6, 2) := by decide +kernel
theorem d_FW_writeFrame_90 : decode cd_FW_writeFrame 90 = .ok (.ifCond .eq 15, 3) := by decide +kernel
theorem d_FW_writeFrame_93 : decode cd_FW_writeFrame 93 = .ok (.aload_n 0, 1) := by decide +kernel
theorem d_FW_writeFrame_94 : decode cd_FW_writeFrame 94 = .ok (.iload_n 1, 1) := by decide +kernel
theorem d_FW_writeFrame_95 : decode cd_FW_writeFrame 95 = .ok (.invokevirtual 59, 3) := by decide +kernel
theorem d_FW_writeFrame_98 : decode cd_FW_writeFrame 98 = .ok (.ifCond .eq 7, 3) := by decide +kernel
theorem d_FW_writeFrame_101 : decode cd_FW_writeFrame 101 = .ok (.iconst 1, 1) := by decide +kernel
theorem d_FW_writeFrame_102 : decode cd_FW_writeFrame 102 = .ok (.goto 4, 3) := by decide +kernel
theorem d_FW_writeFrame_105 : decode cd_FW_writeFrame 105 = .ok (.iconst 0, 1) := by decide +kernel
theorem d_FW_writeFrame_106 : decode cd_FW_writeFrame 106 = .ok (.ireturn, 1) := by decide +kernel
theorem d_FW_addHead_0 : decode cd_FW_addHead 0 = .ok (.aload_n 0, 1) := by decide +kernel
theorem d_FW_addHead_1 : decode cd_FW_addHead 1 = .ok (.getfield 15, 3) := by decide +kernel
theorem d_FW_addHead_4 : decode cd_FW_addHead 4 = .ok (.ldc 63, 2) := by decide +kernel
theorem d_FW_addHead_6 : decode cd_FW_addHead 6 = .ok (.invokevirtual 64, 3) := by decide +kernel
theorem d_FW_addHead_9 : decode cd_FW_addHead 9 = .ok (.istore 4, 2) := by decide +kernel
theorem d_FW_addHead_11 : decode cd_FW_addHead 11 = .ok (.aload_n 0, 1) := by decide +kernel
theorem d_FW_addHead_12 : decode cd_FW_addHead 12 = .ok (.getfield 15, 3) := by decide +kernel
theorem d_FW_addHead_15 : decode cd_FW_addHead 15 = .ok (.invokevirtual 48, 3) := by decide +kernel
theorem d_FW_addHead_18 : decode cd_FW_addHead 18 = .ok (.istore 5, 2) := by decide +kernel
theorem d_FW_addHead_20 : decode cd_FW_addHead 20 = .ok (.iload 4, 2) := by decide +kernel
theorem d_FW_addHead_22 : decode cd_FW_addHead 22 = .ok (.ifCond .eq 32, 3) := by decide +kernel
theorem d_FW_addHead_25 : decode cd_FW_addHead 25 = .ok (.aload_n 0, 1) := by decide +kernel
theorem d_FW_addHead_26 : decode cd_FW_addHead 26 = .ok (.getfield 15, 3) := by decide +kernel
theorem d_FW_addHead_29 : decode cd_FW_addHead 29 = .ok (.iload_n 1, 1) := by decide +kernel
theorem d_FW_addHead_30 : decode cd_FW_addHead 30 = .ok (.invokevirtual 67, 3) := by decide +kernel
theorem d_FW_addHead_33 : decode cd_FW_addHead 33 = .ok (.ifCond .eq 21, 3) := by decide +kernel
theorem d_FW_addHead_36 : decode cd_FW_addHead 36 = .ok (.aload_n 0, 1) := by decide +kernel
theorem d_FW_addHead_37 : decode cd_FW_addHead 37 = .ok (.getfield 15, 3) := by decide +kernel
theorem d_FW_addHead_40 : decode cd_FW_addHead 40 = .ok (.bipush 16, 2) := by decide +kernel
theorem d_FW_addHead_42 : decode cd_FW_addHead 42 = .ok (.iload_n 2, 1) := by decide +kernel
theorem d_FW_addHead_43 : decode cd_FW_addHead 43 = .ok (.imul, 1) := by decide +kernel
theorem d_FW_addHead_44 : decode cd_FW_addHead 44 = .ok (.invokevirtual 67, 3) := by decide +kernel
theorem d_FW_addHead_47 : decode cd_FW_addHead 47 = .ok (.ifCond .eq 7, 3) := by decide +kernel
theorem d_FW_addHead_50 : decode cd_FW_addHead 50 = .ok (.iconst 1, 1) := by decide +kernel
theorem d_FW_addHead_51 : decode cd_FW_addHead 51 = .ok (.goto 4, 3) := by decide +kernel
theorem d_FW_addHead_54 : decode cd_FW_addHead 54 = .ok (.iconst 0, 1) := by decide +kernel
theorem d_FW_addHead_55 : decode cd_FW_addHead 55 = .ok (.istore 4, 2) := by decide +kernel
theorem d_FW_addHead_57 : decode cd_FW_addHead 57 = .ok (.iload_n 1, 1) := by decide +kernel
theorem d_FW_addHead_58 : decode cd_FW_addHead 58 = .ok (.bipush 8, 2) := by decide +kernel
theorem d_FW_addHead_60 : decode cd_FW_addHead 60 = .ok (.iand, 1) := by decide +kernel
theorem d_FW_addHead_61 : decode cd_FW_addHead 61 = .ok (.ifCond .eq 43, 3) := by decide +kernel
theorem d_FW_addHead_64 : decode cd_FW_addHead 64 = .ok (.iload 4, 2) := by decide +kernel
theorem d_FW_addHead_66 : decode cd_FW_addHead 66 = .ok (.ifCond .eq 35, 3) := by decide +kernel
theorem d_FW_addHead_69 : decode cd_FW_addHead 69 = .ok (.aload_n 0, 1) := by decide +kernel
theorem d_FW_addHead_70 : decode cd_FW_addHead 70 = .ok (.getfield 15, 3) := by decide +kernel
theorem d_FW_addHead_73 : decode cd_FW_addHead 73 = .ok (.aload_n 0, 1) := by decide +kernel
theorem d_FW_addHead_74 : decode cd_FW_addHead 74 = .ok (.getfield 9, 3) := by decide +kernel
theorem d_FW_addHead_77 : decode cd_FW_addHead 77 = .ok (.invokevirtual 48, 3) := by decide +kernel
theorem d_FW_addHead_80 : decode cd_FW_addHead 80 = .ok (.invokevirtual 64, 3) := by decide +kernel
theorem d_FW_addHead_83 : decode cd_FW_addHead 83 = .ok (.ifCond .eq 18, 3) := by decide +kernel
theorem d_FW_addHead_86 : decode cd_FW_addHead 86 = .ok (.aload_n 0, 1) := by decide +kernel
theorem d_FW_addHead_87 : decode cd_FW_addHead 87 = .ok (.getfield 15, 3) := by decide +kernel
theorem d_FW_addHead_90 : decode cd_FW_addHead 90 = .ok (.iconst 0, 1) := by decide +kernel
theorem d_FW_addHead_91 : decode cd_FW_addHead 91 = .ok (.invokevirtual 64, 3) := by decide +kernel
theorem d_FW_addHead_94 : decode cd_FW_addHead 94 = .ok (.ifCond .eq 7, 3) := by decide +kernel
theorem d_FW_addHead_97 : decode cd_FW_addHead 97 = .ok (.iconst 1, 1) := by decide +kernel
theorem d_FW_addHead_98 : decode cd_FW_addHead 98 = .ok (.goto 4, 3) := by decide +kernel
theorem d_FW_addHead_101 : decode cd_FW_addHead 101 = .ok (.iconst 0, 1) := by decide +kernel
theorem d_FW_addHead_102 : decode cd_FW_addHead 102 = .ok (.istore 4, 2) := by decide +kernel
theorem d_FW_addHead_104 : decode cd_FW_addHead 104 = .ok (.iload_n 1, 1) := by decide +kernel
theorem d_FW_addHead_105 : decode cd_FW_addHead 105 = .ok (.iconst 1, 1) := by decide +kernel
theorem d_FW_addHead_106 : decode cd_FW_addHead 106 = .ok (.iand, 1) := by decide +kernel
theorem d_FW_addHead_107 : decode cd_FW_addHead 107 = .ok (.ifCond .eq 26, 3) := by decide +kernel
theorem d_FW_addHead_110 : decode cd_FW_addHead 110 = .ok (.iload 4, 2) := by decide +kernel
theorem d_FW_addHead_112 : decode cd_FW_addHead 112 = .ok (.ifCond .eq 18, 3) := by decide +kernel
theorem d_FW_addHead_115 : decode cd_FW_addHead 115 = .ok (.aload_n 0, 1) := by decide +kernel
theorem d_FW_addHead_116 : decode cd_FW_addHead 116 = .ok (.getfield 15, 3) := by decide +kernel
theorem d_FW_addHead_119 : decode cd_FW_addHead 119 = .ok (.iload_n 3, 1) := by decide +kernel
theorem d_FW_addHead_120 : decode cd_FW_addHead 120 = .ok (.invokevirtual 64, 3) := by decide +kernel
theorem d_FW_addHead_123 : decode cd_FW_addHead 123 = .ok (.ifCond .eq 7, 3) := by decide +kernel
theorem d_FW_addHead_126 : decode cd_FW_addHead 126 = .ok (.iconst 1, 1) := by decide +kernel
theorem d_FW_addHead_127 : decode cd_FW_addHead 127 = .ok (.goto 4, 3) := by decide +kernel
theorem d_FW_addHead_130 : decode cd_FW_addHead 130 = .ok (.iconst 0, 1) := by decide +kernel
theorem d_FW_addHead_131 : decode cd_FW_addHead 131 = .ok (.istore 4, 2) := by decide +kernel
theorem d_FW_addHead_133 : decode cd_FW_addHead 133 = .ok (.iload 4, 2) := by decide +kernel
theorem d_FW_addHead_135 : decode cd_FW_addHead 135 = .ok (.ifCond .eq 36, 3) := by decide +kernel
theorem d_FW_addHead_138 : decode cd_FW_addHead 138 = .ok (.aload_n 0, 1) := by decide +kernel
theorem d_FW_addHead_139 : decode cd_FW_addHead 139 = .ok (.getfield 15, 3) := by decide +kernel
theorem d_FW_addHead_142 : decode cd_FW_addHead 142 = .ok (.aload_n 0, 1) := by decide +kernel
theorem d_FW_addHead_143 : decode cd_FW_addHead 143 = .ok (.getfield 15, 3) := by decide +kernel
theorem d_FW_addHead_146 : decode cd_FW_addHead 146 = .ok (.iload 5, 2) := by decide +kernel
theorem d_FW_addHead_148 : decode cd_FW_addHead 148 = .ok (.aload_n 0, 1) := by decide +kernel
theorem d_FW_addHead_149 : decode cd_FW_addHead 149 = .ok (.getfield 15, 3) := by decide +kernel
theorem d_FW_addHead_152 : decode cd_FW_addHead 152 = .ok (.invokevirtual 48, 3) := by decide +kernel
theorem d_FW_addHead_155 : decode cd_FW_addHead 155 = .ok (.invokestatic 70, 3) := by decide +kernel
theorem d_FW_addHead_158 : decode cd_FW_addHead 158 = .ok (.bipush 8, 2) := by decide +kernel
theorem d_FW_addHead_160 : decode cd_FW_addHead 160 = .ok (.ishr, 1) := by decide +kernel
theorem d_FW_addHead_161 : decode cd_FW_addHead 161 = .ok (.invokevirtual 67, 3) := by decide +kernel
theorem d_FW_addHead_164 : decode cd_FW_addHead 164 = .ok (.ifCond .eq 7, 3) := by decide +kernel
theorem d_FW_addHead_167 : decode cd_FW_addHead 167 = .ok (.iconst 1, 1) := by decide +kernel
theorem d_FW_addHead_168 : decode cd_FW_addHead 168 = .ok (.goto 4, 3) := by decide +kernel
theorem d_FW_addHead_171 : decode cd_FW_addHead 171 = .ok (.iconst 0, 1) := by decide +kernel
theorem d_FW_addHead_172 : decode cd_FW_addHead 172 = .ok (.ireturn, 1) := by decide +kernel
theorem d_FW_addRow_0 : decode cd_FW_addRow 0 = .ok (.iload_n 3, 1) := by decide +kernel
theorem d_FW_addRow_1 : decode cd_FW_addRow 1 = .ok (.bipush 32, 2) := by decide +kernel
theorem d_FW_addRow_3 : decode cd_FW_addRow 3 = .ok (.iand, 1) := by decide +kernel
theorem d_FW_addRow_4 : decode cd_FW_addRow 4 = .ok (.ifCond .eq 10, 3) := by decide +kernel
theorem d_FW_addRow_7 : decode cd_FW_addRow 7 = .ok (.aload_n 0, 1) := by decide +kernel
theorem d_FW_addRow_8 : decode cd_FW_addRow 8 = .ok (.getfield 18, 3) := by decide +kernel
theorem d_FW_addRow_11 : decode cd_FW_addRow 11 = .ok (.invokevirtual 76, 3) := by decide +kernel
theorem d_FW_addRow_14 : decode cd_FW_addRow 14 = .ok (.aload_n 0, 1) := by decide +kernel
theorem d_FW_addRow_15 : decode cd_FW_addRow 15 = .ok (.getfield 27, 3) := by decide +kernel
theorem d_FW_addRow_18 : decode cd_FW_addRow 18 = .ok (.iconst 0, 1) := by decide +kernel
theorem d_FW_addRow_19 : decode cd_FW_addRow 19 = .ok (.invokevirtual 30, 3) := by decide +kernel
theorem d_FW_addRow_22 : decode cd_FW_addRow 22 = .ok (.iload_n 2, 1) := by decide +kernel
theorem d_FW_addRow_23 : decode cd_FW_addRow 23 = .ok (.iload_n 1, 1) := by decide +kernel
theorem d_FW_addRow_24 : decode cd_FW_addRow 24 = .ok (.isub, 1) := by decide +kernel
theorem d_FW_addRow_25 : decode cd_FW_addRow 25 = .ok (.istore 5, 2) := by decide +kernel
theorem d_FW_addRow_27 : decode cd_FW_addRow 27 = .ok (.aload_n 0, 1) := by decide +kernel
theorem d_FW_addRow_28 : decode cd_FW_addRow 28 = .ok (.getfield 18, 3) := by decide +kernel
theorem d_FW_addRow_31 : decode cd_FW_addRow 31 = .ok (.aload_n 0, 1) := by decide +kernel
theorem d_FW_addRow_32 : decode cd_FW_addRow 32 = .ok (.getfield 9, 3) := by decide +kernel
theorem d_FW_addRow_35 : decode cd_FW_addRow 35 = .ok (.iload_n 1, 1) := by decide +kernel
theorem d_FW_addRow_36 : decode cd_FW_addRow 36 = .ok (.iload_n 2, 1) := by decide +kernel
theorem d_FW_addRow_37 : decode cd_FW_addRow 37 = .ok (.iload 4, 2) := by decide +kernel
theorem d_FW_addRow_39 : decode cd_FW_addRow 39 = .ok (.aload_n 0, 1) := by decide +kernel
theorem d_FW_addRow_40 : decode cd_FW_addRow 40 = .ok (.getfield 27, 3) := by decide +kernel
theorem d_FW_addRow_43 : decode cd_FW_addRow 43 = .ok (.invokevirtual 79, 3) := by decide +kernel
theorem d_FW_addRow_46 : decode cd_FW_addRow 46 = .ok (.ifCond .eq 19, 3) := by decide +kernel
theorem d_FW_addRow_49 : decode cd_FW_addRow 49 = .ok (.aload_n 0, 1) := by decide +kernel
theorem d_FW_addRow_50 : decode cd_FW_addRow 50 = .ok (.getfield 27, 3) := by decide +kernel
theorem d_FW_addRow_53 : decode cd_FW_addRow 53 = .ok (.invokevirtual 48, 3) := by decide +kernel
theorem d_FW_addRow_56 : decode cd_FW_addRow 56 = .ok (.iload 5, 2) := by decide +kernel
theorem d_FW_addRow_58 : decode cd_FW_addRow 58 = .ok (.if_icmp .ge 7, 3) := by decide +kernel
theorem d_FW_addRow_61 : decode cd_FW_addRow 61 = .ok (.iconst 1, 1) := by decide +kernel
theorem d_FW_addRow_62 : decode cd_FW_addRow 62 = .ok (.goto 4, 3) := by decide +kernel
theorem d_FW_addRow_65 : decode cd_FW_addRow 65 = .ok (.iconst 0, 1) := by decide +kernel
theorem d_FW_addRow_66 : decode cd_FW_addRow 66 = .ok (.istore 6, 2) := by decide +kernel
theorem d_FW_addRow_68 : decode cd_FW_addRow 68 = .ok (.aload_n 0, 1) := by decide +kernel
theorem d_FW_addRow_69 : decode cd_FW_addRow 69 = .ok (.getfield 15, 3) := by decide +kernel
theorem d_FW_addRow_72 : decode cd_FW_addRow 72 = .ok (.iload 6, 2) := by decide +kernel
theorem d_FW_addRow_74 : decode cd_FW_addRow 74 = .ok (.ifCond .eq 13, 3) := by decide +kernel
theorem d_FW_addRow_77 : decode cd_FW_addRow 77 = .ok (.aload_n 0, 1) := by decide +kernel
theorem d_FW_addRow_78 : decode cd_FW_addRow 78 = .ok (.getfield 27, 3) := by decide +kernel
theorem d_FW_addRow_81 : decode cd_FW_addRow 81 = .ok (.invokevirtual 48, 3) := by decide +kernel
theorem d_FW_addRow_84 : decode cd_FW_addRow 84 = .ok (.goto 8, 3) := by decide +kernel
theorem d_FW_addRow_87 : decode cd_FW_addRow 87 = .ok (.iload 5, 2) := by decide +kernel
theorem d_FW_addRow_89 : decode cd_FW_addRow 89 = .ok (.ldc 83, 2) := by decide +kernel
theorem d_FW_addRow_91 : decode cd_FW_addRow 91 = .ok (.ior, 1) := by decide +kernel
theorem d_FW_addRow_92 : decode cd_FW_addRow 92 = .ok (.invokevirtual 64, 3) := by decide +kernel
theorem d_FW_addRow_95 : decode cd_FW_addRow 95 = .ok (.istore 7, 2) := by decide +kernel
theorem d_FW_addRow_97 : decode cd_FW_addRow 97 = .ok (.aload_n 0, 1) := by decide +kernel
theorem d_FW_addRow_98 : decode cd_FW_addRow 98 = .ok (.getfield 15, 3) := by decide +kernel
theorem d_FW_addRow_101 : decode cd_FW_addRow 101 = .ok (.invokevirtual 48, 3) := by decide +kernel
theorem d_FW_addRow_104 : decode cd_FW_addRow 104 = .ok (.istore 8, 2) := by decide +kernel
theorem d_FW_addRow_106 : decode cd_FW_addRow 106 = .ok (.iload 7, 2) := by decide +kernel
theorem d_FW_addRow_108 : decode cd_FW_addRow 108 = .ok (.ifCond .eq 53, 3) := by decide +kernel
theorem d_FW_addRow_111 : decode cd_FW_addRow 111 = .ok (.iload 6, 2) := by decide +kernel
theorem d_FW_addRow_113 : decode cd_FW_addRow 113 = .ok (.ifCond .eq 28, 3) := by decide +kernel
theorem d_FW_addRow_116 : decode cd_FW_addRow 116 = .ok (.aload_n 0, 1) := by decide +kernel
theorem d_FW_addRow_117 : decode cd_FW_addRow 117 = .ok (.getfield 15, 3) := by decide +kernel
theorem d_FW_addRow_120 : decode cd_FW_addRow 120 = .ok (.aload_n 0, 1) := by decide +kernel
theorem d_FW_addRow_121 : decode cd_FW_addRow 121 = .ok (.getfield 27, 3) := by decide +kernel
theorem d_FW_addRow_124 : decode cd_FW_addRow 124 = .ok (.iconst 0, 1) := by decide +kernel
theorem d_FW_addRow_125 : decode cd_FW_addRow 125 = .ok (.aload_n 0, 1) := by decide +kernel
theorem d_FW_addRow_126 : decode cd_FW_addRow 126 = .ok (.getfield 27, 3) := by decide +kernel
theorem d_FW_addRow_129 : decode cd_FW_addRow 129 = .ok (.invokevirtual 48, 3) := by decide +kernel
theorem d_FW_addRow_132 : decode cd_FW_addRow 132 = .ok (.invokevirtual 84, 3) := by decide +kernel
theorem d_FW_addRow_135 : decode cd_FW_addRow 135 = .ok (.ifCond .eq 26, 3) := by decide +kernel
theorem d_FW_addRow_138 : decode cd_FW_addRow 138 = .ok (.goto 19, 3) := by decide +kernel
theorem d_FW_addRow_141 : decode cd_FW_addRow 141 = .ok (.aload_n 0, 1) := by decide +kernel
theorem d_FW_addRow_142 : decode cd_FW_addRow 142 = .ok (.getfield 15, 3) := by decide +kernel
theorem d_FW_addRow_145 : decode cd_FW_addRow 145 = .ok (.aload_n 0, 1) := by decide +kernel
theorem d_FW_addRow_146 : decode cd_FW_addRow 146 = .ok (.getfield 9, 3) := by decide +kernel
theorem d_FW_addRow_149 : decode cd_FW_addRow 149 = .ok (.iload_n 1, 1) := by decide +kernel
theorem d_FW_addRow_150 : decode cd_FW_addRow 150 = .ok (.iload_n 2, 1) := by decide +kernel
theorem d_FW_addRow_151 : decode cd_FW_addRow 151 = .ok (.invokevirtual 84, 3) := by decide +kernel
theorem d_FW_addRow_154 : decode cd_FW_addRow 154 = .ok (.ifCond .eq 7, 3) := by decide +kernel
theorem d_FW_addRow_157 : decode cd_FW_addRow 157 = .ok (.iconst 1, 1) := by decide +kernel
theorem d_FW_addRow_158 : decode cd_FW_addRow 158 = .ok (.goto 4, 3) := by decide +kernel
theorem d_FW_addRow_161 : decode cd_FW_addRow 161 = .ok (.iconst 0, 1) := by decide +kernel
theorem d_FW_addRow_162 : decode cd_FW_addRow 162 = .ok (.istore 7, 2) := by decide +kernel
theorem d_FW_addRow_164 : decode cd_FW_addRow 164 = .ok (.iload_n 3, 1) := by decide +kernel
theorem d_FW_addRow_165 : decode cd_FW_addRow 165 = .ok (.bipush 16, 2) := by decide +kernel
theorem d_FW_addRow_167 : decode cd_FW_addRow 167 = .ok (.iand, 1) := by decide +kernel
theorem d_FW_addRow_168 : decode cd_FW_addRow 168 = .ok (.ifCond .eq 41, 3) := by decide +kernel
theorem d_FW_addRow_171 : decode cd_FW_addRow 171 = .ok (.iload 7, 2) := by decide +kernel
theorem d_FW_addRow_173 : decode cd_FW_addRow 173 = .ok (.ifCond .eq 33, 3) := by decide +kernel
theorem d_FW_addRow_176 : decode cd_FW_addRow 176 = .ok (.aload_n 0, 1) := by decide +kernel
theorem d_FW_addRow_177 : decode cd_FW_addRow 177 = .ok (.getfield 15, 3) := by decide +kernel
theorem d_FW_addRow_180 : decode cd_FW_addRow 180 = .ok (.aload_n 0, 1) := by decide +kernel
theorem d_FW_addRow_181 : decode cd_FW_addRow 181 = .ok (.getfield 15, 3) := by decide +kernel
theorem d_FW_addRow_184 : decode cd_FW_addRow 184 = .ok (.iload 8, 2) := by decide +kernel
theorem d_FW_addRow_186 : decode cd_FW_addRow 186 = .ok (.aload_n 0, 1) := by decide +kernel
theorem d_FW_addRow_187 : decode cd_FW_addRow 187 = .ok (.getfield 15, 3) := by decide +kernel
theorem d_FW_addRow_190 : decode cd_FW_addRow 190 = .ok (.invokevirtual 48, 3) := by decide +kernel
theorem d_FW_addRow_193 : decode cd_FW_addRow 193 = .ok (.invokestatic 70, 3) := by decide +kernel
theorem d_FW_addRow_196 : decode cd_FW_addRow 196 = .ok (.invokevirtual 64, 3) := by decide +kernel
theorem d_FW_addRow_199 : decode cd_FW_addRow 199 = .ok (.ifCond .eq 7, 3) := by decide +kernel
theorem d_FW_addRow_202 : decode cd_FW_addRow 202 = .ok (.iconst 1, 1) := by decide +kernel
theorem d_FW_addRow_203 : decode cd_FW_addRow 203 = .ok (.goto 4, 3) := by decide +kernel
theorem d_FW_addRow_206 : decode cd_FW_addRow 206 = .ok (.iconst 0, 1) := by decide +kernel
theorem d_FW_addRow_207 : decode cd_FW_addRow 207 = .ok (.istore 7, 2) := by decide +kernel
theorem d_FW_addRow_209 : decode cd_FW_addRow 209 = .ok (.iload 7, 2) := by decide +kernel
theorem d_FW_addRow_211 : decode cd_FW_addRow 211 = .ok (.ireturn, 1) := by decide +kernel
theorem d_FW_addTail_0 : decode cd_FW_addTail 0 = .ok (.aload_n 0, 1) := by decide +kernel
theorem d_FW_addTail_1 : decode cd_FW_addTail 1 = .ok (.getfield 15, 3) := by decide +kernel
theorem d_FW_addTail_4 : decode cd_FW_addTail 4 = .ok (.iconst 0, 1) := by decide +kernel
theorem d_FW_addTail_5 : decode cd_FW_addTail 5 = .ok (.invokevirtual 64, 3) := by decide +kernel
theorem d_FW_addTail_8 : decode cd_FW_addTail 8 = .ok (.istore_n 2, 1) := by decide +kernel
theorem d_FW_addTail_9 : decode cd_FW_addTail 9 = .ok (.iload_n 1, 1) := by decide +kernel
theorem d_FW_addTail_10 : decode cd_FW_addTail 10 = .ok (.iconst 4, 1) := by decide +kernel
theorem d_FW_addTail_11 : decode cd_FW_addTail 11 = .ok (.iand, 1) := by decide +kernel
theorem d_FW_addTail_12 : decode cd_FW_addTail 12 = .ok (.ifCond .eq 38, 3) := by decide +kernel
theorem d_FW_addTail_15 : decode cd_FW_addTail 15 = .ok (.iload_n 2, 1) := by decide +kernel
theorem d_FW_addTail_16 : decode cd_FW_addTail 16 = .ok (.ifCond .eq 32, 3) := by decide +kernel
theorem d_FW_addTail_19 : decode cd_FW_addTail 19 = .ok (.aload_n 0, 1) := by decide +kernel
theorem d_FW_addTail_20 : decode cd_FW_addTail 20 = .ok (.getfield 15, 3) := by decide +kernel
theorem d_FW_addTail_23 : decode cd_FW_addTail 23 = .ok (.aload_n 0, 1) := by decide +kernel
theorem d_FW_addTail_24 : decode cd_FW_addTail 24 = .ok (.getfield 9, 3) := by decide +kernel
theorem d_FW_addTail_27 : decode cd_FW_addTail 27 = .ok (.iconst 0, 1) := by decide +kernel
theorem d_FW_addTail_28 : decode cd_FW_addTail 28 = .ok (.aload_n 0, 1) := by decide +kernel
theorem d_FW_addTail_29 : decode cd_FW_addTail 29 = .ok (.getfield 9, 3) := by decide +kernel
theorem d_FW_addTail_32 : decode cd_FW_addTail 32 = .ok (.invokevirtual 48, 3) := by decide +kernel
theorem d_FW_addTail_35 : decode cd_FW_addTail 35 = .ok (.invokestatic 70, 3) := by decide +kernel
theorem d_FW_addTail_38 : decode cd_FW_addTail 38 = .ok (.invokevirtual 64, 3) := by decide +kernel
theorem d_FW_addTail_41 : decode cd_FW_addTail 41 = .ok (.ifCond .eq 7, 3) := by decide +kernel
theorem d_FW_addTail_44 : decode cd_FW_addTail 44 = .ok (.iconst 1, 1) := by decide +kernel
theorem d_FW_addTail_45 : decode cd_FW_addTail 45 = .ok (.goto 4, 3) := by decide +kernel
theorem d_FW_addTail_48 : decode cd_FW_addTail 48 = .ok (.iconst 0, 1) := by decide +kernel
theorem d_FW_addTail_49 : decode cd_FW_addTail 49 = .ok (.istore_n 2, 1) := by decide +kernel
theorem d_FW_addTail_50 : decode cd_FW_addTail 50 = .ok (.iload_n 2, 1) := by decide +kernel
theorem d_FW_addTail_51 : decode cd_FW_addTail 51 = .ok (.ireturn, 1) := by decide +kernel
