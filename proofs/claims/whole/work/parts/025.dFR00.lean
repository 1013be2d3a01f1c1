theorem d_FR_init_0 : decode cd_FR_init 0 = .ok (.aload_n 0, 1) := by decide +kernel
theorem d_FR_init_1 : decode cd_FR_init 1 = .ok (.invokespecial 3, 3) := by decide +kernel
theorem d_FR_init_4 : decode cd_FR_init 4 = .ok (.aload_n 0, 1) := by decide +kernel
theorem d_FR_init_5 : decode cd_FR_init 5 = .ok (.aload_n 1, 1) := by decide +kernel
theorem d_FR_init_6 : decode cd_FR_init 6 = .ok (.putfield 9, 3) := by decide +kernel
theorem d_FR_init_9 : decode cd_FR_init 9 = .ok (.aload_n 0, 1) := by decide +kernel
theorem d_FR_init_10 : decode cd_FR_init 10 = .ok (.aload_n 2, 1) := by decide +kernel
theorem d_FR_init_11 : decode cd_FR_init 11 = .ok (.putfield 15, 3) := by decide +kernel
theorem d_FR_init_14 : decode cd_FR_init 14 = .ok (.aload_n 0, 1) := by decide +kernel
theorem d_FR_init_15 : decode cd_FR_init 15 = .ok (.aload_n 3, 1) := by decide +kernel
theorem d_FR_init_16 : decode cd_FR_init 16 = .ok (.putfield 18, 3) := by decide +kernel
theorem d_FR_init_19 : decode cd_FR_init 19 = .ok (.return_, 1) := by decide +kernel
theorem d_FR_readFrames_0 : decode cd_FR_readFrames 0 = .ok (.aload_n 0, 1) := by decide +kernel
theorem d_FR_readFrames_1 : decode cd_FR_readFrames 1 = .ok (.iload_n 1, 1) := by decide +kernel
theorem d_FR_readFrames_2 : decode cd_FR_readFrames 2 = .ok (.putfield 26, 3) := by decide +kernel
theorem d_FR_readFrames_5 : decode cd_FR_readFrames 5 = .ok (.aload_n 0, 1) := by decide +kernel
theorem d_FR_readFrames_6 : decode cd_FR_readFrames 6 = .ok (.iconst 0, 1) := by decide +kernel
theorem d_FR_readFrames_7 : decode cd_FR_readFrames 7 = .ok (.putfield 29, 3) := by decide +kernel
theorem d_FR_readFrames_10 : decode cd_FR_readFrames 10 = .ok (.iconst 0, 1) := by decide +kernel
theorem d_FR_readFrames_11 : decode cd_FR_readFrames 11 = .ok (.istore_n 2, 1) := by decide +kernel
theorem d_FR_readFrames_12 : decode cd_FR_readFrames 12 = .ok (.iload_n 2, 1) := by decide +kernel
theorem d_FR_readFrames_13 : decode cd_FR_readFrames 13 = .ok (.aload_n 0, 1) := by decide +kernel
theorem d_FR_readFrames_14 : decode cd_FR_readFrames 14 = .ok (.getfield 9, 3) := by decide +kernel
theorem d_FR_readFrames_17 : decode cd_FR_readFrames 17 = .ok (.invokevirtual 32, 3) := by decide +kernel
theorem d_FR_readFrames_20 : decode cd_FR_readFrames 20 = .ok (.if_icmp .ge 104, 3) := by decide +kernel
theorem d_FR_readFrames_23 : decode cd_FR_readFrames 23 = .ok (.aload_n 0, 1) := by decide +kernel
theorem d_FR_readFrames_24 : decode cd_FR_readFrames 24 = .ok (.getfield 29, 3) := by decide +kernel
theorem d_FR_readFrames_27 : decode cd_FR_readFrames 27 = .ok (.aload_n 0, 1) := by decide +kernel
theorem d_FR_readFrames_28 : decode cd_FR_readFrames 28 = .ok (.getfield 9, 3) := by decide +kernel
theorem d_FR_readFrames_31 : decode cd_FR_readFrames 31 = .ok (.invokevirtual 32, 3) := by decide +kernel
theorem d_FR_readFrames_34 : decode cd_FR_readFrames 34 = .ok (.if_icmp .ge 90, 3) := by decide +kernel
theorem d_FR_readFrames_37 : decode cd_FR_readFrames 37 = .ok (.aload_n 0, 1) := by decide +kernel
theorem d_FR_readFrames_38 : decode cd_FR_readFrames 38 = .ok (.getfield 9, 3) := by decide +kernel
theorem d_FR_readFrames_41 : decode cd_FR_readFrames 41 = .ok (.aload_n 0, 1) := by decide +kernel
theorem d_FR_readFrames_42 : decode cd_FR_readFrames 42 = .ok (.getfield 29, 3) := by decide +kernel
theorem d_FR_readFrames_45 : decode cd_FR_readFrames 45 = .ok (.invokevirtual 38, 3) := by decide +kernel
theorem d_FR_readFrames_48 : decode cd_FR_readFrames 48 = .ok (.istore_n 3, 1) := by decide +kernel
theorem d_FR_readFrames_49 : decode cd_FR_readFrames 49 = .ok (.aload_n 0, 1) := by decide +kernel
theorem d_FR_readFrames_50 : decode cd_FR_readFrames 50 = .ok (.invokevirtual 42, 3) := by decide +kernel
theorem d_FR_readFrames_53 : decode cd_FR_readFrames 53 = .ok (.iconst 4, 1) := by decide +kernel
theorem d_FR_readFrames_54 : decode cd_FR_readFrames 54 = .ok (.if_icmp .ge 12, 3) := by decide +kernel
theorem d_FR_readFrames_57 : decode cd_FR_readFrames 57 = .ok (.aload_n 0, 1) := by decide +kernel
theorem d_FR_readFrames_58 : decode cd_FR_readFrames 58 = .ok (.invokevirtual 45, 3) := by decide +kernel
theorem d_FR_readFrames_61 : decode cd_FR_readFrames 61 = .ok (.istore 4, 2) := by decide +kernel
theorem d_FR_readFrames_63 : decode cd_FR_readFrames 63 = .ok (.goto 47, 3) := by decide +kernel
theorem d_FR_readFrames_66 : decode cd_FR_readFrames 66 = .ok (.iload_n 3, 1) := by decide +kernel
theorem d_FR_readFrames_67 : decode cd_FR_readFrames 67 = .ok (.ldc 48, 2) := by decide +kernel
theorem d_FR_readFrames_69 : decode cd_FR_readFrames 69 = .ok (.if_icmp .ne 12, 3) := by decide +kernel
theorem d_FR_readFrames_72 : decode cd_FR_readFrames 72 = .ok (.aload_n 0, 1) := by decide +kernel
theorem d_FR_readFrames_73 : decode cd_FR_readFrames 73 = .ok (.invokevirtual 49, 3) := by decide +kernel
theorem d_FR_readFrames_76 : decode cd_FR_readFrames 76 = .ok (.istore 4, 2) := by decide +kernel
theorem d_FR_readFrames_78 : decode cd_FR_readFrames 78 = .ok (.goto 32, 3) := by decide +kernel
theorem d_FR_readFrames_81 : decode cd_FR_readFrames 81 = .ok (.iload_n 3, 1) := by decide +kernel
theorem d_FR_readFrames_82 : decode cd_FR_readFrames 82 = .ok (.bipush (-16), 2) := by decide +kernel
theorem d_FR_readFrames_84 : decode cd_FR_readFrames 84 = .ok (.iand, 1) := by decide +kernel
theorem d_FR_readFrames_85 : decode cd_FR_readFrames 85 = .ok (.ldc 52, 2) := by decide +kernel
theorem d_FR_readFrames_87 : decode cd_FR_readFrames 87 = .ok (.if_icmp .ne 12, 3) := by decide +kernel
theorem d_FR_readFrames_90 : decode cd_FR_readFrames 90 = .ok (.aload_n 0, 1) := by decide +kernel
theorem d_FR_readFrames_91 : decode cd_FR_readFrames 91 = .ok (.invokevirtual 53, 3) := by decide +kernel
theorem d_FR_readFrames_94 : decode cd_FR_readFrames 94 = .ok (.istore 4, 2) := by decide +kernel
theorem d_FR_readFrames_96 : decode cd_FR_readFrames 96 = .ok (.goto 14, 3) := by decide +kernel
theorem d_FR_readFrames_99 : decode cd_FR_readFrames 99 = .ok (.aload_n 0, 1) := by decide +kernel
theorem d_FR_readFrames_100 : decode cd_FR_readFrames 100 = .ok (.iconst 4, 1) := by decide +kernel
theorem d_FR_readFrames_101 : decode cd_FR_readFrames 101 = .ok (.aload_n 0, 1) := by decide +kernel
theorem d_FR_readFrames_102 : decode cd_FR_readFrames 102 = .ok (.getfield 29, 3) := by decide +kernel
theorem d_FR_readFrames_105 : decode cd_FR_readFrames 105 = .ok (.invokevirtual 56, 3) := by decide +kernel
theorem d_FR_readFrames_108 : decode cd_FR_readFrames 108 = .ok (.istore 4, 2) := by decide +kernel
theorem d_FR_readFrames_110 : decode cd_FR_readFrames 110 = .ok (.iload 4, 2) := by decide +kernel
theorem d_FR_readFrames_112 : decode cd_FR_readFrames 112 = .ok (.ifCond .eq 6, 3) := by decide +kernel
theorem d_FR_readFrames_115 : decode cd_FR_readFrames 115 = .ok (.iload 4, 2) := by decide +kernel
theorem d_FR_readFrames_117 : decode cd_FR_readFrames 117 = .ok (.ireturn, 1) := by decide +kernel
theorem d_FR_readFrames_118 : decode cd_FR_readFrames 118 = .ok (.iinc 2 1, 3) := by decide +kernel
theorem d_FR_readFrames_121 : decode cd_FR_readFrames 121 = .ok (.goto (-109), 3) := by decide +kernel
theorem d_FR_readFrames_124 : decode cd_FR_readFrames 124 = .ok (.aload_n 0, 1) := by decide +kernel
theorem d_FR_readFrames_125 : decode cd_FR_readFrames 125 = .ok (.aload_n 0, 1) := by decide +kernel
theorem d_FR_readFrames_126 : decode cd_FR_readFrames 126 = .ok (.getfield 9, 3) := by decide +kernel
theorem d_FR_readFrames_129 : decode cd_FR_readFrames 129 = .ok (.invokevirtual 32, 3) := by decide +kernel
theorem d_FR_readFrames_132 : decode cd_FR_readFrames 132 = .ok (.putfield 22, 3) := by decide +kernel
theorem d_FR_readFrames_135 : decode cd_FR_readFrames 135 = .ok (.iconst 0, 1) := by decide +kernel
theorem d_FR_readFrames_136 : decode cd_FR_readFrames 136 = .ok (.ireturn, 1) := by decide +kernel
theorem d_FR_left_0 : decode cd_FR_left 0 = .ok (.aload_n 0, 1) := by decide +kernel
theorem d_FR_left_1 : decode cd_FR_left 1 = .ok (.getfield 9, 3) := by decide +kernel
theorem d_FR_left_4 : decode cd_FR_left 4 = .ok (.invokevirtual 32, 3) := by decide +kernel
theorem d_FR_left_7 : decode cd_FR_left 7 = .ok (.aload_n 0, 1) := by decide +kernel
theorem d_FR_left_8 : decode cd_FR_left 8 = .ok (.getfield 29, 3) := by decide +kernel
theorem d_FR_left_11 : decode cd_FR_left 11 = .ok (.isub, 1) := by decide +kernel
theorem d_FR_left_12 : decode cd_FR_left 12 = .ok (.ireturn, 1) := by decide +kernel
theorem d_FR_cut_0 : decode cd_FR_cut 0 = .ok (.aload_n 0, 1) := by decide +kernel
theorem d_FR_cut_1 : decode cd_FR_cut 1 = .ok (.iconst 1, 1) := by decide +kernel
theorem d_FR_cut_2 : decode cd_FR_cut 2 = .ok (.aload_n 0, 1) := by decide +kernel
theorem d_FR_cut_3 : decode cd_FR_cut 3 = .ok (.getfield 9, 3) := by decide +kernel
theorem d_FR_cut_6 : decode cd_FR_cut 6 = .ok (.invokevirtual 32, 3) := by decide +kernel
theorem d_FR_cut_9 : decode cd_FR_cut 9 = .ok (.invokevirtual 56, 3) := by decide +kernel
theorem d_FR_cut_12 : decode cd_FR_cut 12 = .ok (.ireturn, 1) := by decide +kernel
theorem d_FR_fault_0 : decode cd_FR_fault 0 = .ok (.aload_n 0, 1) := by decide +kernel
theorem d_FR_fault_1 : decode cd_FR_fault 1 = .ok (.iload_n 2, 1) := by decide +kernel
theorem d_FR_fault_2 : decode cd_FR_fault 2 = .ok (.putfield 22, 3) := by decide +kernel
theorem d_FR_fault_5 : decode cd_FR_fault 5 = .ok (.iload_n 1, 1) := by decide +kernel
theorem d_FR_fault_6 : decode cd_FR_fault 6 = .ok (.ireturn, 1) := by decide +kernel
theorem d_FR_readFrame_0 : decode cd_FR_readFrame 0 = .ok (.aload_n 0, 1) := by decide +kernel
theorem d_FR_readFrame_1 : decode cd_FR_readFrame 1 = .ok (.dup, 1) := by decide +kernel
theorem d_FR_readFrame_2 : decode cd_FR_readFrame 2 = .ok (.getfield 29, 3) := by decide +kernel
theorem d_FR_readFrame_5 : decode cd_FR_readFrame 5 = .ok (.iconst 4, 1) := by decide +kernel
theorem d_FR_readFrame_6 : decode cd_FR_readFrame 6 = .ok (.iadd, 1) := by decide +kernel
theorem d_FR_readFrame_7 : decode cd_FR_readFrame 7 = .ok (.putfield 29, 3) := by decide +kernel
theorem d_FR_readFrame_10 : decode cd_FR_readFrame 10 = .ok (.aload_n 0, 1) := by decide +kernel
theorem d_FR_readFrame_11 : decode cd_FR_readFrame 11 = .ok (.aload_n 0, 1) := by decide +kernel
theorem d_FR_readFrame_12 : decode cd_FR_readFrame 12 = .ok (.getfield 15, 3) := by decide +kernel
theorem d_FR_readFrame_15 : decode cd_FR_readFrame 15 = .ok (.invokevirtual 32, 3) := by decide +kernel
theorem d_FR_readFrame_18 : decode cd_FR_readFrame 18 = .ok (.putfield 65, 3) := by decide +kernel
theorem d_FR_readFrame_21 : decode cd_FR_readFrame 21 = .ok (.aload_n 0, 1) := by decide +kernel
theorem d_FR_readFrame_22 : decode cd_FR_readFrame 22 = .ok (.getfield 29, 3) := by decide +kernel
theorem d_FR_readFrame_25 : decode cd_FR_readFrame 25 = .ok (.istore_n 1, 1) := by decide +kernel
theorem d_FR_readFrame_26 : decode cd_FR_readFrame 26 = .ok (.aload_n 0, 1) := by decide +kernel
theorem d_FR_readFrame_27 : decode cd_FR_readFrame 27 = .ok (.invokevirtual 68, 3) := by decide +kernel
theorem d_FR_readFrame_30 : decode cd_FR_readFrame 30 = .ok (.istore_n 2, 1) := by decide +kernel
theorem d_FR_readFrame_31 : decode cd_FR_readFrame 31 = .ok (.iload_n 2, 1) := by decide +kernel
theorem d_FR_readFrame_32 : decode cd_FR_readFrame 32 = .ok (.ifCond .eq 7, 3) := by decide +kernel
theorem d_FR_readFrame_35 : decode cd_FR_readFrame 35 = .ok (.iload_n 2, 1) := by decide +kernel
theorem d_FR_readFrame_36 : decode cd_FR_readFrame 36 = .ok (.goto 8, 3) := by decide +kernel
theorem d_FR_readFrame_39 : decode cd_FR_readFrame 39 = .ok (.aload_n 0, 1) := by decide +kernel
theorem d_FR_readFrame_40 : decode cd_FR_readFrame 40 = .ok (.iload_n 1, 1) := by decide +kernel
theorem d_FR_readFrame_41 : decode cd_FR_readFrame 41 = .ok (.invokevirtual 71, 3) := by decide +kernel
theorem d_FR_readFrame_44 : decode cd_FR_readFrame 44 = .ok (.istore_n 2, 1) := by decide +kernel
theorem d_FR_readFrame_45 : decode cd_FR_readFrame 45 = .ok (.aload_n 0, 1) := by decide +kernel
theorem d_FR_readFrame_46 : decode cd_FR_readFrame 46 = .ok (.getfield 29, 3) := by decide +kernel
theorem d_FR_readFrame_49 : decode cd_FR_readFrame 49 = .ok (.istore_n 3, 1) := by decide +kernel
theorem d_FR_readFrame_50 : decode cd_FR_readFrame 50 = .ok (.iload_n 3, 1) := by decide +kernel
theorem d_FR_readFrame_51 : decode cd_FR_readFrame 51 = .ok (.aload_n 0, 1) := by decide +kernel
theorem d_FR_readFrame_52 : decode cd_FR_readFrame 52 = .ok (.getfield 9, 3) := by decide +kernel
theorem d_FR_readFrame_55 : decode cd_FR_readFrame 55 = .ok (.invokevirtual 32, 3) := by decide +kernel
theorem d_FR_readFrame_58 : decode cd_FR_readFrame 58 = .ok (.if_icmp .ge 66, 3) := by decide +kernel
theorem d_FR_readFrame_61 : decode cd_FR_readFrame 61 = .ok (.iload_n 2, 1) := by decide +kernel
theorem d_FR_readFrame_62 : decode cd_FR_readFrame 62 = .ok (.ifCond .ne 62, 3) := by decide +kernel
theorem d_FR_readFrame_65 : decode cd_FR_readFrame 65 = .ok (.aload_n 0, 1) := by decide +kernel
theorem d_FR_readFrame_66 : decode cd_FR_readFrame 66 = .ok (.invokevirtual 42, 3) := by decide +kernel
theorem d_FR_readFrame_69 : decode cd_FR_readFrame 69 = .ok (.iconst 4, 1) := by decide +kernel
theorem d_FR_readFrame_70 : decode cd_FR_readFrame 70 = .ok (.if_icmp .ge 8, 3) := by decide +kernel
theorem d_FR_readFrame_73 : decode cd_FR_readFrame 73 = .ok (.aload_n 0, 1) := by decide +kernel
theorem d_FR_readFrame_74 : decode cd_FR_readFrame 74 = .ok (.invokevirtual 45, 3) := by decide +kernel
theorem d_FR_readFrame_77 : decode cd_FR_readFrame 77 = .ok (.ireturn, 1) := by decide +kernel
theorem d_FR_readFrame_78 : decode cd_FR_readFrame 78 = .ok (.aload_n 0, 1) := by decide +kernel
theorem d_FR_readFrame_79 : decode cd_FR_readFrame 79 = .ok (.getfield 9, 3) := by decide +kernel
theorem d_FR_readFrame_82 : decode cd_FR_readFrame 82 = .ok (.aload_n 0, 1) := by decide +kernel
theorem d_FR_readFrame_83 : decode cd_FR_readFrame 83 = .ok (.getfield 29, 3) := by decide +kernel
theorem d_FR_readFrame_86 : decode cd_FR_readFrame 86 = .ok (.invokevirtual 38, 3) := by decide +kernel
theorem d_FR_readFrame_89 : decode cd_FR_readFrame 89 = .ok (.istore 4, 2) := by decide +kernel
theorem d_FR_readFrame_91 : decode cd_FR_readFrame 91 = .ok (.iload 4, 2) := by decide +kernel
theorem d_FR_readFrame_93 : decode cd_FR_readFrame 93 = .ok (.ifCond .ne 18, 3) := by decide +kernel
theorem d_FR_readFrame_96 : decode cd_FR_readFrame 96 = .ok (.aload_n 0, 1) := by decide +kernel
theorem d_FR_readFrame_97 : decode cd_FR_readFrame 97 = .ok (.dup, 1) := by decide +kernel
theorem d_FR_readFrame_98 : decode cd_FR_readFrame 98 = .ok (.getfield 29, 3) := by decide +kernel
theorem d_FR_readFrame_101 : decode cd_FR_readFrame 101 = .ok (.iconst 4, 1) := by decide +kernel
theorem d_FR_readFrame_102 : decode cd_FR_readFrame 102 = .ok (.iadd, 1) := by decide +kernel
theorem d_FR_readFrame_103 : decode cd_FR_readFrame 103 = .ok (.putfield 29, 3) := by decide +kernel
theorem d_FR_readFrame_106 : decode cd_FR_readFrame 106 = .ok (.aload_n 0, 1) := by decide +kernel
theorem d_FR_readFrame_107 : decode cd_FR_readFrame 107 = .ok (.invokevirtual 74, 3) := by decide +kernel
theorem d_FR_readFrame_110 : decode cd_FR_readFrame 110 = .ok (.ireturn, 1) := by decide +kernel
theorem d_FR_readFrame_111 : decode cd_FR_readFrame 111 = .ok (.aload_n 0, 1) := by decide +kernel
theorem d_FR_readFrame_112 : decode cd_FR_readFrame 112 = .ok (.iload 4, 2) := by decide +kernel
theorem d_FR_readFrame_114 : decode cd_FR_readFrame 114 = .ok (.invokevirtual 77, 3) := by decide +kernel
theorem d_FR_readFrame_117 : decode cd_FR_readFrame 117 = .ok (.istore_n 2, 1) := by decide +kernel
theorem d_FR_readFrame_118 : decode cd_FR_readFrame 118 = .ok (.iinc 3 1, 3) := by decide +kernel
theorem d_FR_readFrame_121 : decode cd_FR_readFrame 121 = .ok (.goto (-71), 3) := by decide +kernel
theorem d_FR_readFrame_124 : decode cd_FR_readFrame 124 = .ok (.iload_n 2, 1) := by decide +kernel
theorem d_FR_readFrame_125 : decode cd_FR_readFrame 125 = .ok (.ifCond .eq 7, 3) := by decide +kernel
theorem d_FR_readFrame_128 : decode cd_FR_readFrame 128 = .ok (.iload_n 2, 1) := by decide +kernel
theorem d_FR_readFrame_129 : decode cd_FR_readFrame 129 = .ok (.goto 7, 3) := by decide +kernel
theorem d_FR_readFrame_132 : decode cd_FR_readFrame 132 = .ok (.aload_n 0, 1) := by decide +kernel
theorem d_FR_readFrame_133 : decode cd_FR_readFrame 133 = .ok (.invokevirtual 45, 3) := by decide +kernel
theorem d_FR_readFrame_136 : decode cd_FR_readFrame 136 = .ok (.ireturn, 1) := by decide +kernel
theorem d_FR_readFlags_0 : decode cd_FR_readFlags 0 = .ok (.aload_n 0, 1) := by decide +kernel
theorem d_FR_readFlags_1 : decode cd_FR_readFlags 1 = .ok (.invokevirtual 42, 3) := by decide +kernel
theorem d_FR_readFlags_4 : decode cd_FR_readFlags 4 = .ok (.iconst 1, 1) := by decide +kernel
theorem d_FR_readFlags_5 : decode cd_FR_readFlags 5 = .ok (.if_icmp .ge 8, 3) := by decide +kernel
theorem d_FR_readFlags_8 : decode cd_FR_readFlags 8 = .ok (.aload_n 0, 1) := by decide +kernel
theorem d_FR_readFlags_9 : decode cd_FR_readFlags 9 = .ok (.invokevirtual 45, 3) := by decide +kernel
theorem d_FR_readFlags_12 : decode cd_FR_readFlags 12 = .ok (.ireturn, 1) := by decide +kernel
theorem d_FR_readFlags_13 : decode cd_FR_readFlags 13 = .ok (.aload_n 0, 1) := by decide +kernel
theorem d_FR_readFlags_14 : decode cd_FR_readFlags 14 = .ok (.aload_n 0, 1) := by decide +kernel
theorem d_FR_readFlags_15 : decode cd_FR_readFlags 15 = .ok (.getfield 9, 3) := by decide +kernel
theorem d_FR_readFlags_18 : decode cd_FR_readFlags 18 = .ok (.aload_n 0, 1) := by decide +kernel
theorem d_FR_readFlags_19 : decode cd_FR_readFlags 19 = .ok (.getfield 29, 3) := by decide +kernel
theorem d_FR_readFlags_22 : decode cd_FR_readFlags 22 = .ok (.invokevirtual 80, 3) := by decide +kernel
theorem d_FR_readFlags_25 : decode cd_FR_readFlags 25 = .ok (.putfield 60, 3) := by decide +kernel
theorem d_FR_readFlags_28 : decode cd_FR_readFlags 28 = .ok (.aload_n 0, 1) := by decide +kernel
theorem d_FR_readFlags_29 : decode cd_FR_readFlags 29 = .ok (.getfield 60, 3) := by decide +kernel
theorem d_FR_readFlags_32 : decode cd_FR_readFlags 32 = .ok (.invokestatic 83, 3) := by decide +kernel
theorem d_FR_readFlags_35 : decode cd_FR_readFlags 35 = .ok (.ifCond .ne 13, 3) := by decide +kernel
theorem d_FR_readFlags_38 : decode cd_FR_readFlags 38 = .ok (.aload_n 0, 1) := by decide +kernel
theorem d_FR_readFlags_39 : decode cd_FR_readFlags 39 = .ok (.iconst 5, 1) := by decide +kernel
theorem d_FR_readFlags_40 : decode cd_FR_readFlags 40 = .ok (.aload_n 0, 1) := by decide +kernel
theorem d_FR_readFlags_41 : decode cd_FR_readFlags 41 = .ok (.getfield 29, 3) := by decide +kernel
theorem d_FR_readFlags_44 : decode cd_FR_readFlags 44 = .ok (.invokevirtual 56, 3) := by decide +kernel
theorem d_FR_readFlags_47 : decode cd_FR_readFlags 47 = .ok (.ireturn, 1) := by decide +kernel
theorem d_FR_readFlags_48 : decode cd_FR_readFlags 48 = .ok (.aload_n 0, 1) := by decide +kernel
theorem d_FR_readFlags_49 : decode cd_FR_readFlags 49 = .ok (.dup, 1) := by decide +kernel
theorem d_FR_readFlags_50 : decode cd_FR_readFlags 50 = .ok (.getfield 29, 3) := by decide +kernel
theorem d_FR_readFlags_53 : decode cd_FR_readFlags 53 = .ok (.iconst 1, 1) := by decide +kernel
theorem d_FR_readFlags_54 : decode cd_FR_readFlags 54 = .ok (.iadd, 1) := by decide +kernel
theorem d_FR_readFlags_55 : decode cd_FR_readFlags 55 = .ok (.putfield 29, 3) := by decide +kernel
theorem d_FR_readFlags_58 : decode cd_FR_readFlags 58 = .ok (.aload_n 0, 1) := by decide +kernel
theorem d_FR_readFlags_59 : decode cd_FR_readFlags 59 = .ok (.invokevirtual 42, 3) := by decide +kernel
theorem d_FR_readFlags_62 : decode cd_FR_readFlags 62 = .ok (.iconst 1, 1) := by decide +kernel
theorem d_FR_readFlags_63 : decode cd_FR_readFlags 63 = .ok (.if_icmp .ge 8, 3) := by decide +kernel
theorem d_FR_readFlags_66 : decode cd_FR_readFlags 66 = .ok (.aload_n 0, 1) := by decide +kernel
theorem d_FR_readFlags_67 : decode cd_FR_readFlags 67 = .ok (.invokevirtual 45, 3) := by decide +kernel
theorem d_FR_readFlags_70 : decode cd_FR_readFlags 70 = .ok (.ireturn, 1) := by decide +kernel
theorem d_FR_readFlags_71 : decode cd_FR_readFlags 71 = .ok (.aload_n 0, 1) := by decide +kernel
theorem d_FR_readFlags_72 : decode cd_FR_readFlags 72 = .ok (.getfield 9, 3) := by decide +kernel
theorem d_FR_readFlags_75 : decode cd_FR_readFlags 75 = .ok (.aload_n 0, 1) := by decide +kernel
theorem d_FR_readFlags_76 : decode cd_FR_readFlags 76 = .ok (.getfield 29, 3) := by decide +kernel
theorem d_FR_readFlags_79 : decode cd_FR_readFlags 79 = .ok (.invokevirtual 80, 3) := by decide +kernel
theorem d_FR_readFlags_82 : decode cd_FR_readFlags 82 = .ok (.iconst 4, 1) := by decide +kernel
theorem d_FR_readFlags_83 : decode cd_FR_readFlags 83 = .ok (.ishr, 1) := by decide +kernel
theorem d_FR_readFlags_84 : decode cd_FR_readFlags 84 = .ok (.istore_n 1, 1) := by decide +kernel
theorem d_FR_readFlags_85 : decode cd_FR_readFlags 85 = .ok (.iload_n 1, 1) := by decide +kernel
theorem d_FR_readFlags_86 : decode cd_FR_readFlags 86 = .ok (.invokestatic 87, 3) := by decide +kernel
theorem d_FR_readFlags_89 : decode cd_FR_readFlags 89 = .ok (.ifCond .eq 21, 3) := by decide +kernel
theorem d_FR_readFlags_92 : decode cd_FR_readFlags 92 = .ok (.aload_n 0, 1) := by decide +kernel
theorem d_FR_readFlags_93 : decode cd_FR_readFlags 93 = .ok (.getfield 9, 3) := by decide +kernel
theorem d_FR_readFlags_96 : decode cd_FR_readFlags 96 = .ok (.aload_n 0, 1) := by decide +kernel
theorem d_FR_readFlags_97 : decode cd_FR_readFlags 97 = .ok (.getfield 29, 3) := by decide +kernel
theorem d_FR_readFlags_100 : decode cd_FR_readFlags 100 = .ok (.invokevirtual 80, 3) := by decide +kernel
theorem d_FR_readFlags_103 : decode cd_FR_readFlags 103 = .ok (.bipush 16, 2) := by decide +kernel
theorem d_FR_readFlags_105 : decode cd_FR_readFlags 105 = .ok (.iload_n 1, 1) := by decide +kernel
theorem d_FR_readFlags_106 : decode cd_FR_readFlags 106 = .ok (.imul, 1) := by decide +kernel
theorem d_FR_readFlags_107 : decode cd_FR_readFlags 107 = .ok (.if_icmp .eq 13, 3) := by decide +kernel
theorem d_FR_readFlags_110 : decode cd_FR_readFlags 110 = .ok (.aload_n 0, 1) := by decide +kernel
theorem d_FR_readFlags_111 : decode cd_FR_readFlags 111 = .ok (.iconst 5, 1) := by decide +kernel
theorem d_FR_readFlags_112 : decode cd_FR_readFlags 112 = .ok (.aload_n 0, 1) := by decide +kernel
theorem d_FR_readFlags_113 : decode cd_FR_readFlags 113 = .ok (.getfield 29, 3) := by decide +kernel
theorem d_FR_readFlags_116 : decode cd_FR_readFlags 116 = .ok (.invokevirtual 56, 3) := by decide +kernel
theorem d_FR_readFlags_119 : decode cd_FR_readFlags 119 = .ok (.ireturn, 1) := by decide +kernel
theorem d_FR_readFlags_120 : decode cd_FR_readFlags 120 = .ok (.aload_n 0, 1) := by decide +kernel
theorem d_FR_readFlags_121 : decode cd_FR_readFlags 121 = .ok (.dup, 1) := by decide +kernel
theorem d_FR_readFlags_122 : decode cd_FR_readFlags 122 = .ok (.getfield 29, 3) := by decide +kernel
theorem d_FR_readFlags_125 : decode cd_FR_readFlags 125 = .ok (.iconst 1, 1) := by decide +kernel
theorem d_FR_readFlags_126 : decode cd_FR_readFlags 126 = .ok (.iadd, 1) := by decide +kernel
theorem d_FR_readFlags_127 : decode cd_FR_readFlags 127 = .ok (.putfield 29, 3) := by decide +kernel
theorem d_FR_readFlags_130 : decode cd_FR_readFlags 130 = .ok (.aload_n 0, 1) := by decide +kernel
theorem d_FR_readFlags_131 : decode cd_FR_readFlags 131 = .ok (.iconst 1, 1) := by decide +kernel
theorem d_FR_readFlags_132 : decode cd_FR_readFlags 132 = .ok (.bipush 8, 2) := by decide +kernel
theorem d_FR_readFlags_134 : decode cd_FR_readFlags 134 = .ok (.iconst 2, 1) := by decide +kernel
theorem d_FR_readFlags_135 : decode cd_FR_readFlags 135 = .ok (.iload_n 1, 1) := by decide +kernel
theorem d_FR_readFlags_136 : decode cd_FR_readFlags 136 = .ok (.imul, 1) := by decide +kernel
theorem d_FR_readFlags_137 : decode cd_FR_readFlags 137 = .ok (.iadd, 1) := by decide +kernel
theorem d_FR_readFlags_138 : decode cd_FR_readFlags 138 = .ok (.ishl, 1) := by decide +kernel
theorem d_FR_readFlags_139 : decode cd_FR_readFlags 139 = .ok (.putfield 90, 3) := by decide +kernel
theorem d_FR_readFlags_142 : decode cd_FR_readFlags 142 = .ok (.iconst 0, 1) := by decide +kernel
theorem d_FR_readFlags_143 : decode cd_FR_readFlags 143 = .ok (.ireturn, 1) := by decide +kernel
theorem d_FR_readHead_0 : decode cd_FR_readHead 0 = .ok (.aload_n 0, 1) := by decide +kernel
theorem d_FR_readHead_1 : decode cd_FR_readHead 1 = .ok (.aload_n 0, 1) := by decide +kernel
theorem d_FR_readHead_2 : decode cd_FR_readHead 2 = .ok (.getfield 29, 3) := by decide +kernel
theorem d_FR_readHead_5 : decode cd_FR_readHead 5 = .ok (.putfield 93, 3) := by decide +kernel
theorem d_FR_readHead_8 : decode cd_FR_readHead 8 = .ok (.aload_n 0, 1) := by decide +kernel
theorem d_FR_readHead_9 : decode cd_FR_readHead 9 = .ok (.bipush 8, 2) := by decide +kernel
theorem d_FR_readHead_11 : decode cd_FR_readHead 11 = .ok (.invokevirtual 96, 3) := by decide +kernel
theorem d_FR_readHead_14 : decode cd_FR_readHead 14 = .ok (.ifCond .eq 8, 3) := by decide +kernel
theorem d_FR_readHead_17 : decode cd_FR_readHead 17 = .ok (.bipush 8, 2) := by decide +kernel
theorem d_FR_readHead_19 : decode cd_FR_readHead 19 = .ok (.goto 4, 3) := by decide +kernel
theorem d_FR_readHead_22 : decode cd_FR_readHead 22 = .ok (.iconst 0, 1) := by decide +kernel
theorem d_FR_readHead_23 : decode cd_FR_readHead 23 = .ok (.aload_n 0, 1) := by decide +kernel
theorem d_FR_readHead_24 : decode cd_FR_readHead 24 = .ok (.iconst 1, 1) := by decide +kernel
theorem d_FR_readHead_25 : decode cd_FR_readHead 25 = .ok (.invokevirtual 96, 3) := by decide +kernel
theorem d_FR_readHead_28 : decode cd_FR_readHead 28 = .ok (.ifCond .eq 7, 3) := by decide +kernel
theorem d_FR_readHead_31 : decode cd_FR_readHead 31 = .ok (.iconst 4, 1) := by decide +kernel
theorem d_FR_readHead_32 : decode cd_FR_readHead 32 = .ok (.goto 4, 3) := by decide +kernel
theorem d_FR_readHead_35 : decode cd_FR_readHead 35 = .ok (.iconst 0, 1) := by decide +kernel
theorem d_FR_readHead_36 : decode cd_FR_readHead 36 = .ok (.iadd, 1) := by decide +kernel
theorem d_FR_readHead_37 : decode cd_FR_readHead 37 = .ok (.istore_n 2, 1) := by decide +kernel
theorem d_FR_readHead_38 : decode cd_FR_readHead 38 = .ok (.aload_n 0, 1) := by decide +kernel
theorem d_FR_readHead_39 : decode cd_FR_readHead 39 = .ok (.invokevirtual 42, 3) := by decide +kernel
theorem d_FR_readHead_42 : decode cd_FR_readHead 42 = .ok (.iload_n 2, 1) := by decide +kernel
theorem d_FR_readHead_43 : decode cd_FR_readHead 43 = .ok (.iconst 1, 1) := by decide +kernel
theorem d_FR_readHead_44 : decode cd_FR_readHead 44 = .ok (.iadd, 1) := by decide +kernel
theorem d_FR_readHead_45 : decode cd_FR_readHead 45 = .ok (.if_icmp .ge 8, 3) := by decide +kernel
theorem d_FR_readHead_48 : decode cd_FR_readHead 48 = .ok (.aload_n 0, 1) := by decide +kernel
theorem d_FR_readHead_49 : decode cd_FR_readHead 49 = .ok (.invokevirtual 45, 3) := by decide +kernel
theorem d_FR_readHead_52 : decode cd_FR_readHead 52 = .ok (.ireturn, 1) := by decide +kernel
theorem d_FR_readHead_53 : decode cd_FR_readHead 53 = .ok (.aload_n 0, 1) := by decide +kernel
theorem d_FR_readHead_54 : decode cd_FR_readHead 54 = .ok (.dup, 1) := by decide +kernel
theorem d_FR_readHead_55 : decode cd_FR_readHead 55 = .ok (.getfield 29, 3) := by decide +kernel
theorem d_FR_readHead_58 : decode cd_FR_readHead 58 = .ok (.iload_n 2, 1) := by decide +kernel
theorem d_FR_readHead_59 : decode cd_FR_readHead 59 = .ok (.iadd, 1) := by decide +kernel
theorem d_FR_readHead_60 : decode cd_FR_readHead 60 = .ok (.putfield 29, 3) := by decide +kernel
theorem d_FR_readHead_63 : decode cd_FR_readHead 63 = .ok (.aload_n 0, 1) := by decide +kernel
theorem d_FR_readHead_64 : decode cd_FR_readHead 64 = .ok (.getfield 9, 3) := by decide +kernel
theorem d_FR_readHead_67 : decode cd_FR_readHead 67 = .ok (.aload_n 0, 1) := by decide +kernel
theorem d_FR_readHead_68 : decode cd_FR_readHead 68 = .ok (.getfield 29, 3) := by decide +kernel
theorem d_FR_readHead_71 : decode cd_FR_readHead 71 = .ok (.invokevirtual 80, 3) := by decide +kernel
theorem d_FR_readHead_74 : decode cd_FR_readHead 74 = .ok (.aload_n 0, 1) := by decide +kernel
theorem d_FR_readHead_75 : decode cd_FR_readHead 75 = .ok (.getfield 9, 3) := by decide +kernel
theorem d_FR_readHead_78 : decode cd_FR_readHead 78 = .ok (.iload_n 1, 1) := by decide +kernel
theorem d_FR_readHead_79 : decode cd_FR_readHead 79 = .ok (.aload_n 0, 1) := by decide +kernel
theorem d_FR_readHead_80 : decode cd_FR_readHead 80 = .ok (.getfield 29, 3) := by decide +kernel
theorem d_FR_readHead_83 : decode cd_FR_readHead 83 = .ok (.invokestatic 99, 3) := by decide +kernel
theorem d_FR_readHead_86 : decode cd_FR_readHead 86 = .ok (.bipush 8, 2) := by decide +kernel
theorem d_FR_readHead_88 : decode cd_FR_readHead 88 = .ok (.ishr, 1) := by decide +kernel
theorem d_FR_readHead_89 : decode cd_FR_readHead 89 = .ok (.sipush 255, 3) := by decide +kernel
theorem d_FR_readHead_92 : decode cd_FR_readHead 92 = .ok (.iand, 1) := by decide +kernel
theorem d_FR_readHead_93 : decode cd_FR_readHead 93 = .ok (.if_icmp .eq 14, 3) := by decide +kernel
theorem d_FR_readHead_96 : decode cd_FR_readHead 96 = .ok (.aload_n 0, 1) := by decide +kernel
theorem d_FR_readHead_97 : decode cd_FR_readHead 97 = .ok (.bipush 6, 2) := by decide +kernel
theorem d_FR_readHead_99 : decode cd_FR_readHead 99 = .ok (.aload_n 0, 1) := by decide +kernel
theorem d_FR_readHead_100 : decode cd_FR_readHead 100 = .ok (.getfield 29, 3) := by decide +kernel
theorem d_FR_readHead_103 : decode cd_FR_readHead 103 = .ok (.invokevirtual 56, 3) := by decide +kernel
theorem d_FR_readHead_106 : decode cd_FR_readHead 106 = .ok (.ireturn, 1) := by decide +kernel
theorem d_FR_readHead_107 : decode cd_FR_readHead 107 = .ok (.aload_n 0, 1) := by decide +kernel
theorem d_FR_readHead_108 : decode cd_FR_readHead 108 = .ok (.dup, 1) := by decide +kernel
theorem d_FR_readHead_109 : decode cd_FR_readHead 109 = .ok (.getfield 29, 3) := by decide +kernel
theorem d_FR_readHead_112 : decode cd_FR_readHead 112 = .ok (.iconst 1, 1) := by decide +kernel
theorem d_FR_readHead_113 : decode cd_FR_readHead 113 = .ok (.iadd, 1) := by decide +kernel
theorem d_FR_readHead_114 : decode cd_FR_readHead 114 = .ok (.putfield 29, 3) := by decide +kernel
theorem d_FR_readHead_117 : decode cd_FR_readHead 117 = .ok (.iconst 0, 1) := by decide +kernel
theorem d_FR_readHead_118 : decode cd_FR_readHead 118 = .ok (.ireturn, 1) := by decide +kernel
theorem d_FR_has_0 : decode cd_FR_has 0 = .ok (.aload_n 0, 1) := by decide +kernel
theorem d_FR_has_1 : decode cd_FR_has 1 = .ok (.getfield 60, 3) := by decide +kernel
theorem d_FR_has_4 : decode cd_FR_has 4 = .ok (.iload_n 1, 1) := by decide +kernel
theorem d_FR_has_5 : decode cd_FR_has 5 = .ok (.iand, 1) := by decide +kernel
theorem d_FR_has_6 : decode cd_FR_has 6 = .ok (.ifCond .eq 7, 3) := by decide +kernel
theorem d_FR_has_9 : decode cd_FR_has 9 = .ok (.iconst 1, 1) := by decide +kernel
theorem d_FR_has_10 : decode cd_FR_has 10 = .ok (.goto 4, 3) := by decide +kernel
theorem d_FR_has_13 : decode cd_FR_has 13 = .ok (.iconst 0, 1) := by decide +kernel
theorem d_FR_has_14 : decode cd_FR_has 14 = .ok (.ireturn, 1) := by decide +kernel
theorem d_FR_readTail_0 : decode cd_FR_readTail 0 = .ok (.aload_n 0, 1) := by decide +kernel
theorem d_FR_readTail_1 : decode cd_FR_readTail 1 = .ok (.iconst 4, 1) := by decide +kernel
theorem d_FR_readTail_2 : decode cd_FR_readTail 2 = .ok (.invokevirtual 96, 3) := by decide +kernel
theorem d_FR_readTail_5 : decode cd_FR_readTail 5 = .ok (.ifCond .eq 69, 3) := by decide +kernel
theorem d_FR_readTail_8 : decode cd_FR_readTail 8 = .ok (.aload_n 0, 1) := by decide +kernel
theorem d_FR_readTail_9 : decode cd_FR_readTail 9 = .ok (.invokevirtual 42, 3) := by decide +kernel
theorem d_FR_readTail_12 : decode cd_FR_readTail 12 = .ok (.iconst 4, 1) := by decide +kernel
theorem d_FR_readTail_13 : decode cd_FR_readTail 13 = .ok (.if_icmp .ge 8, 3) := by decide +kernel
theorem d_FR_readTail_16 : decode cd_FR_readTail 16 = .ok (.aload_n 0, 1) := by decide +kernel
theorem d_FR_readTail_17 : decode cd_FR_readTail 17 = .ok (.invokevirtual 45, 3) := by decide +kernel
theorem d_FR_readTail_20 : decode cd_FR_readTail 20 = .ok (.ireturn, 1) := by decide +kernel
theorem d_FR_readTail_21 : decode cd_FR_readTail 21 = .ok (.aload_n 0, 1) := by decide +kernel
theorem d_FR_readTail_22 : decode cd_FR_readTail 22 = .ok (.getfield 9, 3) := by decide +kernel
theorem d_FR_readTail_25 : decode cd_FR_readTail 25 = .ok (.aload_n 0, 1) := by decide +kernel
theorem d_FR_readTail_26 : decode cd_FR_readTail 26 = .ok (.getfield 29, 3) := by decide +kernel
theorem d_FR_readTail_29 : decode cd_FR_readTail 29 = .ok (.invokevirtual 38, 3) := by decide +kernel
theorem d_FR_readTail_32 : decode cd_FR_readTail 32 = .ok (.aload_n 0, 1) := by decide +kernel
theorem d_FR_readTail_33 : decode cd_FR_readTail 33 = .ok (.getfield 15, 3) := by decide +kernel
theorem d_FR_readTail_36 : decode cd_FR_readTail 36 = .ok (.aload_n 0, 1) := by decide +kernel
theorem d_FR_readTail_37 : decode cd_FR_readTail 37 = .ok (.getfield 65, 3) := by decide +kernel
theorem d_FR_readTail_40 : decode cd_FR_readTail 40 = .ok (.aload_n 0, 1) := by decide +kernel
theorem d_FR_readTail_41 : decode cd_FR_readTail 41 = .ok (.getfield 15, 3) := by decide +kernel
theorem d_FR_readTail_44 : decode cd_FR_readTail 44 = .ok (.invokevirtual 32, 3) := by decide +kernel
theorem d_FR_readTail_47 : decode cd_FR_readTail 47 = .ok (.invokestatic 99, 3) := by decide +kernel
theorem d_FR_readTail_50 : decode cd_FR_readTail 50 = .ok (.if_icmp .eq 14, 3) := by decide +kernel
theorem d_FR_readTail_53 : decode cd_FR_readTail 53 = .ok (.aload_n 0, 1) := by decide +kernel
theorem d_FR_readTail_54 : decode cd_FR_readTail 54 = .ok (.bipush 10, 2) := by decide +kernel
theorem d_FR_readTail_56 : decode cd_FR_readTail 56 = .ok (.aload_n 0, 1) := by decide +kernel
theorem d_FR_readTail_57 : decode cd_FR_readTail 57 = .ok (.getfield 29, 3) := by decide +kernel
theorem d_FR_readTail_60 : decode cd_FR_readTail 60 = .ok (.invokevirtual 56, 3) := by decide +kernel
theorem d_FR_readTail_63 : decode cd_FR_readTail 63 = .ok (.ireturn, 1) := by decide +kernel
theorem d_FR_readTail_64 : decode cd_FR_readTail 64 = .ok (.aload_n 0, 1) := by decide +kernel
theorem d_FR_readTail_65 : decode cd_FR_readTail 65 = .ok (.dup, 1) := by decide +kernel
theorem d_FR_readTail_66 : decode cd_FR_readTail 66 = .ok (.getfield 29, 3) := by decide +kernel
theorem d_FR_readTail_69 : decode cd_FR_readTail 69 = .ok (.iconst 4, 1) := by decide +kernel
theorem d_FR_readTail_70 : decode cd_FR_readTail 70 = .ok (.iadd, 1) := by decide +kernel
theorem d_FR_readTail_71 : decode cd_FR_readTail 71 = .ok (.putfield 29, 3) := by decide +kernel
theorem d_FR_readTail_74 : decode cd_FR_readTail 74 = .ok (.aload_n 0, 1) := by decide +kernel
theorem d_FR_readTail_75 : decode cd_FR_readTail 75 = .ok (.bipush 8, 2) := by decide +kernel
theorem d_FR_readTail_77 : decode cd_FR_readTail 77 = .ok (.invokevirtual 96, 3) := by decide +kernel
theorem d_FR_readTail_80 : decode cd_FR_readTail 80 = .ok (.ifCond .eq 33, 3) := by decide +kernel
theorem d_FR_readTail_83 : decode cd_FR_readTail 83 = .ok (.aload_n 0, 1) := by decide +kernel
theorem d_FR_readTail_84 : decode cd_FR_readTail 84 = .ok (.aload_n 0, 1) := by decide +kernel
theorem d_FR_readTail_85 : decode cd_FR_readTail 85 = .ok (.getfield 15, 3) := by decide +kernel
theorem d_FR_readTail_88 : decode cd_FR_readTail 88 = .ok (.invokevirtual 32, 3) := by decide +kernel
theorem d_FR_readTail_91 : decode cd_FR_readTail 91 = .ok (.aload_n 0, 1) := by decide +kernel
theorem d_FR_readTail_92 : decode cd_FR_readTail 92 = .ok (.getfield 65, 3) := by decide +kernel
theorem d_FR_readTail_95 : decode cd_FR_readTail 95 = .ok (.isub, 1) := by decide +kernel
theorem d_FR_readTail_96 : decode cd_FR_readTail 96 = .ok (.invokevirtual 122, 3) := by decide +kernel
theorem d_FR_readTail_99 : decode cd_FR_readTail 99 = .ok (.ifCond .ne 14, 3) := by decide +kernel
theorem d_FR_readTail_102 : decode cd_FR_readTail 102 = .ok (.aload_n 0, 1) := by decide +kernel
theorem d_FR_readTail_103 : decode cd_FR_readTail 103 = .ok (.bipush 11, 2) := by decide +kernel
theorem d_FR_readTail_105 : decode cd_FR_readTail 105 = .ok (.aload_n 0, 1) := by decide +kernel
theorem d_FR_readTail_106 : decode cd_FR_readTail 106 = .ok (.getfield 93, 3) := by decide +kernel
theorem d_FR_readTail_109 : decode cd_FR_readTail 109 = .ok (.invokevirtual 56, 3) := by decide +kernel
theorem d_FR_readTail_112 : decode cd_FR_readTail 112 = .ok (.ireturn, 1) := by decide +kernel
theorem d_FR_readTail_113 : decode cd_FR_readTail 113 = .ok (.iconst 0, 1) := by decide +kernel
theorem d_FR_readTail_114 : decode cd_FR_readTail 114 = .ok (.ireturn, 1) := by decide +kernel
theorem d_FR_sizeIs_0 : decode cd_FR_sizeIs 0 = .ok (.aload_n 0, 1) := by decide +kernel
theorem d_FR_sizeIs_1 : decode cd_FR_sizeIs 1 = .ok (.getfield 9, 3) := by decide +kernel
theorem d_FR_sizeIs_4 : decode cd_FR_sizeIs 4 = .ok (.aload_n 0, 1) := by decide +kernel
theorem d_FR_sizeIs_5 : decode cd_FR_sizeIs 5 = .ok (.getfield 93, 3) := by decide +kernel
theorem d_FR_sizeIs_8 : decode cd_FR_sizeIs 8 = .ok (.invokevirtual 38, 3) := by decide +kernel
theorem d_FR_sizeIs_11 : decode cd_FR_sizeIs 11 = .ok (.iload_n 1, 1) := by decide +kernel
theorem d_FR_sizeIs_12 : decode cd_FR_sizeIs 12 = .ok (.if_icmp .ne 23, 3) := by decide +kernel
theorem d_FR_sizeIs_15 : decode cd_FR_sizeIs 15 = .ok (.aload_n 0, 1) := by decide +kernel
theorem d_FR_sizeIs_16 : decode cd_FR_sizeIs 16 = .ok (.getfield 9, 3) := by decide +kernel
theorem d_FR_sizeIs_19 : decode cd_FR_sizeIs 19 = .ok (.aload_n 0, 1) := by decide +kernel
theorem d_FR_sizeIs_20 : decode cd_FR_sizeIs 20 = .ok (.getfield 93, 3) := by decide +kernel
theorem d_FR_sizeIs_23 : decode cd_FR_sizeIs 23 = .ok (.iconst 4, 1) := by decide +kernel
theorem d_FR_sizeIs_24 : decode cd_FR_sizeIs 24 = .ok (.iadd, 1) := by decide +kernel
theorem d_FR_sizeIs_25 : decode cd_FR_sizeIs 25 = .ok (.invokevirtual 38, 3) := by decide +kernel
theorem d_FR_sizeIs_28 : decode cd_FR_sizeIs 28 = .ok (.ifCond .ne 7, 3) := by decide +kernel
theorem d_FR_sizeIs_31 : decode cd_FR_sizeIs 31 = .ok (.iconst 1, 1) := by decide +kernel
theorem d_FR_sizeIs_32 : decode cd_FR_sizeIs 32 = .ok (.goto 4, 3) := by decide +kernel
theorem d_FR_sizeIs_35 : decode cd_FR_sizeIs 35 = .ok (.iconst 0, 1) := by decide +kernel
theorem d_FR_sizeIs_36 : decode cd_FR_sizeIs 36 = .ok (.ireturn, 1) := by decide +kernel
