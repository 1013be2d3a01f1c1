theorem d_BR_init_0 : decode cd_BR_init 0 = .ok (.aload_n 0, 1) := by decide +kernel
theorem d_BR_init_1 : decode cd_BR_init 1 = .ok (.invokespecial 3, 3) := by decide +kernel
theorem d_BR_init_4 : decode cd_BR_init 4 = .ok (.aload_n 0, 1) := by decide +kernel
theorem d_BR_init_5 : decode cd_BR_init 5 = .ok (.aload_n 1, 1) := by decide +kernel
theorem d_BR_init_6 : decode cd_BR_init 6 = .ok (.putfield 9, 3) := by decide +kernel
theorem d_BR_init_9 : decode cd_BR_init 9 = .ok (.aload_n 0, 1) := by decide +kernel
theorem d_BR_init_10 : decode cd_BR_init 10 = .ok (.aload_n 2, 1) := by decide +kernel
theorem d_BR_init_11 : decode cd_BR_init 11 = .ok (.putfield 15, 3) := by decide +kernel
theorem d_BR_init_14 : decode cd_BR_init 14 = .ok (.aload_n 0, 1) := by decide +kernel
theorem d_BR_init_15 : decode cd_BR_init 15 = .ok (.aload_n 3, 1) := by decide +kernel
theorem d_BR_init_16 : decode cd_BR_init 16 = .ok (.putfield 18, 3) := by decide +kernel
theorem d_BR_init_19 : decode cd_BR_init 19 = .ok (.return_, 1) := by decide +kernel
theorem d_BR_read_0 : decode cd_BR_read 0 = .ok (.aload_n 0, 1) := by decide +kernel
theorem d_BR_read_1 : decode cd_BR_read 1 = .ok (.iload_n 1, 1) := by decide +kernel
theorem d_BR_read_2 : decode cd_BR_read 2 = .ok (.putfield 25, 3) := by decide +kernel
theorem d_BR_read_5 : decode cd_BR_read 5 = .ok (.aload_n 0, 1) := by decide +kernel
theorem d_BR_read_6 : decode cd_BR_read 6 = .ok (.iload_n 2, 1) := by decide +kernel
theorem d_BR_read_7 : decode cd_BR_read 7 = .ok (.putfield 28, 3) := by decide +kernel
theorem d_BR_read_10 : decode cd_BR_read 10 = .ok (.aload_n 0, 1) := by decide +kernel
theorem d_BR_read_11 : decode cd_BR_read 11 = .ok (.iload_n 3, 1) := by decide +kernel
theorem d_BR_read_12 : decode cd_BR_read 12 = .ok (.putfield 31, 3) := by decide +kernel
theorem d_BR_read_15 : decode cd_BR_read 15 = .ok (.aload_n 0, 1) := by decide +kernel
theorem d_BR_read_16 : decode cd_BR_read 16 = .ok (.iload 4, 2) := by decide +kernel
theorem d_BR_read_18 : decode cd_BR_read 18 = .ok (.putfield 34, 3) := by decide +kernel
theorem d_BR_read_21 : decode cd_BR_read 21 = .ok (.iload_n 1, 1) := by decide +kernel
theorem d_BR_read_22 : decode cd_BR_read 22 = .ok (.istore 5, 2) := by decide +kernel
theorem d_BR_read_24 : decode cd_BR_read 24 = .ok (.iload 5, 2) := by decide +kernel
theorem d_BR_read_26 : decode cd_BR_read 26 = .ok (.iload_n 2, 1) := by decide +kernel
theorem d_BR_read_27 : decode cd_BR_read 27 = .ok (.if_icmp .ge 131, 3) := by decide +kernel
theorem d_BR_read_30 : decode cd_BR_read 30 = .ok (.aload_n 0, 1) := by decide +kernel
theorem d_BR_read_31 : decode cd_BR_read 31 = .ok (.getfield 25, 3) := by decide +kernel
theorem d_BR_read_34 : decode cd_BR_read 34 = .ok (.iload_n 2, 1) := by decide +kernel
theorem d_BR_read_35 : decode cd_BR_read 35 = .ok (.if_icmp .ge 123, 3) := by decide +kernel
theorem d_BR_read_38 : decode cd_BR_read 38 = .ok (.aload_n 0, 1) := by decide +kernel
theorem d_BR_read_39 : decode cd_BR_read 39 = .ok (.getfield 9, 3) := by decide +kernel
theorem d_BR_read_42 : decode cd_BR_read 42 = .ok (.aload_n 0, 1) := by decide +kernel
theorem d_BR_read_43 : decode cd_BR_read 43 = .ok (.getfield 25, 3) := by decide +kernel
theorem d_BR_read_46 : decode cd_BR_read 46 = .ok (.invokevirtual 37, 3) := by decide +kernel
theorem d_BR_read_49 : decode cd_BR_read 49 = .ok (.istore 6, 2) := by decide +kernel
theorem d_BR_read_51 : decode cd_BR_read 51 = .ok (.aload_n 0, 1) := by decide +kernel
theorem d_BR_read_52 : decode cd_BR_read 52 = .ok (.dup, 1) := by decide +kernel
theorem d_BR_read_53 : decode cd_BR_read 53 = .ok (.getfield 25, 3) := by decide +kernel
theorem d_BR_read_56 : decode cd_BR_read 56 = .ok (.iconst 1, 1) := by decide +kernel
theorem d_BR_read_57 : decode cd_BR_read 57 = .ok (.iadd, 1) := by decide +kernel
theorem d_BR_read_58 : decode cd_BR_read 58 = .ok (.putfield 25, 3) := by decide +kernel
theorem d_BR_read_61 : decode cd_BR_read 61 = .ok (.aload_n 0, 1) := by decide +kernel
theorem d_BR_read_62 : decode cd_BR_read 62 = .ok (.aload_n 0, 1) := by decide +kernel
theorem d_BR_read_63 : decode cd_BR_read 63 = .ok (.iload 6, 2) := by decide +kernel
theorem d_BR_read_65 : decode cd_BR_read 65 = .ok (.iconst 4, 1) := by decide +kernel
theorem d_BR_read_66 : decode cd_BR_read 66 = .ok (.ishr, 1) := by decide +kernel
theorem d_BR_read_67 : decode cd_BR_read 67 = .ok (.invokevirtual 43, 3) := by decide +kernel
theorem d_BR_read_70 : decode cd_BR_read 70 = .ok (.invokevirtual 46, 3) := by decide +kernel
theorem d_BR_read_73 : decode cd_BR_read 73 = .ok (.istore 7, 2) := by decide +kernel
theorem d_BR_read_75 : decode cd_BR_read 75 = .ok (.iload 7, 2) := by decide +kernel
theorem d_BR_read_77 : decode cd_BR_read 77 = .ok (.ifCond .ne 18, 3) := by decide +kernel
theorem d_BR_read_80 : decode cd_BR_read 80 = .ok (.aload_n 0, 1) := by decide +kernel
theorem d_BR_read_81 : decode cd_BR_read 81 = .ok (.getfield 25, 3) := by decide +kernel
theorem d_BR_read_84 : decode cd_BR_read 84 = .ok (.iload_n 2, 1) := by decide +kernel
theorem d_BR_read_85 : decode cd_BR_read 85 = .ok (.if_icmp .lt 10, 3) := by decide +kernel
theorem d_BR_read_88 : decode cd_BR_read 88 = .ok (.aload_n 0, 1) := by decide +kernel
theorem d_BR_read_89 : decode cd_BR_read 89 = .ok (.iload_n 2, 1) := by decide +kernel
theorem d_BR_read_90 : decode cd_BR_read 90 = .ok (.putfield 21, 3) := by decide +kernel
theorem d_BR_read_93 : decode cd_BR_read 93 = .ok (.iconst 0, 1) := by decide +kernel
theorem d_BR_read_94 : decode cd_BR_read 94 = .ok (.ireturn, 1) := by decide +kernel
theorem d_BR_read_95 : decode cd_BR_read 95 = .ok (.aload_n 0, 1) := by decide +kernel
theorem d_BR_read_96 : decode cd_BR_read 96 = .ok (.getfield 25, 3) := by decide +kernel
theorem d_BR_read_99 : decode cd_BR_read 99 = .ok (.istore 8, 2) := by decide +kernel
theorem d_BR_read_101 : decode cd_BR_read 101 = .ok (.iload 7, 2) := by decide +kernel
theorem d_BR_read_103 : decode cd_BR_read 103 = .ok (.ifCond .eq 8, 3) := by decide +kernel
theorem d_BR_read_106 : decode cd_BR_read 106 = .ok (.iload 7, 2) := by decide +kernel
theorem d_BR_read_108 : decode cd_BR_read 108 = .ok (.goto 7, 3) := by decide +kernel
theorem d_BR_read_111 : decode cd_BR_read 111 = .ok (.aload_n 0, 1) := by decide +kernel
theorem d_BR_read_112 : decode cd_BR_read 112 = .ok (.invokevirtual 49, 3) := by decide +kernel
theorem d_BR_read_115 : decode cd_BR_read 115 = .ok (.istore 7, 2) := by decide +kernel
theorem d_BR_read_117 : decode cd_BR_read 117 = .ok (.iload 7, 2) := by decide +kernel
theorem d_BR_read_119 : decode cd_BR_read 119 = .ok (.ifCond .eq 8, 3) := by decide +kernel
theorem d_BR_read_122 : decode cd_BR_read 122 = .ok (.iload 7, 2) := by decide +kernel
theorem d_BR_read_124 : decode cd_BR_read 124 = .ok (.goto 18, 3) := by decide +kernel
theorem d_BR_read_127 : decode cd_BR_read 127 = .ok (.aload_n 0, 1) := by decide +kernel
theorem d_BR_read_128 : decode cd_BR_read 128 = .ok (.aload_n 0, 1) := by decide +kernel
theorem d_BR_read_129 : decode cd_BR_read 129 = .ok (.iload 6, 2) := by decide +kernel
theorem d_BR_read_131 : decode cd_BR_read 131 = .ok (.bipush 15, 2) := by decide +kernel
theorem d_BR_read_133 : decode cd_BR_read 133 = .ok (.iand, 1) := by decide +kernel
theorem d_BR_read_134 : decode cd_BR_read 134 = .ok (.invokevirtual 43, 3) := by decide +kernel
theorem d_BR_read_137 : decode cd_BR_read 137 = .ok (.iload 8, 2) := by decide +kernel
theorem d_BR_read_139 : decode cd_BR_read 139 = .ok (.invokevirtual 53, 3) := by decide +kernel
theorem d_BR_read_142 : decode cd_BR_read 142 = .ok (.istore 7, 2) := by decide +kernel
theorem d_BR_read_144 : decode cd_BR_read 144 = .ok (.iload 7, 2) := by decide +kernel
theorem d_BR_read_146 : decode cd_BR_read 146 = .ok (.ifCond .eq 6, 3) := by decide +kernel
theorem d_BR_read_149 : decode cd_BR_read 149 = .ok (.iload 7, 2) := by decide +kernel
theorem d_BR_read_151 : decode cd_BR_read 151 = .ok (.ireturn, 1) := by decide +kernel
theorem d_BR_read_152 : decode cd_BR_read 152 = .ok (.iinc 5 1, 3) := by decide +kernel
theorem d_BR_read_155 : decode cd_BR_read 155 = .ok (.goto (-131), 3) := by decide +kernel
theorem d_BR_read_158 : decode cd_BR_read 158 = .ok (.aload_n 0, 1) := by decide +kernel
theorem d_BR_read_159 : decode cd_BR_read 159 = .ok (.iconst 1, 1) := by decide +kernel
theorem d_BR_read_160 : decode cd_BR_read 160 = .ok (.iload_n 2, 1) := by decide +kernel
theorem d_BR_read_161 : decode cd_BR_read 161 = .ok (.invokevirtual 57, 3) := by decide +kernel
theorem d_BR_read_164 : decode cd_BR_read 164 = .ok (.ireturn, 1) := by decide +kernel
theorem d_BR_grown_0 : decode cd_BR_grown 0 = .ok (.iload_n 1, 1) := by decide +kernel
theorem d_BR_grown_1 : decode cd_BR_grown 1 = .ok (.bipush 15, 2) := by decide +kernel
theorem d_BR_grown_3 : decode cd_BR_grown 3 = .ok (.if_icmp .ge 5, 3) := by decide +kernel
theorem d_BR_grown_6 : decode cd_BR_grown 6 = .ok (.iload_n 1, 1) := by decide +kernel
theorem d_BR_grown_7 : decode cd_BR_grown 7 = .ok (.ireturn, 1) := by decide +kernel
theorem d_BR_grown_8 : decode cd_BR_grown 8 = .ok (.iload_n 1, 1) := by decide +kernel
theorem d_BR_grown_9 : decode cd_BR_grown 9 = .ok (.istore_n 2, 1) := by decide +kernel
theorem d_BR_grown_10 : decode cd_BR_grown 10 = .ok (.aload_n 0, 1) := by decide +kernel
theorem d_BR_grown_11 : decode cd_BR_grown 11 = .ok (.getfield 25, 3) := by decide +kernel
theorem d_BR_grown_14 : decode cd_BR_grown 14 = .ok (.aload_n 0, 1) := by decide +kernel
theorem d_BR_grown_15 : decode cd_BR_grown 15 = .ok (.getfield 28, 3) := by decide +kernel
theorem d_BR_grown_18 : decode cd_BR_grown 18 = .ok (.if_icmp .ge 51, 3) := by decide +kernel
theorem d_BR_grown_21 : decode cd_BR_grown 21 = .ok (.aload_n 0, 1) := by decide +kernel
theorem d_BR_grown_22 : decode cd_BR_grown 22 = .ok (.getfield 9, 3) := by decide +kernel
theorem d_BR_grown_25 : decode cd_BR_grown 25 = .ok (.aload_n 0, 1) := by decide +kernel
theorem d_BR_grown_26 : decode cd_BR_grown 26 = .ok (.getfield 25, 3) := by decide +kernel
theorem d_BR_grown_29 : decode cd_BR_grown 29 = .ok (.invokevirtual 37, 3) := by decide +kernel
theorem d_BR_grown_32 : decode cd_BR_grown 32 = .ok (.istore_n 3, 1) := by decide +kernel
theorem d_BR_grown_33 : decode cd_BR_grown 33 = .ok (.iload_n 2, 1) := by decide +kernel
theorem d_BR_grown_34 : decode cd_BR_grown 34 = .ok (.iload_n 3, 1) := by decide +kernel
theorem d_BR_grown_35 : decode cd_BR_grown 35 = .ok (.iadd, 1) := by decide +kernel
theorem d_BR_grown_36 : decode cd_BR_grown 36 = .ok (.istore_n 2, 1) := by decide +kernel
theorem d_BR_grown_37 : decode cd_BR_grown 37 = .ok (.iload_n 3, 1) := by decide +kernel
theorem d_BR_grown_38 : decode cd_BR_grown 38 = .ok (.sipush 255, 3) := by decide +kernel
theorem d_BR_grown_41 : decode cd_BR_grown 41 = .ok (.if_icmp .eq 15, 3) := by decide +kernel
theorem d_BR_grown_44 : decode cd_BR_grown 44 = .ok (.aload_n 0, 1) := by decide +kernel
theorem d_BR_grown_45 : decode cd_BR_grown 45 = .ok (.dup, 1) := by decide +kernel
theorem d_BR_grown_46 : decode cd_BR_grown 46 = .ok (.getfield 25, 3) := by decide +kernel
theorem d_BR_grown_49 : decode cd_BR_grown 49 = .ok (.iconst 1, 1) := by decide +kernel
theorem d_BR_grown_50 : decode cd_BR_grown 50 = .ok (.iadd, 1) := by decide +kernel
theorem d_BR_grown_51 : decode cd_BR_grown 51 = .ok (.putfield 25, 3) := by decide +kernel
theorem d_BR_grown_54 : decode cd_BR_grown 54 = .ok (.iload_n 2, 1) := by decide +kernel
theorem d_BR_grown_55 : decode cd_BR_grown 55 = .ok (.ireturn, 1) := by decide +kernel
theorem d_BR_grown_56 : decode cd_BR_grown 56 = .ok (.aload_n 0, 1) := by decide +kernel
theorem d_BR_grown_57 : decode cd_BR_grown 57 = .ok (.dup, 1) := by decide +kernel
theorem d_BR_grown_58 : decode cd_BR_grown 58 = .ok (.getfield 25, 3) := by decide +kernel
theorem d_BR_grown_61 : decode cd_BR_grown 61 = .ok (.iconst 1, 1) := by decide +kernel
theorem d_BR_grown_62 : decode cd_BR_grown 62 = .ok (.iadd, 1) := by decide +kernel
theorem d_BR_grown_63 : decode cd_BR_grown 63 = .ok (.putfield 25, 3) := by decide +kernel
theorem d_BR_grown_66 : decode cd_BR_grown 66 = .ok (.goto (-56), 3) := by decide +kernel
theorem d_BR_grown_69 : decode cd_BR_grown 69 = .ok (.iconst (-1), 1) := by decide +kernel
theorem d_BR_grown_70 : decode cd_BR_grown 70 = .ok (.ireturn, 1) := by decide +kernel
theorem d_BR_takeLiterals_0 : decode cd_BR_takeLiterals 0 = .ok (.iload_n 1, 1) := by decide +kernel
theorem d_BR_takeLiterals_1 : decode cd_BR_takeLiterals 1 = .ok (.ifCond .ge 13, 3) := by decide +kernel
theorem d_BR_takeLiterals_4 : decode cd_BR_takeLiterals 4 = .ok (.aload_n 0, 1) := by decide +kernel
theorem d_BR_takeLiterals_5 : decode cd_BR_takeLiterals 5 = .ok (.iconst 1, 1) := by decide +kernel
theorem d_BR_takeLiterals_6 : decode cd_BR_takeLiterals 6 = .ok (.aload_n 0, 1) := by decide +kernel
theorem d_BR_takeLiterals_7 : decode cd_BR_takeLiterals 7 = .ok (.getfield 28, 3) := by decide +kernel
theorem d_BR_takeLiterals_10 : decode cd_BR_takeLiterals 10 = .ok (.invokevirtual 57, 3) := by decide +kernel
theorem d_BR_takeLiterals_13 : decode cd_BR_takeLiterals 13 = .ok (.ireturn, 1) := by decide +kernel
theorem d_BR_takeLiterals_14 : decode cd_BR_takeLiterals 14 = .ok (.iload_n 1, 1) := by decide +kernel
theorem d_BR_takeLiterals_15 : decode cd_BR_takeLiterals 15 = .ok (.aload_n 0, 1) := by decide +kernel
theorem d_BR_takeLiterals_16 : decode cd_BR_takeLiterals 16 = .ok (.getfield 28, 3) := by decide +kernel
theorem d_BR_takeLiterals_19 : decode cd_BR_takeLiterals 19 = .ok (.aload_n 0, 1) := by decide +kernel
theorem d_BR_takeLiterals_20 : decode cd_BR_takeLiterals 20 = .ok (.getfield 25, 3) := by decide +kernel
theorem d_BR_takeLiterals_23 : decode cd_BR_takeLiterals 23 = .ok (.isub, 1) := by decide +kernel
theorem d_BR_takeLiterals_24 : decode cd_BR_takeLiterals 24 = .ok (.aload_n 0, 1) := by decide +kernel
theorem d_BR_takeLiterals_25 : decode cd_BR_takeLiterals 25 = .ok (.getfield 34, 3) := by decide +kernel
theorem d_BR_takeLiterals_28 : decode cd_BR_takeLiterals 28 = .ok (.aload_n 0, 1) := by decide +kernel
theorem d_BR_takeLiterals_29 : decode cd_BR_takeLiterals 29 = .ok (.getfield 18, 3) := by decide +kernel
theorem d_BR_takeLiterals_32 : decode cd_BR_takeLiterals 32 = .ok (.invokevirtual 60, 3) := by decide +kernel
theorem d_BR_takeLiterals_35 : decode cd_BR_takeLiterals 35 = .ok (.isub, 1) := by decide +kernel
theorem d_BR_takeLiterals_36 : decode cd_BR_takeLiterals 36 = .ok (.invokestatic 63, 3) := by decide +kernel
theorem d_BR_takeLiterals_39 : decode cd_BR_takeLiterals 39 = .ok (.invokestatic 63, 3) := by decide +kernel
theorem d_BR_takeLiterals_42 : decode cd_BR_takeLiterals 42 = .ok (.istore_n 2, 1) := by decide +kernel
theorem d_BR_takeLiterals_43 : decode cd_BR_takeLiterals 43 = .ok (.aload_n 0, 1) := by decide +kernel
theorem d_BR_takeLiterals_44 : decode cd_BR_takeLiterals 44 = .ok (.getfield 18, 3) := by decide +kernel
theorem d_BR_takeLiterals_47 : decode cd_BR_takeLiterals 47 = .ok (.aload_n 0, 1) := by decide +kernel
theorem d_BR_takeLiterals_48 : decode cd_BR_takeLiterals 48 = .ok (.getfield 9, 3) := by decide +kernel
theorem d_BR_takeLiterals_51 : decode cd_BR_takeLiterals 51 = .ok (.aload_n 0, 1) := by decide +kernel
theorem d_BR_takeLiterals_52 : decode cd_BR_takeLiterals 52 = .ok (.getfield 25, 3) := by decide +kernel
theorem d_BR_takeLiterals_55 : decode cd_BR_takeLiterals 55 = .ok (.aload_n 0, 1) := by decide +kernel
theorem d_BR_takeLiterals_56 : decode cd_BR_takeLiterals 56 = .ok (.getfield 25, 3) := by decide +kernel
theorem d_BR_takeLiterals_59 : decode cd_BR_takeLiterals 59 = .ok (.iload_n 2, 1) := by decide +kernel
theorem d_BR_takeLiterals_60 : decode cd_BR_takeLiterals 60 = .ok (.iadd, 1) := by decide +kernel
theorem d_BR_takeLiterals_61 : decode cd_BR_takeLiterals 61 = .ok (.invokevirtual 68, 3) := by decide +kernel
theorem d_BR_takeLiterals_64 : decode cd_BR_takeLiterals 64 = .ok (.pop, 1) := by decide +kernel
theorem d_BR_takeLiterals_65 : decode cd_BR_takeLiterals 65 = .ok (.aload_n 0, 1) := by decide +kernel
theorem d_BR_takeLiterals_66 : decode cd_BR_takeLiterals 66 = .ok (.dup, 1) := by decide +kernel
theorem d_BR_takeLiterals_67 : decode cd_BR_takeLiterals 67 = .ok (.getfield 25, 3) := by decide +kernel
theorem d_BR_takeLiterals_70 : decode cd_BR_takeLiterals 70 = .ok (.iload_n 2, 1) := by decide +kernel
theorem d_BR_takeLiterals_71 : decode cd_BR_takeLiterals 71 = .ok (.iadd, 1) := by decide +kernel
theorem d_BR_takeLiterals_72 : decode cd_BR_takeLiterals 72 = .ok (.putfield 25, 3) := by decide +kernel
theorem d_BR_takeLiterals_75 : decode cd_BR_takeLiterals 75 = .ok (.iload_n 2, 1) := by decide +kernel
theorem d_BR_takeLiterals_76 : decode cd_BR_takeLiterals 76 = .ok (.iload_n 1, 1) := by decide +kernel
theorem d_BR_takeLiterals_77 : decode cd_BR_takeLiterals 77 = .ok (.if_icmp .ne 5, 3) := by decide +kernel
theorem d_BR_takeLiterals_80 : decode cd_BR_takeLiterals 80 = .ok (.iconst 0, 1) := by decide +kernel
theorem d_BR_takeLiterals_81 : decode cd_BR_takeLiterals 81 = .ok (.ireturn, 1) := by decide +kernel
theorem d_BR_takeLiterals_82 : decode cd_BR_takeLiterals 82 = .ok (.aload_n 0, 1) := by decide +kernel
theorem d_BR_takeLiterals_83 : decode cd_BR_takeLiterals 83 = .ok (.getfield 25, 3) := by decide +kernel
theorem d_BR_takeLiterals_86 : decode cd_BR_takeLiterals 86 = .ok (.aload_n 0, 1) := by decide +kernel
theorem d_BR_takeLiterals_87 : decode cd_BR_takeLiterals 87 = .ok (.getfield 28, 3) := by decide +kernel
theorem d_BR_takeLiterals_90 : decode cd_BR_takeLiterals 90 = .ok (.if_icmp .lt 15, 3) := by decide +kernel
theorem d_BR_takeLiterals_93 : decode cd_BR_takeLiterals 93 = .ok (.aload_n 0, 1) := by decide +kernel
theorem d_BR_takeLiterals_94 : decode cd_BR_takeLiterals 94 = .ok (.iconst 1, 1) := by decide +kernel
theorem d_BR_takeLiterals_95 : decode cd_BR_takeLiterals 95 = .ok (.aload_n 0, 1) := by decide +kernel
theorem d_BR_takeLiterals_96 : decode cd_BR_takeLiterals 96 = .ok (.getfield 28, 3) := by decide +kernel
theorem d_BR_takeLiterals_99 : decode cd_BR_takeLiterals 99 = .ok (.invokevirtual 57, 3) := by decide +kernel
theorem d_BR_takeLiterals_102 : decode cd_BR_takeLiterals 102 = .ok (.goto 12, 3) := by decide +kernel
theorem d_BR_takeLiterals_105 : decode cd_BR_takeLiterals 105 = .ok (.aload_n 0, 1) := by decide +kernel
theorem d_BR_takeLiterals_106 : decode cd_BR_takeLiterals 106 = .ok (.iconst 3, 1) := by decide +kernel
theorem d_BR_takeLiterals_107 : decode cd_BR_takeLiterals 107 = .ok (.aload_n 0, 1) := by decide +kernel
theorem d_BR_takeLiterals_108 : decode cd_BR_takeLiterals 108 = .ok (.getfield 25, 3) := by decide +kernel
theorem d_BR_takeLiterals_111 : decode cd_BR_takeLiterals 111 = .ok (.invokevirtual 57, 3) := by decide +kernel
theorem d_BR_takeLiterals_114 : decode cd_BR_takeLiterals 114 = .ok (.ireturn, 1) := by decide +kernel
theorem d_BR_fault_0 : decode cd_BR_fault 0 = .ok (.aload_n 0, 1) := by decide +kernel
theorem d_BR_fault_1 : decode cd_BR_fault 1 = .ok (.iload_n 2, 1) := by decide +kernel
theorem d_BR_fault_2 : decode cd_BR_fault 2 = .ok (.putfield 21, 3) := by decide +kernel
theorem d_BR_fault_5 : decode cd_BR_fault 5 = .ok (.iload_n 1, 1) := by decide +kernel
theorem d_BR_fault_6 : decode cd_BR_fault 6 = .ok (.ireturn, 1) := by decide +kernel
theorem d_BR_takeDistance_0 : decode cd_BR_takeDistance 0 = .ok (.aload_n 0, 1) := by decide +kernel
theorem d_BR_takeDistance_1 : decode cd_BR_takeDistance 1 = .ok (.getfield 28, 3) := by decide +kernel
theorem d_BR_takeDistance_4 : decode cd_BR_takeDistance 4 = .ok (.aload_n 0, 1) := by decide +kernel
theorem d_BR_takeDistance_5 : decode cd_BR_takeDistance 5 = .ok (.getfield 25, 3) := by decide +kernel
theorem d_BR_takeDistance_8 : decode cd_BR_takeDistance 8 = .ok (.isub, 1) := by decide +kernel
theorem d_BR_takeDistance_9 : decode cd_BR_takeDistance 9 = .ok (.iconst 2, 1) := by decide +kernel
theorem d_BR_takeDistance_10 : decode cd_BR_takeDistance 10 = .ok (.if_icmp .ge 13, 3) := by decide +kernel
theorem d_BR_takeDistance_13 : decode cd_BR_takeDistance 13 = .ok (.aload_n 0, 1) := by decide +kernel
theorem d_BR_takeDistance_14 : decode cd_BR_takeDistance 14 = .ok (.iconst 1, 1) := by decide +kernel
theorem d_BR_takeDistance_15 : decode cd_BR_takeDistance 15 = .ok (.aload_n 0, 1) := by decide +kernel
theorem d_BR_takeDistance_16 : decode cd_BR_takeDistance 16 = .ok (.getfield 28, 3) := by decide +kernel
theorem d_BR_takeDistance_19 : decode cd_BR_takeDistance 19 = .ok (.invokevirtual 57, 3) := by decide +kernel
theorem d_BR_takeDistance_22 : decode cd_BR_takeDistance 22 = .ok (.ireturn, 1) := by decide +kernel
theorem d_BR_takeDistance_23 : decode cd_BR_takeDistance 23 = .ok (.aload_n 0, 1) := by decide +kernel
theorem d_BR_takeDistance_24 : decode cd_BR_takeDistance 24 = .ok (.aload_n 0, 1) := by decide +kernel
theorem d_BR_takeDistance_25 : decode cd_BR_takeDistance 25 = .ok (.getfield 9, 3) := by decide +kernel
theorem d_BR_takeDistance_28 : decode cd_BR_takeDistance 28 = .ok (.aload_n 0, 1) := by decide +kernel
theorem d_BR_takeDistance_29 : decode cd_BR_takeDistance 29 = .ok (.getfield 25, 3) := by decide +kernel
theorem d_BR_takeDistance_32 : decode cd_BR_takeDistance 32 = .ok (.invokevirtual 72, 3) := by decide +kernel
theorem d_BR_takeDistance_35 : decode cd_BR_takeDistance 35 = .ok (.putfield 75, 3) := by decide +kernel
theorem d_BR_takeDistance_38 : decode cd_BR_takeDistance 38 = .ok (.aload_n 0, 1) := by decide +kernel
theorem d_BR_takeDistance_39 : decode cd_BR_takeDistance 39 = .ok (.getfield 75, 3) := by decide +kernel
theorem d_BR_takeDistance_42 : decode cd_BR_takeDistance 42 = .ok (.ifCond .eq 30, 3) := by decide +kernel
theorem d_BR_takeDistance_45 : decode cd_BR_takeDistance 45 = .ok (.aload_n 0, 1) := by decide +kernel
theorem d_BR_takeDistance_46 : decode cd_BR_takeDistance 46 = .ok (.getfield 75, 3) := by decide +kernel
theorem d_BR_takeDistance_49 : decode cd_BR_takeDistance 49 = .ok (.aload_n 0, 1) := by decide +kernel
theorem d_BR_takeDistance_50 : decode cd_BR_takeDistance 50 = .ok (.getfield 15, 3) := by decide +kernel
theorem d_BR_takeDistance_53 : decode cd_BR_takeDistance 53 = .ok (.invokevirtual 60, 3) := by decide +kernel
theorem d_BR_takeDistance_56 : decode cd_BR_takeDistance 56 = .ok (.aload_n 0, 1) := by decide +kernel
theorem d_BR_takeDistance_57 : decode cd_BR_takeDistance 57 = .ok (.getfield 18, 3) := by decide +kernel
theorem d_BR_takeDistance_60 : decode cd_BR_takeDistance 60 = .ok (.invokevirtual 60, 3) := by decide +kernel
theorem d_BR_takeDistance_63 : decode cd_BR_takeDistance 63 = .ok (.iadd, 1) := by decide +kernel
theorem d_BR_takeDistance_64 : decode cd_BR_takeDistance 64 = .ok (.aload_n 0, 1) := by decide +kernel
theorem d_BR_takeDistance_65 : decode cd_BR_takeDistance 65 = .ok (.getfield 31, 3) := by decide +kernel
theorem d_BR_takeDistance_68 : decode cd_BR_takeDistance 68 = .ok (.isub, 1) := by decide +kernel
theorem d_BR_takeDistance_69 : decode cd_BR_takeDistance 69 = .ok (.if_icmp .le 13, 3) := by decide +kernel
theorem d_BR_takeDistance_72 : decode cd_BR_takeDistance 72 = .ok (.aload_n 0, 1) := by decide +kernel
theorem d_BR_takeDistance_73 : decode cd_BR_takeDistance 73 = .ok (.iconst 2, 1) := by decide +kernel
theorem d_BR_takeDistance_74 : decode cd_BR_takeDistance 74 = .ok (.aload_n 0, 1) := by decide +kernel
theorem d_BR_takeDistance_75 : decode cd_BR_takeDistance 75 = .ok (.getfield 25, 3) := by decide +kernel
theorem d_BR_takeDistance_78 : decode cd_BR_takeDistance 78 = .ok (.invokevirtual 57, 3) := by decide +kernel
theorem d_BR_takeDistance_81 : decode cd_BR_takeDistance 81 = .ok (.ireturn, 1) := by decide +kernel
theorem d_BR_takeDistance_82 : decode cd_BR_takeDistance 82 = .ok (.aload_n 0, 1) := by decide +kernel
theorem d_BR_takeDistance_83 : decode cd_BR_takeDistance 83 = .ok (.dup, 1) := by decide +kernel
theorem d_BR_takeDistance_84 : decode cd_BR_takeDistance 84 = .ok (.getfield 25, 3) := by decide +kernel
theorem d_BR_takeDistance_87 : decode cd_BR_takeDistance 87 = .ok (.iconst 2, 1) := by decide +kernel
theorem d_BR_takeDistance_88 : decode cd_BR_takeDistance 88 = .ok (.iadd, 1) := by decide +kernel
theorem d_BR_takeDistance_89 : decode cd_BR_takeDistance 89 = .ok (.putfield 25, 3) := by decide +kernel
theorem d_BR_takeDistance_92 : decode cd_BR_takeDistance 92 = .ok (.iconst 0, 1) := by decide +kernel
theorem d_BR_takeDistance_93 : decode cd_BR_takeDistance 93 = .ok (.ireturn, 1) := by decide +kernel
theorem d_BR_takeCopy_0 : decode cd_BR_takeCopy 0 = .ok (.iload_n 1, 1) := by decide +kernel
theorem d_BR_takeCopy_1 : decode cd_BR_takeCopy 1 = .ok (.ifCond .ge 13, 3) := by decide +kernel
theorem d_BR_takeCopy_4 : decode cd_BR_takeCopy 4 = .ok (.aload_n 0, 1) := by decide +kernel
theorem d_BR_takeCopy_5 : decode cd_BR_takeCopy 5 = .ok (.iconst 1, 1) := by decide +kernel
theorem d_BR_takeCopy_6 : decode cd_BR_takeCopy 6 = .ok (.aload_n 0, 1) := by decide +kernel
theorem d_BR_takeCopy_7 : decode cd_BR_takeCopy 7 = .ok (.getfield 28, 3) := by decide +kernel
theorem d_BR_takeCopy_10 : decode cd_BR_takeCopy 10 = .ok (.invokevirtual 57, 3) := by decide +kernel
theorem d_BR_takeCopy_13 : decode cd_BR_takeCopy 13 = .ok (.ireturn, 1) := by decide +kernel
theorem d_BR_takeCopy_14 : decode cd_BR_takeCopy 14 = .ok (.iload_n 1, 1) := by decide +kernel
theorem d_BR_takeCopy_15 : decode cd_BR_takeCopy 15 = .ok (.iconst 4, 1) := by decide +kernel
theorem d_BR_takeCopy_16 : decode cd_BR_takeCopy 16 = .ok (.iadd, 1) := by decide +kernel
theorem d_BR_takeCopy_17 : decode cd_BR_takeCopy 17 = .ok (.istore_n 3, 1) := by decide +kernel
theorem d_BR_takeCopy_18 : decode cd_BR_takeCopy 18 = .ok (.iload_n 3, 1) := by decide +kernel
theorem d_BR_takeCopy_19 : decode cd_BR_takeCopy 19 = .ok (.aload_n 0, 1) := by decide +kernel
theorem d_BR_takeCopy_20 : decode cd_BR_takeCopy 20 = .ok (.getfield 34, 3) := by decide +kernel
theorem d_BR_takeCopy_23 : decode cd_BR_takeCopy 23 = .ok (.aload_n 0, 1) := by decide +kernel
theorem d_BR_takeCopy_24 : decode cd_BR_takeCopy 24 = .ok (.getfield 18, 3) := by decide +kernel
theorem d_BR_takeCopy_27 : decode cd_BR_takeCopy 27 = .ok (.invokevirtual 60, 3) := by decide +kernel
theorem d_BR_takeCopy_30 : decode cd_BR_takeCopy 30 = .ok (.isub, 1) := by decide +kernel
theorem d_BR_takeCopy_31 : decode cd_BR_takeCopy 31 = .ok (.if_icmp .le 10, 3) := by decide +kernel
theorem d_BR_takeCopy_34 : decode cd_BR_takeCopy 34 = .ok (.aload_n 0, 1) := by decide +kernel
theorem d_BR_takeCopy_35 : decode cd_BR_takeCopy 35 = .ok (.iconst 3, 1) := by decide +kernel
theorem d_BR_takeCopy_36 : decode cd_BR_takeCopy 36 = .ok (.iload_n 2, 1) := by decide +kernel
theorem d_BR_takeCopy_37 : decode cd_BR_takeCopy 37 = .ok (.invokevirtual 57, 3) := by decide +kernel
theorem d_BR_takeCopy_40 : decode cd_BR_takeCopy 40 = .ok (.ireturn, 1) := by decide +kernel
theorem d_BR_takeCopy_41 : decode cd_BR_takeCopy 41 = .ok (.iconst 0, 1) := by decide +kernel
theorem d_BR_takeCopy_42 : decode cd_BR_takeCopy 42 = .ok (.istore 4, 2) := by decide +kernel
theorem d_BR_takeCopy_44 : decode cd_BR_takeCopy 44 = .ok (.iload 4, 2) := by decide +kernel
theorem d_BR_takeCopy_46 : decode cd_BR_takeCopy 46 = .ok (.iload_n 3, 1) := by decide +kernel
theorem d_BR_takeCopy_47 : decode cd_BR_takeCopy 47 = .ok (.if_icmp .ge 74, 3) := by decide +kernel
theorem d_BR_takeCopy_50 : decode cd_BR_takeCopy 50 = .ok (.aload_n 0, 1) := by decide +kernel
theorem d_BR_takeCopy_51 : decode cd_BR_takeCopy 51 = .ok (.getfield 18, 3) := by decide +kernel
theorem d_BR_takeCopy_54 : decode cd_BR_takeCopy 54 = .ok (.invokevirtual 60, 3) := by decide +kernel
theorem d_BR_takeCopy_57 : decode cd_BR_takeCopy 57 = .ok (.aload_n 0, 1) := by decide +kernel
theorem d_BR_takeCopy_58 : decode cd_BR_takeCopy 58 = .ok (.getfield 75, 3) := by decide +kernel
theorem d_BR_takeCopy_61 : decode cd_BR_takeCopy 61 = .ok (.isub, 1) := by decide +kernel
theorem d_BR_takeCopy_62 : decode cd_BR_takeCopy 62 = .ok (.istore 5, 2) := by decide +kernel
theorem d_BR_takeCopy_64 : decode cd_BR_takeCopy 64 = .ok (.aload_n 0, 1) := by decide +kernel
theorem d_BR_takeCopy_65 : decode cd_BR_takeCopy 65 = .ok (.getfield 18, 3) := by decide +kernel
theorem d_BR_takeCopy_68 : decode cd_BR_takeCopy 68 = .ok (.iload 5, 2) := by decide +kernel
theorem d_BR_takeCopy_70 : decode cd_BR_takeCopy 70 = .ok (.aload_n 0, 1) := by decide +kernel
theorem d_BR_takeCopy_71 : decode cd_BR_takeCopy 71 = .ok (.getfield 31, 3) := by decide +kernel
theorem d_BR_takeCopy_74 : decode cd_BR_takeCopy 74 = .ok (.if_icmp .lt 15, 3) := by decide +kernel
theorem d_BR_takeCopy_77 : decode cd_BR_takeCopy 77 = .ok (.aload_n 0, 1) := by decide +kernel
theorem d_BR_takeCopy_78 : decode cd_BR_takeCopy 78 = .ok (.getfield 18, 3) := by decide +kernel
theorem d_BR_takeCopy_81 : decode cd_BR_takeCopy 81 = .ok (.iload 5, 2) := by decide +kernel
theorem d_BR_takeCopy_83 : decode cd_BR_takeCopy 83 = .ok (.invokevirtual 37, 3) := by decide +kernel
theorem d_BR_takeCopy_86 : decode cd_BR_takeCopy 86 = .ok (.goto 25, 3) := by decide +kernel
theorem d_BR_takeCopy_89 : decode cd_BR_takeCopy 89 = .ok (.aload_n 0, 1) := by decide +kernel
theorem d_BR_takeCopy_90 : decode cd_BR_takeCopy 90 = .ok (.getfield 15, 3) := by decide +kernel
theorem d_BR_takeCopy_93 : decode cd_BR_takeCopy 93 = .ok (.aload_n 0, 1) := by decide +kernel
theorem d_BR_takeCopy_94 : decode cd_BR_takeCopy 94 = .ok (.getfield 15, 3) := by decide +kernel
theorem d_BR_takeCopy_97 : decode cd_BR_takeCopy 97 = .ok (.invokevirtual 60, 3) := by decide +kernel
theorem d_BR_takeCopy_100 : decode cd_BR_takeCopy 100 = .ok (.iload 5, 2) := by decide +kernel
theorem d_BR_takeCopy_102 : decode cd_BR_takeCopy 102 = .ok (.iadd, 1) := by decide +kernel
theorem d_BR_takeCopy_103 : decode cd_BR_takeCopy 103 = .ok (.aload_n 0, 1) := by decide +kernel
theorem d_BR_takeCopy_104 : decode cd_BR_takeCopy 104 = .ok (.getfield 31, 3) := by decide +kernel
theorem d_BR_takeCopy_107 : decode cd_BR_takeCopy 107 = .ok (.isub, 1) := by decide +kernel
theorem d_BR_takeCopy_108 : decode cd_BR_takeCopy 108 = .ok (.invokevirtual 37, 3) := by decide +kernel
theorem d_BR_takeCopy_111 : decode cd_BR_takeCopy 111 = .ok (.invokevirtual 78, 3) := by decide +kernel
theorem d_BR_takeCopy_114 : decode cd_BR_takeCopy 114 = .ok (.pop, 1) := by decide +kernel
theorem d_BR_takeCopy_115 : decode cd_BR_takeCopy 115 = .ok (.iinc 4 1, 3) := by decide +kernel
theorem d_BR_takeCopy_118 : decode cd_BR_takeCopy 118 = .ok (.goto (-74), 3) := by decide +kernel
theorem d_BR_takeCopy_121 : decode cd_BR_takeCopy 121 = .ok (.iconst 0, 1) := by decide +kernel
theorem d_BR_takeCopy_122 : decode cd_BR_takeCopy 122 = .ok (.ireturn, 1) := by decide +kernel
theorem d_BR_where_0 : decode cd_BR_where 0 = .ok (.aload_n 0, 1) := by decide +kernel
theorem d_BR_where_1 : decode cd_BR_where 1 = .ok (.getfield 21, 3) := by decide +kernel
theorem d_BR_where_4 : decode cd_BR_where 4 = .ok (.ireturn, 1) := by decide +kernel
