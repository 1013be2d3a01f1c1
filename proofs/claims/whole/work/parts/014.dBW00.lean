theorem d_BW_init_0 : decode cd_BW_init 0 = .ok (.aload_n 0, 1) := by decide +kernel
theorem d_BW_init_1 : decode cd_BW_init 1 = .ok (.invokespecial 3, 3) := by decide +kernel
theorem d_BW_init_4 : decode cd_BW_init 4 = .ok (.aload_n 0, 1) := by decide +kernel
theorem d_BW_init_5 : decode cd_BW_init 5 = .ok (.aload_n 1, 1) := by decide +kernel
theorem d_BW_init_6 : decode cd_BW_init 6 = .ok (.putfield 9, 3) := by decide +kernel
theorem d_BW_init_9 : decode cd_BW_init 9 = .ok (.aload_n 0, 1) := by decide +kernel
theorem d_BW_init_10 : decode cd_BW_init 10 = .ok (.new 15, 3) := by decide +kernel
theorem d_BW_init_13 : decode cd_BW_init 13 = .ok (.dup, 1) := by decide +kernel
theorem d_BW_init_14 : decode cd_BW_init 14 = .ok (.invokespecial 17, 3) := by decide +kernel
theorem d_BW_init_17 : decode cd_BW_init 17 = .ok (.putfield 18, 3) := by decide +kernel
theorem d_BW_init_20 : decode cd_BW_init 20 = .ok (.aload_n 0, 1) := by decide +kernel
theorem d_BW_init_21 : decode cd_BW_init 21 = .ok (.aload_n 0, 1) := by decide +kernel
theorem d_BW_init_22 : decode cd_BW_init 22 = .ok (.getfield 18, 3) := by decide +kernel
theorem d_BW_init_25 : decode cd_BW_init 25 = .ok (.invokevirtual 22, 3) := by decide +kernel
theorem d_BW_init_28 : decode cd_BW_init 28 = .ok (.putfield 26, 3) := by decide +kernel
theorem d_BW_init_31 : decode cd_BW_init 31 = .ok (.return_, 1) := by decide +kernel
theorem d_BW_startOver_0 : decode cd_BW_startOver 0 = .ok (.aload_n 0, 1) := by decide +kernel
theorem d_BW_startOver_1 : decode cd_BW_startOver 1 = .ok (.getfield 18, 3) := by decide +kernel
theorem d_BW_startOver_4 : decode cd_BW_startOver 4 = .ok (.aload_n 0, 1) := by decide +kernel
theorem d_BW_startOver_5 : decode cd_BW_startOver 5 = .ok (.getfield 9, 3) := by decide +kernel
theorem d_BW_startOver_8 : decode cd_BW_startOver 8 = .ok (.invokevirtual 28, 3) := by decide +kernel
theorem d_BW_startOver_11 : decode cd_BW_startOver 11 = .ok (.return_, 1) := by decide +kernel
theorem d_BW_pack_0 : decode cd_BW_pack 0 = .ok (.aload_n 0, 1) := by decide +kernel
theorem d_BW_pack_1 : decode cd_BW_pack 1 = .ok (.getfield 26, 3) := by decide +kernel
theorem d_BW_pack_4 : decode cd_BW_pack 4 = .ok (.invokevirtual 32, 3) := by decide +kernel
theorem d_BW_pack_7 : decode cd_BW_pack 7 = .ok (.istore 6, 2) := by decide +kernel
theorem d_BW_pack_9 : decode cd_BW_pack 9 = .ok (.aload_n 0, 1) := by decide +kernel
theorem d_BW_pack_10 : decode cd_BW_pack 10 = .ok (.getfield 26, 3) := by decide +kernel
theorem d_BW_pack_13 : decode cd_BW_pack 13 = .ok (.aload_n 1, 1) := by decide +kernel
theorem d_BW_pack_14 : decode cd_BW_pack 14 = .ok (.iload_n 2, 1) := by decide +kernel
theorem d_BW_pack_15 : decode cd_BW_pack 15 = .ok (.iload_n 3, 1) := by decide +kernel
theorem d_BW_pack_16 : decode cd_BW_pack 16 = .ok (.invokevirtual 42, 3) := by decide +kernel
theorem d_BW_pack_19 : decode cd_BW_pack 19 = .ok (.ifCond .ne 5, 3) := by decide +kernel
theorem d_BW_pack_22 : decode cd_BW_pack 22 = .ok (.iconst 0, 1) := by decide +kernel
theorem d_BW_pack_23 : decode cd_BW_pack 23 = .ok (.ireturn, 1) := by decide +kernel
theorem d_BW_pack_24 : decode cd_BW_pack 24 = .ok (.aload_n 0, 1) := by decide +kernel
theorem d_BW_pack_25 : decode cd_BW_pack 25 = .ok (.getfield 26, 3) := by decide +kernel
theorem d_BW_pack_28 : decode cd_BW_pack 28 = .ok (.invokevirtual 32, 3) := by decide +kernel
theorem d_BW_pack_31 : decode cd_BW_pack 31 = .ok (.iconst 5, 1) := by decide +kernel
theorem d_BW_pack_32 : decode cd_BW_pack 32 = .ok (.isub, 1) := by decide +kernel
theorem d_BW_pack_33 : decode cd_BW_pack 33 = .ok (.istore 7, 2) := by decide +kernel
theorem d_BW_pack_35 : decode cd_BW_pack 35 = .ok (.aload_n 0, 1) := by decide +kernel
theorem d_BW_pack_36 : decode cd_BW_pack 36 = .ok (.getfield 26, 3) := by decide +kernel
theorem d_BW_pack_39 : decode cd_BW_pack 39 = .ok (.invokevirtual 32, 3) := by decide +kernel
theorem d_BW_pack_42 : decode cd_BW_pack 42 = .ok (.bipush 12, 2) := by decide +kernel
theorem d_BW_pack_44 : decode cd_BW_pack 44 = .ok (.isub, 1) := by decide +kernel
theorem d_BW_pack_45 : decode cd_BW_pack 45 = .ok (.istore 8, 2) := by decide +kernel
theorem d_BW_pack_47 : decode cd_BW_pack 47 = .ok (.iload 6, 2) := by decide +kernel
theorem d_BW_pack_49 : decode cd_BW_pack 49 = .ok (.istore 10, 2) := by decide +kernel
theorem d_BW_pack_51 : decode cd_BW_pack 51 = .ok (.iload 10, 2) := by decide +kernel
theorem d_BW_pack_53 : decode cd_BW_pack 53 = .ok (.iload 8, 2) := by decide +kernel
theorem d_BW_pack_55 : decode cd_BW_pack 55 = .ok (.if_icmp .gt 89, 3) := by decide +kernel
theorem d_BW_pack_58 : decode cd_BW_pack 58 = .ok (.aload_n 0, 1) := by decide +kernel
theorem d_BW_pack_59 : decode cd_BW_pack 59 = .ok (.getfield 18, 3) := by decide +kernel
theorem d_BW_pack_62 : decode cd_BW_pack 62 = .ok (.iload 10, 2) := by decide +kernel
theorem d_BW_pack_64 : decode cd_BW_pack 64 = .ok (.iload 7, 2) := by decide +kernel
theorem d_BW_pack_66 : decode cd_BW_pack 66 = .ok (.iload 8, 2) := by decide +kernel
theorem d_BW_pack_68 : decode cd_BW_pack 68 = .ok (.iload 4, 2) := by decide +kernel
theorem d_BW_pack_70 : decode cd_BW_pack 70 = .ok (.invokevirtual 46, 3) := by decide +kernel
theorem d_BW_pack_73 : decode cd_BW_pack 73 = .ok (.istore 9, 2) := by decide +kernel
theorem d_BW_pack_75 : decode cd_BW_pack 75 = .ok (.iload 9, 2) := by decide +kernel
theorem d_BW_pack_77 : decode cd_BW_pack 77 = .ok (.ifCond .le 53, 3) := by decide +kernel
theorem d_BW_pack_80 : decode cd_BW_pack 80 = .ok (.iload 9, 2) := by decide +kernel
theorem d_BW_pack_82 : decode cd_BW_pack 82 = .ok (.iconst 4, 1) := by decide +kernel
theorem d_BW_pack_83 : decode cd_BW_pack 83 = .ok (.isub, 1) := by decide +kernel
theorem d_BW_pack_84 : decode cd_BW_pack 84 = .ok (.istore 11, 2) := by decide +kernel
theorem d_BW_pack_86 : decode cd_BW_pack 86 = .ok (.aload_n 0, 1) := by decide +kernel
theorem d_BW_pack_87 : decode cd_BW_pack 87 = .ok (.iload 6, 2) := by decide +kernel
theorem d_BW_pack_89 : decode cd_BW_pack 89 = .ok (.iload 10, 2) := by decide +kernel
theorem d_BW_pack_91 : decode cd_BW_pack 91 = .ok (.iload 11, 2) := by decide +kernel
theorem d_BW_pack_93 : decode cd_BW_pack 93 = .ok (.aload 5, 2) := by decide +kernel
theorem d_BW_pack_95 : decode cd_BW_pack 95 = .ok (.invokevirtual 50, 3) := by decide +kernel
theorem d_BW_pack_98 : decode cd_BW_pack 98 = .ok (.ifCond .eq 23, 3) := by decide +kernel
theorem d_BW_pack_101 : decode cd_BW_pack 101 = .ok (.iload 10, 2) := by decide +kernel
theorem d_BW_pack_103 : decode cd_BW_pack 103 = .ok (.aload_n 0, 1) := by decide +kernel
theorem d_BW_pack_104 : decode cd_BW_pack 104 = .ok (.getfield 18, 3) := by decide +kernel
theorem d_BW_pack_107 : decode cd_BW_pack 107 = .ok (.invokevirtual 54, 3) := by decide +kernel
theorem d_BW_pack_110 : decode cd_BW_pack 110 = .ok (.isub, 1) := by decide +kernel
theorem d_BW_pack_111 : decode cd_BW_pack 111 = .ok (.iload 11, 2) := by decide +kernel
theorem d_BW_pack_113 : decode cd_BW_pack 113 = .ok (.aload 5, 2) := by decide +kernel
theorem d_BW_pack_115 : decode cd_BW_pack 115 = .ok (.invokestatic 57, 3) := by decide +kernel
theorem d_BW_pack_118 : decode cd_BW_pack 118 = .ok (.ifCond .ne 5, 3) := by decide +kernel
theorem d_BW_pack_121 : decode cd_BW_pack 121 = .ok (.iconst 0, 1) := by decide +kernel
theorem d_BW_pack_122 : decode cd_BW_pack 122 = .ok (.ireturn, 1) := by decide +kernel
theorem d_BW_pack_123 : decode cd_BW_pack 123 = .ok (.iload 10, 2) := by decide +kernel
theorem d_BW_pack_125 : decode cd_BW_pack 125 = .ok (.iload 9, 2) := by decide +kernel
theorem d_BW_pack_127 : decode cd_BW_pack 127 = .ok (.iadd, 1) := by decide +kernel
theorem d_BW_pack_128 : decode cd_BW_pack 128 = .ok (.istore 6, 2) := by decide +kernel
theorem d_BW_pack_130 : decode cd_BW_pack 130 = .ok (.iload 10, 2) := by decide +kernel
theorem d_BW_pack_132 : decode cd_BW_pack 132 = .ok (.iconst 1, 1) := by decide +kernel
theorem d_BW_pack_133 : decode cd_BW_pack 133 = .ok (.iload 9, 2) := by decide +kernel
theorem d_BW_pack_135 : decode cd_BW_pack 135 = .ok (.invokestatic 61, 3) := by decide +kernel
theorem d_BW_pack_138 : decode cd_BW_pack 138 = .ok (.iadd, 1) := by decide +kernel
theorem d_BW_pack_139 : decode cd_BW_pack 139 = .ok (.istore 10, 2) := by decide +kernel
theorem d_BW_pack_141 : decode cd_BW_pack 141 = .ok (.goto (-90), 3) := by decide +kernel
theorem d_BW_pack_144 : decode cd_BW_pack 144 = .ok (.aload_n 0, 1) := by decide +kernel
theorem d_BW_pack_145 : decode cd_BW_pack 145 = .ok (.iload 6, 2) := by decide +kernel
theorem d_BW_pack_147 : decode cd_BW_pack 147 = .ok (.aload_n 0, 1) := by decide +kernel
theorem d_BW_pack_148 : decode cd_BW_pack 148 = .ok (.getfield 26, 3) := by decide +kernel
theorem d_BW_pack_151 : decode cd_BW_pack 151 = .ok (.invokevirtual 32, 3) := by decide +kernel
theorem d_BW_pack_154 : decode cd_BW_pack 154 = .ok (.iconst 0, 1) := by decide +kernel
theorem d_BW_pack_155 : decode cd_BW_pack 155 = .ok (.aload 5, 2) := by decide +kernel
theorem d_BW_pack_157 : decode cd_BW_pack 157 = .ok (.invokevirtual 50, 3) := by decide +kernel
theorem d_BW_pack_160 : decode cd_BW_pack 160 = .ok (.ireturn, 1) := by decide +kernel
theorem d_BW_addLiterals_0 : decode cd_BW_addLiterals 0 = .ok (.iload_n 2, 1) := by decide +kernel
theorem d_BW_addLiterals_1 : decode cd_BW_addLiterals 1 = .ok (.iload_n 1, 1) := by decide +kernel
theorem d_BW_addLiterals_2 : decode cd_BW_addLiterals 2 = .ok (.isub, 1) := by decide +kernel
theorem d_BW_addLiterals_3 : decode cd_BW_addLiterals 3 = .ok (.istore 5, 2) := by decide +kernel
theorem d_BW_addLiterals_5 : decode cd_BW_addLiterals 5 = .ok (.iload 5, 2) := by decide +kernel
theorem d_BW_addLiterals_7 : decode cd_BW_addLiterals 7 = .ok (.bipush 15, 2) := by decide +kernel
theorem d_BW_addLiterals_9 : decode cd_BW_addLiterals 9 = .ok (.invokestatic 67, 3) := by decide +kernel
theorem d_BW_addLiterals_12 : decode cd_BW_addLiterals 12 = .ok (.iconst 4, 1) := by decide +kernel
theorem d_BW_addLiterals_13 : decode cd_BW_addLiterals 13 = .ok (.ishl, 1) := by decide +kernel
theorem d_BW_addLiterals_14 : decode cd_BW_addLiterals 14 = .ok (.iload_n 3, 1) := by decide +kernel
theorem d_BW_addLiterals_15 : decode cd_BW_addLiterals 15 = .ok (.bipush 15, 2) := by decide +kernel
theorem d_BW_addLiterals_17 : decode cd_BW_addLiterals 17 = .ok (.invokestatic 67, 3) := by decide +kernel
theorem d_BW_addLiterals_20 : decode cd_BW_addLiterals 20 = .ok (.ior, 1) := by decide +kernel
theorem d_BW_addLiterals_21 : decode cd_BW_addLiterals 21 = .ok (.istore 6, 2) := by decide +kernel
theorem d_BW_addLiterals_23 : decode cd_BW_addLiterals 23 = .ok (.aload 4, 2) := by decide +kernel
theorem d_BW_addLiterals_25 : decode cd_BW_addLiterals 25 = .ok (.iload 6, 2) := by decide +kernel
theorem d_BW_addLiterals_27 : decode cd_BW_addLiterals 27 = .ok (.invokevirtual 70, 3) := by decide +kernel
theorem d_BW_addLiterals_30 : decode cd_BW_addLiterals 30 = .ok (.ifCond .eq 31, 3) := by decide +kernel
theorem d_BW_addLiterals_33 : decode cd_BW_addLiterals 33 = .ok (.iload 5, 2) := by decide +kernel
theorem d_BW_addLiterals_35 : decode cd_BW_addLiterals 35 = .ok (.aload 4, 2) := by decide +kernel
theorem d_BW_addLiterals_37 : decode cd_BW_addLiterals 37 = .ok (.invokestatic 74, 3) := by decide +kernel
theorem d_BW_addLiterals_40 : decode cd_BW_addLiterals 40 = .ok (.ifCond .eq 21, 3) := by decide +kernel
theorem d_BW_addLiterals_43 : decode cd_BW_addLiterals 43 = .ok (.aload 4, 2) := by decide +kernel
theorem d_BW_addLiterals_45 : decode cd_BW_addLiterals 45 = .ok (.aload_n 0, 1) := by decide +kernel
theorem d_BW_addLiterals_46 : decode cd_BW_addLiterals 46 = .ok (.getfield 26, 3) := by decide +kernel
theorem d_BW_addLiterals_49 : decode cd_BW_addLiterals 49 = .ok (.iload_n 1, 1) := by decide +kernel
theorem d_BW_addLiterals_50 : decode cd_BW_addLiterals 50 = .ok (.iload_n 2, 1) := by decide +kernel
theorem d_BW_addLiterals_51 : decode cd_BW_addLiterals 51 = .ok (.invokevirtual 42, 3) := by decide +kernel
theorem d_BW_addLiterals_54 : decode cd_BW_addLiterals 54 = .ok (.ifCond .eq 7, 3) := by decide +kernel
theorem d_BW_addLiterals_57 : decode cd_BW_addLiterals 57 = .ok (.iconst 1, 1) := by decide +kernel
theorem d_BW_addLiterals_58 : decode cd_BW_addLiterals 58 = .ok (.goto 4, 3) := by decide +kernel
theorem d_BW_addLiterals_61 : decode cd_BW_addLiterals 61 = .ok (.iconst 0, 1) := by decide +kernel
theorem d_BW_addLiterals_62 : decode cd_BW_addLiterals 62 = .ok (.ireturn, 1) := by decide +kernel
theorem d_BW_addGrowth_0 : decode cd_BW_addGrowth 0 = .ok (.iload_n 0, 1) := by decide +kernel
theorem d_BW_addGrowth_1 : decode cd_BW_addGrowth 1 = .ok (.bipush 15, 2) := by decide +kernel
theorem d_BW_addGrowth_3 : decode cd_BW_addGrowth 3 = .ok (.if_icmp .ge 5, 3) := by decide +kernel
theorem d_BW_addGrowth_6 : decode cd_BW_addGrowth 6 = .ok (.iconst 1, 1) := by decide +kernel
theorem d_BW_addGrowth_7 : decode cd_BW_addGrowth 7 = .ok (.ireturn, 1) := by decide +kernel
theorem d_BW_addGrowth_8 : decode cd_BW_addGrowth 8 = .ok (.iload_n 0, 1) := by decide +kernel
theorem d_BW_addGrowth_9 : decode cd_BW_addGrowth 9 = .ok (.bipush 15, 2) := by decide +kernel
theorem d_BW_addGrowth_11 : decode cd_BW_addGrowth 11 = .ok (.isub, 1) := by decide +kernel
theorem d_BW_addGrowth_12 : decode cd_BW_addGrowth 12 = .ok (.istore_n 2, 1) := by decide +kernel
theorem d_BW_addGrowth_13 : decode cd_BW_addGrowth 13 = .ok (.iload_n 2, 1) := by decide +kernel
theorem d_BW_addGrowth_14 : decode cd_BW_addGrowth 14 = .ok (.sipush 255, 3) := by decide +kernel
theorem d_BW_addGrowth_17 : decode cd_BW_addGrowth 17 = .ok (.if_icmp .lt 24, 3) := by decide +kernel
theorem d_BW_addGrowth_20 : decode cd_BW_addGrowth 20 = .ok (.aload_n 1, 1) := by decide +kernel
theorem d_BW_addGrowth_21 : decode cd_BW_addGrowth 21 = .ok (.sipush 255, 3) := by decide +kernel
theorem d_BW_addGrowth_24 : decode cd_BW_addGrowth 24 = .ok (.invokevirtual 70, 3) := by decide +kernel
theorem d_BW_addGrowth_27 : decode cd_BW_addGrowth 27 = .ok (.ifCond .ne 5, 3) := by decide +kernel
theorem d_BW_addGrowth_30 : decode cd_BW_addGrowth 30 = .ok (.iconst 0, 1) := by decide +kernel
theorem d_BW_addGrowth_31 : decode cd_BW_addGrowth 31 = .ok (.ireturn, 1) := by decide +kernel
theorem d_BW_addGrowth_32 : decode cd_BW_addGrowth 32 = .ok (.iinc 2 (-255), 6) := by decide +kernel
theorem d_BW_addGrowth_38 : decode cd_BW_addGrowth 38 = .ok (.goto (-25), 3) := by decide +kernel
theorem d_BW_addGrowth_41 : decode cd_BW_addGrowth 41 = .ok (.aload_n 1, 1) := by decide +kernel
theorem d_BW_addGrowth_42 : decode cd_BW_addGrowth 42 = .ok (.iload_n 2, 1) := by decide +kernel
theorem d_BW_addGrowth_43 : decode cd_BW_addGrowth 43 = .ok (.invokevirtual 70, 3) := by decide +kernel
theorem d_BW_addGrowth_46 : decode cd_BW_addGrowth 46 = .ok (.ireturn, 1) := by decide +kernel
theorem d_BW_addCopy_0 : decode cd_BW_addCopy 0 = .ok (.aload_n 2, 1) := by decide +kernel
theorem d_BW_addCopy_1 : decode cd_BW_addCopy 1 = .ok (.iload_n 0, 1) := by decide +kernel
theorem d_BW_addCopy_2 : decode cd_BW_addCopy 2 = .ok (.invokevirtual 70, 3) := by decide +kernel
theorem d_BW_addCopy_5 : decode cd_BW_addCopy 5 = .ok (.ifCond .eq 26, 3) := by decide +kernel
theorem d_BW_addCopy_8 : decode cd_BW_addCopy 8 = .ok (.aload_n 2, 1) := by decide +kernel
theorem d_BW_addCopy_9 : decode cd_BW_addCopy 9 = .ok (.iload_n 0, 1) := by decide +kernel
theorem d_BW_addCopy_10 : decode cd_BW_addCopy 10 = .ok (.bipush 8, 2) := by decide +kernel
theorem d_BW_addCopy_12 : decode cd_BW_addCopy 12 = .ok (.ishr, 1) := by decide +kernel
theorem d_BW_addCopy_13 : decode cd_BW_addCopy 13 = .ok (.invokevirtual 70, 3) := by decide +kernel
theorem d_BW_addCopy_16 : decode cd_BW_addCopy 16 = .ok (.ifCond .eq 15, 3) := by decide +kernel
theorem d_BW_addCopy_19 : decode cd_BW_addCopy 19 = .ok (.iload_n 1, 1) := by decide +kernel
theorem d_BW_addCopy_20 : decode cd_BW_addCopy 20 = .ok (.aload_n 2, 1) := by decide +kernel
theorem d_BW_addCopy_21 : decode cd_BW_addCopy 21 = .ok (.invokestatic 74, 3) := by decide +kernel
theorem d_BW_addCopy_24 : decode cd_BW_addCopy 24 = .ok (.ifCond .eq 7, 3) := by decide +kernel
theorem d_BW_addCopy_27 : decode cd_BW_addCopy 27 = .ok (.iconst 1, 1) := by decide +kernel
theorem d_BW_addCopy_28 : decode cd_BW_addCopy 28 = .ok (.goto 4, 3) := by decide +kernel
theorem d_BW_addCopy_31 : decode cd_BW_addCopy 31 = .ok (.iconst 0, 1) := by decide +kernel
theorem d_BW_addCopy_32 : decode cd_BW_addCopy 32 = .ok (.ireturn, 1) := by decide +kernel
theorem d_BW_dropContent_0 : decode cd_BW_dropContent 0 = .ok (.aload_n 0, 1) := by decide +kernel
theorem d_BW_dropContent_1 : decode cd_BW_dropContent 1 = .ok (.getfield 18, 3) := by decide +kernel
theorem d_BW_dropContent_4 : decode cd_BW_dropContent 4 = .ok (.aload_n 0, 1) := by decide +kernel
theorem d_BW_dropContent_5 : decode cd_BW_dropContent 5 = .ok (.getfield 9, 3) := by decide +kernel
theorem d_BW_dropContent_8 : decode cd_BW_dropContent 8 = .ok (.invokevirtual 32, 3) := by decide +kernel
theorem d_BW_dropContent_11 : decode cd_BW_dropContent 11 = .ok (.invokevirtual 38, 3) := by decide +kernel
theorem d_BW_dropContent_14 : decode cd_BW_dropContent 14 = .ok (.return_, 1) := by decide +kernel
