theorem d_T_init_0 : decode cd_T_init 0 = .ok (.aload_n 0, 1) := by decide +kernel
theorem d_T_init_1 : decode cd_T_init 1 = .ok (.invokespecial 3, 3) := by decide +kernel
theorem d_T_init_4 : decode cd_T_init 4 = .ok (.aload_n 0, 1) := by decide +kernel
theorem d_T_init_5 : decode cd_T_init 5 = .ok (.new 9, 3) := by decide +kernel
theorem d_T_init_8 : decode cd_T_init 8 = .ok (.dup, 1) := by decide +kernel
theorem d_T_init_9 : decode cd_T_init 9 = .ok (.sipush 8000, 3) := by decide +kernel
theorem d_T_init_12 : decode cd_T_init 12 = .ok (.invokespecial 11, 3) := by decide +kernel
theorem d_T_init_15 : decode cd_T_init 15 = .ok (.putfield 14, 3) := by decide +kernel
theorem d_T_init_18 : decode cd_T_init 18 = .ok (.aload_n 0, 1) := by decide +kernel
theorem d_T_init_19 : decode cd_T_init 19 = .ok (.new 9, 3) := by decide +kernel
theorem d_T_init_22 : decode cd_T_init 22 = .ok (.dup, 1) := by decide +kernel
theorem d_T_init_23 : decode cd_T_init 23 = .ok (.sipush 8000, 3) := by decide +kernel
theorem d_T_init_26 : decode cd_T_init 26 = .ok (.invokespecial 11, 3) := by decide +kernel
theorem d_T_init_29 : decode cd_T_init 29 = .ok (.putfield 18, 3) := by decide +kernel
theorem d_T_init_32 : decode cd_T_init 32 = .ok (.aload_n 0, 1) := by decide +kernel
theorem d_T_init_33 : decode cd_T_init 33 = .ok (.new 9, 3) := by decide +kernel
theorem d_T_init_36 : decode cd_T_init 36 = .ok (.dup, 1) := by decide +kernel
theorem d_T_init_37 : decode cd_T_init 37 = .ok (.sipush 8000, 3) := by decide +kernel
theorem d_T_init_40 : decode cd_T_init 40 = .ok (.invokespecial 11, 3) := by decide +kernel
theorem d_T_init_43 : decode cd_T_init 43 = .ok (.putfield 21, 3) := by decide +kernel
theorem d_T_init_46 : decode cd_T_init 46 = .ok (.aload_n 0, 1) := by decide +kernel
theorem d_T_init_47 : decode cd_T_init 47 = .ok (.new 9, 3) := by decide +kernel
theorem d_T_init_50 : decode cd_T_init 50 = .ok (.dup, 1) := by decide +kernel
theorem d_T_init_51 : decode cd_T_init 51 = .ok (.sipush 8000, 3) := by decide +kernel
theorem d_T_init_54 : decode cd_T_init 54 = .ok (.invokespecial 11, 3) := by decide +kernel
theorem d_T_init_57 : decode cd_T_init 57 = .ok (.putfield 24, 3) := by decide +kernel
theorem d_T_init_60 : decode cd_T_init 60 = .ok (.aload_n 0, 1) := by decide +kernel
theorem d_T_init_61 : decode cd_T_init 61 = .ok (.new 27, 3) := by decide +kernel
theorem d_T_init_64 : decode cd_T_init 64 = .ok (.dup, 1) := by decide +kernel
theorem d_T_init_65 : decode cd_T_init 65 = .ok (.aload_n 0, 1) := by decide +kernel
theorem d_T_init_66 : decode cd_T_init 66 = .ok (.getfield 21, 3) := by decide +kernel
theorem d_T_init_69 : decode cd_T_init 69 = .ok (.invokespecial 29, 3) := by decide +kernel
theorem d_T_init_72 : decode cd_T_init 72 = .ok (.putfield 32, 3) := by decide +kernel
theorem d_T_init_75 : decode cd_T_init 75 = .ok (.aload_n 0, 1) := by decide +kernel
theorem d_T_init_76 : decode cd_T_init 76 = .ok (.new 36, 3) := by decide +kernel
theorem d_T_init_79 : decode cd_T_init 79 = .ok (.dup, 1) := by decide +kernel
theorem d_T_init_80 : decode cd_T_init 80 = .ok (.aload_n 0, 1) := by decide +kernel
theorem d_T_init_81 : decode cd_T_init 81 = .ok (.getfield 14, 3) := by decide +kernel
theorem d_T_init_84 : decode cd_T_init 84 = .ok (.aload_n 0, 1) := by decide +kernel
theorem d_T_init_85 : decode cd_T_init 85 = .ok (.getfield 24, 3) := by decide +kernel
theorem d_T_init_88 : decode cd_T_init 88 = .ok (.aload_n 0, 1) := by decide +kernel
theorem d_T_init_89 : decode cd_T_init 89 = .ok (.getfield 32, 3) := by decide +kernel
theorem d_T_init_92 : decode cd_T_init 92 = .ok (.invokespecial 38, 3) := by decide +kernel
theorem d_T_init_95 : decode cd_T_init 95 = .ok (.putfield 41, 3) := by decide +kernel
theorem d_T_init_98 : decode cd_T_init 98 = .ok (.aload_n 0, 1) := by decide +kernel
theorem d_T_init_99 : decode cd_T_init 99 = .ok (.new 45, 3) := by decide +kernel
theorem d_T_init_102 : decode cd_T_init 102 = .ok (.dup, 1) := by decide +kernel
theorem d_T_init_103 : decode cd_T_init 103 = .ok (.aload_n 0, 1) := by decide +kernel
theorem d_T_init_104 : decode cd_T_init 104 = .ok (.getfield 14, 3) := by decide +kernel
theorem d_T_init_107 : decode cd_T_init 107 = .ok (.aload_n 0, 1) := by decide +kernel
theorem d_T_init_108 : decode cd_T_init 108 = .ok (.getfield 21, 3) := by decide +kernel
theorem d_T_init_111 : decode cd_T_init 111 = .ok (.aload_n 0, 1) := by decide +kernel
theorem d_T_init_112 : decode cd_T_init 112 = .ok (.getfield 24, 3) := by decide +kernel
theorem d_T_init_115 : decode cd_T_init 115 = .ok (.invokespecial 47, 3) := by decide +kernel
theorem d_T_init_118 : decode cd_T_init 118 = .ok (.putfield 50, 3) := by decide +kernel
theorem d_T_init_121 : decode cd_T_init 121 = .ok (.aload_n 0, 1) := by decide +kernel
theorem d_T_init_122 : decode cd_T_init 122 = .ok (.new 54, 3) := by decide +kernel
theorem d_T_init_125 : decode cd_T_init 125 = .ok (.dup, 1) := by decide +kernel
theorem d_T_init_126 : decode cd_T_init 126 = .ok (.aload_n 0, 1) := by decide +kernel
theorem d_T_init_127 : decode cd_T_init 127 = .ok (.getfield 14, 3) := by decide +kernel
theorem d_T_init_130 : decode cd_T_init 130 = .ok (.aload_n 0, 1) := by decide +kernel
theorem d_T_init_131 : decode cd_T_init 131 = .ok (.getfield 24, 3) := by decide +kernel
theorem d_T_init_134 : decode cd_T_init 134 = .ok (.aload_n 0, 1) := by decide +kernel
theorem d_T_init_135 : decode cd_T_init 135 = .ok (.getfield 50, 3) := by decide +kernel
theorem d_T_init_138 : decode cd_T_init 138 = .ok (.invokespecial 56, 3) := by decide +kernel
theorem d_T_init_141 : decode cd_T_init 141 = .ok (.putfield 59, 3) := by decide +kernel
theorem d_T_init_144 : decode cd_T_init 144 = .ok (.return_, 1) := by decide +kernel
theorem d_T_write_0 : decode cd_T_write 0 = .ok (.iload_n 3, 1) := by decide +kernel
theorem d_T_write_1 : decode cd_T_write 1 = .ok (.iconst 1, 1) := by decide +kernel
theorem d_T_write_2 : decode cd_T_write 2 = .ok (.if_icmp .lt 21, 3) := by decide +kernel
theorem d_T_write_5 : decode cd_T_write 5 = .ok (.iload_n 3, 1) := by decide +kernel
theorem d_T_write_6 : decode cd_T_write 6 = .ok (.bipush 8, 2) := by decide +kernel
theorem d_T_write_8 : decode cd_T_write 8 = .ok (.if_icmp .gt 15, 3) := by decide +kernel
theorem d_T_write_11 : decode cd_T_write 11 = .ok (.aload_n 0, 1) := by decide +kernel
theorem d_T_write_12 : decode cd_T_write 12 = .ok (.getfield 14, 3) := by decide +kernel
theorem d_T_write_15 : decode cd_T_write 15 = .ok (.iload_n 3, 1) := by decide +kernel
theorem d_T_write_16 : decode cd_T_write 16 = .ok (.i2l, 1) := by decide +kernel
theorem d_T_write_17 : decode cd_T_write 17 = .ok (.invokevirtual 63, 3) := by decide +kernel
theorem d_T_write_20 : decode cd_T_write 20 = .ok (.ifCond .ne 5, 3) := by decide +kernel
theorem d_T_write_23 : decode cd_T_write 23 = .ok (.iconst 0, 1) := by decide +kernel
theorem d_T_write_24 : decode cd_T_write 24 = .ok (.ireturn, 1) := by decide +kernel
theorem d_T_write_25 : decode cd_T_write 25 = .ok (.iload_n 3, 1) := by decide +kernel
theorem d_T_write_26 : decode cd_T_write 26 = .ok (.iconst 1, 1) := by decide +kernel
theorem d_T_write_27 : decode cd_T_write 27 = .ok (.isub, 1) := by decide +kernel
theorem d_T_write_28 : decode cd_T_write 28 = .ok (.istore 4, 2) := by decide +kernel
theorem d_T_write_30 : decode cd_T_write 30 = .ok (.iload 4, 2) := by decide +kernel
theorem d_T_write_32 : decode cd_T_write 32 = .ok (.ifCond .lt 25, 3) := by decide +kernel
theorem d_T_write_35 : decode cd_T_write 35 = .ok (.aload_n 0, 1) := by decide +kernel
theorem d_T_write_36 : decode cd_T_write 36 = .ok (.getfield 14, 3) := by decide +kernel
theorem d_T_write_39 : decode cd_T_write 39 = .ok (.lload_n 1, 1) := by decide +kernel
theorem d_T_write_40 : decode cd_T_write 40 = .ok (.bipush 8, 2) := by decide +kernel
theorem d_T_write_42 : decode cd_T_write 42 = .ok (.iload 4, 2) := by decide +kernel
theorem d_T_write_44 : decode cd_T_write 44 = .ok (.imul, 1) := by decide +kernel
theorem d_T_write_45 : decode cd_T_write 45 = .ok (.lushr, 1) := by decide +kernel
theorem d_T_write_46 : decode cd_T_write 46 = .ok (.l2i, 1) := by decide +kernel
theorem d_T_write_47 : decode cd_T_write 47 = .ok (.invokevirtual 67, 3) := by decide +kernel
theorem d_T_write_50 : decode cd_T_write 50 = .ok (.pop, 1) := by decide +kernel
theorem d_T_write_51 : decode cd_T_write 51 = .ok (.iinc 4 (-1), 3) := by decide +kernel
theorem d_T_write_54 : decode cd_T_write 54 = .ok (.goto (-24), 3) := by decide +kernel
theorem d_T_write_57 : decode cd_T_write 57 = .ok (.iconst 1, 1) := by decide +kernel
theorem d_T_write_58 : decode cd_T_write 58 = .ok (.ireturn, 1) := by decide +kernel
theorem d_T_again_0 : decode cd_T_again 0 = .ok (.iload_n 1, 1) := by decide +kernel
theorem d_T_again_1 : decode cd_T_again 1 = .ok (.iconst 1, 1) := by decide +kernel
theorem d_T_again_2 : decode cd_T_again 2 = .ok (.if_icmp .lt 33, 3) := by decide +kernel
theorem d_T_again_5 : decode cd_T_again 5 = .ok (.iload_n 1, 1) := by decide +kernel
theorem d_T_again_6 : decode cd_T_again 6 = .ok (.aload_n 0, 1) := by decide +kernel
theorem d_T_again_7 : decode cd_T_again 7 = .ok (.getfield 14, 3) := by decide +kernel
theorem d_T_again_10 : decode cd_T_again 10 = .ok (.invokevirtual 71, 3) := by decide +kernel
theorem d_T_again_13 : decode cd_T_again 13 = .ok (.if_icmp .gt 22, 3) := by decide +kernel
theorem d_T_again_16 : decode cd_T_again 16 = .ok (.iload_n 2, 1) := by decide +kernel
theorem d_T_again_17 : decode cd_T_again 17 = .ok (.ifCond .lt 18, 3) := by decide +kernel
theorem d_T_again_20 : decode cd_T_again 20 = .ok (.aload_n 0, 1) := by decide +kernel
theorem d_T_again_21 : decode cd_T_again 21 = .ok (.getfield 14, 3) := by decide +kernel
theorem d_T_again_24 : decode cd_T_again 24 = .ok (.iload_n 1, 1) := by decide +kernel
theorem d_T_again_25 : decode cd_T_again 25 = .ok (.i2l, 1) := by decide +kernel
theorem d_T_again_26 : decode cd_T_again 26 = .ok (.iload_n 2, 1) := by decide +kernel
theorem d_T_again_27 : decode cd_T_again 27 = .ok (.i2l, 1) := by decide +kernel
theorem d_T_again_28 : decode cd_T_again 28 = .ok (.lmul, 1) := by decide +kernel
theorem d_T_again_29 : decode cd_T_again 29 = .ok (.invokevirtual 63, 3) := by decide +kernel
theorem d_T_again_32 : decode cd_T_again 32 = .ok (.ifCond .ne 5, 3) := by decide +kernel
theorem d_T_again_35 : decode cd_T_again 35 = .ok (.iconst 0, 1) := by decide +kernel
theorem d_T_again_36 : decode cd_T_again 36 = .ok (.ireturn, 1) := by decide +kernel
theorem d_T_again_37 : decode cd_T_again 37 = .ok (.iconst 0, 1) := by decide +kernel
theorem d_T_again_38 : decode cd_T_again 38 = .ok (.istore_n 3, 1) := by decide +kernel
theorem d_T_again_39 : decode cd_T_again 39 = .ok (.iload_n 3, 1) := by decide +kernel
theorem d_T_again_40 : decode cd_T_again 40 = .ok (.iload_n 2, 1) := by decide +kernel
theorem d_T_again_41 : decode cd_T_again 41 = .ok (.if_icmp .ge 37, 3) := by decide +kernel
theorem d_T_again_44 : decode cd_T_again 44 = .ok (.aload_n 0, 1) := by decide +kernel
theorem d_T_again_45 : decode cd_T_again 45 = .ok (.getfield 14, 3) := by decide +kernel
theorem d_T_again_48 : decode cd_T_again 48 = .ok (.aload_n 0, 1) := by decide +kernel
theorem d_T_again_49 : decode cd_T_again 49 = .ok (.getfield 14, 3) := by decide +kernel
theorem d_T_again_52 : decode cd_T_again 52 = .ok (.aload_n 0, 1) := by decide +kernel
theorem d_T_again_53 : decode cd_T_again 53 = .ok (.getfield 14, 3) := by decide +kernel
theorem d_T_again_56 : decode cd_T_again 56 = .ok (.invokevirtual 71, 3) := by decide +kernel
theorem d_T_again_59 : decode cd_T_again 59 = .ok (.iload_n 1, 1) := by decide +kernel
theorem d_T_again_60 : decode cd_T_again 60 = .ok (.isub, 1) := by decide +kernel
theorem d_T_again_61 : decode cd_T_again 61 = .ok (.aload_n 0, 1) := by decide +kernel
theorem d_T_again_62 : decode cd_T_again 62 = .ok (.getfield 14, 3) := by decide +kernel
theorem d_T_again_65 : decode cd_T_again 65 = .ok (.invokevirtual 71, 3) := by decide +kernel
theorem d_T_again_68 : decode cd_T_again 68 = .ok (.invokevirtual 75, 3) := by decide +kernel
theorem d_T_again_71 : decode cd_T_again 71 = .ok (.pop, 1) := by decide +kernel
theorem d_T_again_72 : decode cd_T_again 72 = .ok (.iinc 3 1, 3) := by decide +kernel
theorem d_T_again_75 : decode cd_T_again 75 = .ok (.goto (-36), 3) := by decide +kernel
theorem d_T_again_78 : decode cd_T_again 78 = .ok (.iconst 1, 1) := by decide +kernel
theorem d_T_again_79 : decode cd_T_again 79 = .ok (.ireturn, 1) := by decide +kernel
theorem d_T_clear_0 : decode cd_T_clear 0 = .ok (.aload_n 0, 1) := by decide +kernel
theorem d_T_clear_1 : decode cd_T_clear 1 = .ok (.getfield 14, 3) := by decide +kernel
theorem d_T_clear_4 : decode cd_T_clear 4 = .ok (.iconst 0, 1) := by decide +kernel
theorem d_T_clear_5 : decode cd_T_clear 5 = .ok (.invokevirtual 79, 3) := by decide +kernel
theorem d_T_clear_8 : decode cd_T_clear 8 = .ok (.return_, 1) := by decide +kernel
theorem d_T_turn_0 : decode cd_T_turn 0 = .ok (.aload_n 0, 1) := by decide +kernel
theorem d_T_turn_1 : decode cd_T_turn 1 = .ok (.getfield 14, 3) := by decide +kernel
theorem d_T_turn_4 : decode cd_T_turn 4 = .ok (.aload_n 0, 1) := by decide +kernel
theorem d_T_turn_5 : decode cd_T_turn 5 = .ok (.getfield 18, 3) := by decide +kernel
theorem d_T_turn_8 : decode cd_T_turn 8 = .ok (.invokevirtual 82, 3) := by decide +kernel
theorem d_T_turn_11 : decode cd_T_turn 11 = .ok (.return_, 1) := by decide +kernel
theorem d_T_remember_0 : decode cd_T_remember 0 = .ok (.aload_n 0, 1) := by decide +kernel
theorem d_T_remember_1 : decode cd_T_remember 1 = .ok (.getfield 21, 3) := by decide +kernel
theorem d_T_remember_4 : decode cd_T_remember 4 = .ok (.aload_n 0, 1) := by decide +kernel
theorem d_T_remember_5 : decode cd_T_remember 5 = .ok (.getfield 14, 3) := by decide +kernel
theorem d_T_remember_8 : decode cd_T_remember 8 = .ok (.invokevirtual 82, 3) := by decide +kernel
theorem d_T_remember_11 : decode cd_T_remember 11 = .ok (.aload_n 0, 1) := by decide +kernel
theorem d_T_remember_12 : decode cd_T_remember 12 = .ok (.getfield 14, 3) := by decide +kernel
theorem d_T_remember_15 : decode cd_T_remember 15 = .ok (.iconst 0, 1) := by decide +kernel
theorem d_T_remember_16 : decode cd_T_remember 16 = .ok (.invokevirtual 79, 3) := by decide +kernel
theorem d_T_remember_19 : decode cd_T_remember 19 = .ok (.return_, 1) := by decide +kernel
theorem d_T_block_0 : decode cd_T_block 0 = .ok (.iload_n 1, 1) := by decide +kernel
theorem d_T_block_1 : decode cd_T_block 1 = .ok (.invokestatic 85, 3) := by decide +kernel
theorem d_T_block_4 : decode cd_T_block 4 = .ok (.ifCond .ne 5, 3) := by decide +kernel
theorem d_T_block_7 : decode cd_T_block 7 = .ok (.iconst (-1), 1) := by decide +kernel
theorem d_T_block_8 : decode cd_T_block 8 = .ok (.ireturn, 1) := by decide +kernel
theorem d_T_block_9 : decode cd_T_block 9 = .ok (.aload_n 0, 1) := by decide +kernel
theorem d_T_block_10 : decode cd_T_block 10 = .ok (.getfield 24, 3) := by decide +kernel
theorem d_T_block_13 : decode cd_T_block 13 = .ok (.iconst 0, 1) := by decide +kernel
theorem d_T_block_14 : decode cd_T_block 14 = .ok (.invokevirtual 79, 3) := by decide +kernel
theorem d_T_block_17 : decode cd_T_block 17 = .ok (.aload_n 0, 1) := by decide +kernel
theorem d_T_block_18 : decode cd_T_block 18 = .ok (.getfield 32, 3) := by decide +kernel
theorem d_T_block_21 : decode cd_T_block 21 = .ok (.invokevirtual 88, 3) := by decide +kernel
theorem d_T_block_24 : decode cd_T_block 24 = .ok (.aload_n 0, 1) := by decide +kernel
theorem d_T_block_25 : decode cd_T_block 25 = .ok (.getfield 32, 3) := by decide +kernel
theorem d_T_block_28 : decode cd_T_block 28 = .ok (.aload_n 0, 1) := by decide +kernel
theorem d_T_block_29 : decode cd_T_block 29 = .ok (.getfield 14, 3) := by decide +kernel
theorem d_T_block_32 : decode cd_T_block 32 = .ok (.iconst 0, 1) := by decide +kernel
theorem d_T_block_33 : decode cd_T_block 33 = .ok (.aload_n 0, 1) := by decide +kernel
theorem d_T_block_34 : decode cd_T_block 34 = .ok (.getfield 14, 3) := by decide +kernel
theorem d_T_block_37 : decode cd_T_block 37 = .ok (.invokevirtual 71, 3) := by decide +kernel
theorem d_T_block_40 : decode cd_T_block 40 = .ok (.iload_n 1, 1) := by decide +kernel
theorem d_T_block_41 : decode cd_T_block 41 = .ok (.aload_n 0, 1) := by decide +kernel
theorem d_T_block_42 : decode cd_T_block 42 = .ok (.getfield 24, 3) := by decide +kernel
theorem d_T_block_45 : decode cd_T_block 45 = .ok (.invokevirtual 91, 3) := by decide +kernel
theorem d_T_block_48 : decode cd_T_block 48 = .ok (.istore_n 2, 1) := by decide +kernel
theorem d_T_block_49 : decode cd_T_block 49 = .ok (.iload_n 2, 1) := by decide +kernel
theorem d_T_block_50 : decode cd_T_block 50 = .ok (.ifCond .eq 10, 3) := by decide +kernel
theorem d_T_block_53 : decode cd_T_block 53 = .ok (.aload_n 0, 1) := by decide +kernel
theorem d_T_block_54 : decode cd_T_block 54 = .ok (.invokevirtual 95, 3) := by decide +kernel
theorem d_T_block_57 : decode cd_T_block 57 = .ok (.goto 4, 3) := by decide +kernel
theorem d_T_block_60 : decode cd_T_block 60 = .ok (.iconst (-1), 1) := by decide +kernel
theorem d_T_block_61 : decode cd_T_block 61 = .ok (.ireturn, 1) := by decide +kernel
theorem d_T_keepDraft_0 : decode cd_T_keepDraft 0 = .ok (.aload_n 0, 1) := by decide +kernel
theorem d_T_keepDraft_1 : decode cd_T_keepDraft 1 = .ok (.getfield 18, 3) := by decide +kernel
theorem d_T_keepDraft_4 : decode cd_T_keepDraft 4 = .ok (.aload_n 0, 1) := by decide +kernel
theorem d_T_keepDraft_5 : decode cd_T_keepDraft 5 = .ok (.getfield 24, 3) := by decide +kernel
theorem d_T_keepDraft_8 : decode cd_T_keepDraft 8 = .ok (.invokevirtual 82, 3) := by decide +kernel
theorem d_T_keepDraft_11 : decode cd_T_keepDraft 11 = .ok (.aload_n 0, 1) := by decide +kernel
theorem d_T_keepDraft_12 : decode cd_T_keepDraft 12 = .ok (.getfield 18, 3) := by decide +kernel
theorem d_T_keepDraft_15 : decode cd_T_keepDraft 15 = .ok (.invokevirtual 71, 3) := by decide +kernel
theorem d_T_keepDraft_18 : decode cd_T_keepDraft 18 = .ok (.ireturn, 1) := by decide +kernel
theorem d_T_unblock_0 : decode cd_T_unblock 0 = .ok (.iload_n 1, 1) := by decide +kernel
theorem d_T_unblock_1 : decode cd_T_unblock 1 = .ok (.invokestatic 98, 3) := by decide +kernel
theorem d_T_unblock_4 : decode cd_T_unblock 4 = .ok (.ifCond .ne 6, 3) := by decide +kernel
theorem d_T_unblock_7 : decode cd_T_unblock 7 = .ok (.bipush (-4), 2) := by decide +kernel
theorem d_T_unblock_9 : decode cd_T_unblock 9 = .ok (.ireturn, 1) := by decide +kernel
theorem d_T_unblock_10 : decode cd_T_unblock 10 = .ok (.aload_n 0, 1) := by decide +kernel
theorem d_T_unblock_11 : decode cd_T_unblock 11 = .ok (.getfield 24, 3) := by decide +kernel
theorem d_T_unblock_14 : decode cd_T_unblock 14 = .ok (.iconst 0, 1) := by decide +kernel
theorem d_T_unblock_15 : decode cd_T_unblock 15 = .ok (.invokevirtual 79, 3) := by decide +kernel
theorem d_T_unblock_18 : decode cd_T_unblock 18 = .ok (.aload_n 0, 1) := by decide +kernel
theorem d_T_unblock_19 : decode cd_T_unblock 19 = .ok (.getfield 50, 3) := by decide +kernel
theorem d_T_unblock_22 : decode cd_T_unblock 22 = .ok (.iconst 0, 1) := by decide +kernel
theorem d_T_unblock_23 : decode cd_T_unblock 23 = .ok (.aload_n 0, 1) := by decide +kernel
theorem d_T_unblock_24 : decode cd_T_unblock 24 = .ok (.getfield 14, 3) := by decide +kernel
theorem d_T_unblock_27 : decode cd_T_unblock 27 = .ok (.invokevirtual 71, 3) := by decide +kernel
theorem d_T_unblock_30 : decode cd_T_unblock 30 = .ok (.iconst 0, 1) := by decide +kernel
theorem d_T_unblock_31 : decode cd_T_unblock 31 = .ok (.iload_n 1, 1) := by decide +kernel
theorem d_T_unblock_32 : decode cd_T_unblock 32 = .ok (.invokevirtual 101, 3) := by decide +kernel
theorem d_T_unblock_35 : decode cd_T_unblock 35 = .ok (.istore_n 2, 1) := by decide +kernel
theorem d_T_unblock_36 : decode cd_T_unblock 36 = .ok (.aload_n 0, 1) := by decide +kernel
theorem d_T_unblock_37 : decode cd_T_unblock 37 = .ok (.aload_n 0, 1) := by decide +kernel
theorem d_T_unblock_38 : decode cd_T_unblock 38 = .ok (.getfield 50, 3) := by decide +kernel
theorem d_T_unblock_41 : decode cd_T_unblock 41 = .ok (.invokevirtual 105, 3) := by decide +kernel
theorem d_T_unblock_44 : decode cd_T_unblock 44 = .ok (.putfield 108, 3) := by decide +kernel
theorem d_T_unblock_47 : decode cd_T_unblock 47 = .ok (.iload_n 2, 1) := by decide +kernel
theorem d_T_unblock_48 : decode cd_T_unblock 48 = .ok (.ifCond .ne 10, 3) := by decide +kernel
theorem d_T_unblock_51 : decode cd_T_unblock 51 = .ok (.aload_n 0, 1) := by decide +kernel
theorem d_T_unblock_52 : decode cd_T_unblock 52 = .ok (.invokevirtual 95, 3) := by decide +kernel
theorem d_T_unblock_55 : decode cd_T_unblock 55 = .ok (.goto 5, 3) := by decide +kernel
theorem d_T_unblock_58 : decode cd_T_unblock 58 = .ok (.iload_n 2, 1) := by decide +kernel
theorem d_T_unblock_59 : decode cd_T_unblock 59 = .ok (.ineg, 1) := by decide +kernel
theorem d_T_unblock_60 : decode cd_T_unblock 60 = .ok (.ireturn, 1) := by decide +kernel
theorem d_T_frame_0 : decode cd_T_frame 0 = .ok (.iload_n 1, 1) := by decide +kernel
theorem d_T_frame_1 : decode cd_T_frame 1 = .ok (.invokestatic 112, 3) := by decide +kernel
theorem d_T_frame_4 : decode cd_T_frame 4 = .ok (.ifCond .eq 32, 3) := by decide +kernel
theorem d_T_frame_7 : decode cd_T_frame 7 = .ok (.iload_n 2, 1) := by decide +kernel
theorem d_T_frame_8 : decode cd_T_frame 8 = .ok (.invokestatic 115, 3) := by decide +kernel
theorem d_T_frame_11 : decode cd_T_frame 11 = .ok (.ifCond .eq 25, 3) := by decide +kernel
theorem d_T_frame_14 : decode cd_T_frame 14 = .ok (.iload 4, 2) := by decide +kernel
theorem d_T_frame_16 : decode cd_T_frame 16 = .ok (.iconst 1, 1) := by decide +kernel
theorem d_T_frame_17 : decode cd_T_frame 17 = .ok (.if_icmp .lt 19, 3) := by decide +kernel
theorem d_T_frame_20 : decode cd_T_frame 20 = .ok (.iload 4, 2) := by decide +kernel
theorem d_T_frame_22 : decode cd_T_frame 22 = .ok (.sipush 8000, 3) := by decide +kernel
theorem d_T_frame_25 : decode cd_T_frame 25 = .ok (.if_icmp .gt 11, 3) := by decide +kernel
theorem d_T_frame_28 : decode cd_T_frame 28 = .ok (.iload 5, 2) := by decide +kernel
theorem d_T_frame_30 : decode cd_T_frame 30 = .ok (.invokestatic 85, 3) := by decide +kernel
theorem d_T_frame_33 : decode cd_T_frame 33 = .ok (.ifCond .ne 5, 3) := by decide +kernel
theorem d_T_frame_36 : decode cd_T_frame 36 = .ok (.iconst (-1), 1) := by decide +kernel
theorem d_T_frame_37 : decode cd_T_frame 37 = .ok (.ireturn, 1) := by decide +kernel
theorem d_T_frame_38 : decode cd_T_frame 38 = .ok (.aload_n 0, 1) := by decide +kernel
theorem d_T_frame_39 : decode cd_T_frame 39 = .ok (.getfield 41, 3) := by decide +kernel
theorem d_T_frame_42 : decode cd_T_frame 42 = .ok (.iload_n 1, 1) := by decide +kernel
theorem d_T_frame_43 : decode cd_T_frame 43 = .ok (.iload_n 2, 1) := by decide +kernel
theorem d_T_frame_44 : decode cd_T_frame 44 = .ok (.iload_n 3, 1) := by decide +kernel
theorem d_T_frame_45 : decode cd_T_frame 45 = .ok (.iload 4, 2) := by decide +kernel
theorem d_T_frame_47 : decode cd_T_frame 47 = .ok (.iload 5, 2) := by decide +kernel
theorem d_T_frame_49 : decode cd_T_frame 49 = .ok (.invokevirtual 118, 3) := by decide +kernel
theorem d_T_frame_52 : decode cd_T_frame 52 = .ok (.istore 6, 2) := by decide +kernel
theorem d_T_frame_54 : decode cd_T_frame 54 = .ok (.iload 6, 2) := by decide +kernel
theorem d_T_frame_56 : decode cd_T_frame 56 = .ok (.ifCond .eq 10, 3) := by decide +kernel
theorem d_T_frame_59 : decode cd_T_frame 59 = .ok (.aload_n 0, 1) := by decide +kernel
theorem d_T_frame_60 : decode cd_T_frame 60 = .ok (.invokevirtual 95, 3) := by decide +kernel
theorem d_T_frame_63 : decode cd_T_frame 63 = .ok (.goto 4, 3) := by decide +kernel
theorem d_T_frame_66 : decode cd_T_frame 66 = .ok (.iconst (-1), 1) := by decide +kernel
theorem d_T_frame_67 : decode cd_T_frame 67 = .ok (.ireturn, 1) := by decide +kernel
theorem d_T_unframe_0 : decode cd_T_unframe 0 = .ok (.iload_n 1, 1) := by decide +kernel
theorem d_T_unframe_1 : decode cd_T_unframe 1 = .ok (.invokestatic 98, 3) := by decide +kernel
theorem d_T_unframe_4 : decode cd_T_unframe 4 = .ok (.ifCond .ne 6, 3) := by decide +kernel
theorem d_T_unframe_7 : decode cd_T_unframe 7 = .ok (.bipush (-12), 2) := by decide +kernel
theorem d_T_unframe_9 : decode cd_T_unframe 9 = .ok (.ireturn, 1) := by decide +kernel
theorem d_T_unframe_10 : decode cd_T_unframe 10 = .ok (.aload_n 0, 1) := by decide +kernel
theorem d_T_unframe_11 : decode cd_T_unframe 11 = .ok (.getfield 24, 3) := by decide +kernel
theorem d_T_unframe_14 : decode cd_T_unframe 14 = .ok (.iconst 0, 1) := by decide +kernel
theorem d_T_unframe_15 : decode cd_T_unframe 15 = .ok (.invokevirtual 79, 3) := by decide +kernel
theorem d_T_unframe_18 : decode cd_T_unframe 18 = .ok (.aload_n 0, 1) := by decide +kernel
theorem d_T_unframe_19 : decode cd_T_unframe 19 = .ok (.getfield 59, 3) := by decide +kernel
theorem d_T_unframe_22 : decode cd_T_unframe 22 = .ok (.iload_n 1, 1) := by decide +kernel
theorem d_T_unframe_23 : decode cd_T_unframe 23 = .ok (.invokevirtual 122, 3) := by decide +kernel
theorem d_T_unframe_26 : decode cd_T_unframe 26 = .ok (.istore_n 2, 1) := by decide +kernel
theorem d_T_unframe_27 : decode cd_T_unframe 27 = .ok (.aload_n 0, 1) := by decide +kernel
theorem d_T_unframe_28 : decode cd_T_unframe 28 = .ok (.aload_n 0, 1) := by decide +kernel
theorem d_T_unframe_29 : decode cd_T_unframe 29 = .ok (.getfield 59, 3) := by decide +kernel
theorem d_T_unframe_32 : decode cd_T_unframe 32 = .ok (.invokevirtual 126, 3) := by decide +kernel
theorem d_T_unframe_35 : decode cd_T_unframe 35 = .ok (.putfield 108, 3) := by decide +kernel
theorem d_T_unframe_38 : decode cd_T_unframe 38 = .ok (.iload_n 2, 1) := by decide +kernel
theorem d_T_unframe_39 : decode cd_T_unframe 39 = .ok (.ifCond .ne 10, 3) := by decide +kernel
theorem d_T_unframe_42 : decode cd_T_unframe 42 = .ok (.aload_n 0, 1) := by decide +kernel
theorem d_T_unframe_43 : decode cd_T_unframe 43 = .ok (.invokevirtual 95, 3) := by decide +kernel
theorem d_T_unframe_46 : decode cd_T_unframe 46 = .ok (.goto 5, 3) := by decide +kernel
theorem d_T_unframe_49 : decode cd_T_unframe 49 = .ok (.iload_n 2, 1) := by decide +kernel
theorem d_T_unframe_50 : decode cd_T_unframe 50 = .ok (.ineg, 1) := by decide +kernel
theorem d_T_unframe_51 : decode cd_T_unframe 51 = .ok (.ireturn, 1) := by decide +kernel
theorem d_T_place_0 : decode cd_T_place 0 = .ok (.aload_n 0, 1) := by decide +kernel
theorem d_T_place_1 : decode cd_T_place 1 = .ok (.getfield 108, 3) := by decide +kernel
theorem d_T_place_4 : decode cd_T_place 4 = .ok (.ireturn, 1) := by decide +kernel
theorem d_T_sum_0 : decode cd_T_sum 0 = .ok (.aload_n 0, 1) := by decide +kernel
theorem d_T_sum_1 : decode cd_T_sum 1 = .ok (.getfield 14, 3) := by decide +kernel
theorem d_T_sum_4 : decode cd_T_sum 4 = .ok (.iconst 0, 1) := by decide +kernel
theorem d_T_sum_5 : decode cd_T_sum 5 = .ok (.aload_n 0, 1) := by decide +kernel
theorem d_T_sum_6 : decode cd_T_sum 6 = .ok (.getfield 14, 3) := by decide +kernel
theorem d_T_sum_9 : decode cd_T_sum 9 = .ok (.invokevirtual 71, 3) := by decide +kernel
theorem d_T_sum_12 : decode cd_T_sum 12 = .ok (.invokestatic 127, 3) := by decide +kernel
theorem d_T_sum_15 : decode cd_T_sum 15 = .ok (.ireturn, 1) := by decide +kernel
theorem d_T_size_0 : decode cd_T_size 0 = .ok (.aload_n 0, 1) := by decide +kernel
theorem d_T_size_1 : decode cd_T_size 1 = .ok (.getfield 18, 3) := by decide +kernel
theorem d_T_size_4 : decode cd_T_size 4 = .ok (.invokevirtual 71, 3) := by decide +kernel
theorem d_T_size_7 : decode cd_T_size 7 = .ok (.ireturn, 1) := by decide +kernel
theorem d_T_byteAt_0 : decode cd_T_byteAt 0 = .ok (.aload_n 0, 1) := by decide +kernel
theorem d_T_byteAt_1 : decode cd_T_byteAt 1 = .ok (.getfield 18, 3) := by decide +kernel
theorem d_T_byteAt_4 : decode cd_T_byteAt 4 = .ok (.iload_n 1, 1) := by decide +kernel
theorem d_T_byteAt_5 : decode cd_T_byteAt 5 = .ok (.invokevirtual 133, 3) := by decide +kernel
theorem d_T_byteAt_8 : decode cd_T_byteAt 8 = .ok (.ireturn, 1) := by decide +kernel
