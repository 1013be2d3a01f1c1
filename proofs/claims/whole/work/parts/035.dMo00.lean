theorem d_Mo_init_0 : decode cd_Mo_init 0 = .ok (.aload_n 0, 1) := by decide +kernel
theorem d_Mo_init_1 : decode cd_Mo_init 1 = .ok (.invokespecial 1, 3) := by decide +kernel
theorem d_Mo_init_4 : decode cd_Mo_init 4 = .ok (.aload_n 0, 1) := by decide +kernel
theorem d_Mo_init_5 : decode cd_Mo_init 5 = .ok (.sipush 8000, 3) := by decide +kernel
theorem d_Mo_init_8 : decode cd_Mo_init 8 = .ok (.newarray .int, 2) := by decide +kernel
theorem d_Mo_init_10 : decode cd_Mo_init 10 = .ok (.putfield 7, 3) := by decide +kernel
theorem d_Mo_init_13 : decode cd_Mo_init 13 = .ok (.aload_n 0, 1) := by decide +kernel
theorem d_Mo_init_14 : decode cd_Mo_init 14 = .ok (.sipush 8000, 3) := by decide +kernel
theorem d_Mo_init_17 : decode cd_Mo_init 17 = .ok (.newarray .int, 2) := by decide +kernel
theorem d_Mo_init_19 : decode cd_Mo_init 19 = .ok (.putfield 13, 3) := by decide +kernel
theorem d_Mo_init_22 : decode cd_Mo_init 22 = .ok (.aload_n 0, 1) := by decide +kernel
theorem d_Mo_init_23 : decode cd_Mo_init 23 = .ok (.sipush 8000, 3) := by decide +kernel
theorem d_Mo_init_26 : decode cd_Mo_init 26 = .ok (.newarray .int, 2) := by decide +kernel
theorem d_Mo_init_28 : decode cd_Mo_init 28 = .ok (.putfield 16, 3) := by decide +kernel
theorem d_Mo_init_31 : decode cd_Mo_init 31 = .ok (.aload_n 0, 1) := by decide +kernel
theorem d_Mo_init_32 : decode cd_Mo_init 32 = .ok (.sipush 16000, 3) := by decide +kernel
theorem d_Mo_init_35 : decode cd_Mo_init 35 = .ok (.newarray .int, 2) := by decide +kernel
theorem d_Mo_init_37 : decode cd_Mo_init 37 = .ok (.putfield 19, 3) := by decide +kernel
theorem d_Mo_init_40 : decode cd_Mo_init 40 = .ok (.aload_n 0, 1) := by decide +kernel
theorem d_Mo_init_41 : decode cd_Mo_init 41 = .ok (.sipush 9000, 3) := by decide +kernel
theorem d_Mo_init_44 : decode cd_Mo_init 44 = .ok (.newarray .int, 2) := by decide +kernel
theorem d_Mo_init_46 : decode cd_Mo_init 46 = .ok (.putfield 22, 3) := by decide +kernel
theorem d_Mo_init_49 : decode cd_Mo_init 49 = .ok (.aload_n 0, 1) := by decide +kernel
theorem d_Mo_init_50 : decode cd_Mo_init 50 = .ok (.sipush 9000, 3) := by decide +kernel
theorem d_Mo_init_53 : decode cd_Mo_init 53 = .ok (.newarray .int, 2) := by decide +kernel
theorem d_Mo_init_55 : decode cd_Mo_init 55 = .ok (.putfield 25, 3) := by decide +kernel
theorem d_Mo_init_58 : decode cd_Mo_init 58 = .ok (.aload_n 0, 1) := by decide +kernel
theorem d_Mo_init_59 : decode cd_Mo_init 59 = .ok (.sipush 16000, 3) := by decide +kernel
theorem d_Mo_init_62 : decode cd_Mo_init 62 = .ok (.newarray .int, 2) := by decide +kernel
theorem d_Mo_init_64 : decode cd_Mo_init 64 = .ok (.putfield 28, 3) := by decide +kernel
theorem d_Mo_init_67 : decode cd_Mo_init 67 = .ok (.aload_n 0, 1) := by decide +kernel
theorem d_Mo_init_68 : decode cd_Mo_init 68 = .ok (.sipush 8000, 3) := by decide +kernel
theorem d_Mo_init_71 : decode cd_Mo_init 71 = .ok (.newarray .int, 2) := by decide +kernel
theorem d_Mo_init_73 : decode cd_Mo_init 73 = .ok (.putfield 31, 3) := by decide +kernel
theorem d_Mo_init_76 : decode cd_Mo_init 76 = .ok (.aload_n 0, 1) := by decide +kernel
theorem d_Mo_init_77 : decode cd_Mo_init 77 = .ok (.iconst 4, 1) := by decide +kernel
theorem d_Mo_init_78 : decode cd_Mo_init 78 = .ok (.newarray .long, 2) := by decide +kernel
theorem d_Mo_init_80 : decode cd_Mo_init 80 = .ok (.putfield 34, 3) := by decide +kernel
theorem d_Mo_init_83 : decode cd_Mo_init 83 = .ok (.return_, 1) := by decide +kernel
theorem d_Mo_write_0 : decode cd_Mo_write 0 = .ok (.iload_n 3, 1) := by decide +kernel
theorem d_Mo_write_1 : decode cd_Mo_write 1 = .ok (.iconst 1, 1) := by decide +kernel
theorem d_Mo_write_2 : decode cd_Mo_write 2 = .ok (.if_icmp .lt 21, 3) := by decide +kernel
theorem d_Mo_write_5 : decode cd_Mo_write 5 = .ok (.iload_n 3, 1) := by decide +kernel
theorem d_Mo_write_6 : decode cd_Mo_write 6 = .ok (.bipush 8, 2) := by decide +kernel
theorem d_Mo_write_8 : decode cd_Mo_write 8 = .ok (.if_icmp .gt 15, 3) := by decide +kernel
theorem d_Mo_write_11 : decode cd_Mo_write 11 = .ok (.aload_n 0, 1) := by decide +kernel
theorem d_Mo_write_12 : decode cd_Mo_write 12 = .ok (.getfield 38, 3) := by decide +kernel
theorem d_Mo_write_15 : decode cd_Mo_write 15 = .ok (.iload_n 3, 1) := by decide +kernel
theorem d_Mo_write_16 : decode cd_Mo_write 16 = .ok (.iadd, 1) := by decide +kernel
theorem d_Mo_write_17 : decode cd_Mo_write 17 = .ok (.sipush 8000, 3) := by decide +kernel
theorem d_Mo_write_20 : decode cd_Mo_write 20 = .ok (.if_icmp .le 5, 3) := by decide +kernel
theorem d_Mo_write_23 : decode cd_Mo_write 23 = .ok (.iconst 0, 1) := by decide +kernel
theorem d_Mo_write_24 : decode cd_Mo_write 24 = .ok (.ireturn, 1) := by decide +kernel
theorem d_Mo_write_25 : decode cd_Mo_write 25 = .ok (.iconst 0, 1) := by decide +kernel
theorem d_Mo_write_26 : decode cd_Mo_write 26 = .ok (.istore 4, 2) := by decide +kernel
theorem d_Mo_write_28 : decode cd_Mo_write 28 = .ok (.iload 4, 2) := by decide +kernel
theorem d_Mo_write_30 : decode cd_Mo_write 30 = .ok (.iload_n 3, 1) := by decide +kernel
theorem d_Mo_write_31 : decode cd_Mo_write 31 = .ok (.if_icmp .ge 44, 3) := by decide +kernel
theorem d_Mo_write_34 : decode cd_Mo_write 34 = .ok (.aload_n 0, 1) := by decide +kernel
theorem d_Mo_write_35 : decode cd_Mo_write 35 = .ok (.getfield 7, 3) := by decide +kernel
theorem d_Mo_write_38 : decode cd_Mo_write 38 = .ok (.aload_n 0, 1) := by decide +kernel
theorem d_Mo_write_39 : decode cd_Mo_write 39 = .ok (.getfield 38, 3) := by decide +kernel
theorem d_Mo_write_42 : decode cd_Mo_write 42 = .ok (.lload_n 1, 1) := by decide +kernel
theorem d_Mo_write_43 : decode cd_Mo_write 43 = .ok (.bipush 8, 2) := by decide +kernel
theorem d_Mo_write_45 : decode cd_Mo_write 45 = .ok (.iload_n 3, 1) := by decide +kernel
theorem d_Mo_write_46 : decode cd_Mo_write 46 = .ok (.iconst 1, 1) := by decide +kernel
theorem d_Mo_write_47 : decode cd_Mo_write 47 = .ok (.isub, 1) := by decide +kernel
theorem d_Mo_write_48 : decode cd_Mo_write 48 = .ok (.iload 4, 2) := by decide +kernel
theorem d_Mo_write_50 : decode cd_Mo_write 50 = .ok (.isub, 1) := by decide +kernel
theorem d_Mo_write_51 : decode cd_Mo_write 51 = .ok (.imul, 1) := by decide +kernel
theorem d_Mo_write_52 : decode cd_Mo_write 52 = .ok (.lshr, 1) := by decide +kernel
theorem d_Mo_write_53 : decode cd_Mo_write 53 = .ok (.ldc2_w 42, 3) := by decide +kernel
theorem d_Mo_write_56 : decode cd_Mo_write 56 = .ok (.land, 1) := by decide +kernel
theorem d_Mo_write_57 : decode cd_Mo_write 57 = .ok (.l2i, 1) := by decide +kernel
theorem d_Mo_write_58 : decode cd_Mo_write 58 = .ok (.iastore, 1) := by decide +kernel
theorem d_Mo_write_59 : decode cd_Mo_write 59 = .ok (.aload_n 0, 1) := by decide +kernel
theorem d_Mo_write_60 : decode cd_Mo_write 60 = .ok (.dup, 1) := by decide +kernel
theorem d_Mo_write_61 : decode cd_Mo_write 61 = .ok (.getfield 38, 3) := by decide +kernel
theorem d_Mo_write_64 : decode cd_Mo_write 64 = .ok (.iconst 1, 1) := by decide +kernel
theorem d_Mo_write_65 : decode cd_Mo_write 65 = .ok (.iadd, 1) := by decide +kernel
theorem d_Mo_write_66 : decode cd_Mo_write 66 = .ok (.putfield 38, 3) := by decide +kernel
theorem d_Mo_write_69 : decode cd_Mo_write 69 = .ok (.iinc 4 1, 3) := by decide +kernel
theorem d_Mo_write_72 : decode cd_Mo_write 72 = .ok (.goto (-44), 3) := by decide +kernel
theorem d_Mo_write_75 : decode cd_Mo_write 75 = .ok (.iconst 1, 1) := by decide +kernel
theorem d_Mo_write_76 : decode cd_Mo_write 76 = .ok (.ireturn, 1) := by decide +kernel
theorem d_Mo_again_0 : decode cd_Mo_again 0 = .ok (.iload_n 1, 1) := by decide +kernel
theorem d_Mo_again_1 : decode cd_Mo_again 1 = .ok (.iconst 1, 1) := by decide +kernel
theorem d_Mo_again_2 : decode cd_Mo_again 2 = .ok (.if_icmp .lt 33, 3) := by decide +kernel
theorem d_Mo_again_5 : decode cd_Mo_again 5 = .ok (.iload_n 1, 1) := by decide +kernel
theorem d_Mo_again_6 : decode cd_Mo_again 6 = .ok (.aload_n 0, 1) := by decide +kernel
theorem d_Mo_again_7 : decode cd_Mo_again 7 = .ok (.getfield 38, 3) := by decide +kernel
theorem d_Mo_again_10 : decode cd_Mo_again 10 = .ok (.if_icmp .gt 25, 3) := by decide +kernel
theorem d_Mo_again_13 : decode cd_Mo_again 13 = .ok (.iload_n 2, 1) := by decide +kernel
theorem d_Mo_again_14 : decode cd_Mo_again 14 = .ok (.ifCond .lt 21, 3) := by decide +kernel
theorem d_Mo_again_17 : decode cd_Mo_again 17 = .ok (.iload_n 1, 1) := by decide +kernel
theorem d_Mo_again_18 : decode cd_Mo_again 18 = .ok (.i2l, 1) := by decide +kernel
theorem d_Mo_again_19 : decode cd_Mo_again 19 = .ok (.iload_n 2, 1) := by decide +kernel
theorem d_Mo_again_20 : decode cd_Mo_again 20 = .ok (.i2l, 1) := by decide +kernel
theorem d_Mo_again_21 : decode cd_Mo_again 21 = .ok (.lmul, 1) := by decide +kernel
theorem d_Mo_again_22 : decode cd_Mo_again 22 = .ok (.sipush 8000, 3) := by decide +kernel
theorem d_Mo_again_25 : decode cd_Mo_again 25 = .ok (.aload_n 0, 1) := by decide +kernel
theorem d_Mo_again_26 : decode cd_Mo_again 26 = .ok (.getfield 38, 3) := by decide +kernel
theorem d_Mo_again_29 : decode cd_Mo_again 29 = .ok (.isub, 1) := by decide +kernel
theorem d_Mo_again_30 : decode cd_Mo_again 30 = .ok (.i2l, 1) := by decide +kernel
theorem d_Mo_again_31 : decode cd_Mo_again 31 = .ok (.lcmp, 1) := by decide +kernel
theorem d_Mo_again_32 : decode cd_Mo_again 32 = .ok (.ifCond .le 5, 3) := by decide +kernel
theorem d_Mo_again_35 : decode cd_Mo_again 35 = .ok (.iconst 0, 1) := by decide +kernel
theorem d_Mo_again_36 : decode cd_Mo_again 36 = .ok (.ireturn, 1) := by decide +kernel
theorem d_Mo_again_37 : decode cd_Mo_again 37 = .ok (.iconst 0, 1) := by decide +kernel
theorem d_Mo_again_38 : decode cd_Mo_again 38 = .ok (.istore_n 3, 1) := by decide +kernel
theorem d_Mo_again_39 : decode cd_Mo_again 39 = .ok (.iload_n 3, 1) := by decide +kernel
theorem d_Mo_again_40 : decode cd_Mo_again 40 = .ok (.iload_n 1, 1) := by decide +kernel
theorem d_Mo_again_41 : decode cd_Mo_again 41 = .ok (.iload_n 2, 1) := by decide +kernel
theorem d_Mo_again_42 : decode cd_Mo_again 42 = .ok (.imul, 1) := by decide +kernel
theorem d_Mo_again_43 : decode cd_Mo_again 43 = .ok (.if_icmp .ge 39, 3) := by decide +kernel
theorem d_Mo_again_46 : decode cd_Mo_again 46 = .ok (.aload_n 0, 1) := by decide +kernel
theorem d_Mo_again_47 : decode cd_Mo_again 47 = .ok (.getfield 7, 3) := by decide +kernel
theorem d_Mo_again_50 : decode cd_Mo_again 50 = .ok (.aload_n 0, 1) := by decide +kernel
theorem d_Mo_again_51 : decode cd_Mo_again 51 = .ok (.getfield 38, 3) := by decide +kernel
theorem d_Mo_again_54 : decode cd_Mo_again 54 = .ok (.aload_n 0, 1) := by decide +kernel
theorem d_Mo_again_55 : decode cd_Mo_again 55 = .ok (.getfield 7, 3) := by decide +kernel
theorem d_Mo_again_58 : decode cd_Mo_again 58 = .ok (.aload_n 0, 1) := by decide +kernel
theorem d_Mo_again_59 : decode cd_Mo_again 59 = .ok (.getfield 38, 3) := by decide +kernel
theorem d_Mo_again_62 : decode cd_Mo_again 62 = .ok (.iload_n 1, 1) := by decide +kernel
theorem d_Mo_again_63 : decode cd_Mo_again 63 = .ok (.isub, 1) := by decide +kernel
theorem d_Mo_again_64 : decode cd_Mo_again 64 = .ok (.iaload, 1) := by decide +kernel
theorem d_Mo_again_65 : decode cd_Mo_again 65 = .ok (.iastore, 1) := by decide +kernel
theorem d_Mo_again_66 : decode cd_Mo_again 66 = .ok (.aload_n 0, 1) := by decide +kernel
theorem d_Mo_again_67 : decode cd_Mo_again 67 = .ok (.dup, 1) := by decide +kernel
theorem d_Mo_again_68 : decode cd_Mo_again 68 = .ok (.getfield 38, 3) := by decide +kernel
theorem d_Mo_again_71 : decode cd_Mo_again 71 = .ok (.iconst 1, 1) := by decide +kernel
theorem d_Mo_again_72 : decode cd_Mo_again 72 = .ok (.iadd, 1) := by decide +kernel
theorem d_Mo_again_73 : decode cd_Mo_again 73 = .ok (.putfield 38, 3) := by decide +kernel
theorem d_Mo_again_76 : decode cd_Mo_again 76 = .ok (.iinc 3 1, 3) := by decide +kernel
theorem d_Mo_again_79 : decode cd_Mo_again 79 = .ok (.goto (-40), 3) := by decide +kernel
theorem d_Mo_again_82 : decode cd_Mo_again 82 = .ok (.iconst 1, 1) := by decide +kernel
theorem d_Mo_again_83 : decode cd_Mo_again 83 = .ok (.ireturn, 1) := by decide +kernel
theorem d_Mo_clear_0 : decode cd_Mo_clear 0 = .ok (.aload_n 0, 1) := by decide +kernel
theorem d_Mo_clear_1 : decode cd_Mo_clear 1 = .ok (.iconst 0, 1) := by decide +kernel
theorem d_Mo_clear_2 : decode cd_Mo_clear 2 = .ok (.putfield 38, 3) := by decide +kernel
theorem d_Mo_clear_5 : decode cd_Mo_clear 5 = .ok (.return_, 1) := by decide +kernel
theorem d_Mo_turn_0 : decode cd_Mo_turn 0 = .ok (.iconst 0, 1) := by decide +kernel
theorem d_Mo_turn_1 : decode cd_Mo_turn 1 = .ok (.istore_n 1, 1) := by decide +kernel
theorem d_Mo_turn_2 : decode cd_Mo_turn 2 = .ok (.iload_n 1, 1) := by decide +kernel
theorem d_Mo_turn_3 : decode cd_Mo_turn 3 = .ok (.aload_n 0, 1) := by decide +kernel
theorem d_Mo_turn_4 : decode cd_Mo_turn 4 = .ok (.getfield 44, 3) := by decide +kernel
theorem d_Mo_turn_7 : decode cd_Mo_turn 7 = .ok (.if_icmp .ge 21, 3) := by decide +kernel
theorem d_Mo_turn_10 : decode cd_Mo_turn 10 = .ok (.aload_n 0, 1) := by decide +kernel
theorem d_Mo_turn_11 : decode cd_Mo_turn 11 = .ok (.getfield 7, 3) := by decide +kernel
theorem d_Mo_turn_14 : decode cd_Mo_turn 14 = .ok (.iload_n 1, 1) := by decide +kernel
theorem d_Mo_turn_15 : decode cd_Mo_turn 15 = .ok (.aload_n 0, 1) := by decide +kernel
theorem d_Mo_turn_16 : decode cd_Mo_turn 16 = .ok (.getfield 13, 3) := by decide +kernel
theorem d_Mo_turn_19 : decode cd_Mo_turn 19 = .ok (.iload_n 1, 1) := by decide +kernel
theorem d_Mo_turn_20 : decode cd_Mo_turn 20 = .ok (.iaload, 1) := by decide +kernel
theorem d_Mo_turn_21 : decode cd_Mo_turn 21 = .ok (.iastore, 1) := by decide +kernel
theorem d_Mo_turn_22 : decode cd_Mo_turn 22 = .ok (.iinc 1 1, 3) := by decide +kernel
theorem d_Mo_turn_25 : decode cd_Mo_turn 25 = .ok (.goto (-23), 3) := by decide +kernel
theorem d_Mo_turn_28 : decode cd_Mo_turn 28 = .ok (.aload_n 0, 1) := by decide +kernel
theorem d_Mo_turn_29 : decode cd_Mo_turn 29 = .ok (.aload_n 0, 1) := by decide +kernel
theorem d_Mo_turn_30 : decode cd_Mo_turn 30 = .ok (.getfield 44, 3) := by decide +kernel
theorem d_Mo_turn_33 : decode cd_Mo_turn 33 = .ok (.putfield 38, 3) := by decide +kernel
theorem d_Mo_turn_36 : decode cd_Mo_turn 36 = .ok (.return_, 1) := by decide +kernel
theorem d_Mo_remember_0 : decode cd_Mo_remember 0 = .ok (.iconst 0, 1) := by decide +kernel
theorem d_Mo_remember_1 : decode cd_Mo_remember 1 = .ok (.istore_n 1, 1) := by decide +kernel
theorem d_Mo_remember_2 : decode cd_Mo_remember 2 = .ok (.iload_n 1, 1) := by decide +kernel
theorem d_Mo_remember_3 : decode cd_Mo_remember 3 = .ok (.aload_n 0, 1) := by decide +kernel
theorem d_Mo_remember_4 : decode cd_Mo_remember 4 = .ok (.getfield 38, 3) := by decide +kernel
theorem d_Mo_remember_7 : decode cd_Mo_remember 7 = .ok (.if_icmp .ge 21, 3) := by decide +kernel
theorem d_Mo_remember_10 : decode cd_Mo_remember 10 = .ok (.aload_n 0, 1) := by decide +kernel
theorem d_Mo_remember_11 : decode cd_Mo_remember 11 = .ok (.getfield 16, 3) := by decide +kernel
theorem d_Mo_remember_14 : decode cd_Mo_remember 14 = .ok (.iload_n 1, 1) := by decide +kernel
theorem d_Mo_remember_15 : decode cd_Mo_remember 15 = .ok (.aload_n 0, 1) := by decide +kernel
theorem d_Mo_remember_16 : decode cd_Mo_remember 16 = .ok (.getfield 7, 3) := by decide +kernel
theorem d_Mo_remember_19 : decode cd_Mo_remember 19 = .ok (.iload_n 1, 1) := by decide +kernel
theorem d_Mo_remember_20 : decode cd_Mo_remember 20 = .ok (.iaload, 1) := by decide +kernel
theorem d_Mo_remember_21 : decode cd_Mo_remember 21 = .ok (.iastore, 1) := by decide +kernel
theorem d_Mo_remember_22 : decode cd_Mo_remember 22 = .ok (.iinc 1 1, 3) := by decide +kernel
theorem d_Mo_remember_25 : decode cd_Mo_remember 25 = .ok (.goto (-23), 3) := by decide +kernel
theorem d_Mo_remember_28 : decode cd_Mo_remember 28 = .ok (.aload_n 0, 1) := by decide +kernel
theorem d_Mo_remember_29 : decode cd_Mo_remember 29 = .ok (.aload_n 0, 1) := by decide +kernel
theorem d_Mo_remember_30 : decode cd_Mo_remember 30 = .ok (.getfield 38, 3) := by decide +kernel
theorem d_Mo_remember_33 : decode cd_Mo_remember 33 = .ok (.putfield 47, 3) := by decide +kernel
theorem d_Mo_remember_36 : decode cd_Mo_remember 36 = .ok (.aload_n 0, 1) := by decide +kernel
theorem d_Mo_remember_37 : decode cd_Mo_remember 37 = .ok (.iconst 0, 1) := by decide +kernel
theorem d_Mo_remember_38 : decode cd_Mo_remember 38 = .ok (.putfield 38, 3) := by decide +kernel
theorem d_Mo_remember_41 : decode cd_Mo_remember 41 = .ok (.return_, 1) := by decide +kernel
theorem d_Mo_sum_0 : decode cd_Mo_sum 0 = .ok (.aload_n 0, 1) := by decide +kernel
theorem d_Mo_sum_1 : decode cd_Mo_sum 1 = .ok (.aload_n 0, 1) := by decide +kernel
theorem d_Mo_sum_2 : decode cd_Mo_sum 2 = .ok (.getfield 7, 3) := by decide +kernel
theorem d_Mo_sum_5 : decode cd_Mo_sum 5 = .ok (.iconst 0, 1) := by decide +kernel
theorem d_Mo_sum_6 : decode cd_Mo_sum 6 = .ok (.aload_n 0, 1) := by decide +kernel
theorem d_Mo_sum_7 : decode cd_Mo_sum 7 = .ok (.getfield 38, 3) := by decide +kernel
theorem d_Mo_sum_10 : decode cd_Mo_sum 10 = .ok (.invokevirtual 74, 3) := by decide +kernel
theorem d_Mo_sum_13 : decode cd_Mo_sum 13 = .ok (.l2i, 1) := by decide +kernel
theorem d_Mo_sum_14 : decode cd_Mo_sum 14 = .ok (.ireturn, 1) := by decide +kernel
theorem d_Mo_sumOf_0 : decode cd_Mo_sumOf 0 = .ok (.ldc2_w 52, 3) := by decide +kernel
theorem d_Mo_sumOf_3 : decode cd_Mo_sumOf 3 = .ok (.lstore 4, 2) := by decide +kernel
theorem d_Mo_sumOf_5 : decode cd_Mo_sumOf 5 = .ok (.ldc2_w 54, 3) := by decide +kernel
theorem d_Mo_sumOf_8 : decode cd_Mo_sumOf 8 = .ok (.lstore 6, 2) := by decide +kernel
theorem d_Mo_sumOf_10 : decode cd_Mo_sumOf 10 = .ok (.ldc2_w 56, 3) := by decide +kernel
theorem d_Mo_sumOf_13 : decode cd_Mo_sumOf 13 = .ok (.lstore 8, 2) := by decide +kernel
theorem d_Mo_sumOf_15 : decode cd_Mo_sumOf 15 = .ok (.ldc2_w 58, 3) := by decide +kernel
theorem d_Mo_sumOf_18 : decode cd_Mo_sumOf 18 = .ok (.lstore 10, 2) := by decide +kernel
theorem d_Mo_sumOf_20 : decode cd_Mo_sumOf 20 = .ok (.ldc2_w 60, 3) := by decide +kernel
theorem d_Mo_sumOf_23 : decode cd_Mo_sumOf 23 = .ok (.lstore 12, 2) := by decide +kernel
theorem d_Mo_sumOf_25 : decode cd_Mo_sumOf 25 = .ok (.iload_n 3, 1) := by decide +kernel
theorem d_Mo_sumOf_26 : decode cd_Mo_sumOf 26 = .ok (.iload_n 2, 1) := by decide +kernel
theorem d_Mo_sumOf_27 : decode cd_Mo_sumOf 27 = .ok (.isub, 1) := by decide +kernel
theorem d_Mo_sumOf_28 : decode cd_Mo_sumOf 28 = .ok (.istore 14, 2) := by decide +kernel
theorem d_Mo_sumOf_30 : decode cd_Mo_sumOf 30 = .ok (.iload_n 2, 1) := by decide +kernel
theorem d_Mo_sumOf_31 : decode cd_Mo_sumOf 31 = .ok (.istore 15, 2) := by decide +kernel
theorem d_Mo_sumOf_33 : decode cd_Mo_sumOf 33 = .ok (.lload 12, 2) := by decide +kernel
theorem d_Mo_sumOf_35 : decode cd_Mo_sumOf 35 = .ok (.lstore 16, 2) := by decide +kernel
theorem d_Mo_sumOf_37 : decode cd_Mo_sumOf 37 = .ok (.iload 14, 2) := by decide +kernel
theorem d_Mo_sumOf_39 : decode cd_Mo_sumOf 39 = .ok (.bipush 16, 2) := by decide +kernel
theorem d_Mo_sumOf_41 : decode cd_Mo_sumOf 41 = .ok (.if_icmp .lt 169, 3) := by decide +kernel
theorem d_Mo_sumOf_44 : decode cd_Mo_sumOf 44 = .ok (.aload_n 0, 1) := by decide +kernel
theorem d_Mo_sumOf_45 : decode cd_Mo_sumOf 45 = .ok (.getfield 34, 3) := by decide +kernel
theorem d_Mo_sumOf_48 : decode cd_Mo_sumOf 48 = .ok (.iconst 0, 1) := by decide +kernel
theorem d_Mo_sumOf_49 : decode cd_Mo_sumOf 49 = .ok (.lload 4, 2) := by decide +kernel
theorem d_Mo_sumOf_51 : decode cd_Mo_sumOf 51 = .ok (.lload 6, 2) := by decide +kernel
theorem d_Mo_sumOf_53 : decode cd_Mo_sumOf 53 = .ok (.ladd, 1) := by decide +kernel
theorem d_Mo_sumOf_54 : decode cd_Mo_sumOf 54 = .ok (.ldc2_w 50, 3) := by decide +kernel
theorem d_Mo_sumOf_57 : decode cd_Mo_sumOf 57 = .ok (.land, 1) := by decide +kernel
theorem d_Mo_sumOf_58 : decode cd_Mo_sumOf 58 = .ok (.lastore, 1) := by decide +kernel
theorem d_Mo_sumOf_59 : decode cd_Mo_sumOf 59 = .ok (.aload_n 0, 1) := by decide +kernel
theorem d_Mo_sumOf_60 : decode cd_Mo_sumOf 60 = .ok (.getfield 34, 3) := by decide +kernel
theorem d_Mo_sumOf_63 : decode cd_Mo_sumOf 63 = .ok (.iconst 1, 1) := by decide +kernel
theorem d_Mo_sumOf_64 : decode cd_Mo_sumOf 64 = .ok (.lload 6, 2) := by decide +kernel
theorem d_Mo_sumOf_66 : decode cd_Mo_sumOf 66 = .ok (.lastore, 1) := by decide +kernel
theorem d_Mo_sumOf_67 : decode cd_Mo_sumOf 67 = .ok (.aload_n 0, 1) := by decide +kernel
theorem d_Mo_sumOf_68 : decode cd_Mo_sumOf 68 = .ok (.getfield 34, 3) := by decide +kernel
theorem d_Mo_sumOf_71 : decode cd_Mo_sumOf 71 = .ok (.iconst 2, 1) := by decide +kernel
theorem d_Mo_sumOf_72 : decode cd_Mo_sumOf 72 = .ok (.lconst 0, 1) := by decide +kernel
theorem d_Mo_sumOf_73 : decode cd_Mo_sumOf 73 = .ok (.lastore, 1) := by decide +kernel
theorem d_Mo_sumOf_74 : decode cd_Mo_sumOf 74 = .ok (.aload_n 0, 1) := by decide +kernel
theorem d_Mo_sumOf_75 : decode cd_Mo_sumOf 75 = .ok (.getfield 34, 3) := by decide +kernel
theorem d_Mo_sumOf_78 : decode cd_Mo_sumOf 78 = .ok (.iconst 3, 1) := by decide +kernel
theorem d_Mo_sumOf_79 : decode cd_Mo_sumOf 79 = .ok (.lconst 0, 1) := by decide +kernel
theorem d_Mo_sumOf_80 : decode cd_Mo_sumOf 80 = .ok (.lload 4, 2) := by decide +kernel
theorem d_Mo_sumOf_82 : decode cd_Mo_sumOf 82 = .ok (.lsub, 1) := by decide +kernel
theorem d_Mo_sumOf_83 : decode cd_Mo_sumOf 83 = .ok (.ldc2_w 50, 3) := by decide +kernel
theorem d_Mo_sumOf_86 : decode cd_Mo_sumOf 86 = .ok (.land, 1) := by decide +kernel
theorem d_Mo_sumOf_87 : decode cd_Mo_sumOf 87 = .ok (.lastore, 1) := by decide +kernel
theorem d_Mo_sumOf_88 : decode cd_Mo_sumOf 88 = .ok (.iload_n 3, 1) := by decide +kernel
theorem d_Mo_sumOf_89 : decode cd_Mo_sumOf 89 = .ok (.iload 15, 2) := by decide +kernel
theorem d_Mo_sumOf_91 : decode cd_Mo_sumOf 91 = .ok (.isub, 1) := by decide +kernel
theorem d_Mo_sumOf_92 : decode cd_Mo_sumOf 92 = .ok (.bipush 16, 2) := by decide +kernel
theorem d_Mo_sumOf_94 : decode cd_Mo_sumOf 94 = .ok (.if_icmp .lt 64, 3) := by decide +kernel
theorem d_Mo_sumOf_97 : decode cd_Mo_sumOf 97 = .ok (.iconst 0, 1) := by decide +kernel
theorem d_Mo_sumOf_98 : decode cd_Mo_sumOf 98 = .ok (.istore 18, 2) := by decide +kernel
theorem d_Mo_sumOf_100 : decode cd_Mo_sumOf 100 = .ok (.iload 18, 2) := by decide +kernel
theorem d_Mo_sumOf_102 : decode cd_Mo_sumOf 102 = .ok (.iconst 4, 1) := by decide +kernel
theorem d_Mo_sumOf_103 : decode cd_Mo_sumOf 103 = .ok (.if_icmp .ge 52, 3) := by decide +kernel
theorem d_Mo_sumOf_106 : decode cd_Mo_sumOf 106 = .ok (.aload_n 0, 1) := by decide +kernel
theorem d_Mo_sumOf_107 : decode cd_Mo_sumOf 107 = .ok (.getfield 34, 3) := by decide +kernel
theorem d_Mo_sumOf_110 : decode cd_Mo_sumOf 110 = .ok (.iload 18, 2) := by decide +kernel
theorem d_Mo_sumOf_112 : decode cd_Mo_sumOf 112 = .ok (.aload_n 0, 1) := by decide +kernel
theorem d_Mo_sumOf_113 : decode cd_Mo_sumOf 113 = .ok (.getfield 34, 3) := by decide +kernel
theorem d_Mo_sumOf_116 : decode cd_Mo_sumOf 116 = .ok (.iload 18, 2) := by decide +kernel
theorem d_Mo_sumOf_118 : decode cd_Mo_sumOf 118 = .ok (.laload, 1) := by decide +kernel
theorem d_Mo_sumOf_119 : decode cd_Mo_sumOf 119 = .ok (.aload_n 1, 1) := by decide +kernel
theorem d_Mo_sumOf_120 : decode cd_Mo_sumOf 120 = .ok (.iload 15, 2) := by decide +kernel
theorem d_Mo_sumOf_122 : decode cd_Mo_sumOf 122 = .ok (.invokestatic 62, 3) := by decide +kernel
theorem d_Mo_sumOf_125 : decode cd_Mo_sumOf 125 = .ok (.lload 6, 2) := by decide +kernel
theorem d_Mo_sumOf_127 : decode cd_Mo_sumOf 127 = .ok (.invokestatic 66, 3) := by decide +kernel
theorem d_Mo_sumOf_130 : decode cd_Mo_sumOf 130 = .ok (.ladd, 1) := by decide +kernel
theorem d_Mo_sumOf_131 : decode cd_Mo_sumOf 131 = .ok (.ldc2_w 50, 3) := by decide +kernel
theorem d_Mo_sumOf_134 : decode cd_Mo_sumOf 134 = .ok (.land, 1) := by decide +kernel
theorem d_Mo_sumOf_135 : decode cd_Mo_sumOf 135 = .ok (.bipush 13, 2) := by decide +kernel
theorem d_Mo_sumOf_137 : decode cd_Mo_sumOf 137 = .ok (.invokestatic 70, 3) := by decide +kernel
theorem d_Mo_sumOf_140 : decode cd_Mo_sumOf 140 = .ok (.lload 4, 2) := by decide +kernel
theorem d_Mo_sumOf_142 : decode cd_Mo_sumOf 142 = .ok (.invokestatic 66, 3) := by decide +kernel
theorem d_Mo_sumOf_145 : decode cd_Mo_sumOf 145 = .ok (.lastore, 1) := by decide +kernel
theorem d_Mo_sumOf_146 : decode cd_Mo_sumOf 146 = .ok (.iinc 15 4, 3) := by decide +kernel
theorem d_Mo_sumOf_149 : decode cd_Mo_sumOf 149 = .ok (.iinc 18 1, 3) := by decide +kernel
theorem d_Mo_sumOf_152 : decode cd_Mo_sumOf 152 = .ok (.goto (-52), 3) := by decide +kernel
theorem d_Mo_sumOf_155 : decode cd_Mo_sumOf 155 = .ok (.goto (-67), 3) := by decide +kernel
theorem d_Mo_sumOf_158 : decode cd_Mo_sumOf 158 = .ok (.aload_n 0, 1) := by decide +kernel
theorem d_Mo_sumOf_159 : decode cd_Mo_sumOf 159 = .ok (.getfield 34, 3) := by decide +kernel
theorem d_Mo_sumOf_162 : decode cd_Mo_sumOf 162 = .ok (.iconst 0, 1) := by decide +kernel
theorem d_Mo_sumOf_163 : decode cd_Mo_sumOf 163 = .ok (.laload, 1) := by decide +kernel
theorem d_Mo_sumOf_164 : decode cd_Mo_sumOf 164 = .ok (.iconst 1, 1) := by decide +kernel
theorem d_Mo_sumOf_165 : decode cd_Mo_sumOf 165 = .ok (.invokestatic 70, 3) := by decide +kernel
theorem d_Mo_sumOf_168 : decode cd_Mo_sumOf 168 = .ok (.aload_n 0, 1) := by decide +kernel
theorem d_Mo_sumOf_169 : decode cd_Mo_sumOf 169 = .ok (.getfield 34, 3) := by decide +kernel
theorem d_Mo_sumOf_172 : decode cd_Mo_sumOf 172 = .ok (.iconst 1, 1) := by decide +kernel
theorem d_Mo_sumOf_173 : decode cd_Mo_sumOf 173 = .ok (.laload, 1) := by decide +kernel
theorem d_Mo_sumOf_174 : decode cd_Mo_sumOf 174 = .ok (.bipush 7, 2) := by decide +kernel
theorem d_Mo_sumOf_176 : decode cd_Mo_sumOf 176 = .ok (.invokestatic 70, 3) := by decide +kernel
theorem d_Mo_sumOf_179 : decode cd_Mo_sumOf 179 = .ok (.ladd, 1) := by decide +kernel
theorem d_Mo_sumOf_180 : decode cd_Mo_sumOf 180 = .ok (.aload_n 0, 1) := by decide +kernel
theorem d_Mo_sumOf_181 : decode cd_Mo_sumOf 181 = .ok (.getfield 34, 3) := by decide +kernel
theorem d_Mo_sumOf_184 : decode cd_Mo_sumOf 184 = .ok (.iconst 2, 1) := by decide +kernel
theorem d_Mo_sumOf_185 : decode cd_Mo_sumOf 185 = .ok (.laload, 1) := by decide +kernel
theorem d_Mo_sumOf_186 : decode cd_Mo_sumOf 186 = .ok (.bipush 12, 2) := by decide +kernel
theorem d_Mo_sumOf_188 : decode cd_Mo_sumOf 188 = .ok (.invokestatic 70, 3) := by decide +kernel
theorem d_Mo_sumOf_191 : decode cd_Mo_sumOf 191 = .ok (.ladd, 1) := by decide +kernel
theorem d_Mo_sumOf_192 : decode cd_Mo_sumOf 192 = .ok (.aload_n 0, 1) := by decide +kernel
theorem d_Mo_sumOf_193 : decode cd_Mo_sumOf 193 = .ok (.getfield 34, 3) := by decide +kernel
theorem d_Mo_sumOf_196 : decode cd_Mo_sumOf 196 = .ok (.iconst 3, 1) := by decide +kernel
theorem d_Mo_sumOf_197 : decode cd_Mo_sumOf 197 = .ok (.laload, 1) := by decide +kernel
theorem d_Mo_sumOf_198 : decode cd_Mo_sumOf 198 = .ok (.bipush 18, 2) := by decide +kernel
theorem d_Mo_sumOf_200 : decode cd_Mo_sumOf 200 = .ok (.invokestatic 70, 3) := by decide +kernel
theorem d_Mo_sumOf_203 : decode cd_Mo_sumOf 203 = .ok (.ladd, 1) := by decide +kernel
theorem d_Mo_sumOf_204 : decode cd_Mo_sumOf 204 = .ok (.ldc2_w 50, 3) := by decide +kernel
theorem d_Mo_sumOf_207 : decode cd_Mo_sumOf 207 = .ok (.land, 1) := by decide +kernel
theorem d_Mo_sumOf_208 : decode cd_Mo_sumOf 208 = .ok (.lstore 16, 2) := by decide +kernel
theorem d_Mo_sumOf_210 : decode cd_Mo_sumOf 210 = .ok (.lload 16, 2) := by decide +kernel
theorem d_Mo_sumOf_212 : decode cd_Mo_sumOf 212 = .ok (.iload 14, 2) := by decide +kernel
theorem d_Mo_sumOf_214 : decode cd_Mo_sumOf 214 = .ok (.i2l, 1) := by decide +kernel
theorem d_Mo_sumOf_215 : decode cd_Mo_sumOf 215 = .ok (.ladd, 1) := by decide +kernel
theorem d_Mo_sumOf_216 : decode cd_Mo_sumOf 216 = .ok (.ldc2_w 50, 3) := by decide +kernel
theorem d_Mo_sumOf_219 : decode cd_Mo_sumOf 219 = .ok (.land, 1) := by decide +kernel
theorem d_Mo_sumOf_220 : decode cd_Mo_sumOf 220 = .ok (.lstore 16, 2) := by decide +kernel
theorem d_Mo_sumOf_222 : decode cd_Mo_sumOf 222 = .ok (.iload_n 3, 1) := by decide +kernel
theorem d_Mo_sumOf_223 : decode cd_Mo_sumOf 223 = .ok (.iload 15, 2) := by decide +kernel
theorem d_Mo_sumOf_225 : decode cd_Mo_sumOf 225 = .ok (.isub, 1) := by decide +kernel
theorem d_Mo_sumOf_226 : decode cd_Mo_sumOf 226 = .ok (.iconst 4, 1) := by decide +kernel
theorem d_Mo_sumOf_227 : decode cd_Mo_sumOf 227 = .ok (.if_icmp .lt 39, 3) := by decide +kernel
theorem d_Mo_sumOf_230 : decode cd_Mo_sumOf 230 = .ok (.lload 16, 2) := by decide +kernel
theorem d_Mo_sumOf_232 : decode cd_Mo_sumOf 232 = .ok (.aload_n 1, 1) := by decide +kernel
theorem d_Mo_sumOf_233 : decode cd_Mo_sumOf 233 = .ok (.iload 15, 2) := by decide +kernel
theorem d_Mo_sumOf_235 : decode cd_Mo_sumOf 235 = .ok (.invokestatic 62, 3) := by decide +kernel
theorem d_Mo_sumOf_238 : decode cd_Mo_sumOf 238 = .ok (.lload 8, 2) := by decide +kernel
theorem d_Mo_sumOf_240 : decode cd_Mo_sumOf 240 = .ok (.invokestatic 66, 3) := by decide +kernel
theorem d_Mo_sumOf_243 : decode cd_Mo_sumOf 243 = .ok (.ladd, 1) := by decide +kernel
theorem d_Mo_sumOf_244 : decode cd_Mo_sumOf 244 = .ok (.ldc2_w 50, 3) := by decide +kernel
theorem d_Mo_sumOf_247 : decode cd_Mo_sumOf 247 = .ok (.land, 1) := by decide +kernel
theorem d_Mo_sumOf_248 : decode cd_Mo_sumOf 248 = .ok (.bipush 17, 2) := by decide +kernel
theorem d_Mo_sumOf_250 : decode cd_Mo_sumOf 250 = .ok (.invokestatic 70, 3) := by decide +kernel
theorem d_Mo_sumOf_253 : decode cd_Mo_sumOf 253 = .ok (.lload 10, 2) := by decide +kernel
theorem d_Mo_sumOf_255 : decode cd_Mo_sumOf 255 = .ok (.invokestatic 66, 3) := by decide +kernel
theorem d_Mo_sumOf_258 : decode cd_Mo_sumOf 258 = .ok (.lstore 16, 2) := by decide +kernel
theorem d_Mo_sumOf_260 : decode cd_Mo_sumOf 260 = .ok (.iinc 15 4, 3) := by decide +kernel
theorem d_Mo_sumOf_263 : decode cd_Mo_sumOf 263 = .ok (.goto (-41), 3) := by decide +kernel
theorem d_Mo_sumOf_266 : decode cd_Mo_sumOf 266 = .ok (.iload 15, 2) := by decide +kernel
theorem d_Mo_sumOf_268 : decode cd_Mo_sumOf 268 = .ok (.iload_n 3, 1) := by decide +kernel
theorem d_Mo_sumOf_269 : decode cd_Mo_sumOf 269 = .ok (.if_icmp .ge 38, 3) := by decide +kernel
theorem d_Mo_sumOf_272 : decode cd_Mo_sumOf 272 = .ok (.lload 16, 2) := by decide +kernel
theorem d_Mo_sumOf_274 : decode cd_Mo_sumOf 274 = .ok (.aload_n 1, 1) := by decide +kernel
theorem d_Mo_sumOf_275 : decode cd_Mo_sumOf 275 = .ok (.iload 15, 2) := by decide +kernel
theorem d_Mo_sumOf_277 : decode cd_Mo_sumOf 277 = .ok (.iaload, 1) := by decide +kernel
theorem d_Mo_sumOf_278 : decode cd_Mo_sumOf 278 = .ok (.i2l, 1) := by decide +kernel
theorem d_Mo_sumOf_279 : decode cd_Mo_sumOf 279 = .ok (.lload 12, 2) := by decide +kernel
theorem d_Mo_sumOf_281 : decode cd_Mo_sumOf 281 = .ok (.invokestatic 66, 3) := by decide +kernel
theorem d_Mo_sumOf_284 : decode cd_Mo_sumOf 284 = .ok (.ladd, 1) := by decide +kernel
theorem d_Mo_sumOf_285 : decode cd_Mo_sumOf 285 = .ok (.ldc2_w 50, 3) := by decide +kernel
theorem d_Mo_sumOf_288 : decode cd_Mo_sumOf 288 = .ok (.land, 1) := by decide +kernel
theorem d_Mo_sumOf_289 : decode cd_Mo_sumOf 289 = .ok (.bipush 11, 2) := by decide +kernel
theorem d_Mo_sumOf_291 : decode cd_Mo_sumOf 291 = .ok (.invokestatic 70, 3) := by decide +kernel
theorem d_Mo_sumOf_294 : decode cd_Mo_sumOf 294 = .ok (.lload 4, 2) := by decide +kernel
theorem d_Mo_sumOf_296 : decode cd_Mo_sumOf 296 = .ok (.invokestatic 66, 3) := by decide +kernel
theorem d_Mo_sumOf_299 : decode cd_Mo_sumOf 299 = .ok (.lstore 16, 2) := by decide +kernel
theorem d_Mo_sumOf_301 : decode cd_Mo_sumOf 301 = .ok (.iinc 15 1, 3) := by decide +kernel
theorem d_Mo_sumOf_304 : decode cd_Mo_sumOf 304 = .ok (.goto (-38), 3) := by decide +kernel
theorem d_Mo_sumOf_307 : decode cd_Mo_sumOf 307 = .ok (.lload 16, 2) := by decide +kernel
theorem d_Mo_sumOf_309 : decode cd_Mo_sumOf 309 = .ok (.lload 16, 2) := by decide +kernel
theorem d_Mo_sumOf_311 : decode cd_Mo_sumOf 311 = .ok (.bipush 15, 2) := by decide +kernel
theorem d_Mo_sumOf_313 : decode cd_Mo_sumOf 313 = .ok (.lshr, 1) := by decide +kernel
theorem d_Mo_sumOf_314 : decode cd_Mo_sumOf 314 = .ok (.lxor, 1) := by decide +kernel
theorem d_Mo_sumOf_315 : decode cd_Mo_sumOf 315 = .ok (.lload 6, 2) := by decide +kernel
theorem d_Mo_sumOf_317 : decode cd_Mo_sumOf 317 = .ok (.invokestatic 66, 3) := by decide +kernel
theorem d_Mo_sumOf_320 : decode cd_Mo_sumOf 320 = .ok (.lstore 16, 2) := by decide +kernel
theorem d_Mo_sumOf_322 : decode cd_Mo_sumOf 322 = .ok (.lload 16, 2) := by decide +kernel
theorem d_Mo_sumOf_324 : decode cd_Mo_sumOf 324 = .ok (.lload 16, 2) := by decide +kernel
theorem d_Mo_sumOf_326 : decode cd_Mo_sumOf 326 = .ok (.bipush 13, 2) := by decide +kernel
theorem d_Mo_sumOf_328 : decode cd_Mo_sumOf 328 = .ok (.lshr, 1) := by decide +kernel
theorem d_Mo_sumOf_329 : decode cd_Mo_sumOf 329 = .ok (.lxor, 1) := by decide +kernel
theorem d_Mo_sumOf_330 : decode cd_Mo_sumOf 330 = .ok (.lload 8, 2) := by decide +kernel
theorem d_Mo_sumOf_332 : decode cd_Mo_sumOf 332 = .ok (.invokestatic 66, 3) := by decide +kernel
theorem d_Mo_sumOf_335 : decode cd_Mo_sumOf 335 = .ok (.lstore 16, 2) := by decide +kernel
theorem d_Mo_sumOf_337 : decode cd_Mo_sumOf 337 = .ok (.lload 16, 2) := by decide +kernel
theorem d_Mo_sumOf_339 : decode cd_Mo_sumOf 339 = .ok (.lload 16, 2) := by decide +kernel
theorem d_Mo_sumOf_341 : decode cd_Mo_sumOf 341 = .ok (.bipush 16, 2) := by decide +kernel
theorem d_Mo_sumOf_343 : decode cd_Mo_sumOf 343 = .ok (.lshr, 1) := by decide +kernel
theorem d_Mo_sumOf_344 : decode cd_Mo_sumOf 344 = .ok (.lxor, 1) := by decide +kernel
theorem d_Mo_sumOf_345 : decode cd_Mo_sumOf 345 = .ok (.lreturn, 1) := by decide +kernel
theorem d_Mo_word_0 : decode cd_Mo_word 0 = .ok (.aload_n 0, 1) := by decide +kernel
theorem d_Mo_word_1 : decode cd_Mo_word 1 = .ok (.iload_n 1, 1) := by decide +kernel
theorem d_Mo_word_2 : decode cd_Mo_word 2 = .ok (.iaload, 1) := by decide +kernel
theorem d_Mo_word_3 : decode cd_Mo_word 3 = .ok (.i2l, 1) := by decide +kernel
theorem d_Mo_word_4 : decode cd_Mo_word 4 = .ok (.aload_n 0, 1) := by decide +kernel
theorem d_Mo_word_5 : decode cd_Mo_word 5 = .ok (.iload_n 1, 1) := by decide +kernel
theorem d_Mo_word_6 : decode cd_Mo_word 6 = .ok (.iconst 1, 1) := by decide +kernel
theorem d_Mo_word_7 : decode cd_Mo_word 7 = .ok (.iadd, 1) := by decide +kernel
theorem d_Mo_word_8 : decode cd_Mo_word 8 = .ok (.iaload, 1) := by decide +kernel
theorem d_Mo_word_9 : decode cd_Mo_word 9 = .ok (.i2l, 1) := by decide +kernel
theorem d_Mo_word_10 : decode cd_Mo_word 10 = .ok (.bipush 8, 2) := by decide +kernel
theorem d_Mo_word_12 : decode cd_Mo_word 12 = .ok (.lshl, 1) := by decide +kernel
theorem d_Mo_word_13 : decode cd_Mo_word 13 = .ok (.lor, 1) := by decide +kernel
theorem d_Mo_word_14 : decode cd_Mo_word 14 = .ok (.aload_n 0, 1) := by decide +kernel
theorem d_Mo_word_15 : decode cd_Mo_word 15 = .ok (.iload_n 1, 1) := by decide +kernel
theorem d_Mo_word_16 : decode cd_Mo_word 16 = .ok (.iconst 2, 1) := by decide +kernel
theorem d_Mo_word_17 : decode cd_Mo_word 17 = .ok (.iadd, 1) := by decide +kernel
theorem d_Mo_word_18 : decode cd_Mo_word 18 = .ok (.iaload, 1) := by decide +kernel
theorem d_Mo_word_19 : decode cd_Mo_word 19 = .ok (.i2l, 1) := by decide +kernel
theorem d_Mo_word_20 : decode cd_Mo_word 20 = .ok (.bipush 16, 2) := by decide +kernel
theorem d_Mo_word_22 : decode cd_Mo_word 22 = .ok (.lshl, 1) := by decide +kernel
theorem d_Mo_word_23 : decode cd_Mo_word 23 = .ok (.lor, 1) := by decide +kernel
theorem d_Mo_word_24 : decode cd_Mo_word 24 = .ok (.aload_n 0, 1) := by decide +kernel
theorem d_Mo_word_25 : decode cd_Mo_word 25 = .ok (.iload_n 1, 1) := by decide +kernel
theorem d_Mo_word_26 : decode cd_Mo_word 26 = .ok (.iconst 3, 1) := by decide +kernel
theorem d_Mo_word_27 : decode cd_Mo_word 27 = .ok (.iadd, 1) := by decide +kernel
theorem d_Mo_word_28 : decode cd_Mo_word 28 = .ok (.iaload, 1) := by decide +kernel
theorem d_Mo_word_29 : decode cd_Mo_word 29 = .ok (.i2l, 1) := by decide +kernel
theorem d_Mo_word_30 : decode cd_Mo_word 30 = .ok (.bipush 24, 2) := by decide +kernel
theorem d_Mo_word_32 : decode cd_Mo_word 32 = .ok (.lshl, 1) := by decide +kernel
theorem d_Mo_word_33 : decode cd_Mo_word 33 = .ok (.lor, 1) := by decide +kernel
theorem d_Mo_word_34 : decode cd_Mo_word 34 = .ok (.lreturn, 1) := by decide +kernel
