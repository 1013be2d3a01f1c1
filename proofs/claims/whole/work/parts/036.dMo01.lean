theorem d_Mo_times_0 : decode cd_Mo_times 0 = .ok (.lload_n 0, 1) := by decide +kernel
theorem d_Mo_times_1 : decode cd_Mo_times 1 = .ok (.lload_n 2, 1) := by decide +kernel
theorem d_Mo_times_2 : decode cd_Mo_times 2 = .ok (.lmul, 1) := by decide +kernel
theorem d_Mo_times_3 : decode cd_Mo_times 3 = .ok (.ldc2_w 50, 3) := by decide +kernel
theorem d_Mo_times_6 : decode cd_Mo_times 6 = .ok (.land, 1) := by decide +kernel
theorem d_Mo_times_7 : decode cd_Mo_times 7 = .ok (.lreturn, 1) := by decide +kernel
theorem d_Mo_turned_0 : decode cd_Mo_turned 0 = .ok (.lload_n 0, 1) := by decide +kernel
theorem d_Mo_turned_1 : decode cd_Mo_turned 1 = .ok (.iload_n 2, 1) := by decide +kernel
theorem d_Mo_turned_2 : decode cd_Mo_turned 2 = .ok (.lshl, 1) := by decide +kernel
theorem d_Mo_turned_3 : decode cd_Mo_turned 3 = .ok (.lload_n 0, 1) := by decide +kernel
theorem d_Mo_turned_4 : decode cd_Mo_turned 4 = .ok (.bipush 32, 2) := by decide +kernel
theorem d_Mo_turned_6 : decode cd_Mo_turned 6 = .ok (.iload_n 2, 1) := by decide +kernel
theorem d_Mo_turned_7 : decode cd_Mo_turned 7 = .ok (.isub, 1) := by decide +kernel
theorem d_Mo_turned_8 : decode cd_Mo_turned 8 = .ok (.lshr, 1) := by decide +kernel
theorem d_Mo_turned_9 : decode cd_Mo_turned 9 = .ok (.lor, 1) := by decide +kernel
theorem d_Mo_turned_10 : decode cd_Mo_turned 10 = .ok (.ldc2_w 50, 3) := by decide +kernel
theorem d_Mo_turned_13 : decode cd_Mo_turned 13 = .ok (.land, 1) := by decide +kernel
theorem d_Mo_turned_14 : decode cd_Mo_turned 14 = .ok (.lreturn, 1) := by decide +kernel
theorem d_Mo_block_0 : decode cd_Mo_block 0 = .ok (.iload_n 1, 1) := by decide +kernel
theorem d_Mo_block_1 : decode cd_Mo_block 1 = .ok (.ifCond .lt 8, 3) := by decide +kernel
theorem d_Mo_block_4 : decode cd_Mo_block 4 = .ok (.iload_n 1, 1) := by decide +kernel
theorem d_Mo_block_5 : decode cd_Mo_block 5 = .ok (.iconst 3, 1) := by decide +kernel
theorem d_Mo_block_6 : decode cd_Mo_block 6 = .ok (.if_icmp .le 5, 3) := by decide +kernel
theorem d_Mo_block_9 : decode cd_Mo_block 9 = .ok (.iconst (-1), 1) := by decide +kernel
theorem d_Mo_block_10 : decode cd_Mo_block 10 = .ok (.ireturn, 1) := by decide +kernel
theorem d_Mo_block_11 : decode cd_Mo_block 11 = .ok (.aload_n 0, 1) := by decide +kernel
theorem d_Mo_block_12 : decode cd_Mo_block 12 = .ok (.invokevirtual 110, 3) := by decide +kernel
theorem d_Mo_block_15 : decode cd_Mo_block 15 = .ok (.aload_n 0, 1) := by decide +kernel
theorem d_Mo_block_16 : decode cd_Mo_block 16 = .ok (.iconst 0, 1) := by decide +kernel
theorem d_Mo_block_17 : decode cd_Mo_block 17 = .ok (.aload_n 0, 1) := by decide +kernel
theorem d_Mo_block_18 : decode cd_Mo_block 18 = .ok (.getfield 38, 3) := by decide +kernel
theorem d_Mo_block_21 : decode cd_Mo_block 21 = .ok (.invokevirtual 113, 3) := by decide +kernel
theorem d_Mo_block_24 : decode cd_Mo_block 24 = .ok (.aload_n 0, 1) := by decide +kernel
theorem d_Mo_block_25 : decode cd_Mo_block 25 = .ok (.aload_n 0, 1) := by decide +kernel
theorem d_Mo_block_26 : decode cd_Mo_block 26 = .ok (.getfield 47, 3) := by decide +kernel
theorem d_Mo_block_29 : decode cd_Mo_block 29 = .ok (.iload_n 1, 1) := by decide +kernel
theorem d_Mo_block_30 : decode cd_Mo_block 30 = .ok (.invokevirtual 117, 3) := by decide +kernel
theorem d_Mo_block_33 : decode cd_Mo_block 33 = .ok (.aload_n 0, 1) := by decide +kernel
theorem d_Mo_block_34 : decode cd_Mo_block 34 = .ok (.aload_n 0, 1) := by decide +kernel
theorem d_Mo_block_35 : decode cd_Mo_block 35 = .ok (.getfield 25, 3) := by decide +kernel
theorem d_Mo_block_38 : decode cd_Mo_block 38 = .ok (.aload_n 0, 1) := by decide +kernel
theorem d_Mo_block_39 : decode cd_Mo_block 39 = .ok (.getfield 93, 3) := by decide +kernel
theorem d_Mo_block_42 : decode cd_Mo_block 42 = .ok (.invokevirtual 120, 3) := by decide +kernel
theorem d_Mo_block_45 : decode cd_Mo_block 45 = .ok (.ireturn, 1) := by decide +kernel
theorem d_Mo_begin_0 : decode cd_Mo_begin 0 = .ok (.iconst 0, 1) := by decide +kernel
theorem d_Mo_begin_1 : decode cd_Mo_begin 1 = .ok (.istore_n 1, 1) := by decide +kernel
theorem d_Mo_begin_2 : decode cd_Mo_begin 2 = .ok (.iload_n 1, 1) := by decide +kernel
theorem d_Mo_begin_3 : decode cd_Mo_begin 3 = .ok (.aload_n 0, 1) := by decide +kernel
theorem d_Mo_begin_4 : decode cd_Mo_begin 4 = .ok (.getfield 47, 3) := by decide +kernel
theorem d_Mo_begin_7 : decode cd_Mo_begin 7 = .ok (.if_icmp .ge 21, 3) := by decide +kernel
theorem d_Mo_begin_10 : decode cd_Mo_begin 10 = .ok (.aload_n 0, 1) := by decide +kernel
theorem d_Mo_begin_11 : decode cd_Mo_begin 11 = .ok (.getfield 19, 3) := by decide +kernel
theorem d_Mo_begin_14 : decode cd_Mo_begin 14 = .ok (.iload_n 1, 1) := by decide +kernel
theorem d_Mo_begin_15 : decode cd_Mo_begin 15 = .ok (.aload_n 0, 1) := by decide +kernel
theorem d_Mo_begin_16 : decode cd_Mo_begin 16 = .ok (.getfield 16, 3) := by decide +kernel
theorem d_Mo_begin_19 : decode cd_Mo_begin 19 = .ok (.iload_n 1, 1) := by decide +kernel
theorem d_Mo_begin_20 : decode cd_Mo_begin 20 = .ok (.iaload, 1) := by decide +kernel
theorem d_Mo_begin_21 : decode cd_Mo_begin 21 = .ok (.iastore, 1) := by decide +kernel
theorem d_Mo_begin_22 : decode cd_Mo_begin 22 = .ok (.iinc 1 1, 3) := by decide +kernel
theorem d_Mo_begin_25 : decode cd_Mo_begin 25 = .ok (.goto (-23), 3) := by decide +kernel
theorem d_Mo_begin_28 : decode cd_Mo_begin 28 = .ok (.aload_n 0, 1) := by decide +kernel
theorem d_Mo_begin_29 : decode cd_Mo_begin 29 = .ok (.aload_n 0, 1) := by decide +kernel
theorem d_Mo_begin_30 : decode cd_Mo_begin 30 = .ok (.getfield 47, 3) := by decide +kernel
theorem d_Mo_begin_33 : decode cd_Mo_begin 33 = .ok (.putfield 78, 3) := by decide +kernel
theorem d_Mo_begin_36 : decode cd_Mo_begin 36 = .ok (.return_, 1) := by decide +kernel
theorem d_Mo_append_0 : decode cd_Mo_append 0 = .ok (.iload_n 1, 1) := by decide +kernel
theorem d_Mo_append_1 : decode cd_Mo_append 1 = .ok (.istore_n 3, 1) := by decide +kernel
theorem d_Mo_append_2 : decode cd_Mo_append 2 = .ok (.iload_n 3, 1) := by decide +kernel
theorem d_Mo_append_3 : decode cd_Mo_append 3 = .ok (.iload_n 2, 1) := by decide +kernel
theorem d_Mo_append_4 : decode cd_Mo_append 4 = .ok (.if_icmp .ge 34, 3) := by decide +kernel
theorem d_Mo_append_7 : decode cd_Mo_append 7 = .ok (.aload_n 0, 1) := by decide +kernel
theorem d_Mo_append_8 : decode cd_Mo_append 8 = .ok (.getfield 19, 3) := by decide +kernel
theorem d_Mo_append_11 : decode cd_Mo_append 11 = .ok (.aload_n 0, 1) := by decide +kernel
theorem d_Mo_append_12 : decode cd_Mo_append 12 = .ok (.getfield 78, 3) := by decide +kernel
theorem d_Mo_append_15 : decode cd_Mo_append 15 = .ok (.aload_n 0, 1) := by decide +kernel
theorem d_Mo_append_16 : decode cd_Mo_append 16 = .ok (.getfield 7, 3) := by decide +kernel
theorem d_Mo_append_19 : decode cd_Mo_append 19 = .ok (.iload_n 3, 1) := by decide +kernel
theorem d_Mo_append_20 : decode cd_Mo_append 20 = .ok (.iaload, 1) := by decide +kernel
theorem d_Mo_append_21 : decode cd_Mo_append 21 = .ok (.iastore, 1) := by decide +kernel
theorem d_Mo_append_22 : decode cd_Mo_append 22 = .ok (.aload_n 0, 1) := by decide +kernel
theorem d_Mo_append_23 : decode cd_Mo_append 23 = .ok (.dup, 1) := by decide +kernel
theorem d_Mo_append_24 : decode cd_Mo_append 24 = .ok (.getfield 78, 3) := by decide +kernel
theorem d_Mo_append_27 : decode cd_Mo_append 27 = .ok (.iconst 1, 1) := by decide +kernel
theorem d_Mo_append_28 : decode cd_Mo_append 28 = .ok (.iadd, 1) := by decide +kernel
theorem d_Mo_append_29 : decode cd_Mo_append 29 = .ok (.putfield 78, 3) := by decide +kernel
theorem d_Mo_append_32 : decode cd_Mo_append 32 = .ok (.iinc 3 1, 3) := by decide +kernel
theorem d_Mo_append_35 : decode cd_Mo_append 35 = .ok (.goto (-33), 3) := by decide +kernel
theorem d_Mo_append_38 : decode cd_Mo_append 38 = .ok (.return_, 1) := by decide +kernel
theorem d_Mo_writeBlock_0 : decode cd_Mo_writeBlock 0 = .ok (.aload_n 0, 1) := by decide +kernel
theorem d_Mo_writeBlock_1 : decode cd_Mo_writeBlock 1 = .ok (.iconst 0, 1) := by decide +kernel
theorem d_Mo_writeBlock_2 : decode cd_Mo_writeBlock 2 = .ok (.putfield 93, 3) := by decide +kernel
theorem d_Mo_writeBlock_5 : decode cd_Mo_writeBlock 5 = .ok (.iload_n 1, 1) := by decide +kernel
theorem d_Mo_writeBlock_6 : decode cd_Mo_writeBlock 6 = .ok (.istore_n 3, 1) := by decide +kernel
theorem d_Mo_writeBlock_7 : decode cd_Mo_writeBlock 7 = .ok (.iload_n 1, 1) := by decide +kernel
theorem d_Mo_writeBlock_8 : decode cd_Mo_writeBlock 8 = .ok (.istore 4, 2) := by decide +kernel
theorem d_Mo_writeBlock_10 : decode cd_Mo_writeBlock 10 = .ok (.iload 4, 2) := by decide +kernel
theorem d_Mo_writeBlock_12 : decode cd_Mo_writeBlock 12 = .ok (.aload_n 0, 1) := by decide +kernel
theorem d_Mo_writeBlock_13 : decode cd_Mo_writeBlock 13 = .ok (.getfield 78, 3) := by decide +kernel
theorem d_Mo_writeBlock_16 : decode cd_Mo_writeBlock 16 = .ok (.if_icmp .ge 52, 3) := by decide +kernel
theorem d_Mo_writeBlock_19 : decode cd_Mo_writeBlock 19 = .ok (.aload_n 0, 1) := by decide +kernel
theorem d_Mo_writeBlock_20 : decode cd_Mo_writeBlock 20 = .ok (.iload 4, 2) := by decide +kernel
theorem d_Mo_writeBlock_22 : decode cd_Mo_writeBlock 22 = .ok (.iload_n 2, 1) := by decide +kernel
theorem d_Mo_writeBlock_23 : decode cd_Mo_writeBlock 23 = .ok (.invokevirtual 103, 3) := by decide +kernel
theorem d_Mo_writeBlock_26 : decode cd_Mo_writeBlock 26 = .ok (.istore 5, 2) := by decide +kernel
theorem d_Mo_writeBlock_28 : decode cd_Mo_writeBlock 28 = .ok (.iload 5, 2) := by decide +kernel
theorem d_Mo_writeBlock_30 : decode cd_Mo_writeBlock 30 = .ok (.ifCond .ne 9, 3) := by decide +kernel
theorem d_Mo_writeBlock_33 : decode cd_Mo_writeBlock 33 = .ok (.iinc 4 1, 3) := by decide +kernel
theorem d_Mo_writeBlock_36 : decode cd_Mo_writeBlock 36 = .ok (.goto (-26), 3) := by decide +kernel
theorem d_Mo_writeBlock_39 : decode cd_Mo_writeBlock 39 = .ok (.aload_n 0, 1) := by decide +kernel
theorem d_Mo_writeBlock_40 : decode cd_Mo_writeBlock 40 = .ok (.iload_n 3, 1) := by decide +kernel
theorem d_Mo_writeBlock_41 : decode cd_Mo_writeBlock 41 = .ok (.iload 4, 2) := by decide +kernel
theorem d_Mo_writeBlock_43 : decode cd_Mo_writeBlock 43 = .ok (.iload 5, 2) := by decide +kernel
theorem d_Mo_writeBlock_45 : decode cd_Mo_writeBlock 45 = .ok (.iload 4, 2) := by decide +kernel
theorem d_Mo_writeBlock_47 : decode cd_Mo_writeBlock 47 = .ok (.aload_n 0, 1) := by decide +kernel
theorem d_Mo_writeBlock_48 : decode cd_Mo_writeBlock 48 = .ok (.getfield 86, 3) := by decide +kernel
theorem d_Mo_writeBlock_51 : decode cd_Mo_writeBlock 51 = .ok (.isub, 1) := by decide +kernel
theorem d_Mo_writeBlock_52 : decode cd_Mo_writeBlock 52 = .ok (.invokevirtual 106, 3) := by decide +kernel
theorem d_Mo_writeBlock_55 : decode cd_Mo_writeBlock 55 = .ok (.iload 4, 2) := by decide +kernel
theorem d_Mo_writeBlock_57 : decode cd_Mo_writeBlock 57 = .ok (.iload 5, 2) := by decide +kernel
theorem d_Mo_writeBlock_59 : decode cd_Mo_writeBlock 59 = .ok (.iadd, 1) := by decide +kernel
theorem d_Mo_writeBlock_60 : decode cd_Mo_writeBlock 60 = .ok (.istore 4, 2) := by decide +kernel
theorem d_Mo_writeBlock_62 : decode cd_Mo_writeBlock 62 = .ok (.iload 4, 2) := by decide +kernel
theorem d_Mo_writeBlock_64 : decode cd_Mo_writeBlock 64 = .ok (.istore_n 3, 1) := by decide +kernel
theorem d_Mo_writeBlock_65 : decode cd_Mo_writeBlock 65 = .ok (.goto (-55), 3) := by decide +kernel
theorem d_Mo_writeBlock_68 : decode cd_Mo_writeBlock 68 = .ok (.aload_n 0, 1) := by decide +kernel
theorem d_Mo_writeBlock_69 : decode cd_Mo_writeBlock 69 = .ok (.iload_n 3, 1) := by decide +kernel
theorem d_Mo_writeBlock_70 : decode cd_Mo_writeBlock 70 = .ok (.aload_n 0, 1) := by decide +kernel
theorem d_Mo_writeBlock_71 : decode cd_Mo_writeBlock 71 = .ok (.getfield 78, 3) := by decide +kernel
theorem d_Mo_writeBlock_74 : decode cd_Mo_writeBlock 74 = .ok (.iconst 0, 1) := by decide +kernel
theorem d_Mo_writeBlock_75 : decode cd_Mo_writeBlock 75 = .ok (.iconst 0, 1) := by decide +kernel
theorem d_Mo_writeBlock_76 : decode cd_Mo_writeBlock 76 = .ok (.invokevirtual 106, 3) := by decide +kernel
theorem d_Mo_writeBlock_79 : decode cd_Mo_writeBlock 79 = .ok (.return_, 1) := by decide +kernel
theorem d_Mo_taken_0 : decode cd_Mo_taken 0 = .ok (.iload_n 2, 1) := by decide +kernel
theorem d_Mo_taken_1 : decode cd_Mo_taken 1 = .ok (.iconst 3, 1) := by decide +kernel
theorem d_Mo_taken_2 : decode cd_Mo_taken 2 = .ok (.if_icmp .ge 10, 3) := by decide +kernel
theorem d_Mo_taken_5 : decode cd_Mo_taken 5 = .ok (.aload_n 0, 1) := by decide +kernel
theorem d_Mo_taken_6 : decode cd_Mo_taken 6 = .ok (.iload_n 1, 1) := by decide +kernel
theorem d_Mo_taken_7 : decode cd_Mo_taken 7 = .ok (.iload_n 2, 1) := by decide +kernel
theorem d_Mo_taken_8 : decode cd_Mo_taken 8 = .ok (.invokevirtual 89, 3) := by decide +kernel
theorem d_Mo_taken_11 : decode cd_Mo_taken 11 = .ok (.ireturn, 1) := by decide +kernel
theorem d_Mo_taken_12 : decode cd_Mo_taken 12 = .ok (.iload_n 1, 1) := by decide +kernel
theorem d_Mo_taken_13 : decode cd_Mo_taken 13 = .ok (.iconst 1, 1) := by decide +kernel
theorem d_Mo_taken_14 : decode cd_Mo_taken 14 = .ok (.iadd, 1) := by decide +kernel
theorem d_Mo_taken_15 : decode cd_Mo_taken 15 = .ok (.aload_n 0, 1) := by decide +kernel
theorem d_Mo_taken_16 : decode cd_Mo_taken 16 = .ok (.getfield 78, 3) := by decide +kernel
theorem d_Mo_taken_19 : decode cd_Mo_taken 19 = .ok (.bipush 12, 2) := by decide +kernel
theorem d_Mo_taken_21 : decode cd_Mo_taken 21 = .ok (.isub, 1) := by decide +kernel
theorem d_Mo_taken_22 : decode cd_Mo_taken 22 = .ok (.if_icmp .gt 14, 3) := by decide +kernel
theorem d_Mo_taken_25 : decode cd_Mo_taken 25 = .ok (.aload_n 0, 1) := by decide +kernel
theorem d_Mo_taken_26 : decode cd_Mo_taken 26 = .ok (.iload_n 1, 1) := by decide +kernel
theorem d_Mo_taken_27 : decode cd_Mo_taken 27 = .ok (.iconst 1, 1) := by decide +kernel
theorem d_Mo_taken_28 : decode cd_Mo_taken 28 = .ok (.iadd, 1) := by decide +kernel
theorem d_Mo_taken_29 : decode cd_Mo_taken 29 = .ok (.iconst 2, 1) := by decide +kernel
theorem d_Mo_taken_30 : decode cd_Mo_taken 30 = .ok (.invokevirtual 89, 3) := by decide +kernel
theorem d_Mo_taken_33 : decode cd_Mo_taken 33 = .ok (.goto 4, 3) := by decide +kernel
theorem d_Mo_taken_36 : decode cd_Mo_taken 36 = .ok (.iconst 0, 1) := by decide +kernel
theorem d_Mo_taken_37 : decode cd_Mo_taken 37 = .ok (.istore_n 3, 1) := by decide +kernel
theorem d_Mo_taken_38 : decode cd_Mo_taken 38 = .ok (.aload_n 0, 1) := by decide +kernel
theorem d_Mo_taken_39 : decode cd_Mo_taken 39 = .ok (.iload_n 1, 1) := by decide +kernel
theorem d_Mo_taken_40 : decode cd_Mo_taken 40 = .ok (.iconst 2, 1) := by decide +kernel
theorem d_Mo_taken_41 : decode cd_Mo_taken 41 = .ok (.invokevirtual 89, 3) := by decide +kernel
theorem d_Mo_taken_44 : decode cd_Mo_taken 44 = .ok (.istore 4, 2) := by decide +kernel
theorem d_Mo_taken_46 : decode cd_Mo_taken 46 = .ok (.iload_n 3, 1) := by decide +kernel
theorem d_Mo_taken_47 : decode cd_Mo_taken 47 = .ok (.iload 4, 2) := by decide +kernel
theorem d_Mo_taken_49 : decode cd_Mo_taken 49 = .ok (.if_icmp .le 7, 3) := by decide +kernel
theorem d_Mo_taken_52 : decode cd_Mo_taken 52 = .ok (.iconst 0, 1) := by decide +kernel
theorem d_Mo_taken_53 : decode cd_Mo_taken 53 = .ok (.goto 5, 3) := by decide +kernel
theorem d_Mo_taken_56 : decode cd_Mo_taken 56 = .ok (.iload 4, 2) := by decide +kernel
theorem d_Mo_taken_58 : decode cd_Mo_taken 58 = .ok (.ireturn, 1) := by decide +kernel
theorem d_Mo_match_0 : decode cd_Mo_match 0 = .ok (.aload_n 0, 1) := by decide +kernel
theorem d_Mo_match_1 : decode cd_Mo_match 1 = .ok (.getfield 78, 3) := by decide +kernel
theorem d_Mo_match_4 : decode cd_Mo_match 4 = .ok (.iconst 5, 1) := by decide +kernel
theorem d_Mo_match_5 : decode cd_Mo_match 5 = .ok (.isub, 1) := by decide +kernel
theorem d_Mo_match_6 : decode cd_Mo_match 6 = .ok (.iload_n 1, 1) := by decide +kernel
theorem d_Mo_match_7 : decode cd_Mo_match 7 = .ok (.isub, 1) := by decide +kernel
theorem d_Mo_match_8 : decode cd_Mo_match 8 = .ok (.istore_n 3, 1) := by decide +kernel
theorem d_Mo_match_9 : decode cd_Mo_match 9 = .ok (.iload_n 1, 1) := by decide +kernel
theorem d_Mo_match_10 : decode cd_Mo_match 10 = .ok (.ifCond .lt 19, 3) := by decide +kernel
theorem d_Mo_match_13 : decode cd_Mo_match 13 = .ok (.iload_n 1, 1) := by decide +kernel
theorem d_Mo_match_14 : decode cd_Mo_match 14 = .ok (.aload_n 0, 1) := by decide +kernel
theorem d_Mo_match_15 : decode cd_Mo_match 15 = .ok (.getfield 78, 3) := by decide +kernel
theorem d_Mo_match_18 : decode cd_Mo_match 18 = .ok (.bipush 12, 2) := by decide +kernel
theorem d_Mo_match_20 : decode cd_Mo_match 20 = .ok (.isub, 1) := by decide +kernel
theorem d_Mo_match_21 : decode cd_Mo_match 21 = .ok (.if_icmp .gt 8, 3) := by decide +kernel
theorem d_Mo_match_24 : decode cd_Mo_match 24 = .ok (.iload_n 3, 1) := by decide +kernel
theorem d_Mo_match_25 : decode cd_Mo_match 25 = .ok (.iconst 4, 1) := by decide +kernel
theorem d_Mo_match_26 : decode cd_Mo_match 26 = .ok (.if_icmp .ge 5, 3) := by decide +kernel
theorem d_Mo_match_29 : decode cd_Mo_match 29 = .ok (.iconst 0, 1) := by decide +kernel
theorem d_Mo_match_30 : decode cd_Mo_match 30 = .ok (.ireturn, 1) := by decide +kernel
theorem d_Mo_match_31 : decode cd_Mo_match 31 = .ok (.iconst 0, 1) := by decide +kernel
theorem d_Mo_match_32 : decode cd_Mo_match 32 = .ok (.istore 4, 2) := by decide +kernel
theorem d_Mo_match_34 : decode cd_Mo_match 34 = .ok (.iload_n 1, 1) := by decide +kernel
theorem d_Mo_match_35 : decode cd_Mo_match 35 = .ok (.iconst 1, 1) := by decide +kernel
theorem d_Mo_match_36 : decode cd_Mo_match 36 = .ok (.isub, 1) := by decide +kernel
theorem d_Mo_match_37 : decode cd_Mo_match 37 = .ok (.istore 5, 2) := by decide +kernel
theorem d_Mo_match_39 : decode cd_Mo_match 39 = .ok (.iload 5, 2) := by decide +kernel
theorem d_Mo_match_41 : decode cd_Mo_match 41 = .ok (.ifCond .lt 132, 3) := by decide +kernel
theorem d_Mo_match_44 : decode cd_Mo_match 44 = .ok (.iload_n 1, 1) := by decide +kernel
theorem d_Mo_match_45 : decode cd_Mo_match 45 = .ok (.iload 5, 2) := by decide +kernel
theorem d_Mo_match_47 : decode cd_Mo_match 47 = .ok (.isub, 1) := by decide +kernel
theorem d_Mo_match_48 : decode cd_Mo_match 48 = .ok (.ldc 81, 2) := by decide +kernel
theorem d_Mo_match_50 : decode cd_Mo_match 50 = .ok (.if_icmp .gt 123, 3) := by decide +kernel
theorem d_Mo_match_53 : decode cd_Mo_match 53 = .ok (.aload_n 0, 1) := by decide +kernel
theorem d_Mo_match_54 : decode cd_Mo_match 54 = .ok (.iload 5, 2) := by decide +kernel
theorem d_Mo_match_56 : decode cd_Mo_match 56 = .ok (.iload_n 1, 1) := by decide +kernel
theorem d_Mo_match_57 : decode cd_Mo_match 57 = .ok (.iload_n 3, 1) := by decide +kernel
theorem d_Mo_match_58 : decode cd_Mo_match 58 = .ok (.invokevirtual 82, 3) := by decide +kernel
theorem d_Mo_match_61 : decode cd_Mo_match 61 = .ok (.istore 6, 2) := by decide +kernel
theorem d_Mo_match_63 : decode cd_Mo_match 63 = .ok (.iload_n 2, 1) := by decide +kernel
theorem d_Mo_match_64 : decode cd_Mo_match 64 = .ok (.ifCond .ne 22, 3) := by decide +kernel
theorem d_Mo_match_67 : decode cd_Mo_match 67 = .ok (.iload 4, 2) := by decide +kernel
theorem d_Mo_match_69 : decode cd_Mo_match 69 = .ok (.ifCond .ne 13, 3) := by decide +kernel
theorem d_Mo_match_72 : decode cd_Mo_match 72 = .ok (.iload 6, 2) := by decide +kernel
theorem d_Mo_match_74 : decode cd_Mo_match 74 = .ok (.iconst 4, 1) := by decide +kernel
theorem d_Mo_match_75 : decode cd_Mo_match 75 = .ok (.if_icmp .lt 7, 3) := by decide +kernel
theorem d_Mo_match_78 : decode cd_Mo_match 78 = .ok (.iconst 1, 1) := by decide +kernel
theorem d_Mo_match_79 : decode cd_Mo_match 79 = .ok (.goto 68, 3) := by decide +kernel
theorem d_Mo_match_82 : decode cd_Mo_match 82 = .ok (.iconst 0, 1) := by decide +kernel
theorem d_Mo_match_83 : decode cd_Mo_match 83 = .ok (.goto 64, 3) := by decide +kernel
theorem d_Mo_match_86 : decode cd_Mo_match 86 = .ok (.iload_n 2, 1) := by decide +kernel
theorem d_Mo_match_87 : decode cd_Mo_match 87 = .ok (.iconst 1, 1) := by decide +kernel
theorem d_Mo_match_88 : decode cd_Mo_match 88 = .ok (.if_icmp .ne 41, 3) := by decide +kernel
theorem d_Mo_match_91 : decode cd_Mo_match 91 = .ok (.iload 4, 2) := by decide +kernel
theorem d_Mo_match_93 : decode cd_Mo_match 93 = .ok (.ifCond .ne 9, 3) := by decide +kernel
theorem d_Mo_match_96 : decode cd_Mo_match 96 = .ok (.iload 6, 2) := by decide +kernel
theorem d_Mo_match_98 : decode cd_Mo_match 98 = .ok (.iconst 4, 1) := by decide +kernel
theorem d_Mo_match_99 : decode cd_Mo_match 99 = .ok (.if_icmp .ge 22, 3) := by decide +kernel
theorem d_Mo_match_102 : decode cd_Mo_match 102 = .ok (.iload 4, 2) := by decide +kernel
theorem d_Mo_match_104 : decode cd_Mo_match 104 = .ok (.ifCond .le 21, 3) := by decide +kernel
theorem d_Mo_match_107 : decode cd_Mo_match 107 = .ok (.iload 4, 2) := by decide +kernel
theorem d_Mo_match_109 : decode cd_Mo_match 109 = .ok (.bipush 8, 2) := by decide +kernel
theorem d_Mo_match_111 : decode cd_Mo_match 111 = .ok (.if_icmp .ge 14, 3) := by decide +kernel
theorem d_Mo_match_114 : decode cd_Mo_match 114 = .ok (.iload 6, 2) := by decide +kernel
theorem d_Mo_match_116 : decode cd_Mo_match 116 = .ok (.bipush 8, 2) := by decide +kernel
theorem d_Mo_match_118 : decode cd_Mo_match 118 = .ok (.if_icmp .lt 7, 3) := by decide +kernel
theorem d_Mo_match_121 : decode cd_Mo_match 121 = .ok (.iconst 1, 1) := by decide +kernel
theorem d_Mo_match_122 : decode cd_Mo_match 122 = .ok (.goto 25, 3) := by decide +kernel
theorem d_Mo_match_125 : decode cd_Mo_match 125 = .ok (.iconst 0, 1) := by decide +kernel
theorem d_Mo_match_126 : decode cd_Mo_match 126 = .ok (.goto 21, 3) := by decide +kernel
theorem d_Mo_match_129 : decode cd_Mo_match 129 = .ok (.iload 6, 2) := by decide +kernel
theorem d_Mo_match_131 : decode cd_Mo_match 131 = .ok (.iconst 4, 1) := by decide +kernel
theorem d_Mo_match_132 : decode cd_Mo_match 132 = .ok (.if_icmp .lt 14, 3) := by decide +kernel
theorem d_Mo_match_135 : decode cd_Mo_match 135 = .ok (.iload 6, 2) := by decide +kernel
theorem d_Mo_match_137 : decode cd_Mo_match 137 = .ok (.iload 4, 2) := by decide +kernel
theorem d_Mo_match_139 : decode cd_Mo_match 139 = .ok (.if_icmp .le 7, 3) := by decide +kernel
theorem d_Mo_match_142 : decode cd_Mo_match 142 = .ok (.iconst 1, 1) := by decide +kernel
theorem d_Mo_match_143 : decode cd_Mo_match 143 = .ok (.goto 4, 3) := by decide +kernel
theorem d_Mo_match_146 : decode cd_Mo_match 146 = .ok (.iconst 0, 1) := by decide +kernel
theorem d_Mo_match_147 : decode cd_Mo_match 147 = .ok (.istore 7, 2) := by decide +kernel
theorem d_Mo_match_149 : decode cd_Mo_match 149 = .ok (.iload 7, 2) := by decide +kernel
theorem d_Mo_match_151 : decode cd_Mo_match 151 = .ok (.ifCond .ne 6, 3) := by decide +kernel
theorem d_Mo_match_154 : decode cd_Mo_match 154 = .ok (.goto 13, 3) := by decide +kernel
theorem d_Mo_match_157 : decode cd_Mo_match 157 = .ok (.iload 6, 2) := by decide +kernel
theorem d_Mo_match_159 : decode cd_Mo_match 159 = .ok (.istore 4, 2) := by decide +kernel
theorem d_Mo_match_161 : decode cd_Mo_match 161 = .ok (.aload_n 0, 1) := by decide +kernel
theorem d_Mo_match_162 : decode cd_Mo_match 162 = .ok (.iload 5, 2) := by decide +kernel
theorem d_Mo_match_164 : decode cd_Mo_match 164 = .ok (.putfield 86, 3) := by decide +kernel
theorem d_Mo_match_167 : decode cd_Mo_match 167 = .ok (.iinc 5 (-1), 3) := by decide +kernel
theorem d_Mo_match_170 : decode cd_Mo_match 170 = .ok (.goto (-131), 3) := by decide +kernel
theorem d_Mo_match_173 : decode cd_Mo_match 173 = .ok (.iload 4, 2) := by decide +kernel
theorem d_Mo_match_175 : decode cd_Mo_match 175 = .ok (.ireturn, 1) := by decide +kernel
theorem d_Mo_alike_0 : decode cd_Mo_alike 0 = .ok (.iconst 0, 1) := by decide +kernel
theorem d_Mo_alike_1 : decode cd_Mo_alike 1 = .ok (.istore 4, 2) := by decide +kernel
theorem d_Mo_alike_3 : decode cd_Mo_alike 3 = .ok (.iload 4, 2) := by decide +kernel
theorem d_Mo_alike_5 : decode cd_Mo_alike 5 = .ok (.iload_n 3, 1) := by decide +kernel
theorem d_Mo_alike_6 : decode cd_Mo_alike 6 = .ok (.if_icmp .ge 30, 3) := by decide +kernel
theorem d_Mo_alike_9 : decode cd_Mo_alike 9 = .ok (.aload_n 0, 1) := by decide +kernel
theorem d_Mo_alike_10 : decode cd_Mo_alike 10 = .ok (.getfield 19, 3) := by decide +kernel
theorem d_Mo_alike_13 : decode cd_Mo_alike 13 = .ok (.iload_n 1, 1) := by decide +kernel
theorem d_Mo_alike_14 : decode cd_Mo_alike 14 = .ok (.iload 4, 2) := by decide +kernel
theorem d_Mo_alike_16 : decode cd_Mo_alike 16 = .ok (.iadd, 1) := by decide +kernel
theorem d_Mo_alike_17 : decode cd_Mo_alike 17 = .ok (.iaload, 1) := by decide +kernel
theorem d_Mo_alike_18 : decode cd_Mo_alike 18 = .ok (.aload_n 0, 1) := by decide +kernel
theorem d_Mo_alike_19 : decode cd_Mo_alike 19 = .ok (.getfield 19, 3) := by decide +kernel
theorem d_Mo_alike_22 : decode cd_Mo_alike 22 = .ok (.iload_n 2, 1) := by decide +kernel
theorem d_Mo_alike_23 : decode cd_Mo_alike 23 = .ok (.iload 4, 2) := by decide +kernel
theorem d_Mo_alike_25 : decode cd_Mo_alike 25 = .ok (.iadd, 1) := by decide +kernel
theorem d_Mo_alike_26 : decode cd_Mo_alike 26 = .ok (.iaload, 1) := by decide +kernel
theorem d_Mo_alike_27 : decode cd_Mo_alike 27 = .ok (.if_icmp .ne 9, 3) := by decide +kernel
theorem d_Mo_alike_30 : decode cd_Mo_alike 30 = .ok (.iinc 4 1, 3) := by decide +kernel
theorem d_Mo_alike_33 : decode cd_Mo_alike 33 = .ok (.goto (-30), 3) := by decide +kernel
theorem d_Mo_alike_36 : decode cd_Mo_alike 36 = .ok (.iload 4, 2) := by decide +kernel
theorem d_Mo_alike_38 : decode cd_Mo_alike 38 = .ok (.ireturn, 1) := by decide +kernel
theorem d_Mo_sequence_0 : decode cd_Mo_sequence 0 = .ok (.iload_n 2, 1) := by decide +kernel
theorem d_Mo_sequence_1 : decode cd_Mo_sequence 1 = .ok (.iload_n 1, 1) := by decide +kernel
theorem d_Mo_sequence_2 : decode cd_Mo_sequence 2 = .ok (.isub, 1) := by decide +kernel
theorem d_Mo_sequence_3 : decode cd_Mo_sequence 3 = .ok (.istore 5, 2) := by decide +kernel
theorem d_Mo_sequence_5 : decode cd_Mo_sequence 5 = .ok (.iload_n 3, 1) := by decide +kernel
theorem d_Mo_sequence_6 : decode cd_Mo_sequence 6 = .ok (.iconst 4, 1) := by decide +kernel
theorem d_Mo_sequence_7 : decode cd_Mo_sequence 7 = .ok (.isub, 1) := by decide +kernel
theorem d_Mo_sequence_8 : decode cd_Mo_sequence 8 = .ok (.istore 6, 2) := by decide +kernel
theorem d_Mo_sequence_10 : decode cd_Mo_sequence 10 = .ok (.aload_n 0, 1) := by decide +kernel
theorem d_Mo_sequence_11 : decode cd_Mo_sequence 11 = .ok (.iload 5, 2) := by decide +kernel
theorem d_Mo_sequence_13 : decode cd_Mo_sequence 13 = .ok (.bipush 15, 2) := by decide +kernel
theorem d_Mo_sequence_15 : decode cd_Mo_sequence 15 = .ok (.if_icmp .le 8, 3) := by decide +kernel
theorem d_Mo_sequence_18 : decode cd_Mo_sequence 18 = .ok (.bipush 15, 2) := by decide +kernel
theorem d_Mo_sequence_20 : decode cd_Mo_sequence 20 = .ok (.goto 5, 3) := by decide +kernel
theorem d_Mo_sequence_23 : decode cd_Mo_sequence 23 = .ok (.iload 5, 2) := by decide +kernel
theorem d_Mo_sequence_25 : decode cd_Mo_sequence 25 = .ok (.bipush 16, 2) := by decide +kernel
theorem d_Mo_sequence_27 : decode cd_Mo_sequence 27 = .ok (.imul, 1) := by decide +kernel
theorem d_Mo_sequence_28 : decode cd_Mo_sequence 28 = .ok (.iload_n 3, 1) := by decide +kernel
theorem d_Mo_sequence_29 : decode cd_Mo_sequence 29 = .ok (.ifCond .ne 7, 3) := by decide +kernel
theorem d_Mo_sequence_32 : decode cd_Mo_sequence 32 = .ok (.iconst 0, 1) := by decide +kernel
theorem d_Mo_sequence_33 : decode cd_Mo_sequence 33 = .ok (.goto 17, 3) := by decide +kernel
theorem d_Mo_sequence_36 : decode cd_Mo_sequence 36 = .ok (.iload 6, 2) := by decide +kernel
theorem d_Mo_sequence_38 : decode cd_Mo_sequence 38 = .ok (.bipush 15, 2) := by decide +kernel
theorem d_Mo_sequence_40 : decode cd_Mo_sequence 40 = .ok (.if_icmp .le 8, 3) := by decide +kernel
theorem d_Mo_sequence_43 : decode cd_Mo_sequence 43 = .ok (.bipush 15, 2) := by decide +kernel
theorem d_Mo_sequence_45 : decode cd_Mo_sequence 45 = .ok (.goto 5, 3) := by decide +kernel
theorem d_Mo_sequence_48 : decode cd_Mo_sequence 48 = .ok (.iload 6, 2) := by decide +kernel
theorem d_Mo_sequence_50 : decode cd_Mo_sequence 50 = .ok (.iadd, 1) := by decide +kernel
theorem d_Mo_sequence_51 : decode cd_Mo_sequence 51 = .ok (.invokevirtual 96, 3) := by decide +kernel
theorem d_Mo_sequence_54 : decode cd_Mo_sequence 54 = .ok (.aload_n 0, 1) := by decide +kernel
theorem d_Mo_sequence_55 : decode cd_Mo_sequence 55 = .ok (.iload 5, 2) := by decide +kernel
theorem d_Mo_sequence_57 : decode cd_Mo_sequence 57 = .ok (.invokevirtual 100, 3) := by decide +kernel
theorem d_Mo_sequence_60 : decode cd_Mo_sequence 60 = .ok (.iload_n 1, 1) := by decide +kernel
theorem d_Mo_sequence_61 : decode cd_Mo_sequence 61 = .ok (.istore 7, 2) := by decide +kernel
theorem d_Mo_sequence_63 : decode cd_Mo_sequence 63 = .ok (.iload 7, 2) := by decide +kernel
theorem d_Mo_sequence_65 : decode cd_Mo_sequence 65 = .ok (.iload_n 2, 1) := by decide +kernel
theorem d_Mo_sequence_66 : decode cd_Mo_sequence 66 = .ok (.if_icmp .ge 20, 3) := by decide +kernel
theorem d_Mo_sequence_69 : decode cd_Mo_sequence 69 = .ok (.aload_n 0, 1) := by decide +kernel
theorem d_Mo_sequence_70 : decode cd_Mo_sequence 70 = .ok (.aload_n 0, 1) := by decide +kernel
theorem d_Mo_sequence_71 : decode cd_Mo_sequence 71 = .ok (.getfield 19, 3) := by decide +kernel
theorem d_Mo_sequence_74 : decode cd_Mo_sequence 74 = .ok (.iload 7, 2) := by decide +kernel
theorem d_Mo_sequence_76 : decode cd_Mo_sequence 76 = .ok (.iaload, 1) := by decide +kernel
theorem d_Mo_sequence_77 : decode cd_Mo_sequence 77 = .ok (.invokevirtual 96, 3) := by decide +kernel
theorem d_Mo_sequence_80 : decode cd_Mo_sequence 80 = .ok (.iinc 7 1, 3) := by decide +kernel
theorem d_Mo_sequence_83 : decode cd_Mo_sequence 83 = .ok (.goto (-20), 3) := by decide +kernel
theorem d_Mo_sequence_86 : decode cd_Mo_sequence 86 = .ok (.iload_n 3, 1) := by decide +kernel
theorem d_Mo_sequence_87 : decode cd_Mo_sequence 87 = .ok (.ifCond .ne 4, 3) := by decide +kernel
theorem d_Mo_sequence_90 : decode cd_Mo_sequence 90 = .ok (.return_, 1) := by decide +kernel
theorem d_Mo_sequence_91 : decode cd_Mo_sequence 91 = .ok (.aload_n 0, 1) := by decide +kernel
theorem d_Mo_sequence_92 : decode cd_Mo_sequence 92 = .ok (.iload 4, 2) := by decide +kernel
theorem d_Mo_sequence_94 : decode cd_Mo_sequence 94 = .ok (.sipush 256, 3) := by decide +kernel
theorem d_Mo_sequence_97 : decode cd_Mo_sequence 97 = .ok (.irem, 1) := by decide +kernel
theorem d_Mo_sequence_98 : decode cd_Mo_sequence 98 = .ok (.invokevirtual 96, 3) := by decide +kernel
theorem d_Mo_sequence_101 : decode cd_Mo_sequence 101 = .ok (.aload_n 0, 1) := by decide +kernel
theorem d_Mo_sequence_102 : decode cd_Mo_sequence 102 = .ok (.iload 4, 2) := by decide +kernel
theorem d_Mo_sequence_104 : decode cd_Mo_sequence 104 = .ok (.sipush 256, 3) := by decide +kernel
theorem d_Mo_sequence_107 : decode cd_Mo_sequence 107 = .ok (.idiv, 1) := by decide +kernel
theorem d_Mo_sequence_108 : decode cd_Mo_sequence 108 = .ok (.invokevirtual 96, 3) := by decide +kernel
theorem d_Mo_sequence_111 : decode cd_Mo_sequence 111 = .ok (.aload_n 0, 1) := by decide +kernel
theorem d_Mo_sequence_112 : decode cd_Mo_sequence 112 = .ok (.iload 6, 2) := by decide +kernel
theorem d_Mo_sequence_114 : decode cd_Mo_sequence 114 = .ok (.invokevirtual 100, 3) := by decide +kernel
theorem d_Mo_sequence_117 : decode cd_Mo_sequence 117 = .ok (.return_, 1) := by decide +kernel
theorem d_Mo_say_0 : decode cd_Mo_say 0 = .ok (.aload_n 0, 1) := by decide +kernel
theorem d_Mo_say_1 : decode cd_Mo_say 1 = .ok (.getfield 93, 3) := by decide +kernel
theorem d_Mo_say_4 : decode cd_Mo_say 4 = .ok (.sipush 9000, 3) := by decide +kernel
theorem d_Mo_say_7 : decode cd_Mo_say 7 = .ok (.if_icmp .ge 13, 3) := by decide +kernel
theorem d_Mo_say_10 : decode cd_Mo_say 10 = .ok (.aload_n 0, 1) := by decide +kernel
theorem d_Mo_say_11 : decode cd_Mo_say 11 = .ok (.getfield 25, 3) := by decide +kernel
theorem d_Mo_say_14 : decode cd_Mo_say 14 = .ok (.aload_n 0, 1) := by decide +kernel
theorem d_Mo_say_15 : decode cd_Mo_say 15 = .ok (.getfield 93, 3) := by decide +kernel
theorem d_Mo_say_18 : decode cd_Mo_say 18 = .ok (.iload_n 1, 1) := by decide +kernel
theorem d_Mo_say_19 : decode cd_Mo_say 19 = .ok (.iastore, 1) := by decide +kernel
theorem d_Mo_say_20 : decode cd_Mo_say 20 = .ok (.aload_n 0, 1) := by decide +kernel
theorem d_Mo_say_21 : decode cd_Mo_say 21 = .ok (.dup, 1) := by decide +kernel
theorem d_Mo_say_22 : decode cd_Mo_say 22 = .ok (.getfield 93, 3) := by decide +kernel
theorem d_Mo_say_25 : decode cd_Mo_say 25 = .ok (.iconst 1, 1) := by decide +kernel
theorem d_Mo_say_26 : decode cd_Mo_say 26 = .ok (.iadd, 1) := by decide +kernel
theorem d_Mo_say_27 : decode cd_Mo_say 27 = .ok (.putfield 93, 3) := by decide +kernel
theorem d_Mo_say_30 : decode cd_Mo_say 30 = .ok (.return_, 1) := by decide +kernel
theorem d_Mo_added_0 : decode cd_Mo_added 0 = .ok (.iload_n 1, 1) := by decide +kernel
theorem d_Mo_added_1 : decode cd_Mo_added 1 = .ok (.bipush 15, 2) := by decide +kernel
theorem d_Mo_added_3 : decode cd_Mo_added 3 = .ok (.isub, 1) := by decide +kernel
theorem d_Mo_added_4 : decode cd_Mo_added 4 = .ok (.istore_n 2, 1) := by decide +kernel
theorem d_Mo_added_5 : decode cd_Mo_added 5 = .ok (.iload_n 2, 1) := by decide +kernel
theorem d_Mo_added_6 : decode cd_Mo_added 6 = .ok (.sipush 255, 3) := by decide +kernel
theorem d_Mo_added_9 : decode cd_Mo_added 9 = .ok (.if_icmp .lt 19, 3) := by decide +kernel
theorem d_Mo_added_12 : decode cd_Mo_added 12 = .ok (.aload_n 0, 1) := by decide +kernel
theorem d_Mo_added_13 : decode cd_Mo_added 13 = .ok (.sipush 255, 3) := by decide +kernel
theorem d_Mo_added_16 : decode cd_Mo_added 16 = .ok (.invokevirtual 96, 3) := by decide +kernel
theorem d_Mo_added_19 : decode cd_Mo_added 19 = .ok (.iinc 2 (-255), 6) := by decide +kernel
theorem d_Mo_added_25 : decode cd_Mo_added 25 = .ok (.goto (-20), 3) := by decide +kernel
theorem d_Mo_added_28 : decode cd_Mo_added 28 = .ok (.iload_n 2, 1) := by decide +kernel
theorem d_Mo_added_29 : decode cd_Mo_added 29 = .ok (.ifCond .lt 8, 3) := by decide +kernel
theorem d_Mo_added_32 : decode cd_Mo_added 32 = .ok (.aload_n 0, 1) := by decide +kernel
theorem d_Mo_added_33 : decode cd_Mo_added 33 = .ok (.iload_n 2, 1) := by decide +kernel
theorem d_Mo_added_34 : decode cd_Mo_added 34 = .ok (.invokevirtual 96, 3) := by decide +kernel
theorem d_Mo_added_37 : decode cd_Mo_added 37 = .ok (.return_, 1) := by decide +kernel
theorem d_Mo_show_0 : decode cd_Mo_show 0 = .ok (.iload_n 2, 1) := by decide +kernel
theorem d_Mo_show_1 : decode cd_Mo_show 1 = .ok (.sipush 8000, 3) := by decide +kernel
theorem d_Mo_show_4 : decode cd_Mo_show 4 = .ok (.if_icmp .le 5, 3) := by decide +kernel
theorem d_Mo_show_7 : decode cd_Mo_show 7 = .ok (.iconst (-1), 1) := by decide +kernel
theorem d_Mo_show_8 : decode cd_Mo_show 8 = .ok (.ireturn, 1) := by decide +kernel
theorem d_Mo_show_9 : decode cd_Mo_show 9 = .ok (.iconst 0, 1) := by decide +kernel
theorem d_Mo_show_10 : decode cd_Mo_show 10 = .ok (.istore_n 3, 1) := by decide +kernel
theorem d_Mo_show_11 : decode cd_Mo_show 11 = .ok (.iload_n 3, 1) := by decide +kernel
theorem d_Mo_show_12 : decode cd_Mo_show 12 = .ok (.iload_n 2, 1) := by decide +kernel
theorem d_Mo_show_13 : decode cd_Mo_show 13 = .ok (.if_icmp .ge 18, 3) := by decide +kernel
theorem d_Mo_show_16 : decode cd_Mo_show 16 = .ok (.aload_n 0, 1) := by decide +kernel
theorem d_Mo_show_17 : decode cd_Mo_show 17 = .ok (.getfield 13, 3) := by decide +kernel
theorem d_Mo_show_20 : decode cd_Mo_show 20 = .ok (.iload_n 3, 1) := by decide +kernel
theorem d_Mo_show_21 : decode cd_Mo_show 21 = .ok (.aload_n 1, 1) := by decide +kernel
theorem d_Mo_show_22 : decode cd_Mo_show 22 = .ok (.iload_n 3, 1) := by decide +kernel
theorem d_Mo_show_23 : decode cd_Mo_show 23 = .ok (.iaload, 1) := by decide +kernel
theorem d_Mo_show_24 : decode cd_Mo_show 24 = .ok (.iastore, 1) := by decide +kernel
theorem d_Mo_show_25 : decode cd_Mo_show 25 = .ok (.iinc 3 1, 3) := by decide +kernel
theorem d_Mo_show_28 : decode cd_Mo_show 28 = .ok (.goto (-17), 3) := by decide +kernel
theorem d_Mo_show_31 : decode cd_Mo_show 31 = .ok (.aload_n 0, 1) := by decide +kernel
theorem d_Mo_show_32 : decode cd_Mo_show 32 = .ok (.iload_n 2, 1) := by decide +kernel
theorem d_Mo_show_33 : decode cd_Mo_show 33 = .ok (.putfield 44, 3) := by decide +kernel
theorem d_Mo_show_36 : decode cd_Mo_show 36 = .ok (.iload_n 2, 1) := by decide +kernel
theorem d_Mo_show_37 : decode cd_Mo_show 37 = .ok (.ireturn, 1) := by decide +kernel
