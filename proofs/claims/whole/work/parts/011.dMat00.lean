theorem d_Mat_init_0 : decode cd_Mat_init 0 = .ok (.aload_n 0, 1) := by decide +kernel
theorem d_Mat_init_1 : decode cd_Mat_init 1 = .ok (.invokespecial 3, 3) := by decide +kernel
theorem d_Mat_init_4 : decode cd_Mat_init 4 = .ok (.aload_n 0, 1) := by decide +kernel
theorem d_Mat_init_5 : decode cd_Mat_init 5 = .ok (.new 9, 3) := by decide +kernel
theorem d_Mat_init_8 : decode cd_Mat_init 8 = .ok (.dup, 1) := by decide +kernel
theorem d_Mat_init_9 : decode cd_Mat_init 9 = .ok (.sipush 16000, 3) := by decide +kernel
theorem d_Mat_init_12 : decode cd_Mat_init 12 = .ok (.invokespecial 11, 3) := by decide +kernel
theorem d_Mat_init_15 : decode cd_Mat_init 15 = .ok (.putfield 14, 3) := by decide +kernel
theorem d_Mat_init_18 : decode cd_Mat_init 18 = .ok (.aload_n 0, 1) := by decide +kernel
theorem d_Mat_init_19 : decode cd_Mat_init 19 = .ok (.sipush 4096, 3) := by decide +kernel
theorem d_Mat_init_22 : decode cd_Mat_init 22 = .ok (.newarray .int, 2) := by decide +kernel
theorem d_Mat_init_24 : decode cd_Mat_init 24 = .ok (.putfield 20, 3) := by decide +kernel
theorem d_Mat_init_27 : decode cd_Mat_init 27 = .ok (.aload_n 0, 1) := by decide +kernel
theorem d_Mat_init_28 : decode cd_Mat_init 28 = .ok (.sipush 16000, 3) := by decide +kernel
theorem d_Mat_init_31 : decode cd_Mat_init 31 = .ok (.newarray .int, 2) := by decide +kernel
theorem d_Mat_init_33 : decode cd_Mat_init 33 = .ok (.putfield 24, 3) := by decide +kernel
theorem d_Mat_init_36 : decode cd_Mat_init 36 = .ok (.return_, 1) := by decide +kernel
theorem d_Mat_data_0 : decode cd_Mat_data 0 = .ok (.aload_n 0, 1) := by decide +kernel
theorem d_Mat_data_1 : decode cd_Mat_data 1 = .ok (.getfield 14, 3) := by decide +kernel
theorem d_Mat_data_4 : decode cd_Mat_data 4 = .ok (.areturn, 1) := by decide +kernel
theorem d_Mat_startOver_0 : decode cd_Mat_startOver 0 = .ok (.aload_n 0, 1) := by decide +kernel
theorem d_Mat_startOver_1 : decode cd_Mat_startOver 1 = .ok (.getfield 14, 3) := by decide +kernel
theorem d_Mat_startOver_4 : decode cd_Mat_startOver 4 = .ok (.aload_n 1, 1) := by decide +kernel
theorem d_Mat_startOver_5 : decode cd_Mat_startOver 5 = .ok (.invokevirtual 31, 3) := by decide +kernel
theorem d_Mat_startOver_8 : decode cd_Mat_startOver 8 = .ok (.aload_n 0, 1) := by decide +kernel
theorem d_Mat_startOver_9 : decode cd_Mat_startOver 9 = .ok (.getfield 20, 3) := by decide +kernel
theorem d_Mat_startOver_12 : decode cd_Mat_startOver 12 = .ok (.iconst (-1), 1) := by decide +kernel
theorem d_Mat_startOver_13 : decode cd_Mat_startOver 13 = .ok (.invokestatic 35, 3) := by decide +kernel
theorem d_Mat_startOver_16 : decode cd_Mat_startOver 16 = .ok (.aload_n 0, 1) := by decide +kernel
theorem d_Mat_startOver_17 : decode cd_Mat_startOver 17 = .ok (.iconst 0, 1) := by decide +kernel
theorem d_Mat_startOver_18 : decode cd_Mat_startOver 18 = .ok (.putfield 41, 3) := by decide +kernel
theorem d_Mat_startOver_21 : decode cd_Mat_startOver 21 = .ok (.return_, 1) := by decide +kernel
theorem d_Mat_look_0 : decode cd_Mat_look 0 = .ok (.aload_n 0, 1) := by decide +kernel
theorem d_Mat_look_1 : decode cd_Mat_look 1 = .ok (.iload_n 1, 1) := by decide +kernel
theorem d_Mat_look_2 : decode cd_Mat_look 2 = .ok (.invokevirtual 63, 3) := by decide +kernel
theorem d_Mat_look_5 : decode cd_Mat_look 5 = .ok (.aload_n 0, 1) := by decide +kernel
theorem d_Mat_look_6 : decode cd_Mat_look 6 = .ok (.iload_n 1, 1) := by decide +kernel
theorem d_Mat_look_7 : decode cd_Mat_look 7 = .ok (.iload_n 2, 1) := by decide +kernel
theorem d_Mat_look_8 : decode cd_Mat_look 8 = .ok (.iload 4, 2) := by decide +kernel
theorem d_Mat_look_10 : decode cd_Mat_look 10 = .ok (.invokevirtual 66, 3) := by decide +kernel
theorem d_Mat_look_13 : decode cd_Mat_look 13 = .ok (.iload 4, 2) := by decide +kernel
theorem d_Mat_look_15 : decode cd_Mat_look 15 = .ok (.iconst 3, 1) := by decide +kernel
theorem d_Mat_look_16 : decode cd_Mat_look 16 = .ok (.if_icmp .ne 15, 3) := by decide +kernel
theorem d_Mat_look_19 : decode cd_Mat_look 19 = .ok (.aload_n 0, 1) := by decide +kernel
theorem d_Mat_look_20 : decode cd_Mat_look 20 = .ok (.getfield 70, 3) := by decide +kernel
theorem d_Mat_look_23 : decode cd_Mat_look 23 = .ok (.ifCond .eq 8, 3) := by decide +kernel
theorem d_Mat_look_26 : decode cd_Mat_look 26 = .ok (.iload_n 1, 1) := by decide +kernel
theorem d_Mat_look_27 : decode cd_Mat_look 27 = .ok (.iload_n 3, 1) := by decide +kernel
theorem d_Mat_look_28 : decode cd_Mat_look 28 = .ok (.if_icmp .lt 8, 3) := by decide +kernel
theorem d_Mat_look_31 : decode cd_Mat_look 31 = .ok (.aload_n 0, 1) := by decide +kernel
theorem d_Mat_look_32 : decode cd_Mat_look 32 = .ok (.getfield 70, 3) := by decide +kernel
theorem d_Mat_look_35 : decode cd_Mat_look 35 = .ok (.ireturn, 1) := by decide +kernel
theorem d_Mat_look_36 : decode cd_Mat_look 36 = .ok (.aload_n 0, 1) := by decide +kernel
theorem d_Mat_look_37 : decode cd_Mat_look 37 = .ok (.getfield 70, 3) := by decide +kernel
theorem d_Mat_look_40 : decode cd_Mat_look 40 = .ok (.istore 5, 2) := by decide +kernel
theorem d_Mat_look_42 : decode cd_Mat_look 42 = .ok (.aload_n 0, 1) := by decide +kernel
theorem d_Mat_look_43 : decode cd_Mat_look 43 = .ok (.getfield 27, 3) := by decide +kernel
theorem d_Mat_look_46 : decode cd_Mat_look 46 = .ok (.istore 6, 2) := by decide +kernel
theorem d_Mat_look_48 : decode cd_Mat_look 48 = .ok (.aload_n 0, 1) := by decide +kernel
theorem d_Mat_look_49 : decode cd_Mat_look 49 = .ok (.iload_n 1, 1) := by decide +kernel
theorem d_Mat_look_50 : decode cd_Mat_look 50 = .ok (.iconst 1, 1) := by decide +kernel
theorem d_Mat_look_51 : decode cd_Mat_look 51 = .ok (.iadd, 1) := by decide +kernel
theorem d_Mat_look_52 : decode cd_Mat_look 52 = .ok (.invokevirtual 63, 3) := by decide +kernel
theorem d_Mat_look_55 : decode cd_Mat_look 55 = .ok (.aload_n 0, 1) := by decide +kernel
theorem d_Mat_look_56 : decode cd_Mat_look 56 = .ok (.iload_n 1, 1) := by decide +kernel
theorem d_Mat_look_57 : decode cd_Mat_look 57 = .ok (.iconst 1, 1) := by decide +kernel
theorem d_Mat_look_58 : decode cd_Mat_look 58 = .ok (.iadd, 1) := by decide +kernel
theorem d_Mat_look_59 : decode cd_Mat_look 59 = .ok (.iload_n 2, 1) := by decide +kernel
theorem d_Mat_look_60 : decode cd_Mat_look 60 = .ok (.iload 4, 2) := by decide +kernel
theorem d_Mat_look_62 : decode cd_Mat_look 62 = .ok (.invokevirtual 66, 3) := by decide +kernel
theorem d_Mat_look_65 : decode cd_Mat_look 65 = .ok (.aload_n 0, 1) := by decide +kernel
theorem d_Mat_look_66 : decode cd_Mat_look 66 = .ok (.aload_n 0, 1) := by decide +kernel
theorem d_Mat_look_67 : decode cd_Mat_look 67 = .ok (.getfield 70, 3) := by decide +kernel
theorem d_Mat_look_70 : decode cd_Mat_look 70 = .ok (.iload 5, 2) := by decide +kernel
theorem d_Mat_look_72 : decode cd_Mat_look 72 = .ok (.if_icmp .le 7, 3) := by decide +kernel
theorem d_Mat_look_75 : decode cd_Mat_look 75 = .ok (.iconst 0, 1) := by decide +kernel
theorem d_Mat_look_76 : decode cd_Mat_look 76 = .ok (.goto 5, 3) := by decide +kernel
theorem d_Mat_look_79 : decode cd_Mat_look 79 = .ok (.iload 5, 2) := by decide +kernel
theorem d_Mat_look_81 : decode cd_Mat_look 81 = .ok (.putfield 70, 3) := by decide +kernel
theorem d_Mat_look_84 : decode cd_Mat_look 84 = .ok (.aload_n 0, 1) := by decide +kernel
theorem d_Mat_look_85 : decode cd_Mat_look 85 = .ok (.iload 6, 2) := by decide +kernel
theorem d_Mat_look_87 : decode cd_Mat_look 87 = .ok (.putfield 27, 3) := by decide +kernel
theorem d_Mat_look_90 : decode cd_Mat_look 90 = .ok (.aload_n 0, 1) := by decide +kernel
theorem d_Mat_look_91 : decode cd_Mat_look 91 = .ok (.getfield 70, 3) := by decide +kernel
theorem d_Mat_look_94 : decode cd_Mat_look 94 = .ok (.ireturn, 1) := by decide +kernel
theorem d_Mat_chainBelow_0 : decode cd_Mat_chainBelow 0 = .ok (.aload_n 0, 1) := by decide +kernel
theorem d_Mat_chainBelow_1 : decode cd_Mat_chainBelow 1 = .ok (.getfield 41, 3) := by decide +kernel
theorem d_Mat_chainBelow_4 : decode cd_Mat_chainBelow 4 = .ok (.iload_n 1, 1) := by decide +kernel
theorem d_Mat_chainBelow_5 : decode cd_Mat_chainBelow 5 = .ok (.if_icmp .ge 68, 3) := by decide +kernel
theorem d_Mat_chainBelow_8 : decode cd_Mat_chainBelow 8 = .ok (.aload_n 0, 1) := by decide +kernel
theorem d_Mat_chainBelow_9 : decode cd_Mat_chainBelow 9 = .ok (.getfield 41, 3) := by decide +kernel
theorem d_Mat_chainBelow_12 : decode cd_Mat_chainBelow 12 = .ok (.aload_n 0, 1) := by decide +kernel
theorem d_Mat_chainBelow_13 : decode cd_Mat_chainBelow 13 = .ok (.getfield 24, 3) := by decide +kernel
theorem d_Mat_chainBelow_16 : decode cd_Mat_chainBelow 16 = .ok (.arraylength, 1) := by decide +kernel
theorem d_Mat_chainBelow_17 : decode cd_Mat_chainBelow 17 = .ok (.if_icmp .ge 56, 3) := by decide +kernel
theorem d_Mat_chainBelow_20 : decode cd_Mat_chainBelow 20 = .ok (.aload_n 0, 1) := by decide +kernel
theorem d_Mat_chainBelow_21 : decode cd_Mat_chainBelow 21 = .ok (.getfield 14, 3) := by decide +kernel
theorem d_Mat_chainBelow_24 : decode cd_Mat_chainBelow 24 = .ok (.aload_n 0, 1) := by decide +kernel
theorem d_Mat_chainBelow_25 : decode cd_Mat_chainBelow 25 = .ok (.getfield 41, 3) := by decide +kernel
theorem d_Mat_chainBelow_28 : decode cd_Mat_chainBelow 28 = .ok (.invokevirtual 53, 3) := by decide +kernel
theorem d_Mat_chainBelow_31 : decode cd_Mat_chainBelow 31 = .ok (.invokestatic 57, 3) := by decide +kernel
theorem d_Mat_chainBelow_34 : decode cd_Mat_chainBelow 34 = .ok (.istore_n 2, 1) := by decide +kernel
theorem d_Mat_chainBelow_35 : decode cd_Mat_chainBelow 35 = .ok (.aload_n 0, 1) := by decide +kernel
theorem d_Mat_chainBelow_36 : decode cd_Mat_chainBelow 36 = .ok (.getfield 24, 3) := by decide +kernel
theorem d_Mat_chainBelow_39 : decode cd_Mat_chainBelow 39 = .ok (.aload_n 0, 1) := by decide +kernel
theorem d_Mat_chainBelow_40 : decode cd_Mat_chainBelow 40 = .ok (.getfield 41, 3) := by decide +kernel
theorem d_Mat_chainBelow_43 : decode cd_Mat_chainBelow 43 = .ok (.aload_n 0, 1) := by decide +kernel
theorem d_Mat_chainBelow_44 : decode cd_Mat_chainBelow 44 = .ok (.getfield 20, 3) := by decide +kernel
theorem d_Mat_chainBelow_47 : decode cd_Mat_chainBelow 47 = .ok (.iload_n 2, 1) := by decide +kernel
theorem d_Mat_chainBelow_48 : decode cd_Mat_chainBelow 48 = .ok (.iaload, 1) := by decide +kernel
theorem d_Mat_chainBelow_49 : decode cd_Mat_chainBelow 49 = .ok (.iastore, 1) := by decide +kernel
theorem d_Mat_chainBelow_50 : decode cd_Mat_chainBelow 50 = .ok (.aload_n 0, 1) := by decide +kernel
theorem d_Mat_chainBelow_51 : decode cd_Mat_chainBelow 51 = .ok (.getfield 20, 3) := by decide +kernel
theorem d_Mat_chainBelow_54 : decode cd_Mat_chainBelow 54 = .ok (.iload_n 2, 1) := by decide +kernel
theorem d_Mat_chainBelow_55 : decode cd_Mat_chainBelow 55 = .ok (.aload_n 0, 1) := by decide +kernel
theorem d_Mat_chainBelow_56 : decode cd_Mat_chainBelow 56 = .ok (.getfield 41, 3) := by decide +kernel
theorem d_Mat_chainBelow_59 : decode cd_Mat_chainBelow 59 = .ok (.iastore, 1) := by decide +kernel
theorem d_Mat_chainBelow_60 : decode cd_Mat_chainBelow 60 = .ok (.aload_n 0, 1) := by decide +kernel
theorem d_Mat_chainBelow_61 : decode cd_Mat_chainBelow 61 = .ok (.dup, 1) := by decide +kernel
theorem d_Mat_chainBelow_62 : decode cd_Mat_chainBelow 62 = .ok (.getfield 41, 3) := by decide +kernel
theorem d_Mat_chainBelow_65 : decode cd_Mat_chainBelow 65 = .ok (.iconst 1, 1) := by decide +kernel
theorem d_Mat_chainBelow_66 : decode cd_Mat_chainBelow 66 = .ok (.iadd, 1) := by decide +kernel
theorem d_Mat_chainBelow_67 : decode cd_Mat_chainBelow 67 = .ok (.putfield 41, 3) := by decide +kernel
theorem d_Mat_chainBelow_70 : decode cd_Mat_chainBelow 70 = .ok (.goto (-70), 3) := by decide +kernel
theorem d_Mat_chainBelow_73 : decode cd_Mat_chainBelow 73 = .ok (.return_, 1) := by decide +kernel
theorem d_Mat_slot_0 : decode cd_Mat_slot 0 = .ok (.iload_n 0, 1) := by decide +kernel
theorem d_Mat_slot_1 : decode cd_Mat_slot 1 = .ok (.ldc 87, 2) := by decide +kernel
theorem d_Mat_slot_3 : decode cd_Mat_slot 3 = .ok (.imul, 1) := by decide +kernel
theorem d_Mat_slot_4 : decode cd_Mat_slot 4 = .ok (.bipush 20, 2) := by decide +kernel
theorem d_Mat_slot_6 : decode cd_Mat_slot 6 = .ok (.iushr, 1) := by decide +kernel
theorem d_Mat_slot_7 : decode cd_Mat_slot 7 = .ok (.ireturn, 1) := by decide +kernel
theorem d_Mat_find_0 : decode cd_Mat_find 0 = .ok (.aload_n 0, 1) := by decide +kernel
theorem d_Mat_find_1 : decode cd_Mat_find 1 = .ok (.iconst (-1), 1) := by decide +kernel
theorem d_Mat_find_2 : decode cd_Mat_find 2 = .ok (.putfield 27, 3) := by decide +kernel
theorem d_Mat_find_5 : decode cd_Mat_find 5 = .ok (.aload_n 0, 1) := by decide +kernel
theorem d_Mat_find_6 : decode cd_Mat_find 6 = .ok (.iconst 0, 1) := by decide +kernel
theorem d_Mat_find_7 : decode cd_Mat_find 7 = .ok (.putfield 70, 3) := by decide +kernel
theorem d_Mat_find_10 : decode cd_Mat_find 10 = .ok (.iload_n 2, 1) := by decide +kernel
theorem d_Mat_find_11 : decode cd_Mat_find 11 = .ok (.iload_n 1, 1) := by decide +kernel
theorem d_Mat_find_12 : decode cd_Mat_find 12 = .ok (.isub, 1) := by decide +kernel
theorem d_Mat_find_13 : decode cd_Mat_find 13 = .ok (.iload_n 3, 1) := by decide +kernel
theorem d_Mat_find_14 : decode cd_Mat_find 14 = .ok (.invokestatic 73, 3) := by decide +kernel
theorem d_Mat_find_17 : decode cd_Mat_find 17 = .ok (.istore 4, 2) := by decide +kernel
theorem d_Mat_find_19 : decode cd_Mat_find 19 = .ok (.aload_n 0, 1) := by decide +kernel
theorem d_Mat_find_20 : decode cd_Mat_find 20 = .ok (.getfield 20, 3) := by decide +kernel
theorem d_Mat_find_23 : decode cd_Mat_find 23 = .ok (.aload_n 0, 1) := by decide +kernel
theorem d_Mat_find_24 : decode cd_Mat_find 24 = .ok (.getfield 14, 3) := by decide +kernel
theorem d_Mat_find_27 : decode cd_Mat_find 27 = .ok (.iload_n 1, 1) := by decide +kernel
theorem d_Mat_find_28 : decode cd_Mat_find 28 = .ok (.invokevirtual 53, 3) := by decide +kernel
theorem d_Mat_find_31 : decode cd_Mat_find 31 = .ok (.invokestatic 57, 3) := by decide +kernel
theorem d_Mat_find_34 : decode cd_Mat_find 34 = .ok (.iaload, 1) := by decide +kernel
theorem d_Mat_find_35 : decode cd_Mat_find 35 = .ok (.istore 5, 2) := by decide +kernel
theorem d_Mat_find_37 : decode cd_Mat_find 37 = .ok (.iconst 0, 1) := by decide +kernel
theorem d_Mat_find_38 : decode cd_Mat_find 38 = .ok (.istore 6, 2) := by decide +kernel
theorem d_Mat_find_40 : decode cd_Mat_find 40 = .ok (.iload 6, 2) := by decide +kernel
theorem d_Mat_find_42 : decode cd_Mat_find 42 = .ok (.iload_n 1, 1) := by decide +kernel
theorem d_Mat_find_43 : decode cd_Mat_find 43 = .ok (.if_icmp .ge 93, 3) := by decide +kernel
theorem d_Mat_find_46 : decode cd_Mat_find 46 = .ok (.iload 5, 2) := by decide +kernel
theorem d_Mat_find_48 : decode cd_Mat_find 48 = .ok (.ifCond .lt 88, 3) := by decide +kernel
theorem d_Mat_find_51 : decode cd_Mat_find 51 = .ok (.iload 5, 2) := by decide +kernel
theorem d_Mat_find_53 : decode cd_Mat_find 53 = .ok (.aload_n 0, 1) := by decide +kernel
theorem d_Mat_find_54 : decode cd_Mat_find 54 = .ok (.getfield 24, 3) := by decide +kernel
theorem d_Mat_find_57 : decode cd_Mat_find 57 = .ok (.arraylength, 1) := by decide +kernel
theorem d_Mat_find_58 : decode cd_Mat_find 58 = .ok (.if_icmp .ge 78, 3) := by decide +kernel
theorem d_Mat_find_61 : decode cd_Mat_find 61 = .ok (.aload_n 0, 1) := by decide +kernel
theorem d_Mat_find_62 : decode cd_Mat_find 62 = .ok (.getfield 14, 3) := by decide +kernel
theorem d_Mat_find_65 : decode cd_Mat_find 65 = .ok (.iload 5, 2) := by decide +kernel
theorem d_Mat_find_67 : decode cd_Mat_find 67 = .ok (.aload_n 0, 1) := by decide +kernel
theorem d_Mat_find_68 : decode cd_Mat_find 68 = .ok (.getfield 70, 3) := by decide +kernel
theorem d_Mat_find_71 : decode cd_Mat_find 71 = .ok (.iadd, 1) := by decide +kernel
theorem d_Mat_find_72 : decode cd_Mat_find 72 = .ok (.invokevirtual 76, 3) := by decide +kernel
theorem d_Mat_find_75 : decode cd_Mat_find 75 = .ok (.aload_n 0, 1) := by decide +kernel
theorem d_Mat_find_76 : decode cd_Mat_find 76 = .ok (.getfield 14, 3) := by decide +kernel
theorem d_Mat_find_79 : decode cd_Mat_find 79 = .ok (.iload_n 1, 1) := by decide +kernel
theorem d_Mat_find_80 : decode cd_Mat_find 80 = .ok (.aload_n 0, 1) := by decide +kernel
theorem d_Mat_find_81 : decode cd_Mat_find 81 = .ok (.getfield 70, 3) := by decide +kernel
theorem d_Mat_find_84 : decode cd_Mat_find 84 = .ok (.iadd, 1) := by decide +kernel
theorem d_Mat_find_85 : decode cd_Mat_find 85 = .ok (.invokevirtual 76, 3) := by decide +kernel
theorem d_Mat_find_88 : decode cd_Mat_find 88 = .ok (.if_icmp .ne 23, 3) := by decide +kernel
theorem d_Mat_find_91 : decode cd_Mat_find 91 = .ok (.aload_n 0, 1) := by decide +kernel
theorem d_Mat_find_92 : decode cd_Mat_find 92 = .ok (.iload 5, 2) := by decide +kernel
theorem d_Mat_find_94 : decode cd_Mat_find 94 = .ok (.aload_n 0, 1) := by decide +kernel
theorem d_Mat_find_95 : decode cd_Mat_find 95 = .ok (.getfield 14, 3) := by decide +kernel
theorem d_Mat_find_98 : decode cd_Mat_find 98 = .ok (.iload 5, 2) := by decide +kernel
theorem d_Mat_find_100 : decode cd_Mat_find 100 = .ok (.iload_n 1, 1) := by decide +kernel
theorem d_Mat_find_101 : decode cd_Mat_find 101 = .ok (.iload_n 2, 1) := by decide +kernel
theorem d_Mat_find_102 : decode cd_Mat_find 102 = .ok (.invokevirtual 79, 3) := by decide +kernel
theorem d_Mat_find_105 : decode cd_Mat_find 105 = .ok (.iload 4, 2) := by decide +kernel
theorem d_Mat_find_107 : decode cd_Mat_find 107 = .ok (.iload_n 3, 1) := by decide +kernel
theorem d_Mat_find_108 : decode cd_Mat_find 108 = .ok (.invokevirtual 83, 3) := by decide +kernel
theorem d_Mat_find_111 : decode cd_Mat_find 111 = .ok (.aload_n 0, 1) := by decide +kernel
theorem d_Mat_find_112 : decode cd_Mat_find 112 = .ok (.getfield 70, 3) := by decide +kernel
theorem d_Mat_find_115 : decode cd_Mat_find 115 = .ok (.iload 4, 2) := by decide +kernel
theorem d_Mat_find_117 : decode cd_Mat_find 117 = .ok (.if_icmp .lt 4, 3) := by decide +kernel
theorem d_Mat_find_120 : decode cd_Mat_find 120 = .ok (.return_, 1) := by decide +kernel
theorem d_Mat_find_121 : decode cd_Mat_find 121 = .ok (.aload_n 0, 1) := by decide +kernel
theorem d_Mat_find_122 : decode cd_Mat_find 122 = .ok (.getfield 24, 3) := by decide +kernel
theorem d_Mat_find_125 : decode cd_Mat_find 125 = .ok (.iload 5, 2) := by decide +kernel
theorem d_Mat_find_127 : decode cd_Mat_find 127 = .ok (.iaload, 1) := by decide +kernel
theorem d_Mat_find_128 : decode cd_Mat_find 128 = .ok (.istore 5, 2) := by decide +kernel
theorem d_Mat_find_130 : decode cd_Mat_find 130 = .ok (.iinc 6 1, 3) := by decide +kernel
theorem d_Mat_find_133 : decode cd_Mat_find 133 = .ok (.goto (-93), 3) := by decide +kernel
theorem d_Mat_find_136 : decode cd_Mat_find 136 = .ok (.return_, 1) := by decide +kernel
theorem d_Mat_enough_0 : decode cd_Mat_enough 0 = .ok (.iload_n 1, 1) := by decide +kernel
theorem d_Mat_enough_1 : decode cd_Mat_enough 1 = .ok (.iconst 2, 1) := by decide +kernel
theorem d_Mat_enough_2 : decode cd_Mat_enough 2 = .ok (.if_icmp .lt 5, 3) := by decide +kernel
theorem d_Mat_enough_5 : decode cd_Mat_enough 5 = .ok (.iload_n 0, 1) := by decide +kernel
theorem d_Mat_enough_6 : decode cd_Mat_enough 6 = .ok (.ireturn, 1) := by decide +kernel
theorem d_Mat_enough_7 : decode cd_Mat_enough 7 = .ok (.iload_n 1, 1) := by decide +kernel
theorem d_Mat_enough_8 : decode cd_Mat_enough 8 = .ok (.iconst 1, 1) := by decide +kernel
theorem d_Mat_enough_9 : decode cd_Mat_enough 9 = .ok (.if_icmp .ne 14, 3) := by decide +kernel
theorem d_Mat_enough_12 : decode cd_Mat_enough 12 = .ok (.iload_n 0, 1) := by decide +kernel
theorem d_Mat_enough_13 : decode cd_Mat_enough 13 = .ok (.bipush 8, 2) := by decide +kernel
theorem d_Mat_enough_15 : decode cd_Mat_enough 15 = .ok (.if_icmp .lt 8, 3) := by decide +kernel
theorem d_Mat_enough_18 : decode cd_Mat_enough 18 = .ok (.bipush 8, 2) := by decide +kernel
theorem d_Mat_enough_20 : decode cd_Mat_enough 20 = .ok (.goto 4, 3) := by decide +kernel
theorem d_Mat_enough_23 : decode cd_Mat_enough 23 = .ok (.iconst 4, 1) := by decide +kernel
theorem d_Mat_enough_24 : decode cd_Mat_enough 24 = .ok (.ireturn, 1) := by decide +kernel
theorem d_Mat_hold_0 : decode cd_Mat_hold 0 = .ok (.aload_n 0, 1) := by decide +kernel
theorem d_Mat_hold_1 : decode cd_Mat_hold 1 = .ok (.getfield 70, 3) := by decide +kernel
theorem d_Mat_hold_4 : decode cd_Mat_hold 4 = .ok (.ifCond .eq 22, 3) := by decide +kernel
theorem d_Mat_hold_7 : decode cd_Mat_hold 7 = .ok (.iload_n 2, 1) := by decide +kernel
theorem d_Mat_hold_8 : decode cd_Mat_hold 8 = .ok (.iload_n 3, 1) := by decide +kernel
theorem d_Mat_hold_9 : decode cd_Mat_hold 9 = .ok (.if_icmp .ge 17, 3) := by decide +kernel
theorem d_Mat_hold_12 : decode cd_Mat_hold 12 = .ok (.iload 4, 2) := by decide +kernel
theorem d_Mat_hold_14 : decode cd_Mat_hold 14 = .ok (.iconst 2, 1) := by decide +kernel
theorem d_Mat_hold_15 : decode cd_Mat_hold 15 = .ok (.if_icmp .lt 15, 3) := by decide +kernel
theorem d_Mat_hold_18 : decode cd_Mat_hold 18 = .ok (.iload_n 2, 1) := by decide +kernel
theorem d_Mat_hold_19 : decode cd_Mat_hold 19 = .ok (.aload_n 0, 1) := by decide +kernel
theorem d_Mat_hold_20 : decode cd_Mat_hold 20 = .ok (.getfield 70, 3) := by decide +kernel
theorem d_Mat_hold_23 : decode cd_Mat_hold 23 = .ok (.if_icmp .le 7, 3) := by decide +kernel
theorem d_Mat_hold_26 : decode cd_Mat_hold 26 = .ok (.iconst 1, 1) := by decide +kernel
theorem d_Mat_hold_27 : decode cd_Mat_hold 27 = .ok (.goto 4, 3) := by decide +kernel
theorem d_Mat_hold_30 : decode cd_Mat_hold 30 = .ok (.iconst 0, 1) := by decide +kernel
theorem d_Mat_hold_31 : decode cd_Mat_hold 31 = .ok (.istore 5, 2) := by decide +kernel
theorem d_Mat_hold_33 : decode cd_Mat_hold 33 = .ok (.iload_n 2, 1) := by decide +kernel
theorem d_Mat_hold_34 : decode cd_Mat_hold 34 = .ok (.iconst 4, 1) := by decide +kernel
theorem d_Mat_hold_35 : decode cd_Mat_hold 35 = .ok (.if_icmp .lt 18, 3) := by decide +kernel
theorem d_Mat_hold_38 : decode cd_Mat_hold 38 = .ok (.iload 5, 2) := by decide +kernel
theorem d_Mat_hold_40 : decode cd_Mat_hold 40 = .ok (.ifCond .eq 13, 3) := by decide +kernel
theorem d_Mat_hold_43 : decode cd_Mat_hold 43 = .ok (.aload_n 0, 1) := by decide +kernel
theorem d_Mat_hold_44 : decode cd_Mat_hold 44 = .ok (.iload_n 1, 1) := by decide +kernel
theorem d_Mat_hold_45 : decode cd_Mat_hold 45 = .ok (.putfield 27, 3) := by decide +kernel
theorem d_Mat_hold_48 : decode cd_Mat_hold 48 = .ok (.aload_n 0, 1) := by decide +kernel
theorem d_Mat_hold_49 : decode cd_Mat_hold 49 = .ok (.iload_n 2, 1) := by decide +kernel
theorem d_Mat_hold_50 : decode cd_Mat_hold 50 = .ok (.putfield 70, 3) := by decide +kernel
theorem d_Mat_hold_53 : decode cd_Mat_hold 53 = .ok (.return_, 1) := by decide +kernel
theorem d_Mat_source_0 : decode cd_Mat_source 0 = .ok (.aload_n 0, 1) := by decide +kernel
theorem d_Mat_source_1 : decode cd_Mat_source 1 = .ok (.getfield 27, 3) := by decide +kernel
theorem d_Mat_source_4 : decode cd_Mat_source 4 = .ok (.ireturn, 1) := by decide +kernel
theorem d_Mat_cutTo_0 : decode cd_Mat_cutTo 0 = .ok (.iconst 0, 1) := by decide +kernel
theorem d_Mat_cutTo_1 : decode cd_Mat_cutTo 1 = .ok (.iload_n 1, 1) := by decide +kernel
theorem d_Mat_cutTo_2 : decode cd_Mat_cutTo 2 = .ok (.iconst 3, 1) := by decide +kernel
theorem d_Mat_cutTo_3 : decode cd_Mat_cutTo 3 = .ok (.isub, 1) := by decide +kernel
theorem d_Mat_cutTo_4 : decode cd_Mat_cutTo 4 = .ok (.invokestatic 44, 3) := by decide +kernel
theorem d_Mat_cutTo_7 : decode cd_Mat_cutTo 7 = .ok (.istore_n 2, 1) := by decide +kernel
theorem d_Mat_cutTo_8 : decode cd_Mat_cutTo 8 = .ok (.aload_n 0, 1) := by decide +kernel
theorem d_Mat_cutTo_9 : decode cd_Mat_cutTo 9 = .ok (.getfield 41, 3) := by decide +kernel
theorem d_Mat_cutTo_12 : decode cd_Mat_cutTo 12 = .ok (.aload_n 0, 1) := by decide +kernel
theorem d_Mat_cutTo_13 : decode cd_Mat_cutTo 13 = .ok (.getfield 24, 3) := by decide +kernel
theorem d_Mat_cutTo_16 : decode cd_Mat_cutTo 16 = .ok (.arraylength, 1) := by decide +kernel
theorem d_Mat_cutTo_17 : decode cd_Mat_cutTo 17 = .ok (.invokestatic 50, 3) := by decide +kernel
theorem d_Mat_cutTo_20 : decode cd_Mat_cutTo 20 = .ok (.iconst 1, 1) := by decide +kernel
theorem d_Mat_cutTo_21 : decode cd_Mat_cutTo 21 = .ok (.isub, 1) := by decide +kernel
theorem d_Mat_cutTo_22 : decode cd_Mat_cutTo 22 = .ok (.istore_n 3, 1) := by decide +kernel
theorem d_Mat_cutTo_23 : decode cd_Mat_cutTo 23 = .ok (.iload_n 3, 1) := by decide +kernel
theorem d_Mat_cutTo_24 : decode cd_Mat_cutTo 24 = .ok (.iload_n 2, 1) := by decide +kernel
theorem d_Mat_cutTo_25 : decode cd_Mat_cutTo 25 = .ok (.if_icmp .lt 31, 3) := by decide +kernel
theorem d_Mat_cutTo_28 : decode cd_Mat_cutTo 28 = .ok (.aload_n 0, 1) := by decide +kernel
theorem d_Mat_cutTo_29 : decode cd_Mat_cutTo 29 = .ok (.getfield 20, 3) := by decide +kernel
theorem d_Mat_cutTo_32 : decode cd_Mat_cutTo 32 = .ok (.aload_n 0, 1) := by decide +kernel
theorem d_Mat_cutTo_33 : decode cd_Mat_cutTo 33 = .ok (.getfield 14, 3) := by decide +kernel
theorem d_Mat_cutTo_36 : decode cd_Mat_cutTo 36 = .ok (.iload_n 3, 1) := by decide +kernel
theorem d_Mat_cutTo_37 : decode cd_Mat_cutTo 37 = .ok (.invokevirtual 53, 3) := by decide +kernel
theorem d_Mat_cutTo_40 : decode cd_Mat_cutTo 40 = .ok (.invokestatic 57, 3) := by decide +kernel
theorem d_Mat_cutTo_43 : decode cd_Mat_cutTo 43 = .ok (.aload_n 0, 1) := by decide +kernel
theorem d_Mat_cutTo_44 : decode cd_Mat_cutTo 44 = .ok (.getfield 24, 3) := by decide +kernel
theorem d_Mat_cutTo_47 : decode cd_Mat_cutTo 47 = .ok (.iload_n 3, 1) := by decide +kernel
theorem d_Mat_cutTo_48 : decode cd_Mat_cutTo 48 = .ok (.iaload, 1) := by decide +kernel
theorem d_Mat_cutTo_49 : decode cd_Mat_cutTo 49 = .ok (.iastore, 1) := by decide +kernel
theorem d_Mat_cutTo_50 : decode cd_Mat_cutTo 50 = .ok (.iinc 3 (-1), 3) := by decide +kernel
theorem d_Mat_cutTo_53 : decode cd_Mat_cutTo 53 = .ok (.goto (-30), 3) := by decide +kernel
theorem d_Mat_cutTo_56 : decode cd_Mat_cutTo 56 = .ok (.aload_n 0, 1) := by decide +kernel
theorem d_Mat_cutTo_57 : decode cd_Mat_cutTo 57 = .ok (.aload_n 0, 1) := by decide +kernel
theorem d_Mat_cutTo_58 : decode cd_Mat_cutTo 58 = .ok (.getfield 41, 3) := by decide +kernel
theorem d_Mat_cutTo_61 : decode cd_Mat_cutTo 61 = .ok (.iload_n 2, 1) := by decide +kernel
theorem d_Mat_cutTo_62 : decode cd_Mat_cutTo 62 = .ok (.invokestatic 50, 3) := by decide +kernel
theorem d_Mat_cutTo_65 : decode cd_Mat_cutTo 65 = .ok (.putfield 41, 3) := by decide +kernel
theorem d_Mat_cutTo_68 : decode cd_Mat_cutTo 68 = .ok (.aload_n 0, 1) := by decide +kernel
theorem d_Mat_cutTo_69 : decode cd_Mat_cutTo 69 = .ok (.getfield 14, 3) := by decide +kernel
theorem d_Mat_cutTo_72 : decode cd_Mat_cutTo 72 = .ok (.iload_n 1, 1) := by decide +kernel
theorem d_Mat_cutTo_73 : decode cd_Mat_cutTo 73 = .ok (.invokevirtual 60, 3) := by decide +kernel
theorem d_Mat_cutTo_76 : decode cd_Mat_cutTo 76 = .ok (.return_, 1) := by decide +kernel
