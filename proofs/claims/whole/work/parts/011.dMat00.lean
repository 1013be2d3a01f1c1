theorem d_Mat_init_0 : decode cd_Mat_init 0 = .ok (.aload_n 0, 1) := by decide +kernel
theorem d_Mat_init_1 : decode cd_Mat_init 1 = .ok (.invokespecial 3, 3) := by decide +kernel
theorem d_Mat_init_4 : decode cd_Mat_init 4 = .ok (.aload_n 0, 1) := by decide +kernel
theorem d_Mat_init_5 : decode cd_Mat_init 5 = .ok (.new 9, 3) := by decide +kernel
theorem d_Mat_init_8 : decode cd_Mat_init 8 = .ok (.dup, 1) := by decide +kernel
theorem d_Mat_init_9 : decode cd_Mat_init 9 = .ok (.sipush 16000, 3) := by decide +kernel
theorem d_Mat_init_12 : decode cd_Mat_init 12 = .ok (.invokespecial 11, 3) := by decide +kernel
theorem d_Mat_init_15 : decode cd_Mat_init 15 = .ok (.putfield 14, 3) := by decide +kernel
theorem d_Mat_init_18 : decode cd_Mat_init 18 = .ok (.aload_n 0, 1) := by decide +kernel
theorem d_Mat_init_19 : decode cd_Mat_init 19 = .ok (.sipush 4096, 3) := by decide +kernel
theorem d_Mat_init_22 : decode cd_Mat_init 22 = .ok (.newarray .int, 2) := by decide +kernel
theorem d_Mat_init_24 : decode cd_Mat_init 24 = .ok (.putfield 20, 3) := by decide +kernel
theorem d_Mat_init_27 : decode cd_Mat_init 27 = .ok (.aload_n 0, 1) := by decide +kernel
theorem d_Mat_init_28 : decode cd_Mat_init 28 = .ok (.sipush 16000, 3) := by decide +kernel
theorem d_Mat_init_31 : decode cd_Mat_init 31 = .ok (.newarray .int, 2) := by decide +kernel
theorem d_Mat_init_33 : decode cd_Mat_init 33 = .ok (.putfield 24, 3) := by decide +kernel
theorem d_Mat_init_36 : decode cd_Mat_init 36 = .ok (.return_, 1) := by decide +kernel
theorem d_Mat_data_0 : decode cd_Mat_data 0 = .ok (.aload_n 0, 1) := by decide +kernel
theorem d_Mat_data_1 : decode cd_Mat_data 1 = .ok (.getfield 14, 3) := by decide +kernel
theorem d_Mat_data_4 : decode cd_Mat_data 4 = .ok (.areturn, 1) := by decide +kernel
theorem d_Mat_startOver_0 : decode cd_Mat_startOver 0 = .ok (.aload_n 0, 1) := by decide +kernel
theorem d_Mat_startOver_1 : decode cd_Mat_startOver 1 = .ok (.getfield 14, 3) := by decide +kernel
theorem d_Mat_startOver_4 : decode cd_Mat_startOver 4 = .ok (.aload_n 1, 1) := by decide +kernel
theorem d_Mat_startOver_5 : decode cd_Mat_startOver 5 = .ok (.invokevirtual 31, 3) := by decide +kernel
theorem d_Mat_startOver_8 : decode cd_Mat_startOver 8 = .ok (.aload_n 0, 1) := by decide +kernel
theorem d_Mat_startOver_9 : decode cd_Mat_startOver 9 = .ok (.getfield 20, 3) := by decide +kernel
theorem d_Mat_startOver_12 : decode cd_Mat_startOver 12 = .ok (.iconst (-1), 1) := by decide +kernel
theorem d_Mat_startOver_13 : decode cd_Mat_startOver 13 = .ok (.invokestatic 35, 3) := by decide +kernel
theorem d_Mat_startOver_16 : decode cd_Mat_startOver 16 = .ok (.aload_n 0, 1) := by decide +kernel
theorem d_Mat_startOver_17 : decode cd_Mat_startOver 17 = .ok (.iconst 0, 1) := by decide +kernel
theorem d_Mat_startOver_18 : decode cd_Mat_startOver 18 = .ok (.putfield 41, 3) := by decide +kernel
theorem d_Mat_startOver_21 : decode cd_Mat_startOver 21 = .ok (.return_, 1) := by decide +kernel
theorem d_Mat_look_0 : decode cd_Mat_look 0 = .ok (.aload_n 0, 1) := by decide +kernel
theorem d_Mat_look_1 : decode cd_Mat_look 1 = .ok (.iload_n 1, 1) := by decide +kernel
theorem d_Mat_look_2 : decode cd_Mat_look 2 = .ok (.invokevirtual 67, 3) := by decide +kernel
theorem d_Mat_look_5 : decode cd_Mat_look 5 = .ok (.aload_n 0, 1) := by decide +kernel
theorem d_Mat_look_6 : decode cd_Mat_look 6 = .ok (.iload_n 1, 1) := by decide +kernel
theorem d_Mat_look_7 : decode cd_Mat_look 7 = .ok (.iload_n 2, 1) := by decide +kernel
theorem d_Mat_look_8 : decode cd_Mat_look 8 = .ok (.iload 4, 2) := by decide +kernel
theorem d_Mat_look_10 : decode cd_Mat_look 10 = .ok (.invokevirtual 70, 3) := by decide +kernel
theorem d_Mat_look_13 : decode cd_Mat_look 13 = .ok (.iload 4, 2) := by decide +kernel
theorem d_Mat_look_15 : decode cd_Mat_look 15 = .ok (.iconst 3, 1) := by decide +kernel
theorem d_Mat_look_16 : decode cd_Mat_look 16 = .ok (.if_icmp .ne 15, 3) := by decide +kernel
theorem d_Mat_look_19 : decode cd_Mat_look 19 = .ok (.aload_n 0, 1) := by decide +kernel
theorem d_Mat_look_20 : decode cd_Mat_look 20 = .ok (.getfield 74, 3) := by decide +kernel
theorem d_Mat_look_23 : decode cd_Mat_look 23 = .ok (.ifCond .eq 8, 3) := by decide +kernel
theorem d_Mat_look_26 : decode cd_Mat_look 26 = .ok (.iload_n 1, 1) := by decide +kernel
theorem d_Mat_look_27 : decode cd_Mat_look 27 = .ok (.iload_n 3, 1) := by decide +kernel
theorem d_Mat_look_28 : decode cd_Mat_look 28 = .ok (.if_icmp .lt 8, 3) := by decide +kernel
theorem d_Mat_look_31 : decode cd_Mat_look 31 = .ok (.aload_n 0, 1) := by decide +kernel
theorem d_Mat_look_32 : decode cd_Mat_look 32 = .ok (.getfield 74, 3) := by decide +kernel
theorem d_Mat_look_35 : decode cd_Mat_look 35 = .ok (.ireturn, 1) := by decide +kernel
theorem d_Mat_look_36 : decode cd_Mat_look 36 = .ok (.aload_n 0, 1) := by decide +kernel
theorem d_Mat_look_37 : decode cd_Mat_look 37 = .ok (.getfield 74, 3) := by decide +kernel
theorem d_Mat_look_40 : decode cd_Mat_look 40 = .ok (.istore 5, 2) := by decide +kernel
theorem d_Mat_look_42 : decode cd_Mat_look 42 = .ok (.aload_n 0, 1) := by decide +kernel
theorem d_Mat_look_43 : decode cd_Mat_look 43 = .ok (.getfield 27, 3) := by decide +kernel
theorem d_Mat_look_46 : decode cd_Mat_look 46 = .ok (.istore 6, 2) := by decide +kernel
theorem d_Mat_look_48 : decode cd_Mat_look 48 = .ok (.aload_n 0, 1) := by decide +kernel
theorem d_Mat_look_49 : decode cd_Mat_look 49 = .ok (.iload_n 1, 1) := by decide +kernel
theorem d_Mat_look_50 : decode cd_Mat_look 50 = .ok (.iconst 1, 1) := by decide +kernel
theorem d_Mat_look_51 : decode cd_Mat_look 51 = .ok (.iadd, 1) := by decide +kernel
theorem d_Mat_look_52 : decode cd_Mat_look 52 = .ok (.invokevirtual 67, 3) := by decide +kernel
theorem d_Mat_look_55 : decode cd_Mat_look 55 = .ok (.aload_n 0, 1) := by decide +kernel
theorem d_Mat_look_56 : decode cd_Mat_look 56 = .ok (.iload_n 1, 1) := by decide +kernel
theorem d_Mat_look_57 : decode cd_Mat_look 57 = .ok (.iconst 1, 1) := by decide +kernel
theorem d_Mat_look_58 : decode cd_Mat_look 58 = .ok (.iadd, 1) := by decide +kernel
theorem d_Mat_look_59 : decode cd_Mat_look 59 = .ok (.iload_n 2, 1) := by decide +kernel
theorem d_Mat_look_60 : decode cd_Mat_look 60 = .ok (.iload 4, 2) := by decide +kernel
theorem d_Mat_look_62 : decode cd_Mat_look 62 = .ok (.invokevirtual 70, 3) := by decide +kernel
theorem d_Mat_look_65 : decode cd_Mat_look 65 = .ok (.aload_n 0, 1) := by decide +kernel
theorem d_Mat_look_66 : decode cd_Mat_look 66 = .ok (.aload_n 0, 1) := by decide +kernel
theorem d_Mat_look_67 : decode cd_Mat_look 67 = .ok (.getfield 74, 3) := by decide +kernel
theorem d_Mat_look_70 : decode cd_Mat_look 70 = .ok (.iload 5, 2) := by decide +kernel
theorem d_Mat_look_72 : decode cd_Mat_look 72 = .ok (.if_icmp .le 7, 3) := by decide +kernel
theorem d_Mat_look_75 : decode cd_Mat_look 75 = .ok (.iconst 0, 1) := by decide +kernel
theorem d_Mat_look_76 : decode cd_Mat_look 76 = .ok (.goto 5, 3) := by decide +kernel
theorem d_Mat_look_79 : decode cd_Mat_look 79 = .ok (.iload 5, 2) := by decide +kernel
theorem d_Mat_look_81 : decode cd_Mat_look 81 = .ok (.putfield 74, 3) := by decide +kernel
theorem d_Mat_look_84 : decode cd_Mat_look 84 = .ok (.aload_n 0, 1) := by decide +kernel
theorem d_Mat_look_85 : decode cd_Mat_look 85 = .ok (.iload 6, 2) := by decide +kernel
theorem d_Mat_look_87 : decode cd_Mat_look 87 = .ok (.putfield 27, 3) := by decide +kernel
theorem d_Mat_look_90 : decode cd_Mat_look 90 = .ok (.aload_n 0, 1) := by decide +kernel
theorem d_Mat_look_91 : decode cd_Mat_look 91 = .ok (.getfield 74, 3) := by decide +kernel
theorem d_Mat_look_94 : decode cd_Mat_look 94 = .ok (.ireturn, 1) := by decide +kernel
theorem d_Mat_chainBelow_0 : decode cd_Mat_chainBelow 0 = .ok (.aload_n 0, 1) := by decide +kernel
theorem d_Mat_chainBelow_1 : decode cd_Mat_chainBelow 1 = .ok (.getfield 41, 3) := by decide +kernel
theorem d_Mat_chainBelow_4 : decode cd_Mat_chainBelow 4 = .ok (.iload_n 1, 1) := by decide +kernel
theorem d_Mat_chainBelow_5 : decode cd_Mat_chainBelow 5 = .ok (.if_icmp .ge 66, 3) := by decide +kernel
theorem d_Mat_chainBelow_8 : decode cd_Mat_chainBelow 8 = .ok (.aload_n 0, 1) := by decide +kernel
theorem d_Mat_chainBelow_9 : decode cd_Mat_chainBelow 9 = .ok (.getfield 41, 3) := by decide +kernel
theorem d_Mat_chainBelow_12 : decode cd_Mat_chainBelow 12 = .ok (.aload_n 0, 1) := by decide +kernel
theorem d_Mat_chainBelow_13 : decode cd_Mat_chainBelow 13 = .ok (.getfield 24, 3) := by decide +kernel
theorem d_Mat_chainBelow_16 : decode cd_Mat_chainBelow 16 = .ok (.arraylength, 1) := by decide +kernel
theorem d_Mat_chainBelow_17 : decode cd_Mat_chainBelow 17 = .ok (.if_icmp .ge 54, 3) := by decide +kernel
theorem d_Mat_chainBelow_20 : decode cd_Mat_chainBelow 20 = .ok (.aload_n 0, 1) := by decide +kernel
theorem d_Mat_chainBelow_21 : decode cd_Mat_chainBelow 21 = .ok (.getfield 14, 3) := by decide +kernel
theorem d_Mat_chainBelow_24 : decode cd_Mat_chainBelow 24 = .ok (.aload_n 0, 1) := by decide +kernel
theorem d_Mat_chainBelow_25 : decode cd_Mat_chainBelow 25 = .ok (.getfield 41, 3) := by decide +kernel
theorem d_Mat_chainBelow_28 : decode cd_Mat_chainBelow 28 = .ok (.invokevirtual 53, 3) := by decide +kernel
theorem d_Mat_chainBelow_31 : decode cd_Mat_chainBelow 31 = .ok (.invokestatic 57, 3) := by decide +kernel
theorem d_Mat_chainBelow_34 : decode cd_Mat_chainBelow 34 = .ok (.istore_n 2, 1) := by decide +kernel
theorem d_Mat_chainBelow_35 : decode cd_Mat_chainBelow 35 = .ok (.aload_n 0, 1) := by decide +kernel
theorem d_Mat_chainBelow_36 : decode cd_Mat_chainBelow 36 = .ok (.getfield 24, 3) := by decide +kernel
theorem d_Mat_chainBelow_39 : decode cd_Mat_chainBelow 39 = .ok (.aload_n 0, 1) := by decide +kernel
theorem d_Mat_chainBelow_40 : decode cd_Mat_chainBelow 40 = .ok (.getfield 41, 3) := by decide +kernel
theorem d_Mat_chainBelow_43 : decode cd_Mat_chainBelow 43 = .ok (.aload_n 0, 1) := by decide +kernel
theorem d_Mat_chainBelow_44 : decode cd_Mat_chainBelow 44 = .ok (.iload_n 2, 1) := by decide +kernel
theorem d_Mat_chainBelow_45 : decode cd_Mat_chainBelow 45 = .ok (.invokevirtual 80, 3) := by decide +kernel
theorem d_Mat_chainBelow_48 : decode cd_Mat_chainBelow 48 = .ok (.iastore, 1) := by decide +kernel
theorem d_Mat_chainBelow_49 : decode cd_Mat_chainBelow 49 = .ok (.aload_n 0, 1) := by decide +kernel
theorem d_Mat_chainBelow_50 : decode cd_Mat_chainBelow 50 = .ok (.iload_n 2, 1) := by decide +kernel
theorem d_Mat_chainBelow_51 : decode cd_Mat_chainBelow 51 = .ok (.aload_n 0, 1) := by decide +kernel
theorem d_Mat_chainBelow_52 : decode cd_Mat_chainBelow 52 = .ok (.getfield 41, 3) := by decide +kernel
theorem d_Mat_chainBelow_55 : decode cd_Mat_chainBelow 55 = .ok (.invokevirtual 60, 3) := by decide +kernel
theorem d_Mat_chainBelow_58 : decode cd_Mat_chainBelow 58 = .ok (.aload_n 0, 1) := by decide +kernel
theorem d_Mat_chainBelow_59 : decode cd_Mat_chainBelow 59 = .ok (.dup, 1) := by decide +kernel
theorem d_Mat_chainBelow_60 : decode cd_Mat_chainBelow 60 = .ok (.getfield 41, 3) := by decide +kernel
theorem d_Mat_chainBelow_63 : decode cd_Mat_chainBelow 63 = .ok (.iconst 1, 1) := by decide +kernel
theorem d_Mat_chainBelow_64 : decode cd_Mat_chainBelow 64 = .ok (.iadd, 1) := by decide +kernel
theorem d_Mat_chainBelow_65 : decode cd_Mat_chainBelow 65 = .ok (.putfield 41, 3) := by decide +kernel
theorem d_Mat_chainBelow_68 : decode cd_Mat_chainBelow 68 = .ok (.goto (-68), 3) := by decide +kernel
theorem d_Mat_chainBelow_71 : decode cd_Mat_chainBelow 71 = .ok (.return_, 1) := by decide +kernel
theorem d_Mat_slot_0 : decode cd_Mat_slot 0 = .ok (.iload_n 0, 1) := by decide +kernel
theorem d_Mat_slot_1 : decode cd_Mat_slot 1 = .ok (.ldc 93, 2) := by decide +kernel
theorem d_Mat_slot_3 : decode cd_Mat_slot 3 = .ok (.imul, 1) := by decide +kernel
theorem d_Mat_slot_4 : decode cd_Mat_slot 4 = .ok (.bipush 20, 2) := by decide +kernel
theorem d_Mat_slot_6 : decode cd_Mat_slot 6 = .ok (.iushr, 1) := by decide +kernel
theorem d_Mat_slot_7 : decode cd_Mat_slot 7 = .ok (.ireturn, 1) := by decide +kernel
theorem d_Mat_latest_0 : decode cd_Mat_latest 0 = .ok (.iload_n 1, 1) := by decide +kernel
theorem d_Mat_latest_1 : decode cd_Mat_latest 1 = .ok (.ifCond .lt 21, 3) := by decide +kernel
theorem d_Mat_latest_4 : decode cd_Mat_latest 4 = .ok (.iload_n 1, 1) := by decide +kernel
theorem d_Mat_latest_5 : decode cd_Mat_latest 5 = .ok (.aload_n 0, 1) := by decide +kernel
theorem d_Mat_latest_6 : decode cd_Mat_latest 6 = .ok (.getfield 20, 3) := by decide +kernel
theorem d_Mat_latest_9 : decode cd_Mat_latest 9 = .ok (.arraylength, 1) := by decide +kernel
theorem d_Mat_latest_10 : decode cd_Mat_latest 10 = .ok (.if_icmp .ge 12, 3) := by decide +kernel
theorem d_Mat_latest_13 : decode cd_Mat_latest 13 = .ok (.aload_n 0, 1) := by decide +kernel
theorem d_Mat_latest_14 : decode cd_Mat_latest 14 = .ok (.getfield 20, 3) := by decide +kernel
theorem d_Mat_latest_17 : decode cd_Mat_latest 17 = .ok (.iload_n 1, 1) := by decide +kernel
theorem d_Mat_latest_18 : decode cd_Mat_latest 18 = .ok (.iaload, 1) := by decide +kernel
theorem d_Mat_latest_19 : decode cd_Mat_latest 19 = .ok (.goto 4, 3) := by decide +kernel
theorem d_Mat_latest_22 : decode cd_Mat_latest 22 = .ok (.iconst (-1), 1) := by decide +kernel
theorem d_Mat_latest_23 : decode cd_Mat_latest 23 = .ok (.ireturn, 1) := by decide +kernel
theorem d_Mat_setLatest_0 : decode cd_Mat_setLatest 0 = .ok (.iload_n 1, 1) := by decide +kernel
theorem d_Mat_setLatest_1 : decode cd_Mat_setLatest 1 = .ok (.ifCond .lt 19, 3) := by decide +kernel
theorem d_Mat_setLatest_4 : decode cd_Mat_setLatest 4 = .ok (.iload_n 1, 1) := by decide +kernel
theorem d_Mat_setLatest_5 : decode cd_Mat_setLatest 5 = .ok (.aload_n 0, 1) := by decide +kernel
theorem d_Mat_setLatest_6 : decode cd_Mat_setLatest 6 = .ok (.getfield 20, 3) := by decide +kernel
theorem d_Mat_setLatest_9 : decode cd_Mat_setLatest 9 = .ok (.arraylength, 1) := by decide +kernel
theorem d_Mat_setLatest_10 : decode cd_Mat_setLatest 10 = .ok (.if_icmp .ge 10, 3) := by decide +kernel
theorem d_Mat_setLatest_13 : decode cd_Mat_setLatest 13 = .ok (.aload_n 0, 1) := by decide +kernel
theorem d_Mat_setLatest_14 : decode cd_Mat_setLatest 14 = .ok (.getfield 20, 3) := by decide +kernel
theorem d_Mat_setLatest_17 : decode cd_Mat_setLatest 17 = .ok (.iload_n 1, 1) := by decide +kernel
theorem d_Mat_setLatest_18 : decode cd_Mat_setLatest 18 = .ok (.iload_n 2, 1) := by decide +kernel
theorem d_Mat_setLatest_19 : decode cd_Mat_setLatest 19 = .ok (.iastore, 1) := by decide +kernel
theorem d_Mat_setLatest_20 : decode cd_Mat_setLatest 20 = .ok (.return_, 1) := by decide +kernel
theorem d_Mat_find_0 : decode cd_Mat_find 0 = .ok (.aload_n 0, 1) := by decide +kernel
theorem d_Mat_find_1 : decode cd_Mat_find 1 = .ok (.iconst (-1), 1) := by decide +kernel
theorem d_Mat_find_2 : decode cd_Mat_find 2 = .ok (.putfield 27, 3) := by decide +kernel
theorem d_Mat_find_5 : decode cd_Mat_find 5 = .ok (.aload_n 0, 1) := by decide +kernel
theorem d_Mat_find_6 : decode cd_Mat_find 6 = .ok (.iconst 0, 1) := by decide +kernel
theorem d_Mat_find_7 : decode cd_Mat_find 7 = .ok (.putfield 74, 3) := by decide +kernel
theorem d_Mat_find_10 : decode cd_Mat_find 10 = .ok (.iload_n 2, 1) := by decide +kernel
theorem d_Mat_find_11 : decode cd_Mat_find 11 = .ok (.iload_n 1, 1) := by decide +kernel
theorem d_Mat_find_12 : decode cd_Mat_find 12 = .ok (.isub, 1) := by decide +kernel
theorem d_Mat_find_13 : decode cd_Mat_find 13 = .ok (.iload_n 3, 1) := by decide +kernel
theorem d_Mat_find_14 : decode cd_Mat_find 14 = .ok (.invokestatic 77, 3) := by decide +kernel
theorem d_Mat_find_17 : decode cd_Mat_find 17 = .ok (.istore 4, 2) := by decide +kernel
theorem d_Mat_find_19 : decode cd_Mat_find 19 = .ok (.aload_n 0, 1) := by decide +kernel
theorem d_Mat_find_20 : decode cd_Mat_find 20 = .ok (.aload_n 0, 1) := by decide +kernel
theorem d_Mat_find_21 : decode cd_Mat_find 21 = .ok (.getfield 14, 3) := by decide +kernel
theorem d_Mat_find_24 : decode cd_Mat_find 24 = .ok (.iload_n 1, 1) := by decide +kernel
theorem d_Mat_find_25 : decode cd_Mat_find 25 = .ok (.invokevirtual 53, 3) := by decide +kernel
theorem d_Mat_find_28 : decode cd_Mat_find 28 = .ok (.invokestatic 57, 3) := by decide +kernel
theorem d_Mat_find_31 : decode cd_Mat_find 31 = .ok (.invokevirtual 80, 3) := by decide +kernel
theorem d_Mat_find_34 : decode cd_Mat_find 34 = .ok (.istore 5, 2) := by decide +kernel
theorem d_Mat_find_36 : decode cd_Mat_find 36 = .ok (.iconst 0, 1) := by decide +kernel
theorem d_Mat_find_37 : decode cd_Mat_find 37 = .ok (.istore 6, 2) := by decide +kernel
theorem d_Mat_find_39 : decode cd_Mat_find 39 = .ok (.iload 6, 2) := by decide +kernel
theorem d_Mat_find_41 : decode cd_Mat_find 41 = .ok (.iload_n 1, 1) := by decide +kernel
theorem d_Mat_find_42 : decode cd_Mat_find 42 = .ok (.if_icmp .ge 93, 3) := by decide +kernel
theorem d_Mat_find_45 : decode cd_Mat_find 45 = .ok (.iload 5, 2) := by decide +kernel
theorem d_Mat_find_47 : decode cd_Mat_find 47 = .ok (.ifCond .lt 88, 3) := by decide +kernel
theorem d_Mat_find_50 : decode cd_Mat_find 50 = .ok (.iload 5, 2) := by decide +kernel
theorem d_Mat_find_52 : decode cd_Mat_find 52 = .ok (.aload_n 0, 1) := by decide +kernel
theorem d_Mat_find_53 : decode cd_Mat_find 53 = .ok (.getfield 24, 3) := by decide +kernel
theorem d_Mat_find_56 : decode cd_Mat_find 56 = .ok (.arraylength, 1) := by decide +kernel
theorem d_Mat_find_57 : decode cd_Mat_find 57 = .ok (.if_icmp .ge 78, 3) := by decide +kernel
theorem d_Mat_find_60 : decode cd_Mat_find 60 = .ok (.aload_n 0, 1) := by decide +kernel
theorem d_Mat_find_61 : decode cd_Mat_find 61 = .ok (.getfield 14, 3) := by decide +kernel
theorem d_Mat_find_64 : decode cd_Mat_find 64 = .ok (.iload 5, 2) := by decide +kernel
theorem d_Mat_find_66 : decode cd_Mat_find 66 = .ok (.aload_n 0, 1) := by decide +kernel
theorem d_Mat_find_67 : decode cd_Mat_find 67 = .ok (.getfield 74, 3) := by decide +kernel
theorem d_Mat_find_70 : decode cd_Mat_find 70 = .ok (.iadd, 1) := by decide +kernel
theorem d_Mat_find_71 : decode cd_Mat_find 71 = .ok (.invokevirtual 82, 3) := by decide +kernel
theorem d_Mat_find_74 : decode cd_Mat_find 74 = .ok (.aload_n 0, 1) := by decide +kernel
theorem d_Mat_find_75 : decode cd_Mat_find 75 = .ok (.getfield 14, 3) := by decide +kernel
theorem d_Mat_find_78 : decode cd_Mat_find 78 = .ok (.iload_n 1, 1) := by decide +kernel
theorem d_Mat_find_79 : decode cd_Mat_find 79 = .ok (.aload_n 0, 1) := by decide +kernel
theorem d_Mat_find_80 : decode cd_Mat_find 80 = .ok (.getfield 74, 3) := by decide +kernel
theorem d_Mat_find_83 : decode cd_Mat_find 83 = .ok (.iadd, 1) := by decide +kernel
theorem d_Mat_find_84 : decode cd_Mat_find 84 = .ok (.invokevirtual 82, 3) := by decide +kernel
theorem d_Mat_find_87 : decode cd_Mat_find 87 = .ok (.if_icmp .ne 23, 3) := by decide +kernel
theorem d_Mat_find_90 : decode cd_Mat_find 90 = .ok (.aload_n 0, 1) := by decide +kernel
theorem d_Mat_find_91 : decode cd_Mat_find 91 = .ok (.iload 5, 2) := by decide +kernel
theorem d_Mat_find_93 : decode cd_Mat_find 93 = .ok (.aload_n 0, 1) := by decide +kernel
theorem d_Mat_find_94 : decode cd_Mat_find 94 = .ok (.getfield 14, 3) := by decide +kernel
theorem d_Mat_find_97 : decode cd_Mat_find 97 = .ok (.iload 5, 2) := by decide +kernel
theorem d_Mat_find_99 : decode cd_Mat_find 99 = .ok (.iload_n 1, 1) := by decide +kernel
theorem d_Mat_find_100 : decode cd_Mat_find 100 = .ok (.iload_n 2, 1) := by decide +kernel
theorem d_Mat_find_101 : decode cd_Mat_find 101 = .ok (.invokevirtual 85, 3) := by decide +kernel
theorem d_Mat_find_104 : decode cd_Mat_find 104 = .ok (.iload 4, 2) := by decide +kernel
theorem d_Mat_find_106 : decode cd_Mat_find 106 = .ok (.iload_n 3, 1) := by decide +kernel
theorem d_Mat_find_107 : decode cd_Mat_find 107 = .ok (.invokevirtual 89, 3) := by decide +kernel
theorem d_Mat_find_110 : decode cd_Mat_find 110 = .ok (.aload_n 0, 1) := by decide +kernel
theorem d_Mat_find_111 : decode cd_Mat_find 111 = .ok (.getfield 74, 3) := by decide +kernel
theorem d_Mat_find_114 : decode cd_Mat_find 114 = .ok (.iload 4, 2) := by decide +kernel
theorem d_Mat_find_116 : decode cd_Mat_find 116 = .ok (.if_icmp .lt 4, 3) := by decide +kernel
theorem d_Mat_find_119 : decode cd_Mat_find 119 = .ok (.return_, 1) := by decide +kernel
theorem d_Mat_find_120 : decode cd_Mat_find 120 = .ok (.aload_n 0, 1) := by decide +kernel
theorem d_Mat_find_121 : decode cd_Mat_find 121 = .ok (.getfield 24, 3) := by decide +kernel
theorem d_Mat_find_124 : decode cd_Mat_find 124 = .ok (.iload 5, 2) := by decide +kernel
theorem d_Mat_find_126 : decode cd_Mat_find 126 = .ok (.iaload, 1) := by decide +kernel
theorem d_Mat_find_127 : decode cd_Mat_find 127 = .ok (.istore 5, 2) := by decide +kernel
theorem d_Mat_find_129 : decode cd_Mat_find 129 = .ok (.iinc 6 1, 3) := by decide +kernel
theorem d_Mat_find_132 : decode cd_Mat_find 132 = .ok (.goto (-93), 3) := by decide +kernel
theorem d_Mat_find_135 : decode cd_Mat_find 135 = .ok (.return_, 1) := by decide +kernel
theorem d_Mat_enough_0 : decode cd_Mat_enough 0 = .ok (.iload_n 1, 1) := by decide +kernel
theorem d_Mat_enough_1 : decode cd_Mat_enough 1 = .ok (.iconst 2, 1) := by decide +kernel
theorem d_Mat_enough_2 : decode cd_Mat_enough 2 = .ok (.if_icmp .lt 5, 3) := by decide +kernel
theorem d_Mat_enough_5 : decode cd_Mat_enough 5 = .ok (.iload_n 0, 1) := by decide +kernel
theorem d_Mat_enough_6 : decode cd_Mat_enough 6 = .ok (.ireturn, 1) := by decide +kernel
theorem d_Mat_enough_7 : decode cd_Mat_enough 7 = .ok (.iload_n 1, 1) := by decide +kernel
theorem d_Mat_enough_8 : decode cd_Mat_enough 8 = .ok (.iconst 1, 1) := by decide +kernel
theorem d_Mat_enough_9 : decode cd_Mat_enough 9 = .ok (.if_icmp .ne 14, 3) := by decide +kernel
theorem d_Mat_enough_12 : decode cd_Mat_enough 12 = .ok (.iload_n 0, 1) := by decide +kernel
theorem d_Mat_enough_13 : decode cd_Mat_enough 13 = .ok (.bipush 8, 2) := by decide +kernel
theorem d_Mat_enough_15 : decode cd_Mat_enough 15 = .ok (.if_icmp .lt 8, 3) := by decide +kernel
theorem d_Mat_enough_18 : decode cd_Mat_enough 18 = .ok (.bipush 8, 2) := by decide +kernel
theorem d_Mat_enough_20 : decode cd_Mat_enough 20 = .ok (.goto 4, 3) := by decide +kernel
theorem d_Mat_enough_23 : decode cd_Mat_enough 23 = .ok (.iconst 4, 1) := by decide +kernel
theorem d_Mat_enough_24 : decode cd_Mat_enough 24 = .ok (.ireturn, 1) := by decide +kernel
theorem d_Mat_hold_0 : decode cd_Mat_hold 0 = .ok (.aload_n 0, 1) := by decide +kernel
theorem d_Mat_hold_1 : decode cd_Mat_hold 1 = .ok (.getfield 74, 3) := by decide +kernel
theorem d_Mat_hold_4 : decode cd_Mat_hold 4 = .ok (.ifCond .eq 22, 3) := by decide +kernel
theorem d_Mat_hold_7 : decode cd_Mat_hold 7 = .ok (.iload_n 2, 1) := by decide +kernel
theorem d_Mat_hold_8 : decode cd_Mat_hold 8 = .ok (.iload_n 3, 1) := by decide +kernel
theorem d_Mat_hold_9 : decode cd_Mat_hold 9 = .ok (.if_icmp .ge 17, 3) := by decide +kernel
theorem d_Mat_hold_12 : decode cd_Mat_hold 12 = .ok (.iload 4, 2) := by decide +kernel
theorem d_Mat_hold_14 : decode cd_Mat_hold 14 = .ok (.iconst 2, 1) := by decide +kernel
theorem d_Mat_hold_15 : decode cd_Mat_hold 15 = .ok (.if_icmp .lt 15, 3) := by decide +kernel
theorem d_Mat_hold_18 : decode cd_Mat_hold 18 = .ok (.iload_n 2, 1) := by decide +kernel
theorem d_Mat_hold_19 : decode cd_Mat_hold 19 = .ok (.aload_n 0, 1) := by decide +kernel
theorem d_Mat_hold_20 : decode cd_Mat_hold 20 = .ok (.getfield 74, 3) := by decide +kernel
theorem d_Mat_hold_23 : decode cd_Mat_hold 23 = .ok (.if_icmp .le 7, 3) := by decide +kernel
theorem d_Mat_hold_26 : decode cd_Mat_hold 26 = .ok (.iconst 1, 1) := by decide +kernel
theorem d_Mat_hold_27 : decode cd_Mat_hold 27 = .ok (.goto 4, 3) := by decide +kernel
theorem d_Mat_hold_30 : decode cd_Mat_hold 30 = .ok (.iconst 0, 1) := by decide +kernel
theorem d_Mat_hold_31 : decode cd_Mat_hold 31 = .ok (.istore 5, 2) := by decide +kernel
theorem d_Mat_hold_33 : decode cd_Mat_hold 33 = .ok (.iload_n 2, 1) := by decide +kernel
theorem d_Mat_hold_34 : decode cd_Mat_hold 34 = .ok (.iconst 4, 1) := by decide +kernel
theorem d_Mat_hold_35 : decode cd_Mat_hold 35 = .ok (.if_icmp .lt 18, 3) := by decide +kernel
theorem d_Mat_hold_38 : decode cd_Mat_hold 38 = .ok (.iload 5, 2) := by decide +kernel
theorem d_Mat_hold_40 : decode cd_Mat_hold 40 = .ok (.ifCond .eq 13, 3) := by decide +kernel
theorem d_Mat_hold_43 : decode cd_Mat_hold 43 = .ok (.aload_n 0, 1) := by decide +kernel
theorem d_Mat_hold_44 : decode cd_Mat_hold 44 = .ok (.iload_n 1, 1) := by decide +kernel
theorem d_Mat_hold_45 : decode cd_Mat_hold 45 = .ok (.putfield 27, 3) := by decide +kernel
theorem d_Mat_hold_48 : decode cd_Mat_hold 48 = .ok (.aload_n 0, 1) := by decide +kernel
theorem d_Mat_hold_49 : decode cd_Mat_hold 49 = .ok (.iload_n 2, 1) := by decide +kernel
theorem d_Mat_hold_50 : decode cd_Mat_hold 50 = .ok (.putfield 74, 3) := by decide +kernel
theorem d_Mat_hold_53 : decode cd_Mat_hold 53 = .ok (.return_, 1) := by decide +kernel
theorem d_Mat_source_0 : decode cd_Mat_source 0 = .ok (.aload_n 0, 1) := by decide +kernel
theorem d_Mat_source_1 : decode cd_Mat_source 1 = .ok (.getfield 27, 3) := by decide +kernel
theorem d_Mat_source_4 : decode cd_Mat_source 4 = .ok (.ireturn, 1) := by decide +kernel
theorem d_Mat_cutTo_0 : decode cd_Mat_cutTo 0 = .ok (.iconst 0, 1) := by decide +kernel
theorem d_Mat_cutTo_1 : decode cd_Mat_cutTo 1 = .ok (.iload_n 1, 1) := by decide +kernel
theorem d_Mat_cutTo_2 : decode cd_Mat_cutTo 2 = .ok (.iconst 3, 1) := by decide +kernel
theorem d_Mat_cutTo_3 : decode cd_Mat_cutTo 3 = .ok (.isub, 1) := by decide +kernel
theorem d_Mat_cutTo_4 : decode cd_Mat_cutTo 4 = .ok (.invokestatic 44, 3) := by decide +kernel
theorem d_Mat_cutTo_7 : decode cd_Mat_cutTo 7 = .ok (.istore_n 2, 1) := by decide +kernel
theorem d_Mat_cutTo_8 : decode cd_Mat_cutTo 8 = .ok (.aload_n 0, 1) := by decide +kernel
theorem d_Mat_cutTo_9 : decode cd_Mat_cutTo 9 = .ok (.getfield 41, 3) := by decide +kernel
theorem d_Mat_cutTo_12 : decode cd_Mat_cutTo 12 = .ok (.aload_n 0, 1) := by decide +kernel
theorem d_Mat_cutTo_13 : decode cd_Mat_cutTo 13 = .ok (.getfield 24, 3) := by decide +kernel
theorem d_Mat_cutTo_16 : decode cd_Mat_cutTo 16 = .ok (.arraylength, 1) := by decide +kernel
theorem d_Mat_cutTo_17 : decode cd_Mat_cutTo 17 = .ok (.invokestatic 50, 3) := by decide +kernel
theorem d_Mat_cutTo_20 : decode cd_Mat_cutTo 20 = .ok (.iconst 1, 1) := by decide +kernel
theorem d_Mat_cutTo_21 : decode cd_Mat_cutTo 21 = .ok (.isub, 1) := by decide +kernel
theorem d_Mat_cutTo_22 : decode cd_Mat_cutTo 22 = .ok (.istore_n 3, 1) := by decide +kernel
theorem d_Mat_cutTo_23 : decode cd_Mat_cutTo 23 = .ok (.iload_n 3, 1) := by decide +kernel
theorem d_Mat_cutTo_24 : decode cd_Mat_cutTo 24 = .ok (.iload_n 2, 1) := by decide +kernel
theorem d_Mat_cutTo_25 : decode cd_Mat_cutTo 25 = .ok (.if_icmp .lt 30, 3) := by decide +kernel
theorem d_Mat_cutTo_28 : decode cd_Mat_cutTo 28 = .ok (.aload_n 0, 1) := by decide +kernel
theorem d_Mat_cutTo_29 : decode cd_Mat_cutTo 29 = .ok (.aload_n 0, 1) := by decide +kernel
theorem d_Mat_cutTo_30 : decode cd_Mat_cutTo 30 = .ok (.getfield 14, 3) := by decide +kernel
theorem d_Mat_cutTo_33 : decode cd_Mat_cutTo 33 = .ok (.iload_n 3, 1) := by decide +kernel
theorem d_Mat_cutTo_34 : decode cd_Mat_cutTo 34 = .ok (.invokevirtual 53, 3) := by decide +kernel
theorem d_Mat_cutTo_37 : decode cd_Mat_cutTo 37 = .ok (.invokestatic 57, 3) := by decide +kernel
theorem d_Mat_cutTo_40 : decode cd_Mat_cutTo 40 = .ok (.aload_n 0, 1) := by decide +kernel
theorem d_Mat_cutTo_41 : decode cd_Mat_cutTo 41 = .ok (.getfield 24, 3) := by decide +kernel
theorem d_Mat_cutTo_44 : decode cd_Mat_cutTo 44 = .ok (.iload_n 3, 1) := by decide +kernel
theorem d_Mat_cutTo_45 : decode cd_Mat_cutTo 45 = .ok (.iaload, 1) := by decide +kernel
theorem d_Mat_cutTo_46 : decode cd_Mat_cutTo 46 = .ok (.invokevirtual 60, 3) := by decide +kernel
theorem d_Mat_cutTo_49 : decode cd_Mat_cutTo 49 = .ok (.iinc 3 (-1), 3) := by decide +kernel
theorem d_Mat_cutTo_52 : decode cd_Mat_cutTo 52 = .ok (.goto (-29), 3) := by decide +kernel
theorem d_Mat_cutTo_55 : decode cd_Mat_cutTo 55 = .ok (.aload_n 0, 1) := by decide +kernel
theorem d_Mat_cutTo_56 : decode cd_Mat_cutTo 56 = .ok (.aload_n 0, 1) := by decide +kernel
theorem d_Mat_cutTo_57 : decode cd_Mat_cutTo 57 = .ok (.getfield 41, 3) := by decide +kernel
theorem d_Mat_cutTo_60 : decode cd_Mat_cutTo 60 = .ok (.iload_n 2, 1) := by decide +kernel
theorem d_Mat_cutTo_61 : decode cd_Mat_cutTo 61 = .ok (.invokestatic 50, 3) := by decide +kernel
theorem d_Mat_cutTo_64 : decode cd_Mat_cutTo 64 = .ok (.putfield 41, 3) := by decide +kernel
theorem d_Mat_cutTo_67 : decode cd_Mat_cutTo 67 = .ok (.aload_n 0, 1) := by decide +kernel
theorem d_Mat_cutTo_68 : decode cd_Mat_cutTo 68 = .ok (.getfield 14, 3) := by decide +kernel
theorem d_Mat_cutTo_71 : decode cd_Mat_cutTo 71 = .ok (.iload_n 1, 1) := by decide +kernel
theorem d_Mat_cutTo_72 : decode cd_Mat_cutTo 72 = .ok (.invokevirtual 64, 3) := by decide +kernel
theorem d_Mat_cutTo_75 : decode cd_Mat_cutTo 75 = .ok (.return_, 1) := by decide +kernel
