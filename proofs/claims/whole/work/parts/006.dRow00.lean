theorem d_Row_init_0 : decode cd_Row_init 0 = .ok (.aload_n 0, 1) := by decide +kernel
theorem d_Row_init_1 : decode cd_Row_init 1 = .ok (.invokespecial 1, 3) := by decide +kernel
theorem d_Row_init_4 : decode cd_Row_init 4 = .ok (.aload_n 0, 1) := by decide +kernel
theorem d_Row_init_5 : decode cd_Row_init 5 = .ok (.iconst 0, 1) := by decide +kernel
theorem d_Row_init_6 : decode cd_Row_init 6 = .ok (.iload_n 1, 1) := by decide +kernel
theorem d_Row_init_7 : decode cd_Row_init 7 = .ok (.invokestatic 7, 3) := by decide +kernel
theorem d_Row_init_10 : decode cd_Row_init 10 = .ok (.newarray .byte, 2) := by decide +kernel
theorem d_Row_init_12 : decode cd_Row_init 12 = .ok (.putfield 13, 3) := by decide +kernel
theorem d_Row_init_15 : decode cd_Row_init 15 = .ok (.return_, 1) := by decide +kernel
theorem d_Row_hasRoomFor_0 : decode cd_Row_hasRoomFor 0 = .ok (.lload_n 1, 1) := by decide +kernel
theorem d_Row_hasRoomFor_1 : decode cd_Row_hasRoomFor 1 = .ok (.aload_n 0, 1) := by decide +kernel
theorem d_Row_hasRoomFor_2 : decode cd_Row_hasRoomFor 2 = .ok (.getfield 13, 3) := by decide +kernel
theorem d_Row_hasRoomFor_5 : decode cd_Row_hasRoomFor 5 = .ok (.arraylength, 1) := by decide +kernel
theorem d_Row_hasRoomFor_6 : decode cd_Row_hasRoomFor 6 = .ok (.aload_n 0, 1) := by decide +kernel
theorem d_Row_hasRoomFor_7 : decode cd_Row_hasRoomFor 7 = .ok (.getfield 19, 3) := by decide +kernel
theorem d_Row_hasRoomFor_10 : decode cd_Row_hasRoomFor 10 = .ok (.isub, 1) := by decide +kernel
theorem d_Row_hasRoomFor_11 : decode cd_Row_hasRoomFor 11 = .ok (.i2l, 1) := by decide +kernel
theorem d_Row_hasRoomFor_12 : decode cd_Row_hasRoomFor 12 = .ok (.lcmp, 1) := by decide +kernel
theorem d_Row_hasRoomFor_13 : decode cd_Row_hasRoomFor 13 = .ok (.ifCond .gt 7, 3) := by decide +kernel
theorem d_Row_hasRoomFor_16 : decode cd_Row_hasRoomFor 16 = .ok (.iconst 1, 1) := by decide +kernel
theorem d_Row_hasRoomFor_17 : decode cd_Row_hasRoomFor 17 = .ok (.goto 4, 3) := by decide +kernel
theorem d_Row_hasRoomFor_20 : decode cd_Row_hasRoomFor 20 = .ok (.iconst 0, 1) := by decide +kernel
theorem d_Row_hasRoomFor_21 : decode cd_Row_hasRoomFor 21 = .ok (.ireturn, 1) := by decide +kernel
theorem d_Row_add_0 : decode cd_Row_add 0 = .ok (.aload_n 0, 1) := by decide +kernel
theorem d_Row_add_1 : decode cd_Row_add 1 = .ok (.getfield 19, 3) := by decide +kernel
theorem d_Row_add_4 : decode cd_Row_add 4 = .ok (.ifCond .lt 15, 3) := by decide +kernel
theorem d_Row_add_7 : decode cd_Row_add 7 = .ok (.aload_n 0, 1) := by decide +kernel
theorem d_Row_add_8 : decode cd_Row_add 8 = .ok (.getfield 19, 3) := by decide +kernel
theorem d_Row_add_11 : decode cd_Row_add 11 = .ok (.aload_n 0, 1) := by decide +kernel
theorem d_Row_add_12 : decode cd_Row_add 12 = .ok (.getfield 13, 3) := by decide +kernel
theorem d_Row_add_15 : decode cd_Row_add 15 = .ok (.arraylength, 1) := by decide +kernel
theorem d_Row_add_16 : decode cd_Row_add 16 = .ok (.if_icmp .lt 5, 3) := by decide +kernel
theorem d_Row_add_19 : decode cd_Row_add 19 = .ok (.iconst 0, 1) := by decide +kernel
theorem d_Row_add_20 : decode cd_Row_add 20 = .ok (.ireturn, 1) := by decide +kernel
theorem d_Row_add_21 : decode cd_Row_add 21 = .ok (.aload_n 0, 1) := by decide +kernel
theorem d_Row_add_22 : decode cd_Row_add 22 = .ok (.getfield 13, 3) := by decide +kernel
theorem d_Row_add_25 : decode cd_Row_add 25 = .ok (.aload_n 0, 1) := by decide +kernel
theorem d_Row_add_26 : decode cd_Row_add 26 = .ok (.getfield 19, 3) := by decide +kernel
theorem d_Row_add_29 : decode cd_Row_add 29 = .ok (.iload_n 1, 1) := by decide +kernel
theorem d_Row_add_30 : decode cd_Row_add 30 = .ok (.i2b, 1) := by decide +kernel
theorem d_Row_add_31 : decode cd_Row_add 31 = .ok (.bastore, 1) := by decide +kernel
theorem d_Row_add_32 : decode cd_Row_add 32 = .ok (.aload_n 0, 1) := by decide +kernel
theorem d_Row_add_33 : decode cd_Row_add 33 = .ok (.dup, 1) := by decide +kernel
theorem d_Row_add_34 : decode cd_Row_add 34 = .ok (.getfield 19, 3) := by decide +kernel
theorem d_Row_add_37 : decode cd_Row_add 37 = .ok (.iconst 1, 1) := by decide +kernel
theorem d_Row_add_38 : decode cd_Row_add 38 = .ok (.iadd, 1) := by decide +kernel
theorem d_Row_add_39 : decode cd_Row_add 39 = .ok (.putfield 19, 3) := by decide +kernel
theorem d_Row_add_42 : decode cd_Row_add 42 = .ok (.iconst 1, 1) := by decide +kernel
theorem d_Row_add_43 : decode cd_Row_add 43 = .ok (.ireturn, 1) := by decide +kernel
theorem d_Row_count_0 : decode cd_Row_count 0 = .ok (.aload_n 0, 1) := by decide +kernel
theorem d_Row_count_1 : decode cd_Row_count 1 = .ok (.getfield 19, 3) := by decide +kernel
theorem d_Row_count_4 : decode cd_Row_count 4 = .ok (.ireturn, 1) := by decide +kernel
theorem d_Row_addFrom_0 : decode cd_Row_addFrom 0 = .ok (.iload_n 3, 1) := by decide +kernel
theorem d_Row_addFrom_1 : decode cd_Row_addFrom 1 = .ok (.iload_n 2, 1) := by decide +kernel
theorem d_Row_addFrom_2 : decode cd_Row_addFrom 2 = .ok (.isub, 1) := by decide +kernel
theorem d_Row_addFrom_3 : decode cd_Row_addFrom 3 = .ok (.istore 4, 2) := by decide +kernel
theorem d_Row_addFrom_5 : decode cd_Row_addFrom 5 = .ok (.iload_n 2, 1) := by decide +kernel
theorem d_Row_addFrom_6 : decode cd_Row_addFrom 6 = .ok (.ifCond .lt 31, 3) := by decide +kernel
theorem d_Row_addFrom_9 : decode cd_Row_addFrom 9 = .ok (.iload 4, 2) := by decide +kernel
theorem d_Row_addFrom_11 : decode cd_Row_addFrom 11 = .ok (.ifCond .lt 26, 3) := by decide +kernel
theorem d_Row_addFrom_14 : decode cd_Row_addFrom 14 = .ok (.iload_n 3, 1) := by decide +kernel
theorem d_Row_addFrom_15 : decode cd_Row_addFrom 15 = .ok (.aload_n 1, 1) := by decide +kernel
theorem d_Row_addFrom_16 : decode cd_Row_addFrom 16 = .ok (.getfield 19, 3) := by decide +kernel
theorem d_Row_addFrom_19 : decode cd_Row_addFrom 19 = .ok (.if_icmp .gt 18, 3) := by decide +kernel
theorem d_Row_addFrom_22 : decode cd_Row_addFrom 22 = .ok (.iload 4, 2) := by decide +kernel
theorem d_Row_addFrom_24 : decode cd_Row_addFrom 24 = .ok (.aload_n 0, 1) := by decide +kernel
theorem d_Row_addFrom_25 : decode cd_Row_addFrom 25 = .ok (.getfield 13, 3) := by decide +kernel
theorem d_Row_addFrom_28 : decode cd_Row_addFrom 28 = .ok (.arraylength, 1) := by decide +kernel
theorem d_Row_addFrom_29 : decode cd_Row_addFrom 29 = .ok (.aload_n 0, 1) := by decide +kernel
theorem d_Row_addFrom_30 : decode cd_Row_addFrom 30 = .ok (.getfield 19, 3) := by decide +kernel
theorem d_Row_addFrom_33 : decode cd_Row_addFrom 33 = .ok (.isub, 1) := by decide +kernel
theorem d_Row_addFrom_34 : decode cd_Row_addFrom 34 = .ok (.if_icmp .le 5, 3) := by decide +kernel
theorem d_Row_addFrom_37 : decode cd_Row_addFrom 37 = .ok (.iconst 0, 1) := by decide +kernel
theorem d_Row_addFrom_38 : decode cd_Row_addFrom 38 = .ok (.ireturn, 1) := by decide +kernel
theorem d_Row_addFrom_39 : decode cd_Row_addFrom 39 = .ok (.aload_n 1, 1) := by decide +kernel
theorem d_Row_addFrom_40 : decode cd_Row_addFrom 40 = .ok (.getfield 13, 3) := by decide +kernel
theorem d_Row_addFrom_43 : decode cd_Row_addFrom 43 = .ok (.iload_n 2, 1) := by decide +kernel
theorem d_Row_addFrom_44 : decode cd_Row_addFrom 44 = .ok (.aload_n 0, 1) := by decide +kernel
theorem d_Row_addFrom_45 : decode cd_Row_addFrom 45 = .ok (.getfield 13, 3) := by decide +kernel
theorem d_Row_addFrom_48 : decode cd_Row_addFrom 48 = .ok (.aload_n 0, 1) := by decide +kernel
theorem d_Row_addFrom_49 : decode cd_Row_addFrom 49 = .ok (.getfield 19, 3) := by decide +kernel
theorem d_Row_addFrom_52 : decode cd_Row_addFrom 52 = .ok (.iload 4, 2) := by decide +kernel
theorem d_Row_addFrom_54 : decode cd_Row_addFrom 54 = .ok (.invokestatic 30, 3) := by decide +kernel
theorem d_Row_addFrom_57 : decode cd_Row_addFrom 57 = .ok (.aload_n 0, 1) := by decide +kernel
theorem d_Row_addFrom_58 : decode cd_Row_addFrom 58 = .ok (.dup, 1) := by decide +kernel
theorem d_Row_addFrom_59 : decode cd_Row_addFrom 59 = .ok (.getfield 19, 3) := by decide +kernel
theorem d_Row_addFrom_62 : decode cd_Row_addFrom 62 = .ok (.iload 4, 2) := by decide +kernel
theorem d_Row_addFrom_64 : decode cd_Row_addFrom 64 = .ok (.iadd, 1) := by decide +kernel
theorem d_Row_addFrom_65 : decode cd_Row_addFrom 65 = .ok (.putfield 19, 3) := by decide +kernel
theorem d_Row_addFrom_68 : decode cd_Row_addFrom 68 = .ok (.iconst 1, 1) := by decide +kernel
theorem d_Row_addFrom_69 : decode cd_Row_addFrom 69 = .ok (.ireturn, 1) := by decide +kernel
theorem d_Row_cutTo_0 : decode cd_Row_cutTo 0 = .ok (.aload_n 0, 1) := by decide +kernel
theorem d_Row_cutTo_1 : decode cd_Row_cutTo 1 = .ok (.iconst 0, 1) := by decide +kernel
theorem d_Row_cutTo_2 : decode cd_Row_cutTo 2 = .ok (.aload_n 0, 1) := by decide +kernel
theorem d_Row_cutTo_3 : decode cd_Row_cutTo 3 = .ok (.getfield 19, 3) := by decide +kernel
theorem d_Row_cutTo_6 : decode cd_Row_cutTo 6 = .ok (.iload_n 1, 1) := by decide +kernel
theorem d_Row_cutTo_7 : decode cd_Row_cutTo 7 = .ok (.invokestatic 23, 3) := by decide +kernel
theorem d_Row_cutTo_10 : decode cd_Row_cutTo 10 = .ok (.invokestatic 7, 3) := by decide +kernel
theorem d_Row_cutTo_13 : decode cd_Row_cutTo 13 = .ok (.putfield 19, 3) := by decide +kernel
theorem d_Row_cutTo_16 : decode cd_Row_cutTo 16 = .ok (.return_, 1) := by decide +kernel
theorem d_Row_become_0 : decode cd_Row_become 0 = .ok (.aload_n 0, 1) := by decide +kernel
theorem d_Row_become_1 : decode cd_Row_become 1 = .ok (.iconst 0, 1) := by decide +kernel
theorem d_Row_become_2 : decode cd_Row_become 2 = .ok (.invokevirtual 36, 3) := by decide +kernel
theorem d_Row_become_5 : decode cd_Row_become 5 = .ok (.aload_n 0, 1) := by decide +kernel
theorem d_Row_become_6 : decode cd_Row_become 6 = .ok (.aload_n 1, 1) := by decide +kernel
theorem d_Row_become_7 : decode cd_Row_become 7 = .ok (.iconst 0, 1) := by decide +kernel
theorem d_Row_become_8 : decode cd_Row_become 8 = .ok (.aload_n 1, 1) := by decide +kernel
theorem d_Row_become_9 : decode cd_Row_become 9 = .ok (.getfield 19, 3) := by decide +kernel
theorem d_Row_become_12 : decode cd_Row_become 12 = .ok (.invokevirtual 40, 3) := by decide +kernel
theorem d_Row_become_15 : decode cd_Row_become 15 = .ok (.pop, 1) := by decide +kernel
theorem d_Row_become_16 : decode cd_Row_become 16 = .ok (.return_, 1) := by decide +kernel
theorem d_Row_word_0 : decode cd_Row_word 0 = .ok (.iload_n 1, 1) := by decide +kernel
theorem d_Row_word_1 : decode cd_Row_word 1 = .ok (.ifCond .lt 25, 3) := by decide +kernel
theorem d_Row_word_4 : decode cd_Row_word 4 = .ok (.iload_n 1, 1) := by decide +kernel
theorem d_Row_word_5 : decode cd_Row_word 5 = .ok (.aload_n 0, 1) := by decide +kernel
theorem d_Row_word_6 : decode cd_Row_word 6 = .ok (.getfield 19, 3) := by decide +kernel
theorem d_Row_word_9 : decode cd_Row_word 9 = .ok (.iconst 4, 1) := by decide +kernel
theorem d_Row_word_10 : decode cd_Row_word 10 = .ok (.isub, 1) := by decide +kernel
theorem d_Row_word_11 : decode cd_Row_word 11 = .ok (.if_icmp .gt 15, 3) := by decide +kernel
theorem d_Row_word_14 : decode cd_Row_word 14 = .ok (.aload_n 0, 1) := by decide +kernel
theorem d_Row_word_15 : decode cd_Row_word 15 = .ok (.getfield 19, 3) := by decide +kernel
theorem d_Row_word_18 : decode cd_Row_word 18 = .ok (.aload_n 0, 1) := by decide +kernel
theorem d_Row_word_19 : decode cd_Row_word 19 = .ok (.getfield 13, 3) := by decide +kernel
theorem d_Row_word_22 : decode cd_Row_word 22 = .ok (.arraylength, 1) := by decide +kernel
theorem d_Row_word_23 : decode cd_Row_word 23 = .ok (.if_icmp .le 5, 3) := by decide +kernel
theorem d_Row_word_26 : decode cd_Row_word 26 = .ok (.iconst 0, 1) := by decide +kernel
theorem d_Row_word_27 : decode cd_Row_word 27 = .ok (.ireturn, 1) := by decide +kernel
theorem d_Row_word_28 : decode cd_Row_word 28 = .ok (.aload_n 0, 1) := by decide +kernel
theorem d_Row_word_29 : decode cd_Row_word 29 = .ok (.getfield 13, 3) := by decide +kernel
theorem d_Row_word_32 : decode cd_Row_word 32 = .ok (.iload_n 1, 1) := by decide +kernel
theorem d_Row_word_33 : decode cd_Row_word 33 = .ok (.baload, 1) := by decide +kernel
theorem d_Row_word_34 : decode cd_Row_word 34 = .ok (.sipush 255, 3) := by decide +kernel
theorem d_Row_word_37 : decode cd_Row_word 37 = .ok (.iand, 1) := by decide +kernel
theorem d_Row_word_38 : decode cd_Row_word 38 = .ok (.aload_n 0, 1) := by decide +kernel
theorem d_Row_word_39 : decode cd_Row_word 39 = .ok (.getfield 13, 3) := by decide +kernel
theorem d_Row_word_42 : decode cd_Row_word 42 = .ok (.iload_n 1, 1) := by decide +kernel
theorem d_Row_word_43 : decode cd_Row_word 43 = .ok (.iconst 1, 1) := by decide +kernel
theorem d_Row_word_44 : decode cd_Row_word 44 = .ok (.iadd, 1) := by decide +kernel
theorem d_Row_word_45 : decode cd_Row_word 45 = .ok (.baload, 1) := by decide +kernel
theorem d_Row_word_46 : decode cd_Row_word 46 = .ok (.sipush 255, 3) := by decide +kernel
theorem d_Row_word_49 : decode cd_Row_word 49 = .ok (.iand, 1) := by decide +kernel
theorem d_Row_word_50 : decode cd_Row_word 50 = .ok (.bipush 8, 2) := by decide +kernel
theorem d_Row_word_52 : decode cd_Row_word 52 = .ok (.ishl, 1) := by decide +kernel
theorem d_Row_word_53 : decode cd_Row_word 53 = .ok (.ior, 1) := by decide +kernel
theorem d_Row_word_54 : decode cd_Row_word 54 = .ok (.aload_n 0, 1) := by decide +kernel
theorem d_Row_word_55 : decode cd_Row_word 55 = .ok (.getfield 13, 3) := by decide +kernel
theorem d_Row_word_58 : decode cd_Row_word 58 = .ok (.iload_n 1, 1) := by decide +kernel
theorem d_Row_word_59 : decode cd_Row_word 59 = .ok (.iconst 2, 1) := by decide +kernel
theorem d_Row_word_60 : decode cd_Row_word 60 = .ok (.iadd, 1) := by decide +kernel
theorem d_Row_word_61 : decode cd_Row_word 61 = .ok (.baload, 1) := by decide +kernel
theorem d_Row_word_62 : decode cd_Row_word 62 = .ok (.sipush 255, 3) := by decide +kernel
theorem d_Row_word_65 : decode cd_Row_word 65 = .ok (.iand, 1) := by decide +kernel
theorem d_Row_word_66 : decode cd_Row_word 66 = .ok (.bipush 16, 2) := by decide +kernel
theorem d_Row_word_68 : decode cd_Row_word 68 = .ok (.ishl, 1) := by decide +kernel
theorem d_Row_word_69 : decode cd_Row_word 69 = .ok (.ior, 1) := by decide +kernel
theorem d_Row_word_70 : decode cd_Row_word 70 = .ok (.aload_n 0, 1) := by decide +kernel
theorem d_Row_word_71 : decode cd_Row_word 71 = .ok (.getfield 13, 3) := by decide +kernel
theorem d_Row_word_74 : decode cd_Row_word 74 = .ok (.iload_n 1, 1) := by decide +kernel
theorem d_Row_word_75 : decode cd_Row_word 75 = .ok (.iconst 3, 1) := by decide +kernel
theorem d_Row_word_76 : decode cd_Row_word 76 = .ok (.iadd, 1) := by decide +kernel
theorem d_Row_word_77 : decode cd_Row_word 77 = .ok (.baload, 1) := by decide +kernel
theorem d_Row_word_78 : decode cd_Row_word 78 = .ok (.sipush 255, 3) := by decide +kernel
theorem d_Row_word_81 : decode cd_Row_word 81 = .ok (.iand, 1) := by decide +kernel
theorem d_Row_word_82 : decode cd_Row_word 82 = .ok (.bipush 24, 2) := by decide +kernel
theorem d_Row_word_84 : decode cd_Row_word 84 = .ok (.ishl, 1) := by decide +kernel
theorem d_Row_word_85 : decode cd_Row_word 85 = .ok (.ior, 1) := by decide +kernel
theorem d_Row_word_86 : decode cd_Row_word 86 = .ok (.ireturn, 1) := by decide +kernel
theorem d_Row_get_0 : decode cd_Row_get 0 = .ok (.iload_n 1, 1) := by decide +kernel
theorem d_Row_get_1 : decode cd_Row_get 1 = .ok (.ifCond .lt 33, 3) := by decide +kernel
theorem d_Row_get_4 : decode cd_Row_get 4 = .ok (.iload_n 1, 1) := by decide +kernel
theorem d_Row_get_5 : decode cd_Row_get 5 = .ok (.aload_n 0, 1) := by decide +kernel
theorem d_Row_get_6 : decode cd_Row_get 6 = .ok (.getfield 19, 3) := by decide +kernel
theorem d_Row_get_9 : decode cd_Row_get 9 = .ok (.if_icmp .ge 25, 3) := by decide +kernel
theorem d_Row_get_12 : decode cd_Row_get 12 = .ok (.iload_n 1, 1) := by decide +kernel
theorem d_Row_get_13 : decode cd_Row_get 13 = .ok (.aload_n 0, 1) := by decide +kernel
theorem d_Row_get_14 : decode cd_Row_get 14 = .ok (.getfield 13, 3) := by decide +kernel
theorem d_Row_get_17 : decode cd_Row_get 17 = .ok (.arraylength, 1) := by decide +kernel
theorem d_Row_get_18 : decode cd_Row_get 18 = .ok (.if_icmp .ge 16, 3) := by decide +kernel
theorem d_Row_get_21 : decode cd_Row_get 21 = .ok (.aload_n 0, 1) := by decide +kernel
theorem d_Row_get_22 : decode cd_Row_get 22 = .ok (.getfield 13, 3) := by decide +kernel
theorem d_Row_get_25 : decode cd_Row_get 25 = .ok (.iload_n 1, 1) := by decide +kernel
theorem d_Row_get_26 : decode cd_Row_get 26 = .ok (.baload, 1) := by decide +kernel
theorem d_Row_get_27 : decode cd_Row_get 27 = .ok (.sipush 255, 3) := by decide +kernel
theorem d_Row_get_30 : decode cd_Row_get 30 = .ok (.iand, 1) := by decide +kernel
theorem d_Row_get_31 : decode cd_Row_get 31 = .ok (.goto 4, 3) := by decide +kernel
theorem d_Row_get_34 : decode cd_Row_get 34 = .ok (.iconst (-1), 1) := by decide +kernel
theorem d_Row_get_35 : decode cd_Row_get 35 = .ok (.ireturn, 1) := by decide +kernel
theorem d_Row_same_0 : decode cd_Row_same 0 = .ok (.iload_n 3, 1) := by decide +kernel
theorem d_Row_same_1 : decode cd_Row_same 1 = .ok (.aload_n 0, 1) := by decide +kernel
theorem d_Row_same_2 : decode cd_Row_same 2 = .ok (.getfield 19, 3) := by decide +kernel
theorem d_Row_same_5 : decode cd_Row_same 5 = .ok (.invokestatic 23, 3) := by decide +kernel
theorem d_Row_same_8 : decode cd_Row_same 8 = .ok (.iload_n 2, 1) := by decide +kernel
theorem d_Row_same_9 : decode cd_Row_same 9 = .ok (.isub, 1) := by decide +kernel
theorem d_Row_same_10 : decode cd_Row_same 10 = .ok (.istore 4, 2) := by decide +kernel
theorem d_Row_same_12 : decode cd_Row_same 12 = .ok (.iload_n 1, 1) := by decide +kernel
theorem d_Row_same_13 : decode cd_Row_same 13 = .ok (.ifCond .lt 20, 3) := by decide +kernel
theorem d_Row_same_16 : decode cd_Row_same 16 = .ok (.iload_n 1, 1) := by decide +kernel
theorem d_Row_same_17 : decode cd_Row_same 17 = .ok (.iload_n 2, 1) := by decide +kernel
theorem d_Row_same_18 : decode cd_Row_same 18 = .ok (.if_icmp .gt 15, 3) := by decide +kernel
theorem d_Row_same_21 : decode cd_Row_same 21 = .ok (.aload_n 0, 1) := by decide +kernel
theorem d_Row_same_22 : decode cd_Row_same 22 = .ok (.getfield 19, 3) := by decide +kernel
theorem d_Row_same_25 : decode cd_Row_same 25 = .ok (.aload_n 0, 1) := by decide +kernel
theorem d_Row_same_26 : decode cd_Row_same 26 = .ok (.getfield 13, 3) := by decide +kernel
theorem d_Row_same_29 : decode cd_Row_same 29 = .ok (.arraylength, 1) := by decide +kernel
theorem d_Row_same_30 : decode cd_Row_same 30 = .ok (.if_icmp .le 5, 3) := by decide +kernel
theorem d_Row_same_33 : decode cd_Row_same 33 = .ok (.iconst 0, 1) := by decide +kernel
theorem d_Row_same_34 : decode cd_Row_same 34 = .ok (.ireturn, 1) := by decide +kernel
theorem d_Row_same_35 : decode cd_Row_same 35 = .ok (.iconst 0, 1) := by decide +kernel
theorem d_Row_same_36 : decode cd_Row_same 36 = .ok (.istore 5, 2) := by decide +kernel
theorem d_Row_same_38 : decode cd_Row_same 38 = .ok (.iload 5, 2) := by decide +kernel
theorem d_Row_same_40 : decode cd_Row_same 40 = .ok (.iload 4, 2) := by decide +kernel
theorem d_Row_same_42 : decode cd_Row_same 42 = .ok (.if_icmp .ge 33, 3) := by decide +kernel
theorem d_Row_same_45 : decode cd_Row_same 45 = .ok (.aload_n 0, 1) := by decide +kernel
theorem d_Row_same_46 : decode cd_Row_same 46 = .ok (.getfield 13, 3) := by decide +kernel
theorem d_Row_same_49 : decode cd_Row_same 49 = .ok (.iload_n 1, 1) := by decide +kernel
theorem d_Row_same_50 : decode cd_Row_same 50 = .ok (.iload 5, 2) := by decide +kernel
theorem d_Row_same_52 : decode cd_Row_same 52 = .ok (.iadd, 1) := by decide +kernel
theorem d_Row_same_53 : decode cd_Row_same 53 = .ok (.baload, 1) := by decide +kernel
theorem d_Row_same_54 : decode cd_Row_same 54 = .ok (.aload_n 0, 1) := by decide +kernel
theorem d_Row_same_55 : decode cd_Row_same 55 = .ok (.getfield 13, 3) := by decide +kernel
theorem d_Row_same_58 : decode cd_Row_same 58 = .ok (.iload_n 2, 1) := by decide +kernel
theorem d_Row_same_59 : decode cd_Row_same 59 = .ok (.iload 5, 2) := by decide +kernel
theorem d_Row_same_61 : decode cd_Row_same 61 = .ok (.iadd, 1) := by decide +kernel
theorem d_Row_same_62 : decode cd_Row_same 62 = .ok (.baload, 1) := by decide +kernel
theorem d_Row_same_63 : decode cd_Row_same 63 = .ok (.if_icmp .eq 6, 3) := by decide +kernel
theorem d_Row_same_66 : decode cd_Row_same 66 = .ok (.iload 5, 2) := by decide +kernel
theorem d_Row_same_68 : decode cd_Row_same 68 = .ok (.ireturn, 1) := by decide +kernel
theorem d_Row_same_69 : decode cd_Row_same 69 = .ok (.iinc 5 1, 3) := by decide +kernel
theorem d_Row_same_72 : decode cd_Row_same 72 = .ok (.goto (-34), 3) := by decide +kernel
theorem d_Row_same_75 : decode cd_Row_same 75 = .ok (.iconst 0, 1) := by decide +kernel
theorem d_Row_same_76 : decode cd_Row_same 76 = .ok (.iload 4, 2) := by decide +kernel
theorem d_Row_same_78 : decode cd_Row_same 78 = .ok (.invokestatic 7, 3) := by decide +kernel
theorem d_Row_same_81 : decode cd_Row_same 81 = .ok (.ireturn, 1) := by decide +kernel
theorem d_Row_pair_0 : decode cd_Row_pair 0 = .ok (.iload_n 1, 1) := by decide +kernel
theorem d_Row_pair_1 : decode cd_Row_pair 1 = .ok (.ifCond .lt 25, 3) := by decide +kernel
theorem d_Row_pair_4 : decode cd_Row_pair 4 = .ok (.iload_n 1, 1) := by decide +kernel
theorem d_Row_pair_5 : decode cd_Row_pair 5 = .ok (.aload_n 0, 1) := by decide +kernel
theorem d_Row_pair_6 : decode cd_Row_pair 6 = .ok (.getfield 19, 3) := by decide +kernel
theorem d_Row_pair_9 : decode cd_Row_pair 9 = .ok (.iconst 2, 1) := by decide +kernel
theorem d_Row_pair_10 : decode cd_Row_pair 10 = .ok (.isub, 1) := by decide +kernel
theorem d_Row_pair_11 : decode cd_Row_pair 11 = .ok (.if_icmp .gt 15, 3) := by decide +kernel
theorem d_Row_pair_14 : decode cd_Row_pair 14 = .ok (.aload_n 0, 1) := by decide +kernel
theorem d_Row_pair_15 : decode cd_Row_pair 15 = .ok (.getfield 19, 3) := by decide +kernel
theorem d_Row_pair_18 : decode cd_Row_pair 18 = .ok (.aload_n 0, 1) := by decide +kernel
theorem d_Row_pair_19 : decode cd_Row_pair 19 = .ok (.getfield 13, 3) := by decide +kernel
theorem d_Row_pair_22 : decode cd_Row_pair 22 = .ok (.arraylength, 1) := by decide +kernel
theorem d_Row_pair_23 : decode cd_Row_pair 23 = .ok (.if_icmp .le 5, 3) := by decide +kernel
theorem d_Row_pair_26 : decode cd_Row_pair 26 = .ok (.iconst 0, 1) := by decide +kernel
theorem d_Row_pair_27 : decode cd_Row_pair 27 = .ok (.ireturn, 1) := by decide +kernel
theorem d_Row_pair_28 : decode cd_Row_pair 28 = .ok (.aload_n 0, 1) := by decide +kernel
theorem d_Row_pair_29 : decode cd_Row_pair 29 = .ok (.getfield 13, 3) := by decide +kernel
theorem d_Row_pair_32 : decode cd_Row_pair 32 = .ok (.iload_n 1, 1) := by decide +kernel
theorem d_Row_pair_33 : decode cd_Row_pair 33 = .ok (.baload, 1) := by decide +kernel
theorem d_Row_pair_34 : decode cd_Row_pair 34 = .ok (.sipush 255, 3) := by decide +kernel
theorem d_Row_pair_37 : decode cd_Row_pair 37 = .ok (.iand, 1) := by decide +kernel
theorem d_Row_pair_38 : decode cd_Row_pair 38 = .ok (.aload_n 0, 1) := by decide +kernel
theorem d_Row_pair_39 : decode cd_Row_pair 39 = .ok (.getfield 13, 3) := by decide +kernel
theorem d_Row_pair_42 : decode cd_Row_pair 42 = .ok (.iload_n 1, 1) := by decide +kernel
theorem d_Row_pair_43 : decode cd_Row_pair 43 = .ok (.iconst 1, 1) := by decide +kernel
theorem d_Row_pair_44 : decode cd_Row_pair 44 = .ok (.iadd, 1) := by decide +kernel
theorem d_Row_pair_45 : decode cd_Row_pair 45 = .ok (.baload, 1) := by decide +kernel
theorem d_Row_pair_46 : decode cd_Row_pair 46 = .ok (.sipush 255, 3) := by decide +kernel
theorem d_Row_pair_49 : decode cd_Row_pair 49 = .ok (.iand, 1) := by decide +kernel
theorem d_Row_pair_50 : decode cd_Row_pair 50 = .ok (.bipush 8, 2) := by decide +kernel
theorem d_Row_pair_52 : decode cd_Row_pair 52 = .ok (.ishl, 1) := by decide +kernel
theorem d_Row_pair_53 : decode cd_Row_pair 53 = .ok (.ior, 1) := by decide +kernel
theorem d_Row_pair_54 : decode cd_Row_pair 54 = .ok (.ireturn, 1) := by decide +kernel
theorem d_Row_addWord_0 : decode cd_Row_addWord 0 = .ok (.aload_n 0, 1) := by decide +kernel
theorem d_Row_addWord_1 : decode cd_Row_addWord 1 = .ok (.iload_n 1, 1) := by decide +kernel
theorem d_Row_addWord_2 : decode cd_Row_addWord 2 = .ok (.invokevirtual 26, 3) := by decide +kernel
theorem d_Row_addWord_5 : decode cd_Row_addWord 5 = .ok (.ifCond .eq 40, 3) := by decide +kernel
theorem d_Row_addWord_8 : decode cd_Row_addWord 8 = .ok (.aload_n 0, 1) := by decide +kernel
theorem d_Row_addWord_9 : decode cd_Row_addWord 9 = .ok (.iload_n 1, 1) := by decide +kernel
theorem d_Row_addWord_10 : decode cd_Row_addWord 10 = .ok (.bipush 8, 2) := by decide +kernel
theorem d_Row_addWord_12 : decode cd_Row_addWord 12 = .ok (.ishr, 1) := by decide +kernel
theorem d_Row_addWord_13 : decode cd_Row_addWord 13 = .ok (.invokevirtual 26, 3) := by decide +kernel
theorem d_Row_addWord_16 : decode cd_Row_addWord 16 = .ok (.ifCond .eq 29, 3) := by decide +kernel
theorem d_Row_addWord_19 : decode cd_Row_addWord 19 = .ok (.aload_n 0, 1) := by decide +kernel
theorem d_Row_addWord_20 : decode cd_Row_addWord 20 = .ok (.iload_n 1, 1) := by decide +kernel
theorem d_Row_addWord_21 : decode cd_Row_addWord 21 = .ok (.bipush 16, 2) := by decide +kernel
theorem d_Row_addWord_23 : decode cd_Row_addWord 23 = .ok (.ishr, 1) := by decide +kernel
theorem d_Row_addWord_24 : decode cd_Row_addWord 24 = .ok (.invokevirtual 26, 3) := by decide +kernel
theorem d_Row_addWord_27 : decode cd_Row_addWord 27 = .ok (.ifCond .eq 18, 3) := by decide +kernel
theorem d_Row_addWord_30 : decode cd_Row_addWord 30 = .ok (.aload_n 0, 1) := by decide +kernel
theorem d_Row_addWord_31 : decode cd_Row_addWord 31 = .ok (.iload_n 1, 1) := by decide +kernel
theorem d_Row_addWord_32 : decode cd_Row_addWord 32 = .ok (.bipush 24, 2) := by decide +kernel
theorem d_Row_addWord_34 : decode cd_Row_addWord 34 = .ok (.ishr, 1) := by decide +kernel
theorem d_Row_addWord_35 : decode cd_Row_addWord 35 = .ok (.invokevirtual 26, 3) := by decide +kernel
theorem d_Row_addWord_38 : decode cd_Row_addWord 38 = .ok (.ifCond .eq 7, 3) := by decide +kernel
theorem d_Row_addWord_41 : decode cd_Row_addWord 41 = .ok (.iconst 1, 1) := by decide +kernel
theorem d_Row_addWord_42 : decode cd_Row_addWord 42 = .ok (.goto 4, 3) := by decide +kernel
theorem d_Row_addWord_45 : decode cd_Row_addWord 45 = .ok (.iconst 0, 1) := by decide +kernel
theorem d_Row_addWord_46 : decode cd_Row_addWord 46 = .ok (.ireturn, 1) := by decide +kernel
