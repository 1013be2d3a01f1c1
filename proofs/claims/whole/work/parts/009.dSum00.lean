theorem d_Sum_of_0 : decode cd_Sum_of 0 = .ok (.iload_n 2, 1) := by decide +kernel
theorem d_Sum_of_1 : decode cd_Sum_of 1 = .ok (.iload_n 1, 1) := by decide +kernel
theorem d_Sum_of_2 : decode cd_Sum_of 2 = .ok (.isub, 1) := by decide +kernel
theorem d_Sum_of_3 : decode cd_Sum_of 3 = .ok (.istore_n 3, 1) := by decide +kernel
theorem d_Sum_of_4 : decode cd_Sum_of 4 = .ok (.iload_n 1, 1) := by decide +kernel
theorem d_Sum_of_5 : decode cd_Sum_of 5 = .ok (.iload_n 3, 1) := by decide +kernel
theorem d_Sum_of_6 : decode cd_Sum_of 6 = .ok (.bipush 16, 2) := by decide +kernel
theorem d_Sum_of_8 : decode cd_Sum_of 8 = .ok (.idiv, 1) := by decide +kernel
theorem d_Sum_of_9 : decode cd_Sum_of 9 = .ok (.bipush 16, 2) := by decide +kernel
theorem d_Sum_of_11 : decode cd_Sum_of 11 = .ok (.imul, 1) := by decide +kernel
theorem d_Sum_of_12 : decode cd_Sum_of 12 = .ok (.iadd, 1) := by decide +kernel
theorem d_Sum_of_13 : decode cd_Sum_of 13 = .ok (.istore 4, 2) := by decide +kernel
theorem d_Sum_of_15 : decode cd_Sum_of 15 = .ok (.iload_n 3, 1) := by decide +kernel
theorem d_Sum_of_16 : decode cd_Sum_of 16 = .ok (.bipush 16, 2) := by decide +kernel
theorem d_Sum_of_18 : decode cd_Sum_of 18 = .ok (.if_icmp .lt 13, 3) := by decide +kernel
theorem d_Sum_of_21 : decode cd_Sum_of 21 = .ok (.aload_n 0, 1) := by decide +kernel
theorem d_Sum_of_22 : decode cd_Sum_of 22 = .ok (.iload_n 1, 1) := by decide +kernel
theorem d_Sum_of_23 : decode cd_Sum_of 23 = .ok (.iload 4, 2) := by decide +kernel
theorem d_Sum_of_25 : decode cd_Sum_of 25 = .ok (.invokestatic 7, 3) := by decide +kernel
theorem d_Sum_of_28 : decode cd_Sum_of 28 = .ok (.goto 5, 3) := by decide +kernel
theorem d_Sum_of_31 : decode cd_Sum_of 31 = .ok (.ldc 13, 2) := by decide +kernel
theorem d_Sum_of_33 : decode cd_Sum_of 33 = .ok (.istore 5, 2) := by decide +kernel
theorem d_Sum_of_35 : decode cd_Sum_of 35 = .ok (.iload 5, 2) := by decide +kernel
theorem d_Sum_of_37 : decode cd_Sum_of 37 = .ok (.iload_n 3, 1) := by decide +kernel
theorem d_Sum_of_38 : decode cd_Sum_of 38 = .ok (.iadd, 1) := by decide +kernel
theorem d_Sum_of_39 : decode cd_Sum_of 39 = .ok (.istore 5, 2) := by decide +kernel
theorem d_Sum_of_41 : decode cd_Sum_of 41 = .ok (.iload_n 2, 1) := by decide +kernel
theorem d_Sum_of_42 : decode cd_Sum_of 42 = .ok (.iload 4, 2) := by decide +kernel
theorem d_Sum_of_44 : decode cd_Sum_of 44 = .ok (.isub, 1) := by decide +kernel
theorem d_Sum_of_45 : decode cd_Sum_of 45 = .ok (.iconst 4, 1) := by decide +kernel
theorem d_Sum_of_46 : decode cd_Sum_of 46 = .ok (.if_icmp .lt 31, 3) := by decide +kernel
theorem d_Sum_of_49 : decode cd_Sum_of 49 = .ok (.iload 5, 2) := by decide +kernel
theorem d_Sum_of_51 : decode cd_Sum_of 51 = .ok (.aload_n 0, 1) := by decide +kernel
theorem d_Sum_of_52 : decode cd_Sum_of 52 = .ok (.iload 4, 2) := by decide +kernel
theorem d_Sum_of_54 : decode cd_Sum_of 54 = .ok (.invokevirtual 14, 3) := by decide +kernel
theorem d_Sum_of_57 : decode cd_Sum_of 57 = .ok (.ldc 20, 2) := by decide +kernel
theorem d_Sum_of_59 : decode cd_Sum_of 59 = .ok (.imul, 1) := by decide +kernel
theorem d_Sum_of_60 : decode cd_Sum_of 60 = .ok (.iadd, 1) := by decide +kernel
theorem d_Sum_of_61 : decode cd_Sum_of 61 = .ok (.bipush 17, 2) := by decide +kernel
theorem d_Sum_of_63 : decode cd_Sum_of 63 = .ok (.invokestatic 21, 3) := by decide +kernel
theorem d_Sum_of_66 : decode cd_Sum_of 66 = .ok (.ldc 25, 2) := by decide +kernel
theorem d_Sum_of_68 : decode cd_Sum_of 68 = .ok (.imul, 1) := by decide +kernel
theorem d_Sum_of_69 : decode cd_Sum_of 69 = .ok (.istore 5, 2) := by decide +kernel
theorem d_Sum_of_71 : decode cd_Sum_of 71 = .ok (.iinc 4 4, 3) := by decide +kernel
theorem d_Sum_of_74 : decode cd_Sum_of 74 = .ok (.goto (-33), 3) := by decide +kernel
theorem d_Sum_of_77 : decode cd_Sum_of 77 = .ok (.iload 4, 2) := by decide +kernel
theorem d_Sum_of_79 : decode cd_Sum_of 79 = .ok (.iload_n 2, 1) := by decide +kernel
theorem d_Sum_of_80 : decode cd_Sum_of 80 = .ok (.if_icmp .ge 31, 3) := by decide +kernel
theorem d_Sum_of_83 : decode cd_Sum_of 83 = .ok (.iload 5, 2) := by decide +kernel
theorem d_Sum_of_85 : decode cd_Sum_of 85 = .ok (.aload_n 0, 1) := by decide +kernel
theorem d_Sum_of_86 : decode cd_Sum_of 86 = .ok (.iload 4, 2) := by decide +kernel
theorem d_Sum_of_88 : decode cd_Sum_of 88 = .ok (.invokevirtual 26, 3) := by decide +kernel
theorem d_Sum_of_91 : decode cd_Sum_of 91 = .ok (.ldc 13, 2) := by decide +kernel
theorem d_Sum_of_93 : decode cd_Sum_of 93 = .ok (.imul, 1) := by decide +kernel
theorem d_Sum_of_94 : decode cd_Sum_of 94 = .ok (.iadd, 1) := by decide +kernel
theorem d_Sum_of_95 : decode cd_Sum_of 95 = .ok (.bipush 11, 2) := by decide +kernel
theorem d_Sum_of_97 : decode cd_Sum_of 97 = .ok (.invokestatic 21, 3) := by decide +kernel
theorem d_Sum_of_100 : decode cd_Sum_of 100 = .ok (.ldc 29, 2) := by decide +kernel
theorem d_Sum_of_102 : decode cd_Sum_of 102 = .ok (.imul, 1) := by decide +kernel
theorem d_Sum_of_103 : decode cd_Sum_of 103 = .ok (.istore 5, 2) := by decide +kernel
theorem d_Sum_of_105 : decode cd_Sum_of 105 = .ok (.iinc 4 1, 3) := by decide +kernel
theorem d_Sum_of_108 : decode cd_Sum_of 108 = .ok (.goto (-31), 3) := by decide +kernel
theorem d_Sum_of_111 : decode cd_Sum_of 111 = .ok (.iload 5, 2) := by decide +kernel
theorem d_Sum_of_113 : decode cd_Sum_of 113 = .ok (.iload 5, 2) := by decide +kernel
theorem d_Sum_of_115 : decode cd_Sum_of 115 = .ok (.bipush 15, 2) := by decide +kernel
theorem d_Sum_of_117 : decode cd_Sum_of 117 = .ok (.iushr, 1) := by decide +kernel
theorem d_Sum_of_118 : decode cd_Sum_of 118 = .ok (.ixor, 1) := by decide +kernel
theorem d_Sum_of_119 : decode cd_Sum_of 119 = .ok (.ldc 30, 2) := by decide +kernel
theorem d_Sum_of_121 : decode cd_Sum_of 121 = .ok (.imul, 1) := by decide +kernel
theorem d_Sum_of_122 : decode cd_Sum_of 122 = .ok (.istore 5, 2) := by decide +kernel
theorem d_Sum_of_124 : decode cd_Sum_of 124 = .ok (.iload 5, 2) := by decide +kernel
theorem d_Sum_of_126 : decode cd_Sum_of 126 = .ok (.iload 5, 2) := by decide +kernel
theorem d_Sum_of_128 : decode cd_Sum_of 128 = .ok (.bipush 13, 2) := by decide +kernel
theorem d_Sum_of_130 : decode cd_Sum_of 130 = .ok (.iushr, 1) := by decide +kernel
theorem d_Sum_of_131 : decode cd_Sum_of 131 = .ok (.ixor, 1) := by decide +kernel
theorem d_Sum_of_132 : decode cd_Sum_of 132 = .ok (.ldc 20, 2) := by decide +kernel
theorem d_Sum_of_134 : decode cd_Sum_of 134 = .ok (.imul, 1) := by decide +kernel
theorem d_Sum_of_135 : decode cd_Sum_of 135 = .ok (.istore 5, 2) := by decide +kernel
theorem d_Sum_of_137 : decode cd_Sum_of 137 = .ok (.iload 5, 2) := by decide +kernel
theorem d_Sum_of_139 : decode cd_Sum_of 139 = .ok (.iload 5, 2) := by decide +kernel
theorem d_Sum_of_141 : decode cd_Sum_of 141 = .ok (.bipush 16, 2) := by decide +kernel
theorem d_Sum_of_143 : decode cd_Sum_of 143 = .ok (.iushr, 1) := by decide +kernel
theorem d_Sum_of_144 : decode cd_Sum_of 144 = .ok (.ixor, 1) := by decide +kernel
theorem d_Sum_of_145 : decode cd_Sum_of 145 = .ok (.ireturn, 1) := by decide +kernel
theorem d_Sum_ofLanes_0 : decode cd_Sum_ofLanes 0 = .ok (.ldc 31, 2) := by decide +kernel
theorem d_Sum_ofLanes_2 : decode cd_Sum_ofLanes 2 = .ok (.istore_n 3, 1) := by decide +kernel
theorem d_Sum_ofLanes_3 : decode cd_Sum_ofLanes 3 = .ok (.ldc 30, 2) := by decide +kernel
theorem d_Sum_ofLanes_5 : decode cd_Sum_ofLanes 5 = .ok (.istore 4, 2) := by decide +kernel
theorem d_Sum_ofLanes_7 : decode cd_Sum_ofLanes 7 = .ok (.iconst 0, 1) := by decide +kernel
theorem d_Sum_ofLanes_8 : decode cd_Sum_ofLanes 8 = .ok (.istore 5, 2) := by decide +kernel
theorem d_Sum_ofLanes_10 : decode cd_Sum_ofLanes 10 = .ok (.ldc 32, 2) := by decide +kernel
theorem d_Sum_ofLanes_12 : decode cd_Sum_ofLanes 12 = .ok (.istore 6, 2) := by decide +kernel
theorem d_Sum_ofLanes_14 : decode cd_Sum_ofLanes 14 = .ok (.iload_n 1, 1) := by decide +kernel
theorem d_Sum_ofLanes_15 : decode cd_Sum_ofLanes 15 = .ok (.istore 7, 2) := by decide +kernel
theorem d_Sum_ofLanes_17 : decode cd_Sum_ofLanes 17 = .ok (.iload 7, 2) := by decide +kernel
theorem d_Sum_ofLanes_19 : decode cd_Sum_ofLanes 19 = .ok (.iload_n 2, 1) := by decide +kernel
theorem d_Sum_ofLanes_20 : decode cd_Sum_ofLanes 20 = .ok (.if_icmp .ge 67, 3) := by decide +kernel
theorem d_Sum_ofLanes_23 : decode cd_Sum_ofLanes 23 = .ok (.iload_n 3, 1) := by decide +kernel
theorem d_Sum_ofLanes_24 : decode cd_Sum_ofLanes 24 = .ok (.aload_n 0, 1) := by decide +kernel
theorem d_Sum_ofLanes_25 : decode cd_Sum_ofLanes 25 = .ok (.iload 7, 2) := by decide +kernel
theorem d_Sum_ofLanes_27 : decode cd_Sum_ofLanes 27 = .ok (.invokevirtual 14, 3) := by decide +kernel
theorem d_Sum_ofLanes_30 : decode cd_Sum_ofLanes 30 = .ok (.invokestatic 33, 3) := by decide +kernel
theorem d_Sum_ofLanes_33 : decode cd_Sum_ofLanes 33 = .ok (.istore_n 3, 1) := by decide +kernel
theorem d_Sum_ofLanes_34 : decode cd_Sum_ofLanes 34 = .ok (.iload 4, 2) := by decide +kernel
theorem d_Sum_ofLanes_36 : decode cd_Sum_ofLanes 36 = .ok (.aload_n 0, 1) := by decide +kernel
theorem d_Sum_ofLanes_37 : decode cd_Sum_ofLanes 37 = .ok (.iload 7, 2) := by decide +kernel
theorem d_Sum_ofLanes_39 : decode cd_Sum_ofLanes 39 = .ok (.iconst 4, 1) := by decide +kernel
theorem d_Sum_ofLanes_40 : decode cd_Sum_ofLanes 40 = .ok (.iadd, 1) := by decide +kernel
theorem d_Sum_ofLanes_41 : decode cd_Sum_ofLanes 41 = .ok (.invokevirtual 14, 3) := by decide +kernel
theorem d_Sum_ofLanes_44 : decode cd_Sum_ofLanes 44 = .ok (.invokestatic 33, 3) := by decide +kernel
theorem d_Sum_ofLanes_47 : decode cd_Sum_ofLanes 47 = .ok (.istore 4, 2) := by decide +kernel
theorem d_Sum_ofLanes_49 : decode cd_Sum_ofLanes 49 = .ok (.iload 5, 2) := by decide +kernel
theorem d_Sum_ofLanes_51 : decode cd_Sum_ofLanes 51 = .ok (.aload_n 0, 1) := by decide +kernel
theorem d_Sum_ofLanes_52 : decode cd_Sum_ofLanes 52 = .ok (.iload 7, 2) := by decide +kernel
theorem d_Sum_ofLanes_54 : decode cd_Sum_ofLanes 54 = .ok (.bipush 8, 2) := by decide +kernel
theorem d_Sum_ofLanes_56 : decode cd_Sum_ofLanes 56 = .ok (.iadd, 1) := by decide +kernel
theorem d_Sum_ofLanes_57 : decode cd_Sum_ofLanes 57 = .ok (.invokevirtual 14, 3) := by decide +kernel
theorem d_Sum_ofLanes_60 : decode cd_Sum_ofLanes 60 = .ok (.invokestatic 33, 3) := by decide +kernel
theorem d_Sum_ofLanes_63 : decode cd_Sum_ofLanes 63 = .ok (.istore 5, 2) := by decide +kernel
theorem d_Sum_ofLanes_65 : decode cd_Sum_ofLanes 65 = .ok (.iload 6, 2) := by decide +kernel
theorem d_Sum_ofLanes_67 : decode cd_Sum_ofLanes 67 = .ok (.aload_n 0, 1) := by decide +kernel
theorem d_Sum_ofLanes_68 : decode cd_Sum_ofLanes 68 = .ok (.iload 7, 2) := by decide +kernel
theorem d_Sum_ofLanes_70 : decode cd_Sum_ofLanes 70 = .ok (.bipush 12, 2) := by decide +kernel
theorem d_Sum_ofLanes_72 : decode cd_Sum_ofLanes 72 = .ok (.iadd, 1) := by decide +kernel
theorem d_Sum_ofLanes_73 : decode cd_Sum_ofLanes 73 = .ok (.invokevirtual 14, 3) := by decide +kernel
theorem d_Sum_ofLanes_76 : decode cd_Sum_ofLanes 76 = .ok (.invokestatic 33, 3) := by decide +kernel
theorem d_Sum_ofLanes_79 : decode cd_Sum_ofLanes 79 = .ok (.istore 6, 2) := by decide +kernel
theorem d_Sum_ofLanes_81 : decode cd_Sum_ofLanes 81 = .ok (.iinc 7 16, 3) := by decide +kernel
theorem d_Sum_ofLanes_84 : decode cd_Sum_ofLanes 84 = .ok (.goto (-67), 3) := by decide +kernel
theorem d_Sum_ofLanes_87 : decode cd_Sum_ofLanes 87 = .ok (.iload_n 3, 1) := by decide +kernel
theorem d_Sum_ofLanes_88 : decode cd_Sum_ofLanes 88 = .ok (.iconst 1, 1) := by decide +kernel
theorem d_Sum_ofLanes_89 : decode cd_Sum_ofLanes 89 = .ok (.invokestatic 21, 3) := by decide +kernel
theorem d_Sum_ofLanes_92 : decode cd_Sum_ofLanes 92 = .ok (.iload 4, 2) := by decide +kernel
theorem d_Sum_ofLanes_94 : decode cd_Sum_ofLanes 94 = .ok (.bipush 7, 2) := by decide +kernel
theorem d_Sum_ofLanes_96 : decode cd_Sum_ofLanes 96 = .ok (.invokestatic 21, 3) := by decide +kernel
theorem d_Sum_ofLanes_99 : decode cd_Sum_ofLanes 99 = .ok (.iadd, 1) := by decide +kernel
theorem d_Sum_ofLanes_100 : decode cd_Sum_ofLanes 100 = .ok (.iload 5, 2) := by decide +kernel
theorem d_Sum_ofLanes_102 : decode cd_Sum_ofLanes 102 = .ok (.bipush 12, 2) := by decide +kernel
theorem d_Sum_ofLanes_104 : decode cd_Sum_ofLanes 104 = .ok (.invokestatic 21, 3) := by decide +kernel
theorem d_Sum_ofLanes_107 : decode cd_Sum_ofLanes 107 = .ok (.iadd, 1) := by decide +kernel
theorem d_Sum_ofLanes_108 : decode cd_Sum_ofLanes 108 = .ok (.iload 6, 2) := by decide +kernel
theorem d_Sum_ofLanes_110 : decode cd_Sum_ofLanes 110 = .ok (.bipush 18, 2) := by decide +kernel
theorem d_Sum_ofLanes_112 : decode cd_Sum_ofLanes 112 = .ok (.invokestatic 21, 3) := by decide +kernel
theorem d_Sum_ofLanes_115 : decode cd_Sum_ofLanes 115 = .ok (.iadd, 1) := by decide +kernel
theorem d_Sum_ofLanes_116 : decode cd_Sum_ofLanes 116 = .ok (.ireturn, 1) := by decide +kernel
theorem d_Sum_lane_0 : decode cd_Sum_lane 0 = .ok (.iload_n 0, 1) := by decide +kernel
theorem d_Sum_lane_1 : decode cd_Sum_lane 1 = .ok (.iload_n 1, 1) := by decide +kernel
theorem d_Sum_lane_2 : decode cd_Sum_lane 2 = .ok (.ldc 30, 2) := by decide +kernel
theorem d_Sum_lane_4 : decode cd_Sum_lane 4 = .ok (.imul, 1) := by decide +kernel
theorem d_Sum_lane_5 : decode cd_Sum_lane 5 = .ok (.iadd, 1) := by decide +kernel
theorem d_Sum_lane_6 : decode cd_Sum_lane 6 = .ok (.bipush 13, 2) := by decide +kernel
theorem d_Sum_lane_8 : decode cd_Sum_lane 8 = .ok (.invokestatic 21, 3) := by decide +kernel
theorem d_Sum_lane_11 : decode cd_Sum_lane 11 = .ok (.ldc 29, 2) := by decide +kernel
theorem d_Sum_lane_13 : decode cd_Sum_lane 13 = .ok (.imul, 1) := by decide +kernel
theorem d_Sum_lane_14 : decode cd_Sum_lane 14 = .ok (.ireturn, 1) := by decide +kernel
theorem d_Sum_rotated_0 : decode cd_Sum_rotated 0 = .ok (.iload_n 0, 1) := by decide +kernel
theorem d_Sum_rotated_1 : decode cd_Sum_rotated 1 = .ok (.iload_n 1, 1) := by decide +kernel
theorem d_Sum_rotated_2 : decode cd_Sum_rotated 2 = .ok (.ishl, 1) := by decide +kernel
theorem d_Sum_rotated_3 : decode cd_Sum_rotated 3 = .ok (.iload_n 0, 1) := by decide +kernel
theorem d_Sum_rotated_4 : decode cd_Sum_rotated 4 = .ok (.bipush 32, 2) := by decide +kernel
theorem d_Sum_rotated_6 : decode cd_Sum_rotated 6 = .ok (.iload_n 1, 1) := by decide +kernel
theorem d_Sum_rotated_7 : decode cd_Sum_rotated 7 = .ok (.isub, 1) := by decide +kernel
theorem d_Sum_rotated_8 : decode cd_Sum_rotated 8 = .ok (.iushr, 1) := by decide +kernel
theorem d_Sum_rotated_9 : decode cd_Sum_rotated 9 = .ok (.ior, 1) := by decide +kernel
theorem d_Sum_rotated_10 : decode cd_Sum_rotated 10 = .ok (.ireturn, 1) := by decide +kernel
