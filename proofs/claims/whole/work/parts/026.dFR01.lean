theorem d_FR_readBlock_0 : decode cd_FR_readBlock 0 = .ok (.iload_n 1, 1) := by decide +kernel
theorem d_FR_readBlock_1 : decode cd_FR_readBlock 1 = .ok (.ldc 105, 2) := by decide +kernel
theorem d_FR_readBlock_3 : decode cd_FR_readBlock 3 = .ok (.iand, 1) := by decide +kernel
theorem d_FR_readBlock_4 : decode cd_FR_readBlock 4 = .ok (.istore_n 2, 1) := by decide +kernel
theorem d_FR_readBlock_5 : decode cd_FR_readBlock 5 = .ok (.iload_n 2, 1) := by decide +kernel
theorem d_FR_readBlock_6 : decode cd_FR_readBlock 6 = .ok (.aload_n 0, 1) := by decide +kernel
theorem d_FR_readBlock_7 : decode cd_FR_readBlock 7 = .ok (.getfield 90, 3) := by decide +kernel
theorem d_FR_readBlock_10 : decode cd_FR_readBlock 10 = .ok (.if_icmp .le 14, 3) := by decide +kernel
theorem d_FR_readBlock_13 : decode cd_FR_readBlock 13 = .ok (.aload_n 0, 1) := by decide +kernel
theorem d_FR_readBlock_14 : decode cd_FR_readBlock 14 = .ok (.bipush 7, 2) := by decide +kernel
theorem d_FR_readBlock_16 : decode cd_FR_readBlock 16 = .ok (.aload_n 0, 1) := by decide +kernel
theorem d_FR_readBlock_17 : decode cd_FR_readBlock 17 = .ok (.getfield 29, 3) := by decide +kernel
theorem d_FR_readBlock_20 : decode cd_FR_readBlock 20 = .ok (.invokevirtual 56, 3) := by decide +kernel
theorem d_FR_readBlock_23 : decode cd_FR_readBlock 23 = .ok (.ireturn, 1) := by decide +kernel
theorem d_FR_readBlock_24 : decode cd_FR_readBlock 24 = .ok (.aload_n 0, 1) := by decide +kernel
theorem d_FR_readBlock_25 : decode cd_FR_readBlock 25 = .ok (.dup, 1) := by decide +kernel
theorem d_FR_readBlock_26 : decode cd_FR_readBlock 26 = .ok (.getfield 29, 3) := by decide +kernel
theorem d_FR_readBlock_29 : decode cd_FR_readBlock 29 = .ok (.iconst 4, 1) := by decide +kernel
theorem d_FR_readBlock_30 : decode cd_FR_readBlock 30 = .ok (.iadd, 1) := by decide +kernel
theorem d_FR_readBlock_31 : decode cd_FR_readBlock 31 = .ok (.putfield 29, 3) := by decide +kernel
theorem d_FR_readBlock_34 : decode cd_FR_readBlock 34 = .ok (.aload_n 0, 1) := by decide +kernel
theorem d_FR_readBlock_35 : decode cd_FR_readBlock 35 = .ok (.bipush 16, 2) := by decide +kernel
theorem d_FR_readBlock_37 : decode cd_FR_readBlock 37 = .ok (.invokevirtual 96, 3) := by decide +kernel
theorem d_FR_readBlock_40 : decode cd_FR_readBlock 40 = .ok (.ifCond .eq 7, 3) := by decide +kernel
theorem d_FR_readBlock_43 : decode cd_FR_readBlock 43 = .ok (.iconst 4, 1) := by decide +kernel
theorem d_FR_readBlock_44 : decode cd_FR_readBlock 44 = .ok (.goto 4, 3) := by decide +kernel
theorem d_FR_readBlock_47 : decode cd_FR_readBlock 47 = .ok (.iconst 0, 1) := by decide +kernel
theorem d_FR_readBlock_48 : decode cd_FR_readBlock 48 = .ok (.istore_n 3, 1) := by decide +kernel
theorem d_FR_readBlock_49 : decode cd_FR_readBlock 49 = .ok (.aload_n 0, 1) := by decide +kernel
theorem d_FR_readBlock_50 : decode cd_FR_readBlock 50 = .ok (.invokevirtual 42, 3) := by decide +kernel
theorem d_FR_readBlock_53 : decode cd_FR_readBlock 53 = .ok (.iload_n 2, 1) := by decide +kernel
theorem d_FR_readBlock_54 : decode cd_FR_readBlock 54 = .ok (.iload_n 3, 1) := by decide +kernel
theorem d_FR_readBlock_55 : decode cd_FR_readBlock 55 = .ok (.iadd, 1) := by decide +kernel
theorem d_FR_readBlock_56 : decode cd_FR_readBlock 56 = .ok (.if_icmp .ge 8, 3) := by decide +kernel
theorem d_FR_readBlock_59 : decode cd_FR_readBlock 59 = .ok (.aload_n 0, 1) := by decide +kernel
theorem d_FR_readBlock_60 : decode cd_FR_readBlock 60 = .ok (.invokevirtual 45, 3) := by decide +kernel
theorem d_FR_readBlock_63 : decode cd_FR_readBlock 63 = .ok (.ireturn, 1) := by decide +kernel
theorem d_FR_readBlock_64 : decode cd_FR_readBlock 64 = .ok (.aload_n 0, 1) := by decide +kernel
theorem d_FR_readBlock_65 : decode cd_FR_readBlock 65 = .ok (.getfield 29, 3) := by decide +kernel
theorem d_FR_readBlock_68 : decode cd_FR_readBlock 68 = .ok (.istore 4, 2) := by decide +kernel
theorem d_FR_readBlock_70 : decode cd_FR_readBlock 70 = .ok (.aload_n 0, 1) := by decide +kernel
theorem d_FR_readBlock_71 : decode cd_FR_readBlock 71 = .ok (.dup, 1) := by decide +kernel
theorem d_FR_readBlock_72 : decode cd_FR_readBlock 72 = .ok (.getfield 29, 3) := by decide +kernel
theorem d_FR_readBlock_75 : decode cd_FR_readBlock 75 = .ok (.iload_n 2, 1) := by decide +kernel
theorem d_FR_readBlock_76 : decode cd_FR_readBlock 76 = .ok (.iadd, 1) := by decide +kernel
theorem d_FR_readBlock_77 : decode cd_FR_readBlock 77 = .ok (.putfield 29, 3) := by decide +kernel
theorem d_FR_readBlock_80 : decode cd_FR_readBlock 80 = .ok (.iload_n 3, 1) := by decide +kernel
theorem d_FR_readBlock_81 : decode cd_FR_readBlock 81 = .ok (.ifCond .le 41, 3) := by decide +kernel
theorem d_FR_readBlock_84 : decode cd_FR_readBlock 84 = .ok (.aload_n 0, 1) := by decide +kernel
theorem d_FR_readBlock_85 : decode cd_FR_readBlock 85 = .ok (.getfield 9, 3) := by decide +kernel
theorem d_FR_readBlock_88 : decode cd_FR_readBlock 88 = .ok (.aload_n 0, 1) := by decide +kernel
theorem d_FR_readBlock_89 : decode cd_FR_readBlock 89 = .ok (.getfield 29, 3) := by decide +kernel
theorem d_FR_readBlock_92 : decode cd_FR_readBlock 92 = .ok (.invokevirtual 38, 3) := by decide +kernel
theorem d_FR_readBlock_95 : decode cd_FR_readBlock 95 = .ok (.aload_n 0, 1) := by decide +kernel
theorem d_FR_readBlock_96 : decode cd_FR_readBlock 96 = .ok (.getfield 9, 3) := by decide +kernel
theorem d_FR_readBlock_99 : decode cd_FR_readBlock 99 = .ok (.iload 4, 2) := by decide +kernel
theorem d_FR_readBlock_101 : decode cd_FR_readBlock 101 = .ok (.aload_n 0, 1) := by decide +kernel
theorem d_FR_readBlock_102 : decode cd_FR_readBlock 102 = .ok (.getfield 29, 3) := by decide +kernel
theorem d_FR_readBlock_105 : decode cd_FR_readBlock 105 = .ok (.invokestatic 99, 3) := by decide +kernel
theorem d_FR_readBlock_108 : decode cd_FR_readBlock 108 = .ok (.if_icmp .eq 14, 3) := by decide +kernel
theorem d_FR_readBlock_111 : decode cd_FR_readBlock 111 = .ok (.aload_n 0, 1) := by decide +kernel
theorem d_FR_readBlock_112 : decode cd_FR_readBlock 112 = .ok (.bipush 8, 2) := by decide +kernel
theorem d_FR_readBlock_114 : decode cd_FR_readBlock 114 = .ok (.aload_n 0, 1) := by decide +kernel
theorem d_FR_readBlock_115 : decode cd_FR_readBlock 115 = .ok (.getfield 29, 3) := by decide +kernel
theorem d_FR_readBlock_118 : decode cd_FR_readBlock 118 = .ok (.invokevirtual 56, 3) := by decide +kernel
theorem d_FR_readBlock_121 : decode cd_FR_readBlock 121 = .ok (.ireturn, 1) := by decide +kernel
theorem d_FR_readBlock_122 : decode cd_FR_readBlock 122 = .ok (.aload_n 0, 1) := by decide +kernel
theorem d_FR_readBlock_123 : decode cd_FR_readBlock 123 = .ok (.getfield 29, 3) := by decide +kernel
theorem d_FR_readBlock_126 : decode cd_FR_readBlock 126 = .ok (.istore 5, 2) := by decide +kernel
theorem d_FR_readBlock_128 : decode cd_FR_readBlock 128 = .ok (.aload_n 0, 1) := by decide +kernel
theorem d_FR_readBlock_129 : decode cd_FR_readBlock 129 = .ok (.dup, 1) := by decide +kernel
theorem d_FR_readBlock_130 : decode cd_FR_readBlock 130 = .ok (.getfield 29, 3) := by decide +kernel
theorem d_FR_readBlock_133 : decode cd_FR_readBlock 133 = .ok (.iload_n 3, 1) := by decide +kernel
theorem d_FR_readBlock_134 : decode cd_FR_readBlock 134 = .ok (.iadd, 1) := by decide +kernel
theorem d_FR_readBlock_135 : decode cd_FR_readBlock 135 = .ok (.putfield 29, 3) := by decide +kernel
theorem d_FR_readBlock_138 : decode cd_FR_readBlock 138 = .ok (.iload_n 1, 1) := by decide +kernel
theorem d_FR_readBlock_139 : decode cd_FR_readBlock 139 = .ok (.ifCond .ge 12, 3) := by decide +kernel
theorem d_FR_readBlock_142 : decode cd_FR_readBlock 142 = .ok (.aload_n 0, 1) := by decide +kernel
theorem d_FR_readBlock_143 : decode cd_FR_readBlock 143 = .ok (.iload 4, 2) := by decide +kernel
theorem d_FR_readBlock_145 : decode cd_FR_readBlock 145 = .ok (.iload 5, 2) := by decide +kernel
theorem d_FR_readBlock_147 : decode cd_FR_readBlock 147 = .ok (.invokevirtual 106, 3) := by decide +kernel
theorem d_FR_readBlock_150 : decode cd_FR_readBlock 150 = .ok (.ireturn, 1) := by decide +kernel
theorem d_FR_readBlock_151 : decode cd_FR_readBlock 151 = .ok (.aload_n 0, 1) := by decide +kernel
theorem d_FR_readBlock_152 : decode cd_FR_readBlock 152 = .ok (.getfield 18, 3) := by decide +kernel
theorem d_FR_readBlock_155 : decode cd_FR_readBlock 155 = .ok (.iload 4, 2) := by decide +kernel
theorem d_FR_readBlock_157 : decode cd_FR_readBlock 157 = .ok (.iload 5, 2) := by decide +kernel
theorem d_FR_readBlock_159 : decode cd_FR_readBlock 159 = .ok (.aload_n 0, 1) := by decide +kernel
theorem d_FR_readBlock_160 : decode cd_FR_readBlock 160 = .ok (.bipush 32, 2) := by decide +kernel
theorem d_FR_readBlock_162 : decode cd_FR_readBlock 162 = .ok (.invokevirtual 96, 3) := by decide +kernel
theorem d_FR_readBlock_165 : decode cd_FR_readBlock 165 = .ok (.ifCond .eq 13, 3) := by decide +kernel
theorem d_FR_readBlock_168 : decode cd_FR_readBlock 168 = .ok (.aload_n 0, 1) := by decide +kernel
theorem d_FR_readBlock_169 : decode cd_FR_readBlock 169 = .ok (.getfield 15, 3) := by decide +kernel
theorem d_FR_readBlock_172 : decode cd_FR_readBlock 172 = .ok (.invokevirtual 32, 3) := by decide +kernel
theorem d_FR_readBlock_175 : decode cd_FR_readBlock 175 = .ok (.goto 7, 3) := by decide +kernel
theorem d_FR_readBlock_178 : decode cd_FR_readBlock 178 = .ok (.aload_n 0, 1) := by decide +kernel
theorem d_FR_readBlock_179 : decode cd_FR_readBlock 179 = .ok (.getfield 65, 3) := by decide +kernel
theorem d_FR_readBlock_182 : decode cd_FR_readBlock 182 = .ok (.aload_n 0, 1) := by decide +kernel
theorem d_FR_readBlock_183 : decode cd_FR_readBlock 183 = .ok (.getfield 26, 3) := by decide +kernel
theorem d_FR_readBlock_186 : decode cd_FR_readBlock 186 = .ok (.invokevirtual 109, 3) := by decide +kernel
theorem d_FR_readBlock_189 : decode cd_FR_readBlock 189 = .ok (.istore 6, 2) := by decide +kernel
theorem d_FR_readBlock_191 : decode cd_FR_readBlock 191 = .ok (.aload_n 0, 1) := by decide +kernel
theorem d_FR_readBlock_192 : decode cd_FR_readBlock 192 = .ok (.iload 6, 2) := by decide +kernel
theorem d_FR_readBlock_194 : decode cd_FR_readBlock 194 = .ok (.iconst 1, 1) := by decide +kernel
theorem d_FR_readBlock_195 : decode cd_FR_readBlock 195 = .ok (.if_icmp .ne 8, 3) := by decide +kernel
theorem d_FR_readBlock_198 : decode cd_FR_readBlock 198 = .ok (.bipush 9, 2) := by decide +kernel
theorem d_FR_readBlock_200 : decode cd_FR_readBlock 200 = .ok (.goto 5, 3) := by decide +kernel
theorem d_FR_readBlock_203 : decode cd_FR_readBlock 203 = .ok (.iload 6, 2) := by decide +kernel
theorem d_FR_readBlock_205 : decode cd_FR_readBlock 205 = .ok (.aload_n 0, 1) := by decide +kernel
theorem d_FR_readBlock_206 : decode cd_FR_readBlock 206 = .ok (.getfield 18, 3) := by decide +kernel
theorem d_FR_readBlock_209 : decode cd_FR_readBlock 209 = .ok (.invokevirtual 115, 3) := by decide +kernel
theorem d_FR_readBlock_212 : decode cd_FR_readBlock 212 = .ok (.invokevirtual 56, 3) := by decide +kernel
theorem d_FR_readBlock_215 : decode cd_FR_readBlock 215 = .ok (.ireturn, 1) := by decide +kernel
theorem d_FR_takeBytes_0 : decode cd_FR_takeBytes 0 = .ok (.aload_n 0, 1) := by decide +kernel
theorem d_FR_takeBytes_1 : decode cd_FR_takeBytes 1 = .ok (.getfield 26, 3) := by decide +kernel
theorem d_FR_takeBytes_4 : decode cd_FR_takeBytes 4 = .ok (.aload_n 0, 1) := by decide +kernel
theorem d_FR_takeBytes_5 : decode cd_FR_takeBytes 5 = .ok (.getfield 15, 3) := by decide +kernel
theorem d_FR_takeBytes_8 : decode cd_FR_takeBytes 8 = .ok (.invokevirtual 32, 3) := by decide +kernel
theorem d_FR_takeBytes_11 : decode cd_FR_takeBytes 11 = .ok (.isub, 1) := by decide +kernel
theorem d_FR_takeBytes_12 : decode cd_FR_takeBytes 12 = .ok (.istore_n 3, 1) := by decide +kernel
theorem d_FR_takeBytes_13 : decode cd_FR_takeBytes 13 = .ok (.iload_n 2, 1) := by decide +kernel
theorem d_FR_takeBytes_14 : decode cd_FR_takeBytes 14 = .ok (.iload_n 1, 1) := by decide +kernel
theorem d_FR_takeBytes_15 : decode cd_FR_takeBytes 15 = .ok (.isub, 1) := by decide +kernel
theorem d_FR_takeBytes_16 : decode cd_FR_takeBytes 16 = .ok (.iload_n 3, 1) := by decide +kernel
theorem d_FR_takeBytes_17 : decode cd_FR_takeBytes 17 = .ok (.if_icmp .le 12, 3) := by decide +kernel
theorem d_FR_takeBytes_20 : decode cd_FR_takeBytes 20 = .ok (.aload_n 0, 1) := by decide +kernel
theorem d_FR_takeBytes_21 : decode cd_FR_takeBytes 21 = .ok (.iconst 3, 1) := by decide +kernel
theorem d_FR_takeBytes_22 : decode cd_FR_takeBytes 22 = .ok (.iload_n 1, 1) := by decide +kernel
theorem d_FR_takeBytes_23 : decode cd_FR_takeBytes 23 = .ok (.iload_n 3, 1) := by decide +kernel
theorem d_FR_takeBytes_24 : decode cd_FR_takeBytes 24 = .ok (.iadd, 1) := by decide +kernel
theorem d_FR_takeBytes_25 : decode cd_FR_takeBytes 25 = .ok (.invokevirtual 56, 3) := by decide +kernel
theorem d_FR_takeBytes_28 : decode cd_FR_takeBytes 28 = .ok (.ireturn, 1) := by decide +kernel
theorem d_FR_takeBytes_29 : decode cd_FR_takeBytes 29 = .ok (.aload_n 0, 1) := by decide +kernel
theorem d_FR_takeBytes_30 : decode cd_FR_takeBytes 30 = .ok (.getfield 15, 3) := by decide +kernel
theorem d_FR_takeBytes_33 : decode cd_FR_takeBytes 33 = .ok (.aload_n 0, 1) := by decide +kernel
theorem d_FR_takeBytes_34 : decode cd_FR_takeBytes 34 = .ok (.getfield 9, 3) := by decide +kernel
theorem d_FR_takeBytes_37 : decode cd_FR_takeBytes 37 = .ok (.iload_n 1, 1) := by decide +kernel
theorem d_FR_takeBytes_38 : decode cd_FR_takeBytes 38 = .ok (.iload_n 2, 1) := by decide +kernel
theorem d_FR_takeBytes_39 : decode cd_FR_takeBytes 39 = .ok (.invokevirtual 118, 3) := by decide +kernel
theorem d_FR_takeBytes_42 : decode cd_FR_takeBytes 42 = .ok (.pop, 1) := by decide +kernel
theorem d_FR_takeBytes_43 : decode cd_FR_takeBytes 43 = .ok (.iconst 0, 1) := by decide +kernel
theorem d_FR_takeBytes_44 : decode cd_FR_takeBytes 44 = .ok (.ireturn, 1) := by decide +kernel
theorem d_FR_passSpare_0 : decode cd_FR_passSpare 0 = .ok (.aload_n 0, 1) := by decide +kernel
theorem d_FR_passSpare_1 : decode cd_FR_passSpare 1 = .ok (.dup, 1) := by decide +kernel
theorem d_FR_passSpare_2 : decode cd_FR_passSpare 2 = .ok (.getfield 29, 3) := by decide +kernel
theorem d_FR_passSpare_5 : decode cd_FR_passSpare 5 = .ok (.iconst 4, 1) := by decide +kernel
theorem d_FR_passSpare_6 : decode cd_FR_passSpare 6 = .ok (.iadd, 1) := by decide +kernel
theorem d_FR_passSpare_7 : decode cd_FR_passSpare 7 = .ok (.putfield 29, 3) := by decide +kernel
theorem d_FR_passSpare_10 : decode cd_FR_passSpare 10 = .ok (.aload_n 0, 1) := by decide +kernel
theorem d_FR_passSpare_11 : decode cd_FR_passSpare 11 = .ok (.invokevirtual 42, 3) := by decide +kernel
theorem d_FR_passSpare_14 : decode cd_FR_passSpare 14 = .ok (.iconst 4, 1) := by decide +kernel
theorem d_FR_passSpare_15 : decode cd_FR_passSpare 15 = .ok (.if_icmp .ge 8, 3) := by decide +kernel
theorem d_FR_passSpare_18 : decode cd_FR_passSpare 18 = .ok (.aload_n 0, 1) := by decide +kernel
theorem d_FR_passSpare_19 : decode cd_FR_passSpare 19 = .ok (.invokevirtual 45, 3) := by decide +kernel
theorem d_FR_passSpare_22 : decode cd_FR_passSpare 22 = .ok (.ireturn, 1) := by decide +kernel
theorem d_FR_passSpare_23 : decode cd_FR_passSpare 23 = .ok (.aload_n 0, 1) := by decide +kernel
theorem d_FR_passSpare_24 : decode cd_FR_passSpare 24 = .ok (.getfield 9, 3) := by decide +kernel
theorem d_FR_passSpare_27 : decode cd_FR_passSpare 27 = .ok (.aload_n 0, 1) := by decide +kernel
theorem d_FR_passSpare_28 : decode cd_FR_passSpare 28 = .ok (.getfield 29, 3) := by decide +kernel
theorem d_FR_passSpare_31 : decode cd_FR_passSpare 31 = .ok (.invokevirtual 38, 3) := by decide +kernel
theorem d_FR_passSpare_34 : decode cd_FR_passSpare 34 = .ok (.i2l, 1) := by decide +kernel
theorem d_FR_passSpare_35 : decode cd_FR_passSpare 35 = .ok (.ldc2_w 63, 3) := by decide +kernel
theorem d_FR_passSpare_38 : decode cd_FR_passSpare 38 = .ok (.land, 1) := by decide +kernel
theorem d_FR_passSpare_39 : decode cd_FR_passSpare 39 = .ok (.lstore_n 1, 1) := by decide +kernel
theorem d_FR_passSpare_40 : decode cd_FR_passSpare 40 = .ok (.aload_n 0, 1) := by decide +kernel
theorem d_FR_passSpare_41 : decode cd_FR_passSpare 41 = .ok (.dup, 1) := by decide +kernel
theorem d_FR_passSpare_42 : decode cd_FR_passSpare 42 = .ok (.getfield 29, 3) := by decide +kernel
theorem d_FR_passSpare_45 : decode cd_FR_passSpare 45 = .ok (.iconst 4, 1) := by decide +kernel
theorem d_FR_passSpare_46 : decode cd_FR_passSpare 46 = .ok (.iadd, 1) := by decide +kernel
theorem d_FR_passSpare_47 : decode cd_FR_passSpare 47 = .ok (.putfield 29, 3) := by decide +kernel
theorem d_FR_passSpare_50 : decode cd_FR_passSpare 50 = .ok (.aload_n 0, 1) := by decide +kernel
theorem d_FR_passSpare_51 : decode cd_FR_passSpare 51 = .ok (.invokevirtual 42, 3) := by decide +kernel
theorem d_FR_passSpare_54 : decode cd_FR_passSpare 54 = .ok (.i2l, 1) := by decide +kernel
theorem d_FR_passSpare_55 : decode cd_FR_passSpare 55 = .ok (.lload_n 1, 1) := by decide +kernel
theorem d_FR_passSpare_56 : decode cd_FR_passSpare 56 = .ok (.lcmp, 1) := by decide +kernel
theorem d_FR_passSpare_57 : decode cd_FR_passSpare 57 = .ok (.ifCond .ge 8, 3) := by decide +kernel
theorem d_FR_passSpare_60 : decode cd_FR_passSpare 60 = .ok (.aload_n 0, 1) := by decide +kernel
theorem d_FR_passSpare_61 : decode cd_FR_passSpare 61 = .ok (.invokevirtual 45, 3) := by decide +kernel
theorem d_FR_passSpare_64 : decode cd_FR_passSpare 64 = .ok (.ireturn, 1) := by decide +kernel
theorem d_FR_passSpare_65 : decode cd_FR_passSpare 65 = .ok (.aload_n 0, 1) := by decide +kernel
theorem d_FR_passSpare_66 : decode cd_FR_passSpare 66 = .ok (.dup, 1) := by decide +kernel
theorem d_FR_passSpare_67 : decode cd_FR_passSpare 67 = .ok (.getfield 29, 3) := by decide +kernel
theorem d_FR_passSpare_70 : decode cd_FR_passSpare 70 = .ok (.lload_n 1, 1) := by decide +kernel
theorem d_FR_passSpare_71 : decode cd_FR_passSpare 71 = .ok (.l2i, 1) := by decide +kernel
theorem d_FR_passSpare_72 : decode cd_FR_passSpare 72 = .ok (.iadd, 1) := by decide +kernel
theorem d_FR_passSpare_73 : decode cd_FR_passSpare 73 = .ok (.putfield 29, 3) := by decide +kernel
theorem d_FR_passSpare_76 : decode cd_FR_passSpare 76 = .ok (.iconst 0, 1) := by decide +kernel
theorem d_FR_passSpare_77 : decode cd_FR_passSpare 77 = .ok (.ireturn, 1) := by decide +kernel
theorem d_FR_where_0 : decode cd_FR_where 0 = .ok (.aload_n 0, 1) := by decide +kernel
theorem d_FR_where_1 : decode cd_FR_where 1 = .ok (.getfield 22, 3) := by decide +kernel
theorem d_FR_where_4 : decode cd_FR_where 4 = .ok (.ireturn, 1) := by decide +kernel
