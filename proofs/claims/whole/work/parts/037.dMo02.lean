theorem d_Mo_unblock_0 : decode cd_Mo_unblock 0 = .ok (.iload_n 1, 1) := by decide +kernel
theorem d_Mo_unblock_1 : decode cd_Mo_unblock 1 = .ok (.ifCond .lt 10, 3) := by decide +kernel
theorem d_Mo_unblock_4 : decode cd_Mo_unblock 4 = .ok (.iload_n 1, 1) := by decide +kernel
theorem d_Mo_unblock_5 : decode cd_Mo_unblock 5 = .ok (.sipush 8000, 3) := by decide +kernel
theorem d_Mo_unblock_8 : decode cd_Mo_unblock 8 = .ok (.if_icmp .le 6, 3) := by decide +kernel
theorem d_Mo_unblock_11 : decode cd_Mo_unblock 11 = .ok (.bipush (-4), 2) := by decide +kernel
theorem d_Mo_unblock_13 : decode cd_Mo_unblock 13 = .ok (.ireturn, 1) := by decide +kernel
theorem d_Mo_unblock_14 : decode cd_Mo_unblock 14 = .ok (.aload_n 0, 1) := by decide +kernel
theorem d_Mo_unblock_15 : decode cd_Mo_unblock 15 = .ok (.invokevirtual 140, 3) := by decide +kernel
theorem d_Mo_unblock_18 : decode cd_Mo_unblock 18 = .ok (.aload_n 0, 1) := by decide +kernel
theorem d_Mo_unblock_19 : decode cd_Mo_unblock 19 = .ok (.iconst 0, 1) := by decide +kernel
theorem d_Mo_unblock_20 : decode cd_Mo_unblock 20 = .ok (.aload_n 0, 1) := by decide +kernel
theorem d_Mo_unblock_21 : decode cd_Mo_unblock 21 = .ok (.getfield 38, 3) := by decide +kernel
theorem d_Mo_unblock_24 : decode cd_Mo_unblock 24 = .ok (.iload_n 1, 1) := by decide +kernel
theorem d_Mo_unblock_25 : decode cd_Mo_unblock 25 = .ok (.invokevirtual 143, 3) := by decide +kernel
theorem d_Mo_unblock_28 : decode cd_Mo_unblock 28 = .ok (.istore_n 2, 1) := by decide +kernel
theorem d_Mo_unblock_29 : decode cd_Mo_unblock 29 = .ok (.iload_n 2, 1) := by decide +kernel
theorem d_Mo_unblock_30 : decode cd_Mo_unblock 30 = .ok (.ifCond .le 6, 3) := by decide +kernel
theorem d_Mo_unblock_33 : decode cd_Mo_unblock 33 = .ok (.iload_n 2, 1) := by decide +kernel
theorem d_Mo_unblock_34 : decode cd_Mo_unblock 34 = .ok (.ineg, 1) := by decide +kernel
theorem d_Mo_unblock_35 : decode cd_Mo_unblock 35 = .ok (.ireturn, 1) := by decide +kernel
theorem d_Mo_unblock_36 : decode cd_Mo_unblock 36 = .ok (.aload_n 0, 1) := by decide +kernel
theorem d_Mo_unblock_37 : decode cd_Mo_unblock 37 = .ok (.aload_n 0, 1) := by decide +kernel
theorem d_Mo_unblock_38 : decode cd_Mo_unblock 38 = .ok (.getfield 130, 3) := by decide +kernel
theorem d_Mo_unblock_41 : decode cd_Mo_unblock 41 = .ok (.aload_n 0, 1) := by decide +kernel
theorem d_Mo_unblock_42 : decode cd_Mo_unblock 42 = .ok (.getfield 47, 3) := by decide +kernel
theorem d_Mo_unblock_45 : decode cd_Mo_unblock 45 = .ok (.isub, 1) := by decide +kernel
theorem d_Mo_unblock_46 : decode cd_Mo_unblock 46 = .ok (.putfield 44, 3) := by decide +kernel
theorem d_Mo_unblock_49 : decode cd_Mo_unblock 49 = .ok (.iconst 0, 1) := by decide +kernel
theorem d_Mo_unblock_50 : decode cd_Mo_unblock 50 = .ok (.istore_n 3, 1) := by decide +kernel
theorem d_Mo_unblock_51 : decode cd_Mo_unblock 51 = .ok (.iload_n 3, 1) := by decide +kernel
theorem d_Mo_unblock_52 : decode cd_Mo_unblock 52 = .ok (.aload_n 0, 1) := by decide +kernel
theorem d_Mo_unblock_53 : decode cd_Mo_unblock 53 = .ok (.getfield 44, 3) := by decide +kernel
theorem d_Mo_unblock_56 : decode cd_Mo_unblock 56 = .ok (.if_icmp .ge 26, 3) := by decide +kernel
theorem d_Mo_unblock_59 : decode cd_Mo_unblock 59 = .ok (.aload_n 0, 1) := by decide +kernel
theorem d_Mo_unblock_60 : decode cd_Mo_unblock 60 = .ok (.getfield 13, 3) := by decide +kernel
theorem d_Mo_unblock_63 : decode cd_Mo_unblock 63 = .ok (.iload_n 3, 1) := by decide +kernel
theorem d_Mo_unblock_64 : decode cd_Mo_unblock 64 = .ok (.aload_n 0, 1) := by decide +kernel
theorem d_Mo_unblock_65 : decode cd_Mo_unblock 65 = .ok (.getfield 28, 3) := by decide +kernel
theorem d_Mo_unblock_68 : decode cd_Mo_unblock 68 = .ok (.aload_n 0, 1) := by decide +kernel
theorem d_Mo_unblock_69 : decode cd_Mo_unblock 69 = .ok (.getfield 47, 3) := by decide +kernel
theorem d_Mo_unblock_72 : decode cd_Mo_unblock 72 = .ok (.iload_n 3, 1) := by decide +kernel
theorem d_Mo_unblock_73 : decode cd_Mo_unblock 73 = .ok (.iadd, 1) := by decide +kernel
theorem d_Mo_unblock_74 : decode cd_Mo_unblock 74 = .ok (.iaload, 1) := by decide +kernel
theorem d_Mo_unblock_75 : decode cd_Mo_unblock 75 = .ok (.iastore, 1) := by decide +kernel
theorem d_Mo_unblock_76 : decode cd_Mo_unblock 76 = .ok (.iinc 3 1, 3) := by decide +kernel
theorem d_Mo_unblock_79 : decode cd_Mo_unblock 79 = .ok (.goto (-28), 3) := by decide +kernel
theorem d_Mo_unblock_82 : decode cd_Mo_unblock 82 = .ok (.aload_n 0, 1) := by decide +kernel
theorem d_Mo_unblock_83 : decode cd_Mo_unblock 83 = .ok (.getfield 44, 3) := by decide +kernel
theorem d_Mo_unblock_86 : decode cd_Mo_unblock 86 = .ok (.ireturn, 1) := by decide +kernel
theorem d_Mo_beginBack_0 : decode cd_Mo_beginBack 0 = .ok (.iconst 0, 1) := by decide +kernel
theorem d_Mo_beginBack_1 : decode cd_Mo_beginBack 1 = .ok (.istore_n 1, 1) := by decide +kernel
theorem d_Mo_beginBack_2 : decode cd_Mo_beginBack 2 = .ok (.iload_n 1, 1) := by decide +kernel
theorem d_Mo_beginBack_3 : decode cd_Mo_beginBack 3 = .ok (.aload_n 0, 1) := by decide +kernel
theorem d_Mo_beginBack_4 : decode cd_Mo_beginBack 4 = .ok (.getfield 47, 3) := by decide +kernel
theorem d_Mo_beginBack_7 : decode cd_Mo_beginBack 7 = .ok (.if_icmp .ge 21, 3) := by decide +kernel
theorem d_Mo_beginBack_10 : decode cd_Mo_beginBack 10 = .ok (.aload_n 0, 1) := by decide +kernel
theorem d_Mo_beginBack_11 : decode cd_Mo_beginBack 11 = .ok (.getfield 28, 3) := by decide +kernel
theorem d_Mo_beginBack_14 : decode cd_Mo_beginBack 14 = .ok (.iload_n 1, 1) := by decide +kernel
theorem d_Mo_beginBack_15 : decode cd_Mo_beginBack 15 = .ok (.aload_n 0, 1) := by decide +kernel
theorem d_Mo_beginBack_16 : decode cd_Mo_beginBack 16 = .ok (.getfield 16, 3) := by decide +kernel
theorem d_Mo_beginBack_19 : decode cd_Mo_beginBack 19 = .ok (.iload_n 1, 1) := by decide +kernel
theorem d_Mo_beginBack_20 : decode cd_Mo_beginBack 20 = .ok (.iaload, 1) := by decide +kernel
theorem d_Mo_beginBack_21 : decode cd_Mo_beginBack 21 = .ok (.iastore, 1) := by decide +kernel
theorem d_Mo_beginBack_22 : decode cd_Mo_beginBack 22 = .ok (.iinc 1 1, 3) := by decide +kernel
theorem d_Mo_beginBack_25 : decode cd_Mo_beginBack 25 = .ok (.goto (-23), 3) := by decide +kernel
theorem d_Mo_beginBack_28 : decode cd_Mo_beginBack 28 = .ok (.aload_n 0, 1) := by decide +kernel
theorem d_Mo_beginBack_29 : decode cd_Mo_beginBack 29 = .ok (.aload_n 0, 1) := by decide +kernel
theorem d_Mo_beginBack_30 : decode cd_Mo_beginBack 30 = .ok (.getfield 47, 3) := by decide +kernel
theorem d_Mo_beginBack_33 : decode cd_Mo_beginBack 33 = .ok (.putfield 130, 3) := by decide +kernel
theorem d_Mo_beginBack_36 : decode cd_Mo_beginBack 36 = .ok (.return_, 1) := by decide +kernel
theorem d_Mo_readBlock_0 : decode cd_Mo_readBlock 0 = .ok (.aload_n 0, 1) := by decide +kernel
theorem d_Mo_readBlock_1 : decode cd_Mo_readBlock 1 = .ok (.iload_n 1, 1) := by decide +kernel
theorem d_Mo_readBlock_2 : decode cd_Mo_readBlock 2 = .ok (.putfield 127, 3) := by decide +kernel
theorem d_Mo_readBlock_5 : decode cd_Mo_readBlock 5 = .ok (.aload_n 0, 1) := by decide +kernel
theorem d_Mo_readBlock_6 : decode cd_Mo_readBlock 6 = .ok (.getfield 130, 3) := by decide +kernel
theorem d_Mo_readBlock_9 : decode cd_Mo_readBlock 9 = .ok (.istore 4, 2) := by decide +kernel
theorem d_Mo_readBlock_11 : decode cd_Mo_readBlock 11 = .ok (.aload_n 0, 1) := by decide +kernel
theorem d_Mo_readBlock_12 : decode cd_Mo_readBlock 12 = .ok (.iload_n 2, 1) := by decide +kernel
theorem d_Mo_readBlock_13 : decode cd_Mo_readBlock 13 = .ok (.putfield 133, 3) := by decide +kernel
theorem d_Mo_readBlock_16 : decode cd_Mo_readBlock 16 = .ok (.aload_n 0, 1) := by decide +kernel
theorem d_Mo_readBlock_17 : decode cd_Mo_readBlock 17 = .ok (.getfield 127, 3) := by decide +kernel
theorem d_Mo_readBlock_20 : decode cd_Mo_readBlock 20 = .ok (.iload_n 2, 1) := by decide +kernel
theorem d_Mo_readBlock_21 : decode cd_Mo_readBlock 21 = .ok (.if_icmp .ne 5, 3) := by decide +kernel
theorem d_Mo_readBlock_24 : decode cd_Mo_readBlock 24 = .ok (.iconst 1, 1) := by decide +kernel
theorem d_Mo_readBlock_25 : decode cd_Mo_readBlock 25 = .ok (.ireturn, 1) := by decide +kernel
theorem d_Mo_readBlock_26 : decode cd_Mo_readBlock 26 = .ok (.aload_n 0, 1) := by decide +kernel
theorem d_Mo_readBlock_27 : decode cd_Mo_readBlock 27 = .ok (.getfield 7, 3) := by decide +kernel
theorem d_Mo_readBlock_30 : decode cd_Mo_readBlock 30 = .ok (.aload_n 0, 1) := by decide +kernel
theorem d_Mo_readBlock_31 : decode cd_Mo_readBlock 31 = .ok (.getfield 127, 3) := by decide +kernel
theorem d_Mo_readBlock_34 : decode cd_Mo_readBlock 34 = .ok (.iaload, 1) := by decide +kernel
theorem d_Mo_readBlock_35 : decode cd_Mo_readBlock 35 = .ok (.istore 5, 2) := by decide +kernel
theorem d_Mo_readBlock_37 : decode cd_Mo_readBlock 37 = .ok (.aload_n 0, 1) := by decide +kernel
theorem d_Mo_readBlock_38 : decode cd_Mo_readBlock 38 = .ok (.dup, 1) := by decide +kernel
theorem d_Mo_readBlock_39 : decode cd_Mo_readBlock 39 = .ok (.getfield 127, 3) := by decide +kernel
theorem d_Mo_readBlock_42 : decode cd_Mo_readBlock 42 = .ok (.iconst 1, 1) := by decide +kernel
theorem d_Mo_readBlock_43 : decode cd_Mo_readBlock 43 = .ok (.iadd, 1) := by decide +kernel
theorem d_Mo_readBlock_44 : decode cd_Mo_readBlock 44 = .ok (.putfield 127, 3) := by decide +kernel
theorem d_Mo_readBlock_47 : decode cd_Mo_readBlock 47 = .ok (.aload_n 0, 1) := by decide +kernel
theorem d_Mo_readBlock_48 : decode cd_Mo_readBlock 48 = .ok (.iload 5, 2) := by decide +kernel
theorem d_Mo_readBlock_50 : decode cd_Mo_readBlock 50 = .ok (.bipush 16, 2) := by decide +kernel
theorem d_Mo_readBlock_52 : decode cd_Mo_readBlock 52 = .ok (.idiv, 1) := by decide +kernel
theorem d_Mo_readBlock_53 : decode cd_Mo_readBlock 53 = .ok (.iload_n 2, 1) := by decide +kernel
theorem d_Mo_readBlock_54 : decode cd_Mo_readBlock 54 = .ok (.invokevirtual 136, 3) := by decide +kernel
theorem d_Mo_readBlock_57 : decode cd_Mo_readBlock 57 = .ok (.ifCond .ne 5, 3) := by decide +kernel
theorem d_Mo_readBlock_60 : decode cd_Mo_readBlock 60 = .ok (.iconst 1, 1) := by decide +kernel
theorem d_Mo_readBlock_61 : decode cd_Mo_readBlock 61 = .ok (.ireturn, 1) := by decide +kernel
theorem d_Mo_readBlock_62 : decode cd_Mo_readBlock 62 = .ok (.aload_n 0, 1) := by decide +kernel
theorem d_Mo_readBlock_63 : decode cd_Mo_readBlock 63 = .ok (.getfield 124, 3) := by decide +kernel
theorem d_Mo_readBlock_66 : decode cd_Mo_readBlock 66 = .ok (.istore 6, 2) := by decide +kernel
theorem d_Mo_readBlock_68 : decode cd_Mo_readBlock 68 = .ok (.iload 6, 2) := by decide +kernel
theorem d_Mo_readBlock_70 : decode cd_Mo_readBlock 70 = .ok (.ifCond .le 78, 3) := by decide +kernel
theorem d_Mo_readBlock_73 : decode cd_Mo_readBlock 73 = .ok (.aload_n 0, 1) := by decide +kernel
theorem d_Mo_readBlock_74 : decode cd_Mo_readBlock 74 = .ok (.getfield 127, 3) := by decide +kernel
theorem d_Mo_readBlock_77 : decode cd_Mo_readBlock 77 = .ok (.iload_n 2, 1) := by decide +kernel
theorem d_Mo_readBlock_78 : decode cd_Mo_readBlock 78 = .ok (.if_icmp .ne 5, 3) := by decide +kernel
theorem d_Mo_readBlock_81 : decode cd_Mo_readBlock 81 = .ok (.iconst 1, 1) := by decide +kernel
theorem d_Mo_readBlock_82 : decode cd_Mo_readBlock 82 = .ok (.ireturn, 1) := by decide +kernel
theorem d_Mo_readBlock_83 : decode cd_Mo_readBlock 83 = .ok (.aload_n 0, 1) := by decide +kernel
theorem d_Mo_readBlock_84 : decode cd_Mo_readBlock 84 = .ok (.getfield 130, 3) := by decide +kernel
theorem d_Mo_readBlock_87 : decode cd_Mo_readBlock 87 = .ok (.iload 4, 2) := by decide +kernel
theorem d_Mo_readBlock_89 : decode cd_Mo_readBlock 89 = .ok (.isub, 1) := by decide +kernel
theorem d_Mo_readBlock_90 : decode cd_Mo_readBlock 90 = .ok (.iload_n 3, 1) := by decide +kernel
theorem d_Mo_readBlock_91 : decode cd_Mo_readBlock 91 = .ok (.if_icmp .ne 13, 3) := by decide +kernel
theorem d_Mo_readBlock_94 : decode cd_Mo_readBlock 94 = .ok (.aload_n 0, 1) := by decide +kernel
theorem d_Mo_readBlock_95 : decode cd_Mo_readBlock 95 = .ok (.aload_n 0, 1) := by decide +kernel
theorem d_Mo_readBlock_96 : decode cd_Mo_readBlock 96 = .ok (.getfield 127, 3) := by decide +kernel
theorem d_Mo_readBlock_99 : decode cd_Mo_readBlock 99 = .ok (.putfield 133, 3) := by decide +kernel
theorem d_Mo_readBlock_102 : decode cd_Mo_readBlock 102 = .ok (.iconst 3, 1) := by decide +kernel
theorem d_Mo_readBlock_103 : decode cd_Mo_readBlock 103 = .ok (.ireturn, 1) := by decide +kernel
theorem d_Mo_readBlock_104 : decode cd_Mo_readBlock 104 = .ok (.aload_n 0, 1) := by decide +kernel
theorem d_Mo_readBlock_105 : decode cd_Mo_readBlock 105 = .ok (.getfield 28, 3) := by decide +kernel
theorem d_Mo_readBlock_108 : decode cd_Mo_readBlock 108 = .ok (.aload_n 0, 1) := by decide +kernel
theorem d_Mo_readBlock_109 : decode cd_Mo_readBlock 109 = .ok (.getfield 130, 3) := by decide +kernel
theorem d_Mo_readBlock_112 : decode cd_Mo_readBlock 112 = .ok (.aload_n 0, 1) := by decide +kernel
theorem d_Mo_readBlock_113 : decode cd_Mo_readBlock 113 = .ok (.getfield 7, 3) := by decide +kernel
theorem d_Mo_readBlock_116 : decode cd_Mo_readBlock 116 = .ok (.aload_n 0, 1) := by decide +kernel
theorem d_Mo_readBlock_117 : decode cd_Mo_readBlock 117 = .ok (.getfield 127, 3) := by decide +kernel
theorem d_Mo_readBlock_120 : decode cd_Mo_readBlock 120 = .ok (.iaload, 1) := by decide +kernel
theorem d_Mo_readBlock_121 : decode cd_Mo_readBlock 121 = .ok (.iastore, 1) := by decide +kernel
theorem d_Mo_readBlock_122 : decode cd_Mo_readBlock 122 = .ok (.aload_n 0, 1) := by decide +kernel
theorem d_Mo_readBlock_123 : decode cd_Mo_readBlock 123 = .ok (.dup, 1) := by decide +kernel
theorem d_Mo_readBlock_124 : decode cd_Mo_readBlock 124 = .ok (.getfield 130, 3) := by decide +kernel
theorem d_Mo_readBlock_127 : decode cd_Mo_readBlock 127 = .ok (.iconst 1, 1) := by decide +kernel
theorem d_Mo_readBlock_128 : decode cd_Mo_readBlock 128 = .ok (.iadd, 1) := by decide +kernel
theorem d_Mo_readBlock_129 : decode cd_Mo_readBlock 129 = .ok (.putfield 130, 3) := by decide +kernel
theorem d_Mo_readBlock_132 : decode cd_Mo_readBlock 132 = .ok (.aload_n 0, 1) := by decide +kernel
theorem d_Mo_readBlock_133 : decode cd_Mo_readBlock 133 = .ok (.dup, 1) := by decide +kernel
theorem d_Mo_readBlock_134 : decode cd_Mo_readBlock 134 = .ok (.getfield 127, 3) := by decide +kernel
theorem d_Mo_readBlock_137 : decode cd_Mo_readBlock 137 = .ok (.iconst 1, 1) := by decide +kernel
theorem d_Mo_readBlock_138 : decode cd_Mo_readBlock 138 = .ok (.iadd, 1) := by decide +kernel
theorem d_Mo_readBlock_139 : decode cd_Mo_readBlock 139 = .ok (.putfield 127, 3) := by decide +kernel
theorem d_Mo_readBlock_142 : decode cd_Mo_readBlock 142 = .ok (.iinc 6 (-1), 3) := by decide +kernel
theorem d_Mo_readBlock_145 : decode cd_Mo_readBlock 145 = .ok (.goto (-77), 3) := by decide +kernel
theorem d_Mo_readBlock_148 : decode cd_Mo_readBlock 148 = .ok (.aload_n 0, 1) := by decide +kernel
theorem d_Mo_readBlock_149 : decode cd_Mo_readBlock 149 = .ok (.getfield 127, 3) := by decide +kernel
theorem d_Mo_readBlock_152 : decode cd_Mo_readBlock 152 = .ok (.iload_n 2, 1) := by decide +kernel
theorem d_Mo_readBlock_153 : decode cd_Mo_readBlock 153 = .ok (.if_icmp .ne 5, 3) := by decide +kernel
theorem d_Mo_readBlock_156 : decode cd_Mo_readBlock 156 = .ok (.iconst 0, 1) := by decide +kernel
theorem d_Mo_readBlock_157 : decode cd_Mo_readBlock 157 = .ok (.ireturn, 1) := by decide +kernel
theorem d_Mo_readBlock_158 : decode cd_Mo_readBlock 158 = .ok (.aload_n 0, 1) := by decide +kernel
theorem d_Mo_readBlock_159 : decode cd_Mo_readBlock 159 = .ok (.getfield 127, 3) := by decide +kernel
theorem d_Mo_readBlock_162 : decode cd_Mo_readBlock 162 = .ok (.istore 6, 2) := by decide +kernel
theorem d_Mo_readBlock_164 : decode cd_Mo_readBlock 164 = .ok (.aload_n 0, 1) := by decide +kernel
theorem d_Mo_readBlock_165 : decode cd_Mo_readBlock 165 = .ok (.getfield 127, 3) := by decide +kernel
theorem d_Mo_readBlock_168 : decode cd_Mo_readBlock 168 = .ok (.iconst 2, 1) := by decide +kernel
theorem d_Mo_readBlock_169 : decode cd_Mo_readBlock 169 = .ok (.iadd, 1) := by decide +kernel
theorem d_Mo_readBlock_170 : decode cd_Mo_readBlock 170 = .ok (.iload_n 2, 1) := by decide +kernel
theorem d_Mo_readBlock_171 : decode cd_Mo_readBlock 171 = .ok (.if_icmp .le 5, 3) := by decide +kernel
theorem d_Mo_readBlock_174 : decode cd_Mo_readBlock 174 = .ok (.iconst 1, 1) := by decide +kernel
theorem d_Mo_readBlock_175 : decode cd_Mo_readBlock 175 = .ok (.ireturn, 1) := by decide +kernel
theorem d_Mo_readBlock_176 : decode cd_Mo_readBlock 176 = .ok (.aload_n 0, 1) := by decide +kernel
theorem d_Mo_readBlock_177 : decode cd_Mo_readBlock 177 = .ok (.getfield 7, 3) := by decide +kernel
theorem d_Mo_readBlock_180 : decode cd_Mo_readBlock 180 = .ok (.aload_n 0, 1) := by decide +kernel
theorem d_Mo_readBlock_181 : decode cd_Mo_readBlock 181 = .ok (.getfield 127, 3) := by decide +kernel
theorem d_Mo_readBlock_184 : decode cd_Mo_readBlock 184 = .ok (.iaload, 1) := by decide +kernel
theorem d_Mo_readBlock_185 : decode cd_Mo_readBlock 185 = .ok (.sipush 256, 3) := by decide +kernel
theorem d_Mo_readBlock_188 : decode cd_Mo_readBlock 188 = .ok (.aload_n 0, 1) := by decide +kernel
theorem d_Mo_readBlock_189 : decode cd_Mo_readBlock 189 = .ok (.getfield 7, 3) := by decide +kernel
theorem d_Mo_readBlock_192 : decode cd_Mo_readBlock 192 = .ok (.aload_n 0, 1) := by decide +kernel
theorem d_Mo_readBlock_193 : decode cd_Mo_readBlock 193 = .ok (.getfield 127, 3) := by decide +kernel
theorem d_Mo_readBlock_196 : decode cd_Mo_readBlock 196 = .ok (.iconst 1, 1) := by decide +kernel
theorem d_Mo_readBlock_197 : decode cd_Mo_readBlock 197 = .ok (.iadd, 1) := by decide +kernel
theorem d_Mo_readBlock_198 : decode cd_Mo_readBlock 198 = .ok (.iaload, 1) := by decide +kernel
theorem d_Mo_readBlock_199 : decode cd_Mo_readBlock 199 = .ok (.imul, 1) := by decide +kernel
theorem d_Mo_readBlock_200 : decode cd_Mo_readBlock 200 = .ok (.iadd, 1) := by decide +kernel
theorem d_Mo_readBlock_201 : decode cd_Mo_readBlock 201 = .ok (.istore 7, 2) := by decide +kernel
theorem d_Mo_readBlock_203 : decode cd_Mo_readBlock 203 = .ok (.aload_n 0, 1) := by decide +kernel
theorem d_Mo_readBlock_204 : decode cd_Mo_readBlock 204 = .ok (.dup, 1) := by decide +kernel
theorem d_Mo_readBlock_205 : decode cd_Mo_readBlock 205 = .ok (.getfield 127, 3) := by decide +kernel
theorem d_Mo_readBlock_208 : decode cd_Mo_readBlock 208 = .ok (.iconst 2, 1) := by decide +kernel
theorem d_Mo_readBlock_209 : decode cd_Mo_readBlock 209 = .ok (.iadd, 1) := by decide +kernel
theorem d_Mo_readBlock_210 : decode cd_Mo_readBlock 210 = .ok (.putfield 127, 3) := by decide +kernel
theorem d_Mo_readBlock_213 : decode cd_Mo_readBlock 213 = .ok (.iload 7, 2) := by decide +kernel
theorem d_Mo_readBlock_215 : decode cd_Mo_readBlock 215 = .ok (.ifCond .eq 12, 3) := by decide +kernel
theorem d_Mo_readBlock_218 : decode cd_Mo_readBlock 218 = .ok (.iload 7, 2) := by decide +kernel
theorem d_Mo_readBlock_220 : decode cd_Mo_readBlock 220 = .ok (.aload_n 0, 1) := by decide +kernel
theorem d_Mo_readBlock_221 : decode cd_Mo_readBlock 221 = .ok (.getfield 130, 3) := by decide +kernel
theorem d_Mo_readBlock_224 : decode cd_Mo_readBlock 224 = .ok (.if_icmp .le 11, 3) := by decide +kernel
theorem d_Mo_readBlock_227 : decode cd_Mo_readBlock 227 = .ok (.aload_n 0, 1) := by decide +kernel
theorem d_Mo_readBlock_228 : decode cd_Mo_readBlock 228 = .ok (.iload 6, 2) := by decide +kernel
theorem d_Mo_readBlock_230 : decode cd_Mo_readBlock 230 = .ok (.putfield 133, 3) := by decide +kernel
theorem d_Mo_readBlock_233 : decode cd_Mo_readBlock 233 = .ok (.iconst 2, 1) := by decide +kernel
theorem d_Mo_readBlock_234 : decode cd_Mo_readBlock 234 = .ok (.ireturn, 1) := by decide +kernel
theorem d_Mo_readBlock_235 : decode cd_Mo_readBlock 235 = .ok (.aload_n 0, 1) := by decide +kernel
theorem d_Mo_readBlock_236 : decode cd_Mo_readBlock 236 = .ok (.iload 5, 2) := by decide +kernel
theorem d_Mo_readBlock_238 : decode cd_Mo_readBlock 238 = .ok (.bipush 16, 2) := by decide +kernel
theorem d_Mo_readBlock_240 : decode cd_Mo_readBlock 240 = .ok (.irem, 1) := by decide +kernel
theorem d_Mo_readBlock_241 : decode cd_Mo_readBlock 241 = .ok (.iload_n 2, 1) := by decide +kernel
theorem d_Mo_readBlock_242 : decode cd_Mo_readBlock 242 = .ok (.invokevirtual 136, 3) := by decide +kernel
theorem d_Mo_readBlock_245 : decode cd_Mo_readBlock 245 = .ok (.ifCond .ne 5, 3) := by decide +kernel
theorem d_Mo_readBlock_248 : decode cd_Mo_readBlock 248 = .ok (.iconst 1, 1) := by decide +kernel
theorem d_Mo_readBlock_249 : decode cd_Mo_readBlock 249 = .ok (.ireturn, 1) := by decide +kernel
theorem d_Mo_readBlock_250 : decode cd_Mo_readBlock 250 = .ok (.aload_n 0, 1) := by decide +kernel
theorem d_Mo_readBlock_251 : decode cd_Mo_readBlock 251 = .ok (.getfield 124, 3) := by decide +kernel
theorem d_Mo_readBlock_254 : decode cd_Mo_readBlock 254 = .ok (.iconst 4, 1) := by decide +kernel
theorem d_Mo_readBlock_255 : decode cd_Mo_readBlock 255 = .ok (.iadd, 1) := by decide +kernel
theorem d_Mo_readBlock_256 : decode cd_Mo_readBlock 256 = .ok (.iload_n 3, 1) := by decide +kernel
theorem d_Mo_readBlock_257 : decode cd_Mo_readBlock 257 = .ok (.aload_n 0, 1) := by decide +kernel
theorem d_Mo_readBlock_258 : decode cd_Mo_readBlock 258 = .ok (.getfield 130, 3) := by decide +kernel
theorem d_Mo_readBlock_261 : decode cd_Mo_readBlock 261 = .ok (.iload 4, 2) := by decide +kernel
theorem d_Mo_readBlock_263 : decode cd_Mo_readBlock 263 = .ok (.isub, 1) := by decide +kernel
theorem d_Mo_readBlock_264 : decode cd_Mo_readBlock 264 = .ok (.isub, 1) := by decide +kernel
theorem d_Mo_readBlock_265 : decode cd_Mo_readBlock 265 = .ok (.if_icmp .le 11, 3) := by decide +kernel
theorem d_Mo_readBlock_268 : decode cd_Mo_readBlock 268 = .ok (.aload_n 0, 1) := by decide +kernel
theorem d_Mo_readBlock_269 : decode cd_Mo_readBlock 269 = .ok (.iload 6, 2) := by decide +kernel
theorem d_Mo_readBlock_271 : decode cd_Mo_readBlock 271 = .ok (.putfield 133, 3) := by decide +kernel
theorem d_Mo_readBlock_274 : decode cd_Mo_readBlock 274 = .ok (.iconst 3, 1) := by decide +kernel
theorem d_Mo_readBlock_275 : decode cd_Mo_readBlock 275 = .ok (.ireturn, 1) := by decide +kernel
theorem d_Mo_readBlock_276 : decode cd_Mo_readBlock 276 = .ok (.iconst 0, 1) := by decide +kernel
theorem d_Mo_readBlock_277 : decode cd_Mo_readBlock 277 = .ok (.istore 8, 2) := by decide +kernel
theorem d_Mo_readBlock_279 : decode cd_Mo_readBlock 279 = .ok (.iload 8, 2) := by decide +kernel
theorem d_Mo_readBlock_281 : decode cd_Mo_readBlock 281 = .ok (.aload_n 0, 1) := by decide +kernel
theorem d_Mo_readBlock_282 : decode cd_Mo_readBlock 282 = .ok (.getfield 124, 3) := by decide +kernel
theorem d_Mo_readBlock_285 : decode cd_Mo_readBlock 285 = .ok (.iconst 4, 1) := by decide +kernel
theorem d_Mo_readBlock_286 : decode cd_Mo_readBlock 286 = .ok (.iadd, 1) := by decide +kernel
theorem d_Mo_readBlock_287 : decode cd_Mo_readBlock 287 = .ok (.if_icmp .ge 40, 3) := by decide +kernel
theorem d_Mo_readBlock_290 : decode cd_Mo_readBlock 290 = .ok (.aload_n 0, 1) := by decide +kernel
theorem d_Mo_readBlock_291 : decode cd_Mo_readBlock 291 = .ok (.getfield 28, 3) := by decide +kernel
theorem d_Mo_readBlock_294 : decode cd_Mo_readBlock 294 = .ok (.aload_n 0, 1) := by decide +kernel
theorem d_Mo_readBlock_295 : decode cd_Mo_readBlock 295 = .ok (.getfield 130, 3) := by decide +kernel
theorem d_Mo_readBlock_298 : decode cd_Mo_readBlock 298 = .ok (.aload_n 0, 1) := by decide +kernel
theorem d_Mo_readBlock_299 : decode cd_Mo_readBlock 299 = .ok (.getfield 28, 3) := by decide +kernel
theorem d_Mo_readBlock_302 : decode cd_Mo_readBlock 302 = .ok (.aload_n 0, 1) := by decide +kernel
theorem d_Mo_readBlock_303 : decode cd_Mo_readBlock 303 = .ok (.getfield 130, 3) := by decide +kernel
theorem d_Mo_readBlock_306 : decode cd_Mo_readBlock 306 = .ok (.iload 7, 2) := by decide +kernel
theorem d_Mo_readBlock_308 : decode cd_Mo_readBlock 308 = .ok (.isub, 1) := by decide +kernel
theorem d_Mo_readBlock_309 : decode cd_Mo_readBlock 309 = .ok (.iaload, 1) := by decide +kernel
theorem d_Mo_readBlock_310 : decode cd_Mo_readBlock 310 = .ok (.iastore, 1) := by decide +kernel
theorem d_Mo_readBlock_311 : decode cd_Mo_readBlock 311 = .ok (.aload_n 0, 1) := by decide +kernel
theorem d_Mo_readBlock_312 : decode cd_Mo_readBlock 312 = .ok (.dup, 1) := by decide +kernel
theorem d_Mo_readBlock_313 : decode cd_Mo_readBlock 313 = .ok (.getfield 130, 3) := by decide +kernel
theorem d_Mo_readBlock_316 : decode cd_Mo_readBlock 316 = .ok (.iconst 1, 1) := by decide +kernel
theorem d_Mo_readBlock_317 : decode cd_Mo_readBlock 317 = .ok (.iadd, 1) := by decide +kernel
theorem d_Mo_readBlock_318 : decode cd_Mo_readBlock 318 = .ok (.putfield 130, 3) := by decide +kernel
theorem d_Mo_readBlock_321 : decode cd_Mo_readBlock 321 = .ok (.iinc 8 1, 3) := by decide +kernel
theorem d_Mo_readBlock_324 : decode cd_Mo_readBlock 324 = .ok (.goto (-45), 3) := by decide +kernel
theorem d_Mo_readBlock_327 : decode cd_Mo_readBlock 327 = .ok (.goto (-316), 3) := by decide +kernel
theorem d_Mo_adds_0 : decode cd_Mo_adds 0 = .ok (.aload_n 0, 1) := by decide +kernel
theorem d_Mo_adds_1 : decode cd_Mo_adds 1 = .ok (.iload_n 1, 1) := by decide +kernel
theorem d_Mo_adds_2 : decode cd_Mo_adds 2 = .ok (.putfield 124, 3) := by decide +kernel
theorem d_Mo_adds_5 : decode cd_Mo_adds 5 = .ok (.iload_n 1, 1) := by decide +kernel
theorem d_Mo_adds_6 : decode cd_Mo_adds 6 = .ok (.bipush 15, 2) := by decide +kernel
theorem d_Mo_adds_8 : decode cd_Mo_adds 8 = .ok (.if_icmp .ne 7, 3) := by decide +kernel
theorem d_Mo_adds_11 : decode cd_Mo_adds 11 = .ok (.iconst 1, 1) := by decide +kernel
theorem d_Mo_adds_12 : decode cd_Mo_adds 12 = .ok (.goto 4, 3) := by decide +kernel
theorem d_Mo_adds_15 : decode cd_Mo_adds 15 = .ok (.iconst 0, 1) := by decide +kernel
theorem d_Mo_adds_16 : decode cd_Mo_adds 16 = .ok (.istore_n 3, 1) := by decide +kernel
theorem d_Mo_adds_17 : decode cd_Mo_adds 17 = .ok (.iload_n 3, 1) := by decide +kernel
theorem d_Mo_adds_18 : decode cd_Mo_adds 18 = .ok (.ifCond .eq 65, 3) := by decide +kernel
theorem d_Mo_adds_21 : decode cd_Mo_adds 21 = .ok (.aload_n 0, 1) := by decide +kernel
theorem d_Mo_adds_22 : decode cd_Mo_adds 22 = .ok (.getfield 127, 3) := by decide +kernel
theorem d_Mo_adds_25 : decode cd_Mo_adds 25 = .ok (.iload_n 2, 1) := by decide +kernel
theorem d_Mo_adds_26 : decode cd_Mo_adds 26 = .ok (.if_icmp .ne 5, 3) := by decide +kernel
theorem d_Mo_adds_29 : decode cd_Mo_adds 29 = .ok (.iconst 0, 1) := by decide +kernel
theorem d_Mo_adds_30 : decode cd_Mo_adds 30 = .ok (.ireturn, 1) := by decide +kernel
theorem d_Mo_adds_31 : decode cd_Mo_adds 31 = .ok (.aload_n 0, 1) := by decide +kernel
theorem d_Mo_adds_32 : decode cd_Mo_adds 32 = .ok (.dup, 1) := by decide +kernel
theorem d_Mo_adds_33 : decode cd_Mo_adds 33 = .ok (.getfield 124, 3) := by decide +kernel
theorem d_Mo_adds_36 : decode cd_Mo_adds 36 = .ok (.aload_n 0, 1) := by decide +kernel
theorem d_Mo_adds_37 : decode cd_Mo_adds 37 = .ok (.getfield 7, 3) := by decide +kernel
theorem d_Mo_adds_40 : decode cd_Mo_adds 40 = .ok (.aload_n 0, 1) := by decide +kernel
theorem d_Mo_adds_41 : decode cd_Mo_adds 41 = .ok (.getfield 127, 3) := by decide +kernel
theorem d_Mo_adds_44 : decode cd_Mo_adds 44 = .ok (.iaload, 1) := by decide +kernel
theorem d_Mo_adds_45 : decode cd_Mo_adds 45 = .ok (.iadd, 1) := by decide +kernel
theorem d_Mo_adds_46 : decode cd_Mo_adds 46 = .ok (.putfield 124, 3) := by decide +kernel
theorem d_Mo_adds_49 : decode cd_Mo_adds 49 = .ok (.aload_n 0, 1) := by decide +kernel
theorem d_Mo_adds_50 : decode cd_Mo_adds 50 = .ok (.getfield 7, 3) := by decide +kernel
theorem d_Mo_adds_53 : decode cd_Mo_adds 53 = .ok (.aload_n 0, 1) := by decide +kernel
theorem d_Mo_adds_54 : decode cd_Mo_adds 54 = .ok (.getfield 127, 3) := by decide +kernel
theorem d_Mo_adds_57 : decode cd_Mo_adds 57 = .ok (.iaload, 1) := by decide +kernel
theorem d_Mo_adds_58 : decode cd_Mo_adds 58 = .ok (.sipush 255, 3) := by decide +kernel
theorem d_Mo_adds_61 : decode cd_Mo_adds 61 = .ok (.if_icmp .ne 7, 3) := by decide +kernel
theorem d_Mo_adds_64 : decode cd_Mo_adds 64 = .ok (.iconst 1, 1) := by decide +kernel
theorem d_Mo_adds_65 : decode cd_Mo_adds 65 = .ok (.goto 4, 3) := by decide +kernel
theorem d_Mo_adds_68 : decode cd_Mo_adds 68 = .ok (.iconst 0, 1) := by decide +kernel
theorem d_Mo_adds_69 : decode cd_Mo_adds 69 = .ok (.istore_n 3, 1) := by decide +kernel
theorem d_Mo_adds_70 : decode cd_Mo_adds 70 = .ok (.aload_n 0, 1) := by decide +kernel
theorem d_Mo_adds_71 : decode cd_Mo_adds 71 = .ok (.dup, 1) := by decide +kernel
theorem d_Mo_adds_72 : decode cd_Mo_adds 72 = .ok (.getfield 127, 3) := by decide +kernel
theorem d_Mo_adds_75 : decode cd_Mo_adds 75 = .ok (.iconst 1, 1) := by decide +kernel
theorem d_Mo_adds_76 : decode cd_Mo_adds 76 = .ok (.iadd, 1) := by decide +kernel
theorem d_Mo_adds_77 : decode cd_Mo_adds 77 = .ok (.putfield 127, 3) := by decide +kernel
theorem d_Mo_adds_80 : decode cd_Mo_adds 80 = .ok (.goto (-63), 3) := by decide +kernel
theorem d_Mo_adds_83 : decode cd_Mo_adds 83 = .ok (.iconst 1, 1) := by decide +kernel
theorem d_Mo_adds_84 : decode cd_Mo_adds 84 = .ok (.ireturn, 1) := by decide +kernel
theorem d_Mo_frame_0 : decode cd_Mo_frame 0 = .ok (.iload_n 1, 1) := by decide +kernel
theorem d_Mo_frame_1 : decode cd_Mo_frame 1 = .ok (.invokestatic 152, 3) := by decide +kernel
theorem d_Mo_frame_4 : decode cd_Mo_frame 4 = .ok (.ifCond .eq 39, 3) := by decide +kernel
theorem d_Mo_frame_7 : decode cd_Mo_frame 7 = .ok (.iload_n 2, 1) := by decide +kernel
theorem d_Mo_frame_8 : decode cd_Mo_frame 8 = .ok (.iconst 4, 1) := by decide +kernel
theorem d_Mo_frame_9 : decode cd_Mo_frame 9 = .ok (.if_icmp .lt 34, 3) := by decide +kernel
theorem d_Mo_frame_12 : decode cd_Mo_frame 12 = .ok (.iload_n 2, 1) := by decide +kernel
theorem d_Mo_frame_13 : decode cd_Mo_frame 13 = .ok (.bipush 7, 2) := by decide +kernel
theorem d_Mo_frame_15 : decode cd_Mo_frame 15 = .ok (.if_icmp .gt 28, 3) := by decide +kernel
theorem d_Mo_frame_18 : decode cd_Mo_frame 18 = .ok (.iload 4, 2) := by decide +kernel
theorem d_Mo_frame_20 : decode cd_Mo_frame 20 = .ok (.iconst 1, 1) := by decide +kernel
theorem d_Mo_frame_21 : decode cd_Mo_frame 21 = .ok (.if_icmp .lt 22, 3) := by decide +kernel
theorem d_Mo_frame_24 : decode cd_Mo_frame 24 = .ok (.iload 4, 2) := by decide +kernel
theorem d_Mo_frame_26 : decode cd_Mo_frame 26 = .ok (.sipush 8000, 3) := by decide +kernel
theorem d_Mo_frame_29 : decode cd_Mo_frame 29 = .ok (.if_icmp .gt 14, 3) := by decide +kernel
theorem d_Mo_frame_32 : decode cd_Mo_frame 32 = .ok (.iload 5, 2) := by decide +kernel
theorem d_Mo_frame_34 : decode cd_Mo_frame 34 = .ok (.ifCond .lt 9, 3) := by decide +kernel
theorem d_Mo_frame_37 : decode cd_Mo_frame 37 = .ok (.iload 5, 2) := by decide +kernel
theorem d_Mo_frame_39 : decode cd_Mo_frame 39 = .ok (.iconst 3, 1) := by decide +kernel
theorem d_Mo_frame_40 : decode cd_Mo_frame 40 = .ok (.if_icmp .le 5, 3) := by decide +kernel
theorem d_Mo_frame_43 : decode cd_Mo_frame 43 = .ok (.iconst (-1), 1) := by decide +kernel
theorem d_Mo_frame_44 : decode cd_Mo_frame 44 = .ok (.ireturn, 1) := by decide +kernel
theorem d_Mo_frame_45 : decode cd_Mo_frame 45 = .ok (.aload_n 0, 1) := by decide +kernel
theorem d_Mo_frame_46 : decode cd_Mo_frame 46 = .ok (.iconst 0, 1) := by decide +kernel
theorem d_Mo_frame_47 : decode cd_Mo_frame 47 = .ok (.putfield 146, 3) := by decide +kernel
theorem d_Mo_frame_50 : decode cd_Mo_frame 50 = .ok (.aload_n 0, 1) := by decide +kernel
theorem d_Mo_frame_51 : decode cd_Mo_frame 51 = .ok (.ldc2_w 156, 3) := by decide +kernel
theorem d_Mo_frame_54 : decode cd_Mo_frame 54 = .ok (.iconst 4, 1) := by decide +kernel
theorem d_Mo_frame_55 : decode cd_Mo_frame 55 = .ok (.invokevirtual 158, 3) := by decide +kernel
theorem d_Mo_frame_58 : decode cd_Mo_frame 58 = .ok (.aload_n 0, 1) := by decide +kernel
theorem d_Mo_frame_59 : decode cd_Mo_frame 59 = .ok (.iload_n 1, 1) := by decide +kernel
theorem d_Mo_frame_60 : decode cd_Mo_frame 60 = .ok (.invokevirtual 149, 3) := by decide +kernel
theorem d_Mo_frame_63 : decode cd_Mo_frame 63 = .ok (.aload_n 0, 1) := by decide +kernel
theorem d_Mo_frame_64 : decode cd_Mo_frame 64 = .ok (.bipush 16, 2) := by decide +kernel
theorem d_Mo_frame_66 : decode cd_Mo_frame 66 = .ok (.iload_n 2, 1) := by decide +kernel
theorem d_Mo_frame_67 : decode cd_Mo_frame 67 = .ok (.imul, 1) := by decide +kernel
theorem d_Mo_frame_68 : decode cd_Mo_frame 68 = .ok (.invokevirtual 149, 3) := by decide +kernel
theorem d_Mo_frame_71 : decode cd_Mo_frame 71 = .ok (.iload_n 1, 1) := by decide +kernel
theorem d_Mo_frame_72 : decode cd_Mo_frame 72 = .ok (.bipush 8, 2) := by decide +kernel
theorem d_Mo_frame_74 : decode cd_Mo_frame 74 = .ok (.iand, 1) := by decide +kernel
theorem d_Mo_frame_75 : decode cd_Mo_frame 75 = .ok (.ifCond .eq 14, 3) := by decide +kernel
theorem d_Mo_frame_78 : decode cd_Mo_frame 78 = .ok (.aload_n 0, 1) := by decide +kernel
theorem d_Mo_frame_79 : decode cd_Mo_frame 79 = .ok (.aload_n 0, 1) := by decide +kernel
theorem d_Mo_frame_80 : decode cd_Mo_frame 80 = .ok (.getfield 38, 3) := by decide +kernel
theorem d_Mo_frame_83 : decode cd_Mo_frame 83 = .ok (.i2l, 1) := by decide +kernel
theorem d_Mo_frame_84 : decode cd_Mo_frame 84 = .ok (.bipush 8, 2) := by decide +kernel
theorem d_Mo_frame_86 : decode cd_Mo_frame 86 = .ok (.invokevirtual 158, 3) := by decide +kernel
theorem d_Mo_frame_89 : decode cd_Mo_frame 89 = .ok (.iload_n 1, 1) := by decide +kernel
theorem d_Mo_frame_90 : decode cd_Mo_frame 90 = .ok (.iconst 1, 1) := by decide +kernel
theorem d_Mo_frame_91 : decode cd_Mo_frame 91 = .ok (.iand, 1) := by decide +kernel
theorem d_Mo_frame_92 : decode cd_Mo_frame 92 = .ok (.ifCond .eq 14, 3) := by decide +kernel
theorem d_Mo_frame_95 : decode cd_Mo_frame 95 = .ok (.aload_n 0, 1) := by decide +kernel
theorem d_Mo_frame_96 : decode cd_Mo_frame 96 = .ok (.iload_n 3, 1) := by decide +kernel
theorem d_Mo_frame_97 : decode cd_Mo_frame 97 = .ok (.i2l, 1) := by decide +kernel
theorem d_Mo_frame_98 : decode cd_Mo_frame 98 = .ok (.ldc2_w 50, 3) := by decide +kernel
theorem d_Mo_frame_101 : decode cd_Mo_frame 101 = .ok (.land, 1) := by decide +kernel
theorem d_Mo_frame_102 : decode cd_Mo_frame 102 = .ok (.iconst 4, 1) := by decide +kernel
theorem d_Mo_frame_103 : decode cd_Mo_frame 103 = .ok (.invokevirtual 158, 3) := by decide +kernel
theorem d_Mo_frame_106 : decode cd_Mo_frame 106 = .ok (.aload_n 0, 1) := by decide +kernel
theorem d_Mo_frame_107 : decode cd_Mo_frame 107 = .ok (.aload_n 0, 1) := by decide +kernel
theorem d_Mo_frame_108 : decode cd_Mo_frame 108 = .ok (.aload_n 0, 1) := by decide +kernel
theorem d_Mo_frame_109 : decode cd_Mo_frame 109 = .ok (.getfield 22, 3) := by decide +kernel
theorem d_Mo_frame_112 : decode cd_Mo_frame 112 = .ok (.iconst 4, 1) := by decide +kernel
theorem d_Mo_frame_113 : decode cd_Mo_frame 113 = .ok (.aload_n 0, 1) := by decide +kernel
theorem d_Mo_frame_114 : decode cd_Mo_frame 114 = .ok (.getfield 146, 3) := by decide +kernel
theorem d_Mo_frame_117 : decode cd_Mo_frame 117 = .ok (.invokevirtual 74, 3) := by decide +kernel
theorem d_Mo_frame_120 : decode cd_Mo_frame 120 = .ok (.bipush 8, 2) := by decide +kernel
theorem d_Mo_frame_122 : decode cd_Mo_frame 122 = .ok (.lshr, 1) := by decide +kernel
theorem d_Mo_frame_123 : decode cd_Mo_frame 123 = .ok (.ldc2_w 42, 3) := by decide +kernel
theorem d_Mo_frame_126 : decode cd_Mo_frame 126 = .ok (.land, 1) := by decide +kernel
theorem d_Mo_frame_127 : decode cd_Mo_frame 127 = .ok (.l2i, 1) := by decide +kernel
theorem d_Mo_frame_128 : decode cd_Mo_frame 128 = .ok (.invokevirtual 149, 3) := by decide +kernel
theorem d_Mo_frame_131 : decode cd_Mo_frame 131 = .ok (.iconst 0, 1) := by decide +kernel
theorem d_Mo_frame_132 : decode cd_Mo_frame 132 = .ok (.istore 6, 2) := by decide +kernel
theorem d_Mo_frame_134 : decode cd_Mo_frame 134 = .ok (.iload 6, 2) := by decide +kernel
theorem d_Mo_frame_136 : decode cd_Mo_frame 136 = .ok (.aload_n 0, 1) := by decide +kernel
theorem d_Mo_frame_137 : decode cd_Mo_frame 137 = .ok (.getfield 38, 3) := by decide +kernel
theorem d_Mo_frame_140 : decode cd_Mo_frame 140 = .ok (.if_icmp .ge 212, 3) := by decide +kernel
theorem d_Mo_frame_143 : decode cd_Mo_frame 143 = .ok (.iload 6, 2) := by decide +kernel
theorem d_Mo_frame_145 : decode cd_Mo_frame 145 = .ok (.iload 4, 2) := by decide +kernel
theorem d_Mo_frame_147 : decode cd_Mo_frame 147 = .ok (.iadd, 1) := by decide +kernel
theorem d_Mo_frame_148 : decode cd_Mo_frame 148 = .ok (.aload_n 0, 1) := by decide +kernel
theorem d_Mo_frame_149 : decode cd_Mo_frame 149 = .ok (.getfield 38, 3) := by decide +kernel
theorem d_Mo_frame_152 : decode cd_Mo_frame 152 = .ok (.if_icmp .ge 11, 3) := by decide +kernel
theorem d_Mo_frame_155 : decode cd_Mo_frame 155 = .ok (.iload 6, 2) := by decide +kernel
theorem d_Mo_frame_157 : decode cd_Mo_frame 157 = .ok (.iload 4, 2) := by decide +kernel
theorem d_Mo_frame_159 : decode cd_Mo_frame 159 = .ok (.iadd, 1) := by decide +kernel
theorem d_Mo_frame_160 : decode cd_Mo_frame 160 = .ok (.goto 7, 3) := by decide +kernel
theorem d_Mo_frame_163 : decode cd_Mo_frame 163 = .ok (.aload_n 0, 1) := by decide +kernel
theorem d_Mo_frame_164 : decode cd_Mo_frame 164 = .ok (.getfield 38, 3) := by decide +kernel
theorem d_Mo_frame_167 : decode cd_Mo_frame 167 = .ok (.istore 7, 2) := by decide +kernel
theorem d_Mo_frame_169 : decode cd_Mo_frame 169 = .ok (.aload_n 0, 1) := by decide +kernel
theorem d_Mo_frame_170 : decode cd_Mo_frame 170 = .ok (.invokevirtual 110, 3) := by decide +kernel
theorem d_Mo_frame_173 : decode cd_Mo_frame 173 = .ok (.iload_n 1, 1) := by decide +kernel
theorem d_Mo_frame_174 : decode cd_Mo_frame 174 = .ok (.bipush 32, 2) := by decide +kernel
theorem d_Mo_frame_176 : decode cd_Mo_frame 176 = .ok (.iand, 1) := by decide +kernel
theorem d_Mo_frame_177 : decode cd_Mo_frame 177 = .ok (.ifCond .ne 10, 3) := by decide +kernel
theorem d_Mo_frame_180 : decode cd_Mo_frame 180 = .ok (.aload_n 0, 1) := by decide +kernel
theorem d_Mo_frame_181 : decode cd_Mo_frame 181 = .ok (.iconst 0, 1) := by decide +kernel
theorem d_Mo_frame_182 : decode cd_Mo_frame 182 = .ok (.iload 6, 2) := by decide +kernel
theorem d_Mo_frame_184 : decode cd_Mo_frame 184 = .ok (.invokevirtual 113, 3) := by decide +kernel
theorem d_Mo_frame_187 : decode cd_Mo_frame 187 = .ok (.aload_n 0, 1) := by decide +kernel
theorem d_Mo_frame_188 : decode cd_Mo_frame 188 = .ok (.getfield 78, 3) := by decide +kernel
theorem d_Mo_frame_191 : decode cd_Mo_frame 191 = .ok (.istore 8, 2) := by decide +kernel
theorem d_Mo_frame_193 : decode cd_Mo_frame 193 = .ok (.aload_n 0, 1) := by decide +kernel
theorem d_Mo_frame_194 : decode cd_Mo_frame 194 = .ok (.iload 6, 2) := by decide +kernel
theorem d_Mo_frame_196 : decode cd_Mo_frame 196 = .ok (.iload 7, 2) := by decide +kernel
theorem d_Mo_frame_198 : decode cd_Mo_frame 198 = .ok (.invokevirtual 113, 3) := by decide +kernel
theorem d_Mo_frame_201 : decode cd_Mo_frame 201 = .ok (.aload_n 0, 1) := by decide +kernel
theorem d_Mo_frame_202 : decode cd_Mo_frame 202 = .ok (.iload 8, 2) := by decide +kernel
theorem d_Mo_frame_204 : decode cd_Mo_frame 204 = .ok (.iload 5, 2) := by decide +kernel
theorem d_Mo_frame_206 : decode cd_Mo_frame 206 = .ok (.invokevirtual 117, 3) := by decide +kernel
theorem d_Mo_frame_209 : decode cd_Mo_frame 209 = .ok (.aload_n 0, 1) := by decide +kernel
theorem d_Mo_frame_210 : decode cd_Mo_frame 210 = .ok (.getfield 93, 3) := by decide +kernel
theorem d_Mo_frame_213 : decode cd_Mo_frame 213 = .ok (.iload 7, 2) := by decide +kernel
theorem d_Mo_frame_215 : decode cd_Mo_frame 215 = .ok (.iload 6, 2) := by decide +kernel
theorem d_Mo_frame_217 : decode cd_Mo_frame 217 = .ok (.isub, 1) := by decide +kernel
theorem d_Mo_frame_218 : decode cd_Mo_frame 218 = .ok (.if_icmp .lt 7, 3) := by decide +kernel
theorem d_Mo_frame_221 : decode cd_Mo_frame 221 = .ok (.iconst 1, 1) := by decide +kernel
theorem d_Mo_frame_222 : decode cd_Mo_frame 222 = .ok (.goto 4, 3) := by decide +kernel
theorem d_Mo_frame_225 : decode cd_Mo_frame 225 = .ok (.iconst 0, 1) := by decide +kernel
theorem d_Mo_frame_226 : decode cd_Mo_frame 226 = .ok (.istore 9, 2) := by decide +kernel
theorem d_Mo_frame_228 : decode cd_Mo_frame 228 = .ok (.iload 9, 2) := by decide +kernel
theorem d_Mo_frame_230 : decode cd_Mo_frame 230 = .ok (.ifCond .eq 11, 3) := by decide +kernel
theorem d_Mo_frame_233 : decode cd_Mo_frame 233 = .ok (.iload 7, 2) := by decide +kernel
theorem d_Mo_frame_235 : decode cd_Mo_frame 235 = .ok (.iload 6, 2) := by decide +kernel
theorem d_Mo_frame_237 : decode cd_Mo_frame 237 = .ok (.isub, 1) := by decide +kernel
theorem d_Mo_frame_238 : decode cd_Mo_frame 238 = .ok (.goto 7, 3) := by decide +kernel
theorem d_Mo_frame_241 : decode cd_Mo_frame 241 = .ok (.aload_n 0, 1) := by decide +kernel
theorem d_Mo_frame_242 : decode cd_Mo_frame 242 = .ok (.getfield 93, 3) := by decide +kernel
theorem d_Mo_frame_245 : decode cd_Mo_frame 245 = .ok (.istore 10, 2) := by decide +kernel
theorem d_Mo_frame_247 : decode cd_Mo_frame 247 = .ok (.aload_n 0, 1) := by decide +kernel
theorem d_Mo_frame_248 : decode cd_Mo_frame 248 = .ok (.iload 9, 2) := by decide +kernel
theorem d_Mo_frame_250 : decode cd_Mo_frame 250 = .ok (.ifCond .eq 13, 3) := by decide +kernel
theorem d_Mo_frame_253 : decode cd_Mo_frame 253 = .ok (.ldc2_w 162, 3) := by decide +kernel
theorem d_Mo_frame_256 : decode cd_Mo_frame 256 = .ok (.iload 10, 2) := by decide +kernel
theorem d_Mo_frame_258 : decode cd_Mo_frame 258 = .ok (.i2l, 1) := by decide +kernel
theorem d_Mo_frame_259 : decode cd_Mo_frame 259 = .ok (.ladd, 1) := by decide +kernel
theorem d_Mo_frame_260 : decode cd_Mo_frame 260 = .ok (.goto 6, 3) := by decide +kernel
theorem d_Mo_frame_263 : decode cd_Mo_frame 263 = .ok (.iload 10, 2) := by decide +kernel
theorem d_Mo_frame_265 : decode cd_Mo_frame 265 = .ok (.i2l, 1) := by decide +kernel
theorem d_Mo_frame_266 : decode cd_Mo_frame 266 = .ok (.iconst 4, 1) := by decide +kernel
theorem d_Mo_frame_267 : decode cd_Mo_frame 267 = .ok (.invokevirtual 158, 3) := by decide +kernel
theorem d_Mo_frame_270 : decode cd_Mo_frame 270 = .ok (.iconst 0, 1) := by decide +kernel
theorem d_Mo_frame_271 : decode cd_Mo_frame 271 = .ok (.istore 11, 2) := by decide +kernel
theorem d_Mo_frame_273 : decode cd_Mo_frame 273 = .ok (.iload 11, 2) := by decide +kernel
theorem d_Mo_frame_275 : decode cd_Mo_frame 275 = .ok (.iload 10, 2) := by decide +kernel
theorem d_Mo_frame_277 : decode cd_Mo_frame 277 = .ok (.if_icmp .ge 42, 3) := by decide +kernel
theorem d_Mo_frame_280 : decode cd_Mo_frame 280 = .ok (.iload 9, 2) := by decide +kernel
theorem d_Mo_frame_282 : decode cd_Mo_frame 282 = .ok (.ifCond .eq 20, 3) := by decide +kernel
theorem d_Mo_frame_285 : decode cd_Mo_frame 285 = .ok (.aload_n 0, 1) := by decide +kernel
theorem d_Mo_frame_286 : decode cd_Mo_frame 286 = .ok (.getfield 25, 3) := by decide +kernel
theorem d_Mo_frame_289 : decode cd_Mo_frame 289 = .ok (.iload 11, 2) := by decide +kernel
theorem d_Mo_frame_291 : decode cd_Mo_frame 291 = .ok (.aload_n 0, 1) := by decide +kernel
theorem d_Mo_frame_292 : decode cd_Mo_frame 292 = .ok (.getfield 7, 3) := by decide +kernel
theorem d_Mo_frame_295 : decode cd_Mo_frame 295 = .ok (.iload 6, 2) := by decide +kernel
theorem d_Mo_frame_297 : decode cd_Mo_frame 297 = .ok (.iload 11, 2) := by decide +kernel
theorem d_Mo_frame_299 : decode cd_Mo_frame 299 = .ok (.iadd, 1) := by decide +kernel
theorem d_Mo_frame_300 : decode cd_Mo_frame 300 = .ok (.iaload, 1) := by decide +kernel
theorem d_Mo_frame_301 : decode cd_Mo_frame 301 = .ok (.iastore, 1) := by decide +kernel
theorem d_Mo_frame_302 : decode cd_Mo_frame 302 = .ok (.aload_n 0, 1) := by decide +kernel
theorem d_Mo_frame_303 : decode cd_Mo_frame 303 = .ok (.aload_n 0, 1) := by decide +kernel
theorem d_Mo_frame_304 : decode cd_Mo_frame 304 = .ok (.getfield 25, 3) := by decide +kernel
theorem d_Mo_frame_307 : decode cd_Mo_frame 307 = .ok (.iload 11, 2) := by decide +kernel
theorem d_Mo_frame_309 : decode cd_Mo_frame 309 = .ok (.iaload, 1) := by decide +kernel
theorem d_Mo_frame_310 : decode cd_Mo_frame 310 = .ok (.invokevirtual 149, 3) := by decide +kernel
theorem d_Mo_frame_313 : decode cd_Mo_frame 313 = .ok (.iinc 11 1, 3) := by decide +kernel
theorem d_Mo_frame_316 : decode cd_Mo_frame 316 = .ok (.goto (-43), 3) := by decide +kernel
theorem d_Mo_frame_319 : decode cd_Mo_frame 319 = .ok (.iload_n 1, 1) := by decide +kernel
theorem d_Mo_frame_320 : decode cd_Mo_frame 320 = .ok (.bipush 16, 2) := by decide +kernel
theorem d_Mo_frame_322 : decode cd_Mo_frame 322 = .ok (.iand, 1) := by decide +kernel
theorem d_Mo_frame_323 : decode cd_Mo_frame 323 = .ok (.ifCond .eq 19, 3) := by decide +kernel
theorem d_Mo_frame_326 : decode cd_Mo_frame 326 = .ok (.aload_n 0, 1) := by decide +kernel
theorem d_Mo_frame_327 : decode cd_Mo_frame 327 = .ok (.aload_n 0, 1) := by decide +kernel
theorem d_Mo_frame_328 : decode cd_Mo_frame 328 = .ok (.aload_n 0, 1) := by decide +kernel
theorem d_Mo_frame_329 : decode cd_Mo_frame 329 = .ok (.getfield 25, 3) := by decide +kernel
theorem d_Mo_frame_332 : decode cd_Mo_frame 332 = .ok (.iconst 0, 1) := by decide +kernel
theorem d_Mo_frame_333 : decode cd_Mo_frame 333 = .ok (.iload 10, 2) := by decide +kernel
theorem d_Mo_frame_335 : decode cd_Mo_frame 335 = .ok (.invokevirtual 74, 3) := by decide +kernel
theorem d_Mo_frame_338 : decode cd_Mo_frame 338 = .ok (.iconst 4, 1) := by decide +kernel
theorem d_Mo_frame_339 : decode cd_Mo_frame 339 = .ok (.invokevirtual 158, 3) := by decide +kernel
theorem d_Mo_frame_342 : decode cd_Mo_frame 342 = .ok (.iload 6, 2) := by decide +kernel
theorem d_Mo_frame_344 : decode cd_Mo_frame 344 = .ok (.iload 4, 2) := by decide +kernel
theorem d_Mo_frame_346 : decode cd_Mo_frame 346 = .ok (.iadd, 1) := by decide +kernel
theorem d_Mo_frame_347 : decode cd_Mo_frame 347 = .ok (.istore 6, 2) := by decide +kernel
theorem d_Mo_frame_349 : decode cd_Mo_frame 349 = .ok (.goto (-215), 3) := by decide +kernel
theorem d_Mo_frame_352 : decode cd_Mo_frame 352 = .ok (.aload_n 0, 1) := by decide +kernel
theorem d_Mo_frame_353 : decode cd_Mo_frame 353 = .ok (.lconst 0, 1) := by decide +kernel
theorem d_Mo_frame_354 : decode cd_Mo_frame 354 = .ok (.iconst 4, 1) := by decide +kernel
theorem d_Mo_frame_355 : decode cd_Mo_frame 355 = .ok (.invokevirtual 158, 3) := by decide +kernel
theorem d_Mo_frame_358 : decode cd_Mo_frame 358 = .ok (.iload_n 1, 1) := by decide +kernel
theorem d_Mo_frame_359 : decode cd_Mo_frame 359 = .ok (.iconst 4, 1) := by decide +kernel
theorem d_Mo_frame_360 : decode cd_Mo_frame 360 = .ok (.iand, 1) := by decide +kernel
theorem d_Mo_frame_361 : decode cd_Mo_frame 361 = .ok (.ifCond .eq 21, 3) := by decide +kernel
theorem d_Mo_frame_364 : decode cd_Mo_frame 364 = .ok (.aload_n 0, 1) := by decide +kernel
theorem d_Mo_frame_365 : decode cd_Mo_frame 365 = .ok (.aload_n 0, 1) := by decide +kernel
theorem d_Mo_frame_366 : decode cd_Mo_frame 366 = .ok (.aload_n 0, 1) := by decide +kernel
theorem d_Mo_frame_367 : decode cd_Mo_frame 367 = .ok (.getfield 7, 3) := by decide +kernel
theorem d_Mo_frame_370 : decode cd_Mo_frame 370 = .ok (.iconst 0, 1) := by decide +kernel
theorem d_Mo_frame_371 : decode cd_Mo_frame 371 = .ok (.aload_n 0, 1) := by decide +kernel
theorem d_Mo_frame_372 : decode cd_Mo_frame 372 = .ok (.getfield 38, 3) := by decide +kernel
theorem d_Mo_frame_375 : decode cd_Mo_frame 375 = .ok (.invokevirtual 74, 3) := by decide +kernel
theorem d_Mo_frame_378 : decode cd_Mo_frame 378 = .ok (.iconst 4, 1) := by decide +kernel
theorem d_Mo_frame_379 : decode cd_Mo_frame 379 = .ok (.invokevirtual 158, 3) := by decide +kernel
theorem d_Mo_frame_382 : decode cd_Mo_frame 382 = .ok (.aload_n 0, 1) := by decide +kernel
theorem d_Mo_frame_383 : decode cd_Mo_frame 383 = .ok (.aload_n 0, 1) := by decide +kernel
theorem d_Mo_frame_384 : decode cd_Mo_frame 384 = .ok (.getfield 22, 3) := by decide +kernel
theorem d_Mo_frame_387 : decode cd_Mo_frame 387 = .ok (.aload_n 0, 1) := by decide +kernel
theorem d_Mo_frame_388 : decode cd_Mo_frame 388 = .ok (.getfield 146, 3) := by decide +kernel
theorem d_Mo_frame_391 : decode cd_Mo_frame 391 = .ok (.invokevirtual 120, 3) := by decide +kernel
theorem d_Mo_frame_394 : decode cd_Mo_frame 394 = .ok (.ireturn, 1) := by decide +kernel
