theorem dX1_round_0 : decode cX1_round 0 = .ok (.aload_n 0, 1) := by decide +kernel
theorem dX1_round_1 : decode cX1_round 1 = .ok (.iload_n 1, 1) := by decide +kernel
theorem dX1_round_2 : decode cX1_round 2 = .ok (.invokestatic 41, 3) := by decide +kernel
theorem dX1_round_5 : decode cX1_round 5 = .ok (.ifCond .ne 10, 3) := by decide +kernel
theorem dX1_round_8 : decode cX1_round 8 = .ok (.iload_n 3, 1) := by decide +kernel
theorem dX1_round_9 : decode cX1_round 9 = .ok (.invokestatic 41, 3) := by decide +kernel
theorem dX1_round_12 : decode cX1_round 12 = .ok (.ifCond .eq 7, 3) := by decide +kernel
theorem dX1_round_15 : decode cX1_round 15 = .ok (.iconst 1, 1) := by decide +kernel
theorem dX1_round_16 : decode cX1_round 16 = .ok (.goto 42, 3) := by decide +kernel
theorem dX1_round_19 : decode cX1_round 19 = .ok (.iload_n 2, 1) := by decide +kernel
theorem dX1_round_20 : decode cX1_round 20 = .ok (.ifCond .lt 33, 3) := by decide +kernel
theorem dX1_round_23 : decode cX1_round 23 = .ok (.iload_n 2, 1) := by decide +kernel
theorem dX1_round_24 : decode cX1_round 24 = .ok (.iconst 3, 1) := by decide +kernel
theorem dX1_round_25 : decode cX1_round 25 = .ok (.if_icmp .gt 28, 3) := by decide +kernel
theorem dX1_round_28 : decode cX1_round 28 = .ok (.iload 4, 2) := by decide +kernel
theorem dX1_round_30 : decode cX1_round 30 = .ok (.iconst 1, 1) := by decide +kernel
theorem dX1_round_31 : decode cX1_round 31 = .ok (.if_icmp .lt 22, 3) := by decide +kernel
theorem dX1_round_34 : decode cX1_round 34 = .ok (.iload 4, 2) := by decide +kernel
theorem dX1_round_36 : decode cX1_round 36 = .ok (.aload_n 0, 1) := by decide +kernel
theorem dX1_round_37 : decode cX1_round 37 = .ok (.getfield 37, 3) := by decide +kernel
theorem dX1_round_40 : decode cX1_round 40 = .ok (.ifCond .ne 8, 3) := by decide +kernel
theorem dX1_round_43 : decode cX1_round 43 = .ok (.bipush 11, 2) := by decide +kernel
theorem dX1_round_45 : decode cX1_round 45 = .ok (.goto 5, 3) := by decide +kernel
theorem dX1_round_48 : decode cX1_round 48 = .ok (.bipush 22, 2) := by decide +kernel
theorem dX1_round_50 : decode cX1_round 50 = .ok (.if_icmp .le 7, 3) := by decide +kernel
theorem dX1_round_53 : decode cX1_round 53 = .ok (.iconst 2, 1) := by decide +kernel
theorem dX1_round_54 : decode cX1_round 54 = .ok (.goto 4, 3) := by decide +kernel
theorem dX1_round_57 : decode cX1_round 57 = .ok (.iconst 0, 1) := by decide +kernel
theorem dX1_round_58 : decode cX1_round 58 = .ok (.putfield 20, 3) := by decide +kernel
theorem dX1_round_61 : decode cX1_round 61 = .ok (.aload_n 0, 1) := by decide +kernel
theorem dX1_round_62 : decode cX1_round 62 = .ok (.getfield 20, 3) := by decide +kernel
theorem dX1_round_65 : decode cX1_round 65 = .ok (.ifCond .le 5, 3) := by decide +kernel
theorem dX1_round_68 : decode cX1_round 68 = .ok (.iconst 0, 1) := by decide +kernel
theorem dX1_round_69 : decode cX1_round 69 = .ok (.ireturn, 1) := by decide +kernel
theorem dX1_round_70 : decode cX1_round 70 = .ok (.lconst 1, 1) := by decide +kernel
theorem dX1_round_71 : decode cX1_round 71 = .ok (.iload 4, 2) := by decide +kernel
theorem dX1_round_73 : decode cX1_round 73 = .ok (.lshl, 1) := by decide +kernel
theorem dX1_round_74 : decode cX1_round 74 = .ok (.lstore 5, 2) := by decide +kernel
theorem dX1_round_76 : decode cX1_round 76 = .ok (.iconst 0, 1) := by decide +kernel
theorem dX1_round_77 : decode cX1_round 77 = .ok (.istore 7, 2) := by decide +kernel
theorem dX1_round_79 : decode cX1_round 79 = .ok (.iload 7, 2) := by decide +kernel
theorem dX1_round_81 : decode cX1_round 81 = .ok (.bipush 16, 2) := by decide +kernel
theorem dX1_round_83 : decode cX1_round 83 = .ok (.if_icmp .ge 135, 3) := by decide +kernel
theorem dX1_round_86 : decode cX1_round 86 = .ok (.aload_n 0, 1) := by decide +kernel
theorem dX1_round_87 : decode cX1_round 87 = .ok (.iload_n 3, 1) := by decide +kernel
theorem dX1_round_88 : decode cX1_round 88 = .ok (.iload 7, 2) := by decide +kernel
theorem dX1_round_90 : decode cX1_round 90 = .ok (.invokevirtual 45, 3) := by decide +kernel
theorem dX1_round_93 : decode cX1_round 93 = .ok (.i2l, 1) := by decide +kernel
theorem dX1_round_94 : decode cX1_round 94 = .ok (.lstore 8, 2) := by decide +kernel
theorem dX1_round_96 : decode cX1_round 96 = .ok (.lload 8, 2) := by decide +kernel
theorem dX1_round_98 : decode cX1_round 98 = .ok (.l2i, 1) := by decide +kernel
theorem dX1_round_99 : decode cX1_round 99 = .ok (.lload 5, 2) := by decide +kernel
theorem dX1_round_101 : decode cX1_round 101 = .ok (.l2i, 1) := by decide +kernel
theorem dX1_round_102 : decode cX1_round 102 = .ok (.invokestatic 59, 3) := by decide +kernel
theorem dX1_round_105 : decode cX1_round 105 = .ok (.istore 10, 2) := by decide +kernel
theorem dX1_round_107 : decode cX1_round 107 = .ok (.aload_n 0, 1) := by decide +kernel
theorem dX1_round_108 : decode cX1_round 108 = .ok (.getfield 17, 3) := by decide +kernel
theorem dX1_round_111 : decode cX1_round 111 = .ok (.iload 7, 2) := by decide +kernel
theorem dX1_round_113 : decode cX1_round 113 = .ok (.iload_n 2, 1) := by decide +kernel
theorem dX1_round_114 : decode cX1_round 114 = .ok (.ifCond .ne 35, 3) := by decide +kernel
theorem dX1_round_117 : decode cX1_round 117 = .ok (.ldc2_w 62, 3) := by decide +kernel
theorem dX1_round_120 : decode cX1_round 120 = .ok (.lload 5, 2) := by decide +kernel
theorem dX1_round_122 : decode cX1_round 122 = .ok (.lmul, 1) := by decide +kernel
theorem dX1_round_123 : decode cX1_round 123 = .ok (.lload 8, 2) := by decide +kernel
theorem dX1_round_125 : decode cX1_round 125 = .ok (.lmul, 1) := by decide +kernel
theorem dX1_round_126 : decode cX1_round 126 = .ok (.aload_n 0, 1) := by decide +kernel
theorem dX1_round_127 : decode cX1_round 127 = .ok (.getfield 7, 3) := by decide +kernel
theorem dX1_round_130 : decode cX1_round 130 = .ok (.i2l, 1) := by decide +kernel
theorem dX1_round_131 : decode cX1_round 131 = .ok (.ladd, 1) := by decide +kernel
theorem dX1_round_132 : decode cX1_round 132 = .ok (.ldc2_w 62, 3) := by decide +kernel
theorem dX1_round_135 : decode cX1_round 135 = .ok (.aload_n 0, 1) := by decide +kernel
theorem dX1_round_136 : decode cX1_round 136 = .ok (.getfield 7, 3) := by decide +kernel
theorem dX1_round_139 : decode cX1_round 139 = .ok (.i2l, 1) := by decide +kernel
theorem dX1_round_140 : decode cX1_round 140 = .ok (.lmul, 1) := by decide +kernel
theorem dX1_round_141 : decode cX1_round 141 = .ok (.ldiv, 1) := by decide +kernel
theorem dX1_round_142 : decode cX1_round 142 = .ok (.lload 5, 2) := by decide +kernel
theorem dX1_round_144 : decode cX1_round 144 = .ok (.lrem, 1) := by decide +kernel
theorem dX1_round_145 : decode cX1_round 145 = .ok (.l2i, 1) := by decide +kernel
theorem dX1_round_146 : decode cX1_round 146 = .ok (.goto 65, 3) := by decide +kernel
theorem dX1_round_149 : decode cX1_round 149 = .ok (.iload_n 2, 1) := by decide +kernel
theorem dX1_round_150 : decode cX1_round 150 = .ok (.iconst 1, 1) := by decide +kernel
theorem dX1_round_151 : decode cX1_round 151 = .ok (.if_icmp .ne 35, 3) := by decide +kernel
theorem dX1_round_154 : decode cX1_round 154 = .ok (.aload_n 0, 1) := by decide +kernel
theorem dX1_round_155 : decode cX1_round 155 = .ok (.ldc2_w 62, 3) := by decide +kernel
theorem dX1_round_158 : decode cX1_round 158 = .ok (.aload_n 0, 1) := by decide +kernel
theorem dX1_round_159 : decode cX1_round 159 = .ok (.getfield 7, 3) := by decide +kernel
theorem dX1_round_162 : decode cX1_round 162 = .ok (.i2l, 1) := by decide +kernel
theorem dX1_round_163 : decode cX1_round 163 = .ok (.lmul, 1) := by decide +kernel
theorem dX1_round_164 : decode cX1_round 164 = .ok (.lload 8, 2) := by decide +kernel
theorem dX1_round_166 : decode cX1_round 166 = .ok (.lload 5, 2) := by decide +kernel
theorem dX1_round_168 : decode cX1_round 168 = .ok (.lrem, 1) := by decide +kernel
theorem dX1_round_169 : decode cX1_round 169 = .ok (.lmul, 1) := by decide +kernel
theorem dX1_round_170 : decode cX1_round 170 = .ok (.lload 5, 2) := by decide +kernel
theorem dX1_round_172 : decode cX1_round 172 = .ok (.ladd, 1) := by decide +kernel
theorem dX1_round_173 : decode cX1_round 173 = .ok (.ldc2_w 62, 3) := by decide +kernel
theorem dX1_round_176 : decode cX1_round 176 = .ok (.lload 5, 2) := by decide +kernel
theorem dX1_round_178 : decode cX1_round 178 = .ok (.lmul, 1) := by decide +kernel
theorem dX1_round_179 : decode cX1_round 179 = .ok (.ldiv, 1) := by decide +kernel
theorem dX1_round_180 : decode cX1_round 180 = .ok (.invokevirtual 48, 3) := by decide +kernel
theorem dX1_round_183 : decode cX1_round 183 = .ok (.goto 28, 3) := by decide +kernel
theorem dX1_round_186 : decode cX1_round 186 = .ok (.iload_n 2, 1) := by decide +kernel
theorem dX1_round_187 : decode cX1_round 187 = .ok (.iconst 2, 1) := by decide +kernel
theorem dX1_round_188 : decode cX1_round 188 = .ok (.if_icmp .ne 13, 3) := by decide +kernel
theorem dX1_round_191 : decode cX1_round 191 = .ok (.aload_n 0, 1) := by decide +kernel
theorem dX1_round_192 : decode cX1_round 192 = .ok (.iload 10, 2) := by decide +kernel
theorem dX1_round_194 : decode cX1_round 194 = .ok (.i2l, 1) := by decide +kernel
theorem dX1_round_195 : decode cX1_round 195 = .ok (.invokevirtual 48, 3) := by decide +kernel
theorem dX1_round_198 : decode cX1_round 198 = .ok (.goto 13, 3) := by decide +kernel
theorem dX1_round_201 : decode cX1_round 201 = .ok (.lload 8, 2) := by decide +kernel
theorem dX1_round_203 : decode cX1_round 203 = .ok (.iload 10, 2) := by decide +kernel
theorem dX1_round_205 : decode cX1_round 205 = .ok (.i2l, 1) := by decide +kernel
theorem dX1_round_206 : decode cX1_round 206 = .ok (.lsub, 1) := by decide +kernel
theorem dX1_round_207 : decode cX1_round 207 = .ok (.lload 5, 2) := by decide +kernel
theorem dX1_round_209 : decode cX1_round 209 = .ok (.ldiv, 1) := by decide +kernel
theorem dX1_round_210 : decode cX1_round 210 = .ok (.l2i, 1) := by decide +kernel
theorem dX1_round_211 : decode cX1_round 211 = .ok (.iastore, 1) := by decide +kernel
theorem dX1_round_212 : decode cX1_round 212 = .ok (.iinc 7 1, 3) := by decide +kernel
theorem dX1_round_215 : decode cX1_round 215 = .ok (.goto (-136), 3) := by decide +kernel
theorem dX1_round_218 : decode cX1_round 218 = .ok (.aload_n 0, 1) := by decide +kernel
theorem dX1_round_219 : decode cX1_round 219 = .ok (.iload_n 1, 1) := by decide +kernel
theorem dX1_round_220 : decode cX1_round 220 = .ok (.invokevirtual 52, 3) := by decide +kernel
theorem dX1_round_223 : decode cX1_round 223 = .ok (.ireturn, 1) := by decide +kernel
theorem dX1_isAlpha_0 : decode cX1_isAlpha 0 = .ok (.iload_n 1, 1) := by decide +kernel
theorem dX1_isAlpha_1 : decode cX1_isAlpha 1 = .ok (.ifCond .le 24, 3) := by decide +kernel
theorem dX1_isAlpha_4 : decode cX1_isAlpha 4 = .ok (.iload_n 1, 1) := by decide +kernel
theorem dX1_isAlpha_5 : decode cX1_isAlpha 5 = .ok (.iconst 2, 1) := by decide +kernel
theorem dX1_isAlpha_6 : decode cX1_isAlpha 6 = .ok (.irem, 1) := by decide +kernel
theorem dX1_isAlpha_7 : decode cX1_isAlpha 7 = .ok (.ifCond .ne 18, 3) := by decide +kernel
theorem dX1_isAlpha_10 : decode cX1_isAlpha 10 = .ok (.aload_n 0, 1) := by decide +kernel
theorem dX1_isAlpha_11 : decode cX1_isAlpha 11 = .ok (.getfield 7, 3) := by decide +kernel
theorem dX1_isAlpha_14 : decode cX1_isAlpha 14 = .ok (.iconst 1, 1) := by decide +kernel
theorem dX1_isAlpha_15 : decode cX1_isAlpha 15 = .ok (.isub, 1) := by decide +kernel
theorem dX1_isAlpha_16 : decode cX1_isAlpha 16 = .ok (.iload_n 1, 1) := by decide +kernel
theorem dX1_isAlpha_17 : decode cX1_isAlpha 17 = .ok (.irem, 1) := by decide +kernel
theorem dX1_isAlpha_18 : decode cX1_isAlpha 18 = .ok (.ifCond .ne 7, 3) := by decide +kernel
theorem dX1_isAlpha_21 : decode cX1_isAlpha 21 = .ok (.iconst 1, 1) := by decide +kernel
theorem dX1_isAlpha_22 : decode cX1_isAlpha 22 = .ok (.goto 4, 3) := by decide +kernel
theorem dX1_isAlpha_25 : decode cX1_isAlpha 25 = .ok (.iconst 0, 1) := by decide +kernel
theorem dX1_isAlpha_26 : decode cX1_isAlpha 26 = .ok (.ireturn, 1) := by decide +kernel
theorem dX1_partOf_0 : decode cX1_partOf 0 = .ok (.iload_n 1, 1) := by decide +kernel
theorem dX1_partOf_1 : decode cX1_partOf 1 = .ok (.iload_n 2, 1) := by decide +kernel
theorem dX1_partOf_2 : decode cX1_partOf 2 = .ok (.invokestatic 59, 3) := by decide +kernel
theorem dX1_partOf_5 : decode cX1_partOf 5 = .ok (.istore_n 3, 1) := by decide +kernel
theorem dX1_partOf_6 : decode cX1_partOf 6 = .ok (.iload_n 1, 1) := by decide +kernel
theorem dX1_partOf_7 : decode cX1_partOf 7 = .ok (.iload_n 3, 1) := by decide +kernel
theorem dX1_partOf_8 : decode cX1_partOf 8 = .ok (.isub, 1) := by decide +kernel
theorem dX1_partOf_9 : decode cX1_partOf 9 = .ok (.aload_n 0, 1) := by decide +kernel
theorem dX1_partOf_10 : decode cX1_partOf 10 = .ok (.getfield 7, 3) := by decide +kernel
theorem dX1_partOf_13 : decode cX1_partOf 13 = .ok (.iconst 1, 1) := by decide +kernel
theorem dX1_partOf_14 : decode cX1_partOf 14 = .ok (.isub, 1) := by decide +kernel
theorem dX1_partOf_15 : decode cX1_partOf 15 = .ok (.if_icmp .ne 7, 3) := by decide +kernel
theorem dX1_partOf_18 : decode cX1_partOf 18 = .ok (.iconst 0, 1) := by decide +kernel
theorem dX1_partOf_19 : decode cX1_partOf 19 = .ok (.goto 8, 3) := by decide +kernel
theorem dX1_partOf_22 : decode cX1_partOf 22 = .ok (.iload_n 1, 1) := by decide +kernel
theorem dX1_partOf_23 : decode cX1_partOf 23 = .ok (.iload_n 3, 1) := by decide +kernel
theorem dX1_partOf_24 : decode cX1_partOf 24 = .ok (.isub, 1) := by decide +kernel
theorem dX1_partOf_25 : decode cX1_partOf 25 = .ok (.iload_n 2, 1) := by decide +kernel
theorem dX1_partOf_26 : decode cX1_partOf 26 = .ok (.idiv, 1) := by decide +kernel
theorem dX1_partOf_27 : decode cX1_partOf 27 = .ok (.ireturn, 1) := by decide +kernel
theorem dX1_restOf_0 : decode cX1_restOf 0 = .ok (.iload_n 1, 1) := by decide +kernel
theorem dX1_restOf_1 : decode cX1_restOf 1 = .ok (.iload_n 2, 1) := by decide +kernel
theorem dX1_restOf_2 : decode cX1_restOf 2 = .ok (.invokestatic 59, 3) := by decide +kernel
theorem dX1_restOf_5 : decode cX1_restOf 5 = .ok (.istore_n 3, 1) := by decide +kernel
theorem dX1_restOf_6 : decode cX1_restOf 6 = .ok (.iload_n 1, 1) := by decide +kernel
theorem dX1_restOf_7 : decode cX1_restOf 7 = .ok (.iload_n 3, 1) := by decide +kernel
theorem dX1_restOf_8 : decode cX1_restOf 8 = .ok (.isub, 1) := by decide +kernel
theorem dX1_restOf_9 : decode cX1_restOf 9 = .ok (.aload_n 0, 1) := by decide +kernel
theorem dX1_restOf_10 : decode cX1_restOf 10 = .ok (.getfield 7, 3) := by decide +kernel
theorem dX1_restOf_13 : decode cX1_restOf 13 = .ok (.iconst 1, 1) := by decide +kernel
theorem dX1_restOf_14 : decode cX1_restOf 14 = .ok (.isub, 1) := by decide +kernel
theorem dX1_restOf_15 : decode cX1_restOf 15 = .ok (.if_icmp .ne 9, 3) := by decide +kernel
theorem dX1_restOf_18 : decode cX1_restOf 18 = .ok (.iload_n 3, 1) := by decide +kernel
theorem dX1_restOf_19 : decode cX1_restOf 19 = .ok (.iconst 1, 1) := by decide +kernel
theorem dX1_restOf_20 : decode cX1_restOf 20 = .ok (.isub, 1) := by decide +kernel
theorem dX1_restOf_21 : decode cX1_restOf 21 = .ok (.goto 4, 3) := by decide +kernel
theorem dX1_restOf_24 : decode cX1_restOf 24 = .ok (.iload_n 3, 1) := by decide +kernel
theorem dX1_restOf_25 : decode cX1_restOf 25 = .ok (.ireturn, 1) := by decide +kernel
theorem dX1_part_0 : decode cX1_part 0 = .ok (.aload_n 0, 1) := by decide +kernel
theorem dX1_part_1 : decode cX1_part 1 = .ok (.iload_n 1, 1) := by decide +kernel
theorem dX1_part_2 : decode cX1_part 2 = .ok (.invokestatic 41, 3) := by decide +kernel
theorem dX1_part_5 : decode cX1_part 5 = .ok (.ifCond .ne 10, 3) := by decide +kernel
theorem dX1_part_8 : decode cX1_part 8 = .ok (.iload_n 2, 1) := by decide +kernel
theorem dX1_part_9 : decode cX1_part 9 = .ok (.invokestatic 41, 3) := by decide +kernel
theorem dX1_part_12 : decode cX1_part 12 = .ok (.ifCond .eq 7, 3) := by decide +kernel
theorem dX1_part_15 : decode cX1_part 15 = .ok (.iconst 1, 1) := by decide +kernel
theorem dX1_part_16 : decode cX1_part 16 = .ok (.goto 16, 3) := by decide +kernel
theorem dX1_part_19 : decode cX1_part 19 = .ok (.aload_n 0, 1) := by decide +kernel
theorem dX1_part_20 : decode cX1_part 20 = .ok (.iload_n 3, 1) := by decide +kernel
theorem dX1_part_21 : decode cX1_part 21 = .ok (.invokevirtual 64, 3) := by decide +kernel
theorem dX1_part_24 : decode cX1_part 24 = .ok (.ifCond .ne 7, 3) := by decide +kernel
theorem dX1_part_27 : decode cX1_part 27 = .ok (.iconst 2, 1) := by decide +kernel
theorem dX1_part_28 : decode cX1_part 28 = .ok (.goto 4, 3) := by decide +kernel
theorem dX1_part_31 : decode cX1_part 31 = .ok (.iconst 0, 1) := by decide +kernel
theorem dX1_part_32 : decode cX1_part 32 = .ok (.putfield 20, 3) := by decide +kernel
theorem dX1_part_35 : decode cX1_part 35 = .ok (.aload_n 0, 1) := by decide +kernel
theorem dX1_part_36 : decode cX1_part 36 = .ok (.getfield 20, 3) := by decide +kernel
theorem dX1_part_39 : decode cX1_part 39 = .ok (.ifCond .le 5, 3) := by decide +kernel
theorem dX1_part_42 : decode cX1_part 42 = .ok (.iconst 0, 1) := by decide +kernel
theorem dX1_part_43 : decode cX1_part 43 = .ok (.ireturn, 1) := by decide +kernel
theorem dX1_part_44 : decode cX1_part 44 = .ok (.iconst 0, 1) := by decide +kernel
theorem dX1_part_45 : decode cX1_part 45 = .ok (.istore 5, 2) := by decide +kernel
theorem dX1_part_47 : decode cX1_part 47 = .ok (.iload 5, 2) := by decide +kernel
theorem dX1_part_49 : decode cX1_part 49 = .ok (.bipush 16, 2) := by decide +kernel
theorem dX1_part_51 : decode cX1_part 51 = .ok (.if_icmp .ge 53, 3) := by decide +kernel
theorem dX1_part_54 : decode cX1_part 54 = .ok (.aload_n 0, 1) := by decide +kernel
theorem dX1_part_55 : decode cX1_part 55 = .ok (.getfield 17, 3) := by decide +kernel
theorem dX1_part_58 : decode cX1_part 58 = .ok (.iload 5, 2) := by decide +kernel
theorem dX1_part_60 : decode cX1_part 60 = .ok (.iload 4, 2) := by decide +kernel
theorem dX1_part_62 : decode cX1_part 62 = .ok (.ifCond .eq 18, 3) := by decide +kernel
theorem dX1_part_65 : decode cX1_part 65 = .ok (.aload_n 0, 1) := by decide +kernel
theorem dX1_part_66 : decode cX1_part 66 = .ok (.aload_n 0, 1) := by decide +kernel
theorem dX1_part_67 : decode cX1_part 67 = .ok (.iload_n 2, 1) := by decide +kernel
theorem dX1_part_68 : decode cX1_part 68 = .ok (.iload 5, 2) := by decide +kernel
theorem dX1_part_70 : decode cX1_part 70 = .ok (.invokevirtual 45, 3) := by decide +kernel
theorem dX1_part_73 : decode cX1_part 73 = .ok (.iload_n 3, 1) := by decide +kernel
theorem dX1_part_74 : decode cX1_part 74 = .ok (.invokevirtual 67, 3) := by decide +kernel
theorem dX1_part_77 : decode cX1_part 77 = .ok (.goto 20, 3) := by decide +kernel
theorem dX1_part_80 : decode cX1_part 80 = .ok (.aload_n 0, 1) := by decide +kernel
theorem dX1_part_81 : decode cX1_part 81 = .ok (.aload_n 0, 1) := by decide +kernel
theorem dX1_part_82 : decode cX1_part 82 = .ok (.aload_n 0, 1) := by decide +kernel
theorem dX1_part_83 : decode cX1_part 83 = .ok (.iload_n 2, 1) := by decide +kernel
theorem dX1_part_84 : decode cX1_part 84 = .ok (.iload 5, 2) := by decide +kernel
theorem dX1_part_86 : decode cX1_part 86 = .ok (.invokevirtual 45, 3) := by decide +kernel
theorem dX1_part_89 : decode cX1_part 89 = .ok (.iload_n 3, 1) := by decide +kernel
theorem dX1_part_90 : decode cX1_part 90 = .ok (.invokevirtual 70, 3) := by decide +kernel
theorem dX1_part_93 : decode cX1_part 93 = .ok (.i2l, 1) := by decide +kernel
theorem dX1_part_94 : decode cX1_part 94 = .ok (.invokevirtual 48, 3) := by decide +kernel
theorem dX1_part_97 : decode cX1_part 97 = .ok (.iastore, 1) := by decide +kernel
theorem dX1_part_98 : decode cX1_part 98 = .ok (.iinc 5 1, 3) := by decide +kernel
theorem dX1_part_101 : decode cX1_part 101 = .ok (.goto (-54), 3) := by decide +kernel
theorem dX1_part_104 : decode cX1_part 104 = .ok (.aload_n 0, 1) := by decide +kernel
theorem dX1_part_105 : decode cX1_part 105 = .ok (.iload_n 1, 1) := by decide +kernel
theorem dX1_part_106 : decode cX1_part 106 = .ok (.invokevirtual 52, 3) := by decide +kernel
theorem dX1_part_109 : decode cX1_part 109 = .ok (.ireturn, 1) := by decide +kernel
theorem dX1_hint_0 : decode cX1_hint 0 = .ok (.aload_n 0, 1) := by decide +kernel
theorem dX1_hint_1 : decode cX1_hint 1 = .ok (.iload_n 1, 1) := by decide +kernel
theorem dX1_hint_2 : decode cX1_hint 2 = .ok (.invokestatic 41, 3) := by decide +kernel
theorem dX1_hint_5 : decode cX1_hint 5 = .ok (.ifCond .ne 17, 3) := by decide +kernel
theorem dX1_hint_8 : decode cX1_hint 8 = .ok (.iload_n 2, 1) := by decide +kernel
theorem dX1_hint_9 : decode cX1_hint 9 = .ok (.invokestatic 41, 3) := by decide +kernel
theorem dX1_hint_12 : decode cX1_hint 12 = .ok (.ifCond .ne 10, 3) := by decide +kernel
theorem dX1_hint_15 : decode cX1_hint 15 = .ok (.iload_n 3, 1) := by decide +kernel
theorem dX1_hint_16 : decode cX1_hint 16 = .ok (.invokestatic 41, 3) := by decide +kernel
theorem dX1_hint_19 : decode cX1_hint 19 = .ok (.ifCond .eq 7, 3) := by decide +kernel
theorem dX1_hint_22 : decode cX1_hint 22 = .ok (.iconst 1, 1) := by decide +kernel
theorem dX1_hint_23 : decode cX1_hint 23 = .ok (.goto 17, 3) := by decide +kernel
theorem dX1_hint_26 : decode cX1_hint 26 = .ok (.aload_n 0, 1) := by decide +kernel
theorem dX1_hint_27 : decode cX1_hint 27 = .ok (.iload 4, 2) := by decide +kernel
theorem dX1_hint_29 : decode cX1_hint 29 = .ok (.invokevirtual 64, 3) := by decide +kernel
theorem dX1_hint_32 : decode cX1_hint 32 = .ok (.ifCond .ne 7, 3) := by decide +kernel
theorem dX1_hint_35 : decode cX1_hint 35 = .ok (.iconst 2, 1) := by decide +kernel
theorem dX1_hint_36 : decode cX1_hint 36 = .ok (.goto 4, 3) := by decide +kernel
theorem dX1_hint_39 : decode cX1_hint 39 = .ok (.iconst 0, 1) := by decide +kernel
theorem dX1_hint_40 : decode cX1_hint 40 = .ok (.putfield 20, 3) := by decide +kernel
theorem dX1_hint_43 : decode cX1_hint 43 = .ok (.aload_n 0, 1) := by decide +kernel
theorem dX1_hint_44 : decode cX1_hint 44 = .ok (.getfield 20, 3) := by decide +kernel
theorem dX1_hint_47 : decode cX1_hint 47 = .ok (.ifCond .le 5, 3) := by decide +kernel
theorem dX1_hint_50 : decode cX1_hint 50 = .ok (.iconst 0, 1) := by decide +kernel
theorem dX1_hint_51 : decode cX1_hint 51 = .ok (.ireturn, 1) := by decide +kernel
theorem dX1_hint_52 : decode cX1_hint 52 = .ok (.iconst 0, 1) := by decide +kernel
theorem dX1_hint_53 : decode cX1_hint 53 = .ok (.istore 5, 2) := by decide +kernel
theorem dX1_hint_55 : decode cX1_hint 55 = .ok (.iload 5, 2) := by decide +kernel
theorem dX1_hint_57 : decode cX1_hint 57 = .ok (.bipush 16, 2) := by decide +kernel
theorem dX1_hint_59 : decode cX1_hint 59 = .ok (.if_icmp .ge 64, 3) := by decide +kernel
theorem dX1_hint_62 : decode cX1_hint 62 = .ok (.aload_n 0, 1) := by decide +kernel
theorem dX1_hint_63 : decode cX1_hint 63 = .ok (.getfield 17, 3) := by decide +kernel
theorem dX1_hint_66 : decode cX1_hint 66 = .ok (.iload 5, 2) := by decide +kernel
theorem dX1_hint_68 : decode cX1_hint 68 = .ok (.aload_n 0, 1) := by decide +kernel
theorem dX1_hint_69 : decode cX1_hint 69 = .ok (.aload_n 0, 1) := by decide +kernel
theorem dX1_hint_70 : decode cX1_hint 70 = .ok (.iload_n 2, 1) := by decide +kernel
theorem dX1_hint_71 : decode cX1_hint 71 = .ok (.iload 5, 2) := by decide +kernel
theorem dX1_hint_73 : decode cX1_hint 73 = .ok (.invokevirtual 45, 3) := by decide +kernel
theorem dX1_hint_76 : decode cX1_hint 76 = .ok (.iload 4, 2) := by decide +kernel
theorem dX1_hint_78 : decode cX1_hint 78 = .ok (.invokevirtual 67, 3) := by decide +kernel
theorem dX1_hint_81 : decode cX1_hint 81 = .ok (.aload_n 0, 1) := by decide +kernel
theorem dX1_hint_82 : decode cX1_hint 82 = .ok (.aload_n 0, 1) := by decide +kernel
theorem dX1_hint_83 : decode cX1_hint 83 = .ok (.aload_n 0, 1) := by decide +kernel
theorem dX1_hint_84 : decode cX1_hint 84 = .ok (.iload_n 2, 1) := by decide +kernel
theorem dX1_hint_85 : decode cX1_hint 85 = .ok (.iload 5, 2) := by decide +kernel
theorem dX1_hint_87 : decode cX1_hint 87 = .ok (.invokevirtual 45, 3) := by decide +kernel
theorem dX1_hint_90 : decode cX1_hint 90 = .ok (.i2l, 1) := by decide +kernel
theorem dX1_hint_91 : decode cX1_hint 91 = .ok (.aload_n 0, 1) := by decide +kernel
theorem dX1_hint_92 : decode cX1_hint 92 = .ok (.iload_n 3, 1) := by decide +kernel
theorem dX1_hint_93 : decode cX1_hint 93 = .ok (.iload 5, 2) := by decide +kernel
theorem dX1_hint_95 : decode cX1_hint 95 = .ok (.invokevirtual 45, 3) := by decide +kernel
theorem dX1_hint_98 : decode cX1_hint 98 = .ok (.i2l, 1) := by decide +kernel
theorem dX1_hint_99 : decode cX1_hint 99 = .ok (.ladd, 1) := by decide +kernel
theorem dX1_hint_100 : decode cX1_hint 100 = .ok (.invokevirtual 48, 3) := by decide +kernel
theorem dX1_hint_103 : decode cX1_hint 103 = .ok (.iload 4, 2) := by decide +kernel
theorem dX1_hint_105 : decode cX1_hint 105 = .ok (.invokevirtual 67, 3) := by decide +kernel
theorem dX1_hint_108 : decode cX1_hint 108 = .ok (.if_icmp .eq 7, 3) := by decide +kernel
theorem dX1_hint_111 : decode cX1_hint 111 = .ok (.iconst 1, 1) := by decide +kernel
theorem dX1_hint_112 : decode cX1_hint 112 = .ok (.goto 4, 3) := by decide +kernel
theorem dX1_hint_115 : decode cX1_hint 115 = .ok (.iconst 0, 1) := by decide +kernel
theorem dX1_hint_116 : decode cX1_hint 116 = .ok (.iastore, 1) := by decide +kernel
theorem dX1_hint_117 : decode cX1_hint 117 = .ok (.iinc 5 1, 3) := by decide +kernel
theorem dX1_hint_120 : decode cX1_hint 120 = .ok (.goto (-65), 3) := by decide +kernel
theorem dX1_hint_123 : decode cX1_hint 123 = .ok (.aload_n 0, 1) := by decide +kernel
theorem dX1_hint_124 : decode cX1_hint 124 = .ok (.iload_n 1, 1) := by decide +kernel
theorem dX1_hint_125 : decode cX1_hint 125 = .ok (.invokevirtual 52, 3) := by decide +kernel
theorem dX1_hint_128 : decode cX1_hint 128 = .ok (.ireturn, 1) := by decide +kernel
theorem dX1_use_0 : decode cX1_use 0 = .ok (.aload_n 0, 1) := by decide +kernel
theorem dX1_use_1 : decode cX1_use 1 = .ok (.iload_n 1, 1) := by decide +kernel
theorem dX1_use_2 : decode cX1_use 2 = .ok (.invokestatic 41, 3) := by decide +kernel
theorem dX1_use_5 : decode cX1_use 5 = .ok (.ifCond .ne 17, 3) := by decide +kernel
theorem dX1_use_8 : decode cX1_use 8 = .ok (.iload_n 2, 1) := by decide +kernel
theorem dX1_use_9 : decode cX1_use 9 = .ok (.invokestatic 41, 3) := by decide +kernel
theorem dX1_use_12 : decode cX1_use 12 = .ok (.ifCond .ne 10, 3) := by decide +kernel
theorem dX1_use_15 : decode cX1_use 15 = .ok (.iload_n 3, 1) := by decide +kernel
theorem dX1_use_16 : decode cX1_use 16 = .ok (.invokestatic 41, 3) := by decide +kernel
theorem dX1_use_19 : decode cX1_use 19 = .ok (.ifCond .eq 7, 3) := by decide +kernel
theorem dX1_use_22 : decode cX1_use 22 = .ok (.iconst 1, 1) := by decide +kernel
theorem dX1_use_23 : decode cX1_use 23 = .ok (.goto 17, 3) := by decide +kernel
theorem dX1_use_26 : decode cX1_use 26 = .ok (.aload_n 0, 1) := by decide +kernel
theorem dX1_use_27 : decode cX1_use 27 = .ok (.iload 4, 2) := by decide +kernel
theorem dX1_use_29 : decode cX1_use 29 = .ok (.invokevirtual 64, 3) := by decide +kernel
theorem dX1_use_32 : decode cX1_use 32 = .ok (.ifCond .ne 7, 3) := by decide +kernel
theorem dX1_use_35 : decode cX1_use 35 = .ok (.iconst 2, 1) := by decide +kernel
theorem dX1_use_36 : decode cX1_use 36 = .ok (.goto 4, 3) := by decide +kernel
theorem dX1_use_39 : decode cX1_use 39 = .ok (.iconst 0, 1) := by decide +kernel
theorem dX1_use_40 : decode cX1_use 40 = .ok (.putfield 20, 3) := by decide +kernel
theorem dX1_use_43 : decode cX1_use 43 = .ok (.aload_n 0, 1) := by decide +kernel
theorem dX1_use_44 : decode cX1_use 44 = .ok (.getfield 20, 3) := by decide +kernel
theorem dX1_use_47 : decode cX1_use 47 = .ok (.ifCond .le 5, 3) := by decide +kernel
theorem dX1_use_50 : decode cX1_use 50 = .ok (.iconst 0, 1) := by decide +kernel
theorem dX1_use_51 : decode cX1_use 51 = .ok (.ireturn, 1) := by decide +kernel
theorem dX1_use_52 : decode cX1_use 52 = .ok (.iconst 0, 1) := by decide +kernel
theorem dX1_use_53 : decode cX1_use 53 = .ok (.istore 5, 2) := by decide +kernel
theorem dX1_use_55 : decode cX1_use 55 = .ok (.aload_n 0, 1) := by decide +kernel
theorem dX1_use_56 : decode cX1_use 56 = .ok (.getfield 7, 3) := by decide +kernel
theorem dX1_use_59 : decode cX1_use 59 = .ok (.iconst 1, 1) := by decide +kernel
theorem dX1_use_60 : decode cX1_use 60 = .ok (.isub, 1) := by decide +kernel
theorem dX1_use_61 : decode cX1_use 61 = .ok (.iload 4, 2) := by decide +kernel
theorem dX1_use_63 : decode cX1_use 63 = .ok (.idiv, 1) := by decide +kernel
theorem dX1_use_64 : decode cX1_use 64 = .ok (.istore 6, 2) := by decide +kernel
theorem dX1_use_66 : decode cX1_use 66 = .ok (.iconst 0, 1) := by decide +kernel
theorem dX1_use_67 : decode cX1_use 67 = .ok (.istore 7, 2) := by decide +kernel
theorem dX1_use_69 : decode cX1_use 69 = .ok (.iload 7, 2) := by decide +kernel
theorem dX1_use_71 : decode cX1_use 71 = .ok (.bipush 16, 2) := by decide +kernel
theorem dX1_use_73 : decode cX1_use 73 = .ok (.if_icmp .ge 90, 3) := by decide +kernel
theorem dX1_use_76 : decode cX1_use 76 = .ok (.aload_n 0, 1) := by decide +kernel
theorem dX1_use_77 : decode cX1_use 77 = .ok (.aload_n 0, 1) := by decide +kernel
theorem dX1_use_78 : decode cX1_use 78 = .ok (.iload_n 2, 1) := by decide +kernel
theorem dX1_use_79 : decode cX1_use 79 = .ok (.iload 7, 2) := by decide +kernel
theorem dX1_use_81 : decode cX1_use 81 = .ok (.invokevirtual 45, 3) := by decide +kernel
theorem dX1_use_84 : decode cX1_use 84 = .ok (.iload 4, 2) := by decide +kernel
theorem dX1_use_86 : decode cX1_use 86 = .ok (.invokevirtual 67, 3) := by decide +kernel
theorem dX1_use_89 : decode cX1_use 89 = .ok (.istore 8, 2) := by decide +kernel
theorem dX1_use_91 : decode cX1_use 91 = .ok (.aload_n 0, 1) := by decide +kernel
theorem dX1_use_92 : decode cX1_use 92 = .ok (.getfield 17, 3) := by decide +kernel
theorem dX1_use_95 : decode cX1_use 95 = .ok (.iload 7, 2) := by decide +kernel
theorem dX1_use_97 : decode cX1_use 97 = .ok (.aload_n 0, 1) := by decide +kernel
theorem dX1_use_98 : decode cX1_use 98 = .ok (.iload_n 3, 1) := by decide +kernel
theorem dX1_use_99 : decode cX1_use 99 = .ok (.iload 7, 2) := by decide +kernel
theorem dX1_use_101 : decode cX1_use 101 = .ok (.invokevirtual 45, 3) := by decide +kernel
theorem dX1_use_104 : decode cX1_use 104 = .ok (.ifCond .ne 8, 3) := by decide +kernel
theorem dX1_use_107 : decode cX1_use 107 = .ok (.iload 8, 2) := by decide +kernel
theorem dX1_use_109 : decode cX1_use 109 = .ok (.goto 32, 3) := by decide +kernel
theorem dX1_use_112 : decode cX1_use 112 = .ok (.iload 8, 2) := by decide +kernel
theorem dX1_use_114 : decode cX1_use 114 = .ok (.aload_n 0, 1) := by decide +kernel
theorem dX1_use_115 : decode cX1_use 115 = .ok (.aload_n 0, 1) := by decide +kernel
theorem dX1_use_116 : decode cX1_use 116 = .ok (.iload_n 2, 1) := by decide +kernel
theorem dX1_use_117 : decode cX1_use 117 = .ok (.iload 7, 2) := by decide +kernel
theorem dX1_use_119 : decode cX1_use 119 = .ok (.invokevirtual 45, 3) := by decide +kernel
theorem dX1_use_122 : decode cX1_use 122 = .ok (.iload 4, 2) := by decide +kernel
theorem dX1_use_124 : decode cX1_use 124 = .ok (.invokevirtual 70, 3) := by decide +kernel
theorem dX1_use_127 : decode cX1_use 127 = .ok (.ifCond .le 7, 3) := by decide +kernel
theorem dX1_use_130 : decode cX1_use 130 = .ok (.iconst 1, 1) := by decide +kernel
theorem dX1_use_131 : decode cX1_use 131 = .ok (.goto 4, 3) := by decide +kernel
theorem dX1_use_134 : decode cX1_use 134 = .ok (.iconst (-1), 1) := by decide +kernel
theorem dX1_use_135 : decode cX1_use 135 = .ok (.iadd, 1) := by decide +kernel
theorem dX1_use_136 : decode cX1_use 136 = .ok (.iload 6, 2) := by decide +kernel
theorem dX1_use_138 : decode cX1_use 138 = .ok (.invokestatic 73, 3) := by decide +kernel
theorem dX1_use_141 : decode cX1_use 141 = .ok (.iastore, 1) := by decide +kernel
theorem dX1_use_142 : decode cX1_use 142 = .ok (.aload_n 0, 1) := by decide +kernel
theorem dX1_use_143 : decode cX1_use 143 = .ok (.getfield 17, 3) := by decide +kernel
theorem dX1_use_146 : decode cX1_use 146 = .ok (.iload 7, 2) := by decide +kernel
theorem dX1_use_148 : decode cX1_use 148 = .ok (.iaload, 1) := by decide +kernel
theorem dX1_use_149 : decode cX1_use 149 = .ok (.iload 8, 2) := by decide +kernel
theorem dX1_use_151 : decode cX1_use 151 = .ok (.if_icmp .eq 6, 3) := by decide +kernel
theorem dX1_use_154 : decode cX1_use 154 = .ok (.iinc 5 1, 3) := by decide +kernel
theorem dX1_use_157 : decode cX1_use 157 = .ok (.iinc 7 1, 3) := by decide +kernel
theorem dX1_use_160 : decode cX1_use 160 = .ok (.goto (-91), 3) := by decide +kernel
theorem dX1_use_163 : decode cX1_use 163 = .ok (.aload_n 0, 1) := by decide +kernel
theorem dX1_use_164 : decode cX1_use 164 = .ok (.iload_n 1, 1) := by decide +kernel
theorem dX1_use_165 : decode cX1_use 165 = .ok (.invokevirtual 52, 3) := by decide +kernel
theorem dX1_use_168 : decode cX1_use 168 = .ok (.pop, 1) := by decide +kernel
theorem dX1_use_169 : decode cX1_use 169 = .ok (.iload 5, 2) := by decide +kernel
theorem dX1_use_171 : decode cX1_use 171 = .ok (.ireturn, 1) := by decide +kernel
theorem dX1_size_0 : decode cX1_size 0 = .ok (.aload_n 0, 1) := by decide +kernel
theorem dX1_size_1 : decode cX1_size 1 = .ok (.iload_n 1, 1) := by decide +kernel
theorem dX1_size_2 : decode cX1_size 2 = .ok (.invokestatic 41, 3) := by decide +kernel
theorem dX1_size_5 : decode cX1_size 5 = .ok (.ifCond .eq 7, 3) := by decide +kernel
theorem dX1_size_8 : decode cX1_size 8 = .ok (.iconst 1, 1) := by decide +kernel
theorem dX1_size_9 : decode cX1_size 9 = .ok (.goto 4, 3) := by decide +kernel
theorem dX1_size_12 : decode cX1_size 12 = .ok (.iconst 0, 1) := by decide +kernel
theorem dX1_size_13 : decode cX1_size 13 = .ok (.putfield 20, 3) := by decide +kernel
theorem dX1_size_16 : decode cX1_size 16 = .ok (.iconst 0, 1) := by decide +kernel
theorem dX1_size_17 : decode cX1_size 17 = .ok (.istore_n 2, 1) := by decide +kernel
theorem dX1_size_18 : decode cX1_size 18 = .ok (.iconst 0, 1) := by decide +kernel
theorem dX1_size_19 : decode cX1_size 19 = .ok (.istore_n 3, 1) := by decide +kernel
theorem dX1_size_20 : decode cX1_size 20 = .ok (.iload_n 3, 1) := by decide +kernel
theorem dX1_size_21 : decode cX1_size 21 = .ok (.bipush 16, 2) := by decide +kernel
theorem dX1_size_23 : decode cX1_size 23 = .ok (.if_icmp .ge 31, 3) := by decide +kernel
theorem dX1_size_26 : decode cX1_size 26 = .ok (.aload_n 0, 1) := by decide +kernel
theorem dX1_size_27 : decode cX1_size 27 = .ok (.getfield 20, 3) := by decide +kernel
theorem dX1_size_30 : decode cX1_size 30 = .ok (.ifCond .ne 24, 3) := by decide +kernel
theorem dX1_size_33 : decode cX1_size 33 = .ok (.iload_n 2, 1) := by decide +kernel
theorem dX1_size_34 : decode cX1_size 34 = .ok (.aload_n 0, 1) := by decide +kernel
theorem dX1_size_35 : decode cX1_size 35 = .ok (.aload_n 0, 1) := by decide +kernel
theorem dX1_size_36 : decode cX1_size 36 = .ok (.iload_n 1, 1) := by decide +kernel
theorem dX1_size_37 : decode cX1_size 37 = .ok (.iload_n 3, 1) := by decide +kernel
theorem dX1_size_38 : decode cX1_size 38 = .ok (.invokevirtual 45, 3) := by decide +kernel
theorem dX1_size_41 : decode cX1_size 41 = .ok (.invokevirtual 29, 3) := by decide +kernel
theorem dX1_size_44 : decode cX1_size 44 = .ok (.invokestatic 33, 3) := by decide +kernel
theorem dX1_size_47 : decode cX1_size 47 = .ok (.istore_n 2, 1) := by decide +kernel
theorem dX1_size_48 : decode cX1_size 48 = .ok (.iinc 3 1, 3) := by decide +kernel
theorem dX1_size_51 : decode cX1_size 51 = .ok (.goto (-31), 3) := by decide +kernel
theorem dX1_size_54 : decode cX1_size 54 = .ok (.iload_n 2, 1) := by decide +kernel
theorem dX1_size_55 : decode cX1_size 55 = .ok (.ireturn, 1) := by decide +kernel
theorem dX1_far_0 : decode cX1_far 0 = .ok (.aload_n 0, 1) := by decide +kernel
theorem dX1_far_1 : decode cX1_far 1 = .ok (.iload_n 1, 1) := by decide +kernel
theorem dX1_far_2 : decode cX1_far 2 = .ok (.invokestatic 41, 3) := by decide +kernel
theorem dX1_far_5 : decode cX1_far 5 = .ok (.ifCond .ne 10, 3) := by decide +kernel
theorem dX1_far_8 : decode cX1_far 8 = .ok (.iload_n 2, 1) := by decide +kernel
theorem dX1_far_9 : decode cX1_far 9 = .ok (.invokestatic 41, 3) := by decide +kernel
theorem dX1_far_12 : decode cX1_far 12 = .ok (.ifCond .eq 7, 3) := by decide +kernel
theorem dX1_far_15 : decode cX1_far 15 = .ok (.iconst 1, 1) := by decide +kernel
theorem dX1_far_16 : decode cX1_far 16 = .ok (.goto 4, 3) := by decide +kernel
theorem dX1_far_19 : decode cX1_far 19 = .ok (.iconst 0, 1) := by decide +kernel
theorem dX1_far_20 : decode cX1_far 20 = .ok (.putfield 20, 3) := by decide +kernel
theorem dX1_far_23 : decode cX1_far 23 = .ok (.iconst 0, 1) := by decide +kernel
theorem dX1_far_24 : decode cX1_far 24 = .ok (.istore_n 3, 1) := by decide +kernel
theorem dX1_far_25 : decode cX1_far 25 = .ok (.iconst 0, 1) := by decide +kernel
theorem dX1_far_26 : decode cX1_far 26 = .ok (.istore 4, 2) := by decide +kernel
theorem dX1_far_28 : decode cX1_far 28 = .ok (.iload 4, 2) := by decide +kernel
theorem dX1_far_30 : decode cX1_far 30 = .ok (.bipush 16, 2) := by decide +kernel
theorem dX1_far_32 : decode cX1_far 32 = .ok (.if_icmp .ge 44, 3) := by decide +kernel
theorem dX1_far_35 : decode cX1_far 35 = .ok (.aload_n 0, 1) := by decide +kernel
theorem dX1_far_36 : decode cX1_far 36 = .ok (.getfield 20, 3) := by decide +kernel
theorem dX1_far_39 : decode cX1_far 39 = .ok (.ifCond .ne 37, 3) := by decide +kernel
theorem dX1_far_42 : decode cX1_far 42 = .ok (.iload_n 3, 1) := by decide +kernel
theorem dX1_far_43 : decode cX1_far 43 = .ok (.aload_n 0, 1) := by decide +kernel
theorem dX1_far_44 : decode cX1_far 44 = .ok (.aload_n 0, 1) := by decide +kernel
theorem dX1_far_45 : decode cX1_far 45 = .ok (.aload_n 0, 1) := by decide +kernel
theorem dX1_far_46 : decode cX1_far 46 = .ok (.iload_n 1, 1) := by decide +kernel
theorem dX1_far_47 : decode cX1_far 47 = .ok (.iload 4, 2) := by decide +kernel
theorem dX1_far_49 : decode cX1_far 49 = .ok (.invokevirtual 45, 3) := by decide +kernel
theorem dX1_far_52 : decode cX1_far 52 = .ok (.i2l, 1) := by decide +kernel
theorem dX1_far_53 : decode cX1_far 53 = .ok (.aload_n 0, 1) := by decide +kernel
theorem dX1_far_54 : decode cX1_far 54 = .ok (.iload_n 2, 1) := by decide +kernel
theorem dX1_far_55 : decode cX1_far 55 = .ok (.iload 4, 2) := by decide +kernel
theorem dX1_far_57 : decode cX1_far 57 = .ok (.invokevirtual 45, 3) := by decide +kernel
theorem dX1_far_60 : decode cX1_far 60 = .ok (.i2l, 1) := by decide +kernel
theorem dX1_far_61 : decode cX1_far 61 = .ok (.lsub, 1) := by decide +kernel
theorem dX1_far_62 : decode cX1_far 62 = .ok (.invokevirtual 48, 3) := by decide +kernel
theorem dX1_far_65 : decode cX1_far 65 = .ok (.invokevirtual 29, 3) := by decide +kernel
theorem dX1_far_68 : decode cX1_far 68 = .ok (.iadd, 1) := by decide +kernel
theorem dX1_far_69 : decode cX1_far 69 = .ok (.istore_n 3, 1) := by decide +kernel
theorem dX1_far_70 : decode cX1_far 70 = .ok (.iinc 4 1, 3) := by decide +kernel
theorem dX1_far_73 : decode cX1_far 73 = .ok (.goto (-45), 3) := by decide +kernel
theorem dX1_far_76 : decode cX1_far 76 = .ok (.iload_n 3, 1) := by decide +kernel
theorem dX1_far_77 : decode cX1_far 77 = .ok (.ireturn, 1) := by decide +kernel
theorem dX1_bit_0 : decode cX1_bit 0 = .ok (.iload 4, 2) := by decide +kernel
theorem dX1_bit_2 : decode cX1_bit 2 = .ok (.bipush 64, 2) := by decide +kernel
theorem dX1_bit_4 : decode cX1_bit 4 = .ok (.if_icmp .ge 10, 3) := by decide +kernel
theorem dX1_bit_7 : decode cX1_bit 7 = .ok (.lload_n 0, 1) := by decide +kernel
theorem dX1_bit_8 : decode cX1_bit 8 = .ok (.iload 4, 2) := by decide +kernel
theorem dX1_bit_10 : decode cX1_bit 10 = .ok (.lushr, 1) := by decide +kernel
theorem dX1_bit_11 : decode cX1_bit 11 = .ok (.goto 10, 3) := by decide +kernel
theorem dX1_bit_14 : decode cX1_bit 14 = .ok (.lload_n 2, 1) := by decide +kernel
theorem dX1_bit_15 : decode cX1_bit 15 = .ok (.iload 4, 2) := by decide +kernel
theorem dX1_bit_17 : decode cX1_bit 17 = .ok (.bipush 64, 2) := by decide +kernel
theorem dX1_bit_19 : decode cX1_bit 19 = .ok (.isub, 1) := by decide +kernel
theorem dX1_bit_20 : decode cX1_bit 20 = .ok (.lushr, 1) := by decide +kernel
theorem dX1_bit_21 : decode cX1_bit 21 = .ok (.lconst 1, 1) := by decide +kernel
theorem dX1_bit_22 : decode cX1_bit 22 = .ok (.land, 1) := by decide +kernel
theorem dX1_bit_23 : decode cX1_bit 23 = .ok (.l2i, 1) := by decide +kernel
theorem dX1_bit_24 : decode cX1_bit 24 = .ok (.ireturn, 1) := by decide +kernel
