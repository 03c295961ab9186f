theorem dX4_level_0 : decode cX4_level 0 = .ok (.aload_n 0, 1) := by decide +kernel
theorem dX4_level_1 : decode cX4_level 1 = .ok (.iconst 0, 1) := by decide +kernel
theorem dX4_level_2 : decode cX4_level 2 = .ok (.putfield 77, 3) := by decide +kernel
theorem dX4_level_5 : decode cX4_level 5 = .ok (.aload_n 0, 1) := by decide +kernel
theorem dX4_level_6 : decode cX4_level 6 = .ok (.iload_n 1, 1) := by decide +kernel
theorem dX4_level_7 : decode cX4_level 7 = .ok (.invokevirtual 129, 3) := by decide +kernel
theorem dX4_level_10 : decode cX4_level 10 = .ok (.ifCond .ne 7, 3) := by decide +kernel
theorem dX4_level_13 : decode cX4_level 13 = .ok (.sipush (-1002), 3) := by decide +kernel
theorem dX4_level_16 : decode cX4_level 16 = .ok (.ireturn, 1) := by decide +kernel
theorem dX4_level_17 : decode cX4_level 17 = .ok (.iload_n 2, 1) := by decide +kernel
theorem dX4_level_18 : decode cX4_level 18 = .ok (.i2l, 1) := by decide +kernel
theorem dX4_level_19 : decode cX4_level 19 = .ok (.lconst 1, 1) := by decide +kernel
theorem dX4_level_20 : decode cX4_level 20 = .ok (.ldc2_w 133, 3) := by decide +kernel
theorem dX4_level_23 : decode cX4_level 23 = .ok (.invokestatic 109, 3) := by decide +kernel
theorem dX4_level_26 : decode cX4_level 26 = .ok (.ifCond .ne 7, 3) := by decide +kernel
theorem dX4_level_29 : decode cX4_level 29 = .ok (.sipush (-1003), 3) := by decide +kernel
theorem dX4_level_32 : decode cX4_level 32 = .ok (.ireturn, 1) := by decide +kernel
theorem dX4_level_33 : decode cX4_level 33 = .ok (.aload_n 0, 1) := by decide +kernel
theorem dX4_level_34 : decode cX4_level 34 = .ok (.getfield 13, 3) := by decide +kernel
theorem dX4_level_37 : decode cX4_level 37 = .ok (.iload_n 1, 1) := by decide +kernel
theorem dX4_level_38 : decode cX4_level 38 = .ok (.iaload, 1) := by decide +kernel
theorem dX4_level_39 : decode cX4_level 39 = .ok (.iconst 1, 1) := by decide +kernel
theorem dX4_level_40 : decode cX4_level 40 = .ok (.if_icmp .ne 7, 3) := by decide +kernel
theorem dX4_level_43 : decode cX4_level 43 = .ok (.sipush (-1004), 3) := by decide +kernel
theorem dX4_level_46 : decode cX4_level 46 = .ok (.ireturn, 1) := by decide +kernel
theorem dX4_level_47 : decode cX4_level 47 = .ok (.aload_n 0, 1) := by decide +kernel
theorem dX4_level_48 : decode cX4_level 48 = .ok (.iload_n 1, 1) := by decide +kernel
theorem dX4_level_49 : decode cX4_level 49 = .ok (.invokevirtual 227, 3) := by decide +kernel
theorem dX4_level_52 : decode cX4_level 52 = .ok (.istore_n 3, 1) := by decide +kernel
theorem dX4_level_53 : decode cX4_level 53 = .ok (.iload_n 3, 1) := by decide +kernel
theorem dX4_level_54 : decode cX4_level 54 = .ok (.sipush (-1001), 3) := by decide +kernel
theorem dX4_level_57 : decode cX4_level 57 = .ok (.if_icmp .eq 12, 3) := by decide +kernel
theorem dX4_level_60 : decode cX4_level 60 = .ok (.aload_n 0, 1) := by decide +kernel
theorem dX4_level_61 : decode cX4_level 61 = .ok (.iload_n 1, 1) := by decide +kernel
theorem dX4_level_62 : decode cX4_level 62 = .ok (.invokevirtual 145, 3) := by decide +kernel
theorem dX4_level_65 : decode cX4_level 65 = .ok (.iload_n 2, 1) := by decide +kernel
theorem dX4_level_66 : decode cX4_level 66 = .ok (.if_icmp .ge 5, 3) := by decide +kernel
theorem dX4_level_69 : decode cX4_level 69 = .ok (.iconst 0, 1) := by decide +kernel
theorem dX4_level_70 : decode cX4_level 70 = .ok (.ireturn, 1) := by decide +kernel
theorem dX4_level_71 : decode cX4_level 71 = .ok (.aload_n 0, 1) := by decide +kernel
theorem dX4_level_72 : decode cX4_level 72 = .ok (.iload_n 3, 1) := by decide +kernel
theorem dX4_level_73 : decode cX4_level 73 = .ok (.iload_n 1, 1) := by decide +kernel
theorem dX4_level_74 : decode cX4_level 74 = .ok (.invokevirtual 230, 3) := by decide +kernel
theorem dX4_level_77 : decode cX4_level 77 = .ok (.istore 4, 2) := by decide +kernel
theorem dX4_level_79 : decode cX4_level 79 = .ok (.aload_n 0, 1) := by decide +kernel
theorem dX4_level_80 : decode cX4_level 80 = .ok (.getfield 46, 3) := by decide +kernel
theorem dX4_level_83 : decode cX4_level 83 = .ok (.iload_n 3, 1) := by decide +kernel
theorem dX4_level_84 : decode cX4_level 84 = .ok (.iaload, 1) := by decide +kernel
theorem dX4_level_85 : decode cX4_level 85 = .ok (.istore 5, 2) := by decide +kernel
theorem dX4_level_87 : decode cX4_level 87 = .ok (.iconst 0, 1) := by decide +kernel
theorem dX4_level_88 : decode cX4_level 88 = .ok (.istore 6, 2) := by decide +kernel
theorem dX4_level_90 : decode cX4_level 90 = .ok (.iload 4, 2) := by decide +kernel
theorem dX4_level_92 : decode cX4_level 92 = .ok (.ifCond .le 41, 3) := by decide +kernel
theorem dX4_level_95 : decode cX4_level 95 = .ok (.aload_n 0, 1) := by decide +kernel
theorem dX4_level_96 : decode cX4_level 96 = .ok (.aload_n 0, 1) := by decide +kernel
theorem dX4_level_97 : decode cX4_level 97 = .ok (.iload_n 3, 1) := by decide +kernel
theorem dX4_level_98 : decode cX4_level 98 = .ok (.iload 4, 2) := by decide +kernel
theorem dX4_level_100 : decode cX4_level 100 = .ok (.iconst 1, 1) := by decide +kernel
theorem dX4_level_101 : decode cX4_level 101 = .ok (.isub, 1) := by decide +kernel
theorem dX4_level_102 : decode cX4_level 102 = .ok (.invokevirtual 177, 3) := by decide +kernel
theorem dX4_level_105 : decode cX4_level 105 = .ok (.invokevirtual 145, 3) := by decide +kernel
theorem dX4_level_108 : decode cX4_level 108 = .ok (.iload_n 2, 1) := by decide +kernel
theorem dX4_level_109 : decode cX4_level 109 = .ok (.if_icmp .lt 24, 3) := by decide +kernel
theorem dX4_level_112 : decode cX4_level 112 = .ok (.iload_n 2, 1) := by decide +kernel
theorem dX4_level_113 : decode cX4_level 113 = .ok (.iconst 1, 1) := by decide +kernel
theorem dX4_level_114 : decode cX4_level 114 = .ok (.if_icmp .eq 16, 3) := by decide +kernel
theorem dX4_level_117 : decode cX4_level 117 = .ok (.aload_n 0, 1) := by decide +kernel
theorem dX4_level_118 : decode cX4_level 118 = .ok (.getfield 34, 3) := by decide +kernel
theorem dX4_level_121 : decode cX4_level 121 = .ok (.iload_n 1, 1) := by decide +kernel
theorem dX4_level_122 : decode cX4_level 122 = .ok (.iaload, 1) := by decide +kernel
theorem dX4_level_123 : decode cX4_level 123 = .ok (.iload_n 2, 1) := by decide +kernel
theorem dX4_level_124 : decode cX4_level 124 = .ok (.ishr, 1) := by decide +kernel
theorem dX4_level_125 : decode cX4_level 125 = .ok (.iconst 1, 1) := by decide +kernel
theorem dX4_level_126 : decode cX4_level 126 = .ok (.iand, 1) := by decide +kernel
theorem dX4_level_127 : decode cX4_level 127 = .ok (.ifCond .ne 6, 3) := by decide +kernel
theorem dX4_level_130 : decode cX4_level 130 = .ok (.iinc 6 1, 3) := by decide +kernel
theorem dX4_level_133 : decode cX4_level 133 = .ok (.iload 4, 2) := by decide +kernel
theorem dX4_level_135 : decode cX4_level 135 = .ok (.iload 5, 2) := by decide +kernel
theorem dX4_level_137 : decode cX4_level 137 = .ok (.iconst 1, 1) := by decide +kernel
theorem dX4_level_138 : decode cX4_level 138 = .ok (.isub, 1) := by decide +kernel
theorem dX4_level_139 : decode cX4_level 139 = .ok (.if_icmp .ge 49, 3) := by decide +kernel
theorem dX4_level_142 : decode cX4_level 142 = .ok (.aload_n 0, 1) := by decide +kernel
theorem dX4_level_143 : decode cX4_level 143 = .ok (.aload_n 0, 1) := by decide +kernel
theorem dX4_level_144 : decode cX4_level 144 = .ok (.iload_n 3, 1) := by decide +kernel
theorem dX4_level_145 : decode cX4_level 145 = .ok (.iload 4, 2) := by decide +kernel
theorem dX4_level_147 : decode cX4_level 147 = .ok (.iconst 1, 1) := by decide +kernel
theorem dX4_level_148 : decode cX4_level 148 = .ok (.iadd, 1) := by decide +kernel
theorem dX4_level_149 : decode cX4_level 149 = .ok (.invokevirtual 177, 3) := by decide +kernel
theorem dX4_level_152 : decode cX4_level 152 = .ok (.invokevirtual 145, 3) := by decide +kernel
theorem dX4_level_155 : decode cX4_level 155 = .ok (.iload_n 2, 1) := by decide +kernel
theorem dX4_level_156 : decode cX4_level 156 = .ok (.if_icmp .lt 32, 3) := by decide +kernel
theorem dX4_level_159 : decode cX4_level 159 = .ok (.iload_n 2, 1) := by decide +kernel
theorem dX4_level_160 : decode cX4_level 160 = .ok (.iconst 1, 1) := by decide +kernel
theorem dX4_level_161 : decode cX4_level 161 = .ok (.if_icmp .eq 24, 3) := by decide +kernel
theorem dX4_level_164 : decode cX4_level 164 = .ok (.aload_n 0, 1) := by decide +kernel
theorem dX4_level_165 : decode cX4_level 165 = .ok (.getfield 34, 3) := by decide +kernel
theorem dX4_level_168 : decode cX4_level 168 = .ok (.aload_n 0, 1) := by decide +kernel
theorem dX4_level_169 : decode cX4_level 169 = .ok (.iload_n 3, 1) := by decide +kernel
theorem dX4_level_170 : decode cX4_level 170 = .ok (.iload 4, 2) := by decide +kernel
theorem dX4_level_172 : decode cX4_level 172 = .ok (.iconst 1, 1) := by decide +kernel
theorem dX4_level_173 : decode cX4_level 173 = .ok (.iadd, 1) := by decide +kernel
theorem dX4_level_174 : decode cX4_level 174 = .ok (.invokevirtual 177, 3) := by decide +kernel
theorem dX4_level_177 : decode cX4_level 177 = .ok (.iaload, 1) := by decide +kernel
theorem dX4_level_178 : decode cX4_level 178 = .ok (.iload_n 2, 1) := by decide +kernel
theorem dX4_level_179 : decode cX4_level 179 = .ok (.ishr, 1) := by decide +kernel
theorem dX4_level_180 : decode cX4_level 180 = .ok (.iconst 1, 1) := by decide +kernel
theorem dX4_level_181 : decode cX4_level 181 = .ok (.iand, 1) := by decide +kernel
theorem dX4_level_182 : decode cX4_level 182 = .ok (.ifCond .ne 6, 3) := by decide +kernel
theorem dX4_level_185 : decode cX4_level 185 = .ok (.iinc 6 2, 3) := by decide +kernel
theorem dX4_level_188 : decode cX4_level 188 = .ok (.iload 6, 2) := by decide +kernel
theorem dX4_level_190 : decode cX4_level 190 = .ok (.ifCond .le 6, 3) := by decide +kernel
theorem dX4_level_193 : decode cX4_level 193 = .ok (.iload 6, 2) := by decide +kernel
theorem dX4_level_195 : decode cX4_level 195 = .ok (.ireturn, 1) := by decide +kernel
theorem dX4_level_196 : decode cX4_level 196 = .ok (.iload 4, 2) := by decide +kernel
theorem dX4_level_198 : decode cX4_level 198 = .ok (.ifCond .ne 6, 3) := by decide +kernel
theorem dX4_level_201 : decode cX4_level 201 = .ok (.bipush 8, 2) := by decide +kernel
theorem dX4_level_203 : decode cX4_level 203 = .ok (.ireturn, 1) := by decide +kernel
theorem dX4_level_204 : decode cX4_level 204 = .ok (.iload 4, 2) := by decide +kernel
theorem dX4_level_206 : decode cX4_level 206 = .ok (.iload 5, 2) := by decide +kernel
theorem dX4_level_208 : decode cX4_level 208 = .ok (.iconst 1, 1) := by decide +kernel
theorem dX4_level_209 : decode cX4_level 209 = .ok (.isub, 1) := by decide +kernel
theorem dX4_level_210 : decode cX4_level 210 = .ok (.if_icmp .ne 5, 3) := by decide +kernel
theorem dX4_level_213 : decode cX4_level 213 = .ok (.iconst 4, 1) := by decide +kernel
theorem dX4_level_214 : decode cX4_level 214 = .ok (.ireturn, 1) := by decide +kernel
theorem dX4_level_215 : decode cX4_level 215 = .ok (.aload_n 0, 1) := by decide +kernel
theorem dX4_level_216 : decode cX4_level 216 = .ok (.getfield 22, 3) := by decide +kernel
theorem dX4_level_219 : decode cX4_level 219 = .ok (.iload_n 1, 1) := by decide +kernel
theorem dX4_level_220 : decode cX4_level 220 = .ok (.iaload, 1) := by decide +kernel
theorem dX4_level_221 : decode cX4_level 221 = .ok (.aload_n 0, 1) := by decide +kernel
theorem dX4_level_222 : decode cX4_level 222 = .ok (.getfield 101, 3) := by decide +kernel
theorem dX4_level_225 : decode cX4_level 225 = .ok (.irem, 1) := by decide +kernel
theorem dX4_level_226 : decode cX4_level 226 = .ok (.iconst 2, 1) := by decide +kernel
theorem dX4_level_227 : decode cX4_level 227 = .ok (.sipush 256, 3) := by decide +kernel
theorem dX4_level_230 : decode cX4_level 230 = .ok (.aload_n 0, 1) := by decide +kernel
theorem dX4_level_231 : decode cX4_level 231 = .ok (.getfield 19, 3) := by decide +kernel
theorem dX4_level_234 : decode cX4_level 234 = .ok (.iload_n 1, 1) := by decide +kernel
theorem dX4_level_235 : decode cX4_level 235 = .ok (.iaload, 1) := by decide +kernel
theorem dX4_level_236 : decode cX4_level 236 = .ok (.ishr, 1) := by decide +kernel
theorem dX4_level_237 : decode cX4_level 237 = .ok (.imul, 1) := by decide +kernel
theorem dX4_level_238 : decode cX4_level 238 = .ok (.irem, 1) := by decide +kernel
theorem dX4_level_239 : decode cX4_level 239 = .ok (.ifCond .ne 8, 3) := by decide +kernel
theorem dX4_level_242 : decode cX4_level 242 = .ok (.bipush 8, 2) := by decide +kernel
theorem dX4_level_244 : decode cX4_level 244 = .ok (.goto 4, 3) := by decide +kernel
theorem dX4_level_247 : decode cX4_level 247 = .ok (.iconst 4, 1) := by decide +kernel
theorem dX4_level_248 : decode cX4_level 248 = .ok (.ireturn, 1) := by decide +kernel
theorem dX4_feather_0 : decode cX4_feather 0 = .ok (.aload_n 0, 1) := by decide +kernel
theorem dX4_feather_1 : decode cX4_feather 1 = .ok (.iconst 0, 1) := by decide +kernel
theorem dX4_feather_2 : decode cX4_feather 2 = .ok (.putfield 77, 3) := by decide +kernel
theorem dX4_feather_5 : decode cX4_feather 5 = .ok (.aload_n 0, 1) := by decide +kernel
theorem dX4_feather_6 : decode cX4_feather 6 = .ok (.iload_n 1, 1) := by decide +kernel
theorem dX4_feather_7 : decode cX4_feather 7 = .ok (.invokevirtual 215, 3) := by decide +kernel
theorem dX4_feather_10 : decode cX4_feather 10 = .ok (.ifCond .ne 7, 3) := by decide +kernel
theorem dX4_feather_13 : decode cX4_feather 13 = .ok (.sipush (-1002), 3) := by decide +kernel
theorem dX4_feather_16 : decode cX4_feather 16 = .ok (.ireturn, 1) := by decide +kernel
theorem dX4_feather_17 : decode cX4_feather 17 = .ok (.iload_n 2, 1) := by decide +kernel
theorem dX4_feather_18 : decode cX4_feather 18 = .ok (.i2l, 1) := by decide +kernel
theorem dX4_feather_19 : decode cX4_feather 19 = .ok (.lconst 0, 1) := by decide +kernel
theorem dX4_feather_20 : decode cX4_feather 20 = .ok (.ldc2_w 119, 3) := by decide +kernel
theorem dX4_feather_23 : decode cX4_feather 23 = .ok (.invokestatic 109, 3) := by decide +kernel
theorem dX4_feather_26 : decode cX4_feather 26 = .ok (.ifCond .ne 7, 3) := by decide +kernel
theorem dX4_feather_29 : decode cX4_feather 29 = .ok (.sipush (-1003), 3) := by decide +kernel
theorem dX4_feather_32 : decode cX4_feather 32 = .ok (.ireturn, 1) := by decide +kernel
theorem dX4_feather_33 : decode cX4_feather 33 = .ok (.aload_n 0, 1) := by decide +kernel
theorem dX4_feather_34 : decode cX4_feather 34 = .ok (.getfield 67, 3) := by decide +kernel
theorem dX4_feather_37 : decode cX4_feather 37 = .ok (.iload_n 1, 1) := by decide +kernel
theorem dX4_feather_38 : decode cX4_feather 38 = .ok (.iaload, 1) := by decide +kernel
theorem dX4_feather_39 : decode cX4_feather 39 = .ok (.istore_n 3, 1) := by decide +kernel
theorem dX4_feather_40 : decode cX4_feather 40 = .ok (.aload_n 0, 1) := by decide +kernel
theorem dX4_feather_41 : decode cX4_feather 41 = .ok (.getfield 67, 3) := by decide +kernel
theorem dX4_feather_44 : decode cX4_feather 44 = .ok (.iload_n 1, 1) := by decide +kernel
theorem dX4_feather_45 : decode cX4_feather 45 = .ok (.iload_n 2, 1) := by decide +kernel
theorem dX4_feather_46 : decode cX4_feather 46 = .ok (.iastore, 1) := by decide +kernel
theorem dX4_feather_47 : decode cX4_feather 47 = .ok (.iload_n 3, 1) := by decide +kernel
theorem dX4_feather_48 : decode cX4_feather 48 = .ok (.ireturn, 1) := by decide +kernel
theorem dX4_laneAt_0 : decode cX4_laneAt 0 = .ok (.iconst 3, 1) := by decide +kernel
theorem dX4_laneAt_1 : decode cX4_laneAt 1 = .ok (.iload_n 3, 1) := by decide +kernel
theorem dX4_laneAt_2 : decode cX4_laneAt 2 = .ok (.iconst 1, 1) := by decide +kernel
theorem dX4_laneAt_3 : decode cX4_laneAt 3 = .ok (.isub, 1) := by decide +kernel
theorem dX4_laneAt_4 : decode cX4_laneAt 4 = .ok (.imul, 1) := by decide +kernel
theorem dX4_laneAt_5 : decode cX4_laneAt 5 = .ok (.istore 4, 2) := by decide +kernel
theorem dX4_laneAt_7 : decode cX4_laneAt 7 = .ok (.aload_n 0, 1) := by decide +kernel
theorem dX4_laneAt_8 : decode cX4_laneAt 8 = .ok (.getfield 46, 3) := by decide +kernel
theorem dX4_laneAt_11 : decode cX4_laneAt 11 = .ok (.iload_n 1, 1) := by decide +kernel
theorem dX4_laneAt_12 : decode cX4_laneAt 12 = .ok (.iaload, 1) := by decide +kernel
theorem dX4_laneAt_13 : decode cX4_laneAt 13 = .ok (.iconst 1, 1) := by decide +kernel
theorem dX4_laneAt_14 : decode cX4_laneAt 14 = .ok (.isub, 1) := by decide +kernel
theorem dX4_laneAt_15 : decode cX4_laneAt 15 = .ok (.istore 5, 2) := by decide +kernel
theorem dX4_laneAt_17 : decode cX4_laneAt 17 = .ok (.aload_n 0, 1) := by decide +kernel
theorem dX4_laneAt_18 : decode cX4_laneAt 18 = .ok (.getfield 67, 3) := by decide +kernel
theorem dX4_laneAt_21 : decode cX4_laneAt 21 = .ok (.iload_n 1, 1) := by decide +kernel
theorem dX4_laneAt_22 : decode cX4_laneAt 22 = .ok (.iaload, 1) := by decide +kernel
theorem dX4_laneAt_23 : decode cX4_laneAt 23 = .ok (.ifCond .ne 8, 3) := by decide +kernel
theorem dX4_laneAt_26 : decode cX4_laneAt 26 = .ok (.iload 4, 2) := by decide +kernel
theorem dX4_laneAt_28 : decode cX4_laneAt 28 = .ok (.goto 29, 3) := by decide +kernel
theorem dX4_laneAt_31 : decode cX4_laneAt 31 = .ok (.iload 4, 2) := by decide +kernel
theorem dX4_laneAt_33 : decode cX4_laneAt 33 = .ok (.aload_n 0, 1) := by decide +kernel
theorem dX4_laneAt_34 : decode cX4_laneAt 34 = .ok (.getfield 67, 3) := by decide +kernel
theorem dX4_laneAt_37 : decode cX4_laneAt 37 = .ok (.iload_n 1, 1) := by decide +kernel
theorem dX4_laneAt_38 : decode cX4_laneAt 38 = .ok (.iaload, 1) := by decide +kernel
theorem dX4_laneAt_39 : decode cX4_laneAt 39 = .ok (.iconst 1, 1) := by decide +kernel
theorem dX4_laneAt_40 : decode cX4_laneAt 40 = .ok (.if_icmp .ne 7, 3) := by decide +kernel
theorem dX4_laneAt_43 : decode cX4_laneAt 43 = .ok (.iload_n 2, 1) := by decide +kernel
theorem dX4_laneAt_44 : decode cX4_laneAt 44 = .ok (.goto 7, 3) := by decide +kernel
theorem dX4_laneAt_47 : decode cX4_laneAt 47 = .ok (.iload 5, 2) := by decide +kernel
theorem dX4_laneAt_49 : decode cX4_laneAt 49 = .ok (.iload_n 2, 1) := by decide +kernel
theorem dX4_laneAt_50 : decode cX4_laneAt 50 = .ok (.isub, 1) := by decide +kernel
theorem dX4_laneAt_51 : decode cX4_laneAt 51 = .ok (.imul, 1) := by decide +kernel
theorem dX4_laneAt_52 : decode cX4_laneAt 52 = .ok (.iload 5, 2) := by decide +kernel
theorem dX4_laneAt_54 : decode cX4_laneAt 54 = .ok (.invokestatic 186, 3) := by decide +kernel
theorem dX4_laneAt_57 : decode cX4_laneAt 57 = .ok (.istore 4, 2) := by decide +kernel
theorem dX4_laneAt_59 : decode cX4_laneAt 59 = .ok (.aload_n 0, 1) := by decide +kernel
theorem dX4_laneAt_60 : decode cX4_laneAt 60 = .ok (.iload_n 1, 1) := by decide +kernel
theorem dX4_laneAt_61 : decode cX4_laneAt 61 = .ok (.aload_n 0, 1) := by decide +kernel
theorem dX4_laneAt_62 : decode cX4_laneAt 62 = .ok (.getfield 55, 3) := by decide +kernel
theorem dX4_laneAt_65 : decode cX4_laneAt 65 = .ok (.iload_n 1, 1) := by decide +kernel
theorem dX4_laneAt_66 : decode cX4_laneAt 66 = .ok (.iaload, 1) := by decide +kernel
theorem dX4_laneAt_67 : decode cX4_laneAt 67 = .ok (.aload_n 0, 1) := by decide +kernel
theorem dX4_laneAt_68 : decode cX4_laneAt 68 = .ok (.getfield 58, 3) := by decide +kernel
theorem dX4_laneAt_71 : decode cX4_laneAt 71 = .ok (.iload_n 1, 1) := by decide +kernel
theorem dX4_laneAt_72 : decode cX4_laneAt 72 = .ok (.iaload, 1) := by decide +kernel
theorem dX4_laneAt_73 : decode cX4_laneAt 73 = .ok (.iload_n 2, 1) := by decide +kernel
theorem dX4_laneAt_74 : decode cX4_laneAt 74 = .ok (.invokevirtual 189, 3) := by decide +kernel
theorem dX4_laneAt_77 : decode cX4_laneAt 77 = .ok (.aload_n 0, 1) := by decide +kernel
theorem dX4_laneAt_78 : decode cX4_laneAt 78 = .ok (.getfield 52, 3) := by decide +kernel
theorem dX4_laneAt_81 : decode cX4_laneAt 81 = .ok (.iload_n 1, 1) := by decide +kernel
theorem dX4_laneAt_82 : decode cX4_laneAt 82 = .ok (.iaload, 1) := by decide +kernel
theorem dX4_laneAt_83 : decode cX4_laneAt 83 = .ok (.ifCond .ge 8, 3) := by decide +kernel
theorem dX4_laneAt_86 : decode cX4_laneAt 86 = .ok (.iload 4, 2) := by decide +kernel
theorem dX4_laneAt_88 : decode cX4_laneAt 88 = .ok (.goto 6, 3) := by decide +kernel
theorem dX4_laneAt_91 : decode cX4_laneAt 91 = .ok (.iload 4, 2) := by decide +kernel
theorem dX4_laneAt_93 : decode cX4_laneAt 93 = .ok (.ineg, 1) := by decide +kernel
theorem dX4_laneAt_94 : decode cX4_laneAt 94 = .ok (.iadd, 1) := by decide +kernel
theorem dX4_laneAt_95 : decode cX4_laneAt 95 = .ok (.ireturn, 1) := by decide +kernel
theorem dX4_lane_0 : decode cX4_lane 0 = .ok (.aload_n 0, 1) := by decide +kernel
theorem dX4_lane_1 : decode cX4_lane 1 = .ok (.iconst 0, 1) := by decide +kernel
theorem dX4_lane_2 : decode cX4_lane 2 = .ok (.putfield 77, 3) := by decide +kernel
theorem dX4_lane_5 : decode cX4_lane 5 = .ok (.aload_n 0, 1) := by decide +kernel
theorem dX4_lane_6 : decode cX4_lane 6 = .ok (.iload_n 1, 1) := by decide +kernel
theorem dX4_lane_7 : decode cX4_lane 7 = .ok (.invokevirtual 215, 3) := by decide +kernel
theorem dX4_lane_10 : decode cX4_lane 10 = .ok (.ifCond .ne 7, 3) := by decide +kernel
theorem dX4_lane_13 : decode cX4_lane 13 = .ok (.sipush (-1002), 3) := by decide +kernel
theorem dX4_lane_16 : decode cX4_lane 16 = .ok (.ireturn, 1) := by decide +kernel
theorem dX4_lane_17 : decode cX4_lane 17 = .ok (.iload_n 2, 1) := by decide +kernel
theorem dX4_lane_18 : decode cX4_lane 18 = .ok (.i2l, 1) := by decide +kernel
theorem dX4_lane_19 : decode cX4_lane 19 = .ok (.lconst 0, 1) := by decide +kernel
theorem dX4_lane_20 : decode cX4_lane 20 = .ok (.aload_n 0, 1) := by decide +kernel
theorem dX4_lane_21 : decode cX4_lane 21 = .ok (.getfield 46, 3) := by decide +kernel
theorem dX4_lane_24 : decode cX4_lane 24 = .ok (.iload_n 1, 1) := by decide +kernel
theorem dX4_lane_25 : decode cX4_lane 25 = .ok (.iaload, 1) := by decide +kernel
theorem dX4_lane_26 : decode cX4_lane 26 = .ok (.iconst 1, 1) := by decide +kernel
theorem dX4_lane_27 : decode cX4_lane 27 = .ok (.isub, 1) := by decide +kernel
theorem dX4_lane_28 : decode cX4_lane 28 = .ok (.i2l, 1) := by decide +kernel
theorem dX4_lane_29 : decode cX4_lane 29 = .ok (.invokestatic 109, 3) := by decide +kernel
theorem dX4_lane_32 : decode cX4_lane 32 = .ok (.ifCond .eq 28, 3) := by decide +kernel
theorem dX4_lane_35 : decode cX4_lane 35 = .ok (.iload_n 3, 1) := by decide +kernel
theorem dX4_lane_36 : decode cX4_lane 36 = .ok (.i2l, 1) := by decide +kernel
theorem dX4_lane_37 : decode cX4_lane 37 = .ok (.lconst 1, 1) := by decide +kernel
theorem dX4_lane_38 : decode cX4_lane 38 = .ok (.aload_n 0, 1) := by decide +kernel
theorem dX4_lane_39 : decode cX4_lane 39 = .ok (.iload_n 1, 1) := by decide +kernel
theorem dX4_lane_40 : decode cX4_lane 40 = .ok (.invokevirtual 218, 3) := by decide +kernel
theorem dX4_lane_43 : decode cX4_lane 43 = .ok (.i2l, 1) := by decide +kernel
theorem dX4_lane_44 : decode cX4_lane 44 = .ok (.invokestatic 109, 3) := by decide +kernel
theorem dX4_lane_47 : decode cX4_lane 47 = .ok (.ifCond .eq 13, 3) := by decide +kernel
theorem dX4_lane_50 : decode cX4_lane 50 = .ok (.aload_n 0, 1) := by decide +kernel
theorem dX4_lane_51 : decode cX4_lane 51 = .ok (.iload_n 1, 1) := by decide +kernel
theorem dX4_lane_52 : decode cX4_lane 52 = .ok (.iload_n 2, 1) := by decide +kernel
theorem dX4_lane_53 : decode cX4_lane 53 = .ok (.iload_n 3, 1) := by decide +kernel
theorem dX4_lane_54 : decode cX4_lane 54 = .ok (.invokevirtual 233, 3) := by decide +kernel
theorem dX4_lane_57 : decode cX4_lane 57 = .ok (.goto 6, 3) := by decide +kernel
theorem dX4_lane_60 : decode cX4_lane 60 = .ok (.sipush (-1003), 3) := by decide +kernel
theorem dX4_lane_63 : decode cX4_lane 63 = .ok (.ireturn, 1) := by decide +kernel
theorem dX4_rest_0 : decode cX4_rest 0 = .ok (.aload_n 0, 1) := by decide +kernel
theorem dX4_rest_1 : decode cX4_rest 1 = .ok (.iconst 0, 1) := by decide +kernel
theorem dX4_rest_2 : decode cX4_rest 2 = .ok (.putfield 77, 3) := by decide +kernel
theorem dX4_rest_5 : decode cX4_rest 5 = .ok (.aload_n 0, 1) := by decide +kernel
theorem dX4_rest_6 : decode cX4_rest 6 = .ok (.iload_n 1, 1) := by decide +kernel
theorem dX4_rest_7 : decode cX4_rest 7 = .ok (.invokevirtual 129, 3) := by decide +kernel
theorem dX4_rest_10 : decode cX4_rest 10 = .ok (.ifCond .ne 7, 3) := by decide +kernel
theorem dX4_rest_13 : decode cX4_rest 13 = .ok (.sipush (-1002), 3) := by decide +kernel
theorem dX4_rest_16 : decode cX4_rest 16 = .ok (.ireturn, 1) := by decide +kernel
theorem dX4_rest_17 : decode cX4_rest 17 = .ok (.aload_n 0, 1) := by decide +kernel
theorem dX4_rest_18 : decode cX4_rest 18 = .ok (.getfield 13, 3) := by decide +kernel
theorem dX4_rest_21 : decode cX4_rest 21 = .ok (.iload_n 1, 1) := by decide +kernel
theorem dX4_rest_22 : decode cX4_rest 22 = .ok (.iaload, 1) := by decide +kernel
theorem dX4_rest_23 : decode cX4_rest 23 = .ok (.ifCond .ne 7, 3) := by decide +kernel
theorem dX4_rest_26 : decode cX4_rest 26 = .ok (.sipush (-1004), 3) := by decide +kernel
theorem dX4_rest_29 : decode cX4_rest 29 = .ok (.ireturn, 1) := by decide +kernel
theorem dX4_rest_30 : decode cX4_rest 30 = .ok (.aload_n 0, 1) := by decide +kernel
theorem dX4_rest_31 : decode cX4_rest 31 = .ok (.getfield 43, 3) := by decide +kernel
theorem dX4_rest_34 : decode cX4_rest 34 = .ok (.iconst 1, 1) := by decide +kernel
theorem dX4_rest_35 : decode cX4_rest 35 = .ok (.iaload, 1) := by decide +kernel
theorem dX4_rest_36 : decode cX4_rest 36 = .ok (.ifCond .ne 7, 3) := by decide +kernel
theorem dX4_rest_39 : decode cX4_rest 39 = .ok (.iconst 0, 1) := by decide +kernel
theorem dX4_rest_40 : decode cX4_rest 40 = .ok (.goto 19, 3) := by decide +kernel
theorem dX4_rest_43 : decode cX4_rest 43 = .ok (.aload_n 0, 1) := by decide +kernel
theorem dX4_rest_44 : decode cX4_rest 44 = .ok (.getfield 16, 3) := by decide +kernel
theorem dX4_rest_47 : decode cX4_rest 47 = .ok (.iload_n 1, 1) := by decide +kernel
theorem dX4_rest_48 : decode cX4_rest 48 = .ok (.iaload, 1) := by decide +kernel
theorem dX4_rest_49 : decode cX4_rest 49 = .ok (.ifCond .ne 8, 3) := by decide +kernel
theorem dX4_rest_52 : decode cX4_rest 52 = .ok (.bipush 8, 2) := by decide +kernel
theorem dX4_rest_54 : decode cX4_rest 54 = .ok (.goto 5, 3) := by decide +kernel
theorem dX4_rest_57 : decode cX4_rest 57 = .ok (.bipush (-8), 2) := by decide +kernel
theorem dX4_rest_59 : decode cX4_rest 59 = .ok (.istore_n 2, 1) := by decide +kernel
theorem dX4_rest_60 : decode cX4_rest 60 = .ok (.iconst 0, 1) := by decide +kernel
theorem dX4_rest_61 : decode cX4_rest 61 = .ok (.istore_n 3, 1) := by decide +kernel
theorem dX4_rest_62 : decode cX4_rest 62 = .ok (.iload_n 3, 1) := by decide +kernel
theorem dX4_rest_63 : decode cX4_rest 63 = .ok (.aload_n 0, 1) := by decide +kernel
theorem dX4_rest_64 : decode cX4_rest 64 = .ok (.getfield 88, 3) := by decide +kernel
theorem dX4_rest_67 : decode cX4_rest 67 = .ok (.if_icmp .ge 148, 3) := by decide +kernel
theorem dX4_rest_70 : decode cX4_rest 70 = .ok (.iconst 0, 1) := by decide +kernel
theorem dX4_rest_71 : decode cX4_rest 71 = .ok (.istore 4, 2) := by decide +kernel
theorem dX4_rest_73 : decode cX4_rest 73 = .ok (.iload 4, 2) := by decide +kernel
theorem dX4_rest_75 : decode cX4_rest 75 = .ok (.iconst 1, 1) := by decide +kernel
theorem dX4_rest_76 : decode cX4_rest 76 = .ok (.iadd, 1) := by decide +kernel
theorem dX4_rest_77 : decode cX4_rest 77 = .ok (.aload_n 0, 1) := by decide +kernel
theorem dX4_rest_78 : decode cX4_rest 78 = .ok (.getfield 46, 3) := by decide +kernel
theorem dX4_rest_81 : decode cX4_rest 81 = .ok (.iload_n 3, 1) := by decide +kernel
theorem dX4_rest_82 : decode cX4_rest 82 = .ok (.iaload, 1) := by decide +kernel
theorem dX4_rest_83 : decode cX4_rest 83 = .ok (.if_icmp .ge 126, 3) := by decide +kernel
theorem dX4_rest_86 : decode cX4_rest 86 = .ok (.aload_n 0, 1) := by decide +kernel
theorem dX4_rest_87 : decode cX4_rest 87 = .ok (.getfield 16, 3) := by decide +kernel
theorem dX4_rest_90 : decode cX4_rest 90 = .ok (.aload_n 0, 1) := by decide +kernel
theorem dX4_rest_91 : decode cX4_rest 91 = .ok (.iload_n 3, 1) := by decide +kernel
theorem dX4_rest_92 : decode cX4_rest 92 = .ok (.iconst 0, 1) := by decide +kernel
theorem dX4_rest_93 : decode cX4_rest 93 = .ok (.invokevirtual 177, 3) := by decide +kernel
theorem dX4_rest_96 : decode cX4_rest 96 = .ok (.iaload, 1) := by decide +kernel
theorem dX4_rest_97 : decode cX4_rest 97 = .ok (.aload_n 0, 1) := by decide +kernel
theorem dX4_rest_98 : decode cX4_rest 98 = .ok (.getfield 16, 3) := by decide +kernel
theorem dX4_rest_101 : decode cX4_rest 101 = .ok (.iload_n 1, 1) := by decide +kernel
theorem dX4_rest_102 : decode cX4_rest 102 = .ok (.iaload, 1) := by decide +kernel
theorem dX4_rest_103 : decode cX4_rest 103 = .ok (.if_icmp .ne 100, 3) := by decide +kernel
theorem dX4_rest_106 : decode cX4_rest 106 = .ok (.aload_n 0, 1) := by decide +kernel
theorem dX4_rest_107 : decode cX4_rest 107 = .ok (.iload_n 3, 1) := by decide +kernel
theorem dX4_rest_108 : decode cX4_rest 108 = .ok (.iload 4, 2) := by decide +kernel
theorem dX4_rest_110 : decode cX4_rest 110 = .ok (.invokevirtual 177, 3) := by decide +kernel
theorem dX4_rest_113 : decode cX4_rest 113 = .ok (.iload_n 1, 1) := by decide +kernel
theorem dX4_rest_114 : decode cX4_rest 114 = .ok (.if_icmp .ge 89, 3) := by decide +kernel
theorem dX4_rest_117 : decode cX4_rest 117 = .ok (.aload_n 0, 1) := by decide +kernel
theorem dX4_rest_118 : decode cX4_rest 118 = .ok (.iload_n 3, 1) := by decide +kernel
theorem dX4_rest_119 : decode cX4_rest 119 = .ok (.iload 4, 2) := by decide +kernel
theorem dX4_rest_121 : decode cX4_rest 121 = .ok (.iconst 1, 1) := by decide +kernel
theorem dX4_rest_122 : decode cX4_rest 122 = .ok (.iadd, 1) := by decide +kernel
theorem dX4_rest_123 : decode cX4_rest 123 = .ok (.invokevirtual 177, 3) := by decide +kernel
theorem dX4_rest_126 : decode cX4_rest 126 = .ok (.iload_n 1, 1) := by decide +kernel
theorem dX4_rest_127 : decode cX4_rest 127 = .ok (.if_icmp .le 76, 3) := by decide +kernel
theorem dX4_rest_130 : decode cX4_rest 130 = .ok (.aload_n 0, 1) := by decide +kernel
theorem dX4_rest_131 : decode cX4_rest 131 = .ok (.getfield 52, 3) := by decide +kernel
theorem dX4_rest_134 : decode cX4_rest 134 = .ok (.iload_n 3, 1) := by decide +kernel
theorem dX4_rest_135 : decode cX4_rest 135 = .ok (.iaload, 1) := by decide +kernel
theorem dX4_rest_136 : decode cX4_rest 136 = .ok (.ifCond .eq 67, 3) := by decide +kernel
theorem dX4_rest_139 : decode cX4_rest 139 = .ok (.aload_n 0, 1) := by decide +kernel
theorem dX4_rest_140 : decode cX4_rest 140 = .ok (.getfield 52, 3) := by decide +kernel
theorem dX4_rest_143 : decode cX4_rest 143 = .ok (.iload_n 3, 1) := by decide +kernel
theorem dX4_rest_144 : decode cX4_rest 144 = .ok (.iaload, 1) := by decide +kernel
theorem dX4_rest_145 : decode cX4_rest 145 = .ok (.aload_n 0, 1) := by decide +kernel
theorem dX4_rest_146 : decode cX4_rest 146 = .ok (.iload_n 3, 1) := by decide +kernel
theorem dX4_rest_147 : decode cX4_rest 147 = .ok (.iload 4, 2) := by decide +kernel
theorem dX4_rest_149 : decode cX4_rest 149 = .ok (.aload_n 0, 1) := by decide +kernel
theorem dX4_rest_150 : decode cX4_rest 150 = .ok (.iload_n 3, 1) := by decide +kernel
theorem dX4_rest_151 : decode cX4_rest 151 = .ok (.invokevirtual 218, 3) := by decide +kernel
theorem dX4_rest_154 : decode cX4_rest 154 = .ok (.invokevirtual 233, 3) := by decide +kernel
theorem dX4_rest_157 : decode cX4_rest 157 = .ok (.imul, 1) := by decide +kernel
theorem dX4_rest_158 : decode cX4_rest 158 = .ok (.bipush 6, 2) := by decide +kernel
theorem dX4_rest_160 : decode cX4_rest 160 = .ok (.isub, 1) := by decide +kernel
theorem dX4_rest_161 : decode cX4_rest 161 = .ok (.istore 5, 2) := by decide +kernel
theorem dX4_rest_163 : decode cX4_rest 163 = .ok (.aload_n 0, 1) := by decide +kernel
theorem dX4_rest_164 : decode cX4_rest 164 = .ok (.getfield 52, 3) := by decide +kernel
theorem dX4_rest_167 : decode cX4_rest 167 = .ok (.iload_n 3, 1) := by decide +kernel
theorem dX4_rest_168 : decode cX4_rest 168 = .ok (.iaload, 1) := by decide +kernel
theorem dX4_rest_169 : decode cX4_rest 169 = .ok (.iload_n 2, 1) := by decide +kernel
theorem dX4_rest_170 : decode cX4_rest 170 = .ok (.imul, 1) := by decide +kernel
theorem dX4_rest_171 : decode cX4_rest 171 = .ok (.istore 6, 2) := by decide +kernel
theorem dX4_rest_173 : decode cX4_rest 173 = .ok (.iload 6, 2) := by decide +kernel
theorem dX4_rest_175 : decode cX4_rest 175 = .ok (.iload 5, 2) := by decide +kernel
theorem dX4_rest_177 : decode cX4_rest 177 = .ok (.if_icmp .le 26, 3) := by decide +kernel
theorem dX4_rest_180 : decode cX4_rest 180 = .ok (.iload 5, 2) := by decide +kernel
theorem dX4_rest_182 : decode cX4_rest 182 = .ok (.iconst 4, 1) := by decide +kernel
theorem dX4_rest_183 : decode cX4_rest 183 = .ok (.irem, 1) := by decide +kernel
theorem dX4_rest_184 : decode cX4_rest 184 = .ok (.iconst 4, 1) := by decide +kernel
theorem dX4_rest_185 : decode cX4_rest 185 = .ok (.iadd, 1) := by decide +kernel
theorem dX4_rest_186 : decode cX4_rest 186 = .ok (.iconst 4, 1) := by decide +kernel
theorem dX4_rest_187 : decode cX4_rest 187 = .ok (.irem, 1) := by decide +kernel
theorem dX4_rest_188 : decode cX4_rest 188 = .ok (.istore 7, 2) := by decide +kernel
theorem dX4_rest_190 : decode cX4_rest 190 = .ok (.aload_n 0, 1) := by decide +kernel
theorem dX4_rest_191 : decode cX4_rest 191 = .ok (.getfield 52, 3) := by decide +kernel
theorem dX4_rest_194 : decode cX4_rest 194 = .ok (.iload_n 3, 1) := by decide +kernel
theorem dX4_rest_195 : decode cX4_rest 195 = .ok (.iaload, 1) := by decide +kernel
theorem dX4_rest_196 : decode cX4_rest 196 = .ok (.iload 5, 2) := by decide +kernel
theorem dX4_rest_198 : decode cX4_rest 198 = .ok (.iload 7, 2) := by decide +kernel
theorem dX4_rest_200 : decode cX4_rest 200 = .ok (.isub, 1) := by decide +kernel
theorem dX4_rest_201 : decode cX4_rest 201 = .ok (.imul, 1) := by decide +kernel
theorem dX4_rest_202 : decode cX4_rest 202 = .ok (.istore_n 2, 1) := by decide +kernel
theorem dX4_rest_203 : decode cX4_rest 203 = .ok (.iinc 4 1, 3) := by decide +kernel
theorem dX4_rest_206 : decode cX4_rest 206 = .ok (.goto (-133), 3) := by decide +kernel
theorem dX4_rest_209 : decode cX4_rest 209 = .ok (.iinc 3 1, 3) := by decide +kernel
theorem dX4_rest_212 : decode cX4_rest 212 = .ok (.goto (-150), 3) := by decide +kernel
theorem dX4_rest_215 : decode cX4_rest 215 = .ok (.iload_n 2, 1) := by decide +kernel
theorem dX4_rest_216 : decode cX4_rest 216 = .ok (.ireturn, 1) := by decide +kernel
theorem dX4_share_0 : decode cX4_share 0 = .ok (.aload_n 0, 1) := by decide +kernel
theorem dX4_share_1 : decode cX4_share 1 = .ok (.iconst 0, 1) := by decide +kernel
theorem dX4_share_2 : decode cX4_share 2 = .ok (.putfield 77, 3) := by decide +kernel
theorem dX4_share_5 : decode cX4_share 5 = .ok (.lconst 0, 1) := by decide +kernel
theorem dX4_share_6 : decode cX4_share 6 = .ok (.lstore_n 3, 1) := by decide +kernel
theorem dX4_share_7 : decode cX4_share 7 = .ok (.iconst 0, 1) := by decide +kernel
theorem dX4_share_8 : decode cX4_share 8 = .ok (.istore 5, 2) := by decide +kernel
theorem dX4_share_10 : decode cX4_share 10 = .ok (.iconst 0, 1) := by decide +kernel
theorem dX4_share_11 : decode cX4_share 11 = .ok (.istore 6, 2) := by decide +kernel
theorem dX4_share_13 : decode cX4_share 13 = .ok (.aload_n 0, 1) := by decide +kernel
theorem dX4_share_14 : decode cX4_share 14 = .ok (.iload_n 1, 1) := by decide +kernel
theorem dX4_share_15 : decode cX4_share 15 = .ok (.invokevirtual 215, 3) := by decide +kernel
theorem dX4_share_18 : decode cX4_share 18 = .ok (.ifCond .eq 61, 3) := by decide +kernel
theorem dX4_share_21 : decode cX4_share 21 = .ok (.iload 6, 2) := by decide +kernel
theorem dX4_share_23 : decode cX4_share 23 = .ok (.aload_n 0, 1) := by decide +kernel
theorem dX4_share_24 : decode cX4_share 24 = .ok (.getfield 46, 3) := by decide +kernel
theorem dX4_share_27 : decode cX4_share 27 = .ok (.iload_n 1, 1) := by decide +kernel
theorem dX4_share_28 : decode cX4_share 28 = .ok (.iaload, 1) := by decide +kernel
theorem dX4_share_29 : decode cX4_share 29 = .ok (.if_icmp .ge 50, 3) := by decide +kernel
theorem dX4_share_32 : decode cX4_share 32 = .ok (.aload_n 0, 1) := by decide +kernel
theorem dX4_share_33 : decode cX4_share 33 = .ok (.aload_n 0, 1) := by decide +kernel
theorem dX4_share_34 : decode cX4_share 34 = .ok (.iload_n 1, 1) := by decide +kernel
theorem dX4_share_35 : decode cX4_share 35 = .ok (.iload 6, 2) := by decide +kernel
theorem dX4_share_37 : decode cX4_share 37 = .ok (.invokevirtual 177, 3) := by decide +kernel
theorem dX4_share_40 : decode cX4_share 40 = .ok (.invokevirtual 145, 3) := by decide +kernel
theorem dX4_share_43 : decode cX4_share 43 = .ok (.iload_n 2, 1) := by decide +kernel
theorem dX4_share_44 : decode cX4_share 44 = .ok (.if_icmp .lt 29, 3) := by decide +kernel
theorem dX4_share_47 : decode cX4_share 47 = .ok (.lload_n 3, 1) := by decide +kernel
theorem dX4_share_48 : decode cX4_share 48 = .ok (.aload_n 0, 1) := by decide +kernel
theorem dX4_share_49 : decode cX4_share 49 = .ok (.iload_n 1, 1) := by decide +kernel
theorem dX4_share_50 : decode cX4_share 50 = .ok (.aload_n 0, 1) := by decide +kernel
theorem dX4_share_51 : decode cX4_share 51 = .ok (.getfield 55, 3) := by decide +kernel
theorem dX4_share_54 : decode cX4_share 54 = .ok (.iload_n 1, 1) := by decide +kernel
theorem dX4_share_55 : decode cX4_share 55 = .ok (.iaload, 1) := by decide +kernel
theorem dX4_share_56 : decode cX4_share 56 = .ok (.aload_n 0, 1) := by decide +kernel
theorem dX4_share_57 : decode cX4_share 57 = .ok (.getfield 58, 3) := by decide +kernel
theorem dX4_share_60 : decode cX4_share 60 = .ok (.iload_n 1, 1) := by decide +kernel
theorem dX4_share_61 : decode cX4_share 61 = .ok (.iaload, 1) := by decide +kernel
theorem dX4_share_62 : decode cX4_share 62 = .ok (.iload 6, 2) := by decide +kernel
theorem dX4_share_64 : decode cX4_share 64 = .ok (.invokevirtual 197, 3) := by decide +kernel
theorem dX4_share_67 : decode cX4_share 67 = .ok (.i2l, 1) := by decide +kernel
theorem dX4_share_68 : decode cX4_share 68 = .ok (.ladd, 1) := by decide +kernel
theorem dX4_share_69 : decode cX4_share 69 = .ok (.lstore_n 3, 1) := by decide +kernel
theorem dX4_share_70 : decode cX4_share 70 = .ok (.iinc 5 1, 3) := by decide +kernel
theorem dX4_share_73 : decode cX4_share 73 = .ok (.iinc 6 1, 3) := by decide +kernel
theorem dX4_share_76 : decode cX4_share 76 = .ok (.goto (-63), 3) := by decide +kernel
theorem dX4_share_79 : decode cX4_share 79 = .ok (.iload 5, 2) := by decide +kernel
theorem dX4_share_81 : decode cX4_share 81 = .ok (.ifCond .ne 10, 3) := by decide +kernel
theorem dX4_share_84 : decode cX4_share 84 = .ok (.aload_n 0, 1) := by decide +kernel
theorem dX4_share_85 : decode cX4_share 85 = .ok (.iconst 1, 1) := by decide +kernel
theorem dX4_share_86 : decode cX4_share 86 = .ok (.putfield 77, 3) := by decide +kernel
theorem dX4_share_89 : decode cX4_share 89 = .ok (.lconst 0, 1) := by decide +kernel
theorem dX4_share_90 : decode cX4_share 90 = .ok (.lreturn, 1) := by decide +kernel
theorem dX4_share_91 : decode cX4_share 91 = .ok (.lload_n 3, 1) := by decide +kernel
theorem dX4_share_92 : decode cX4_share 92 = .ok (.iload 5, 2) := by decide +kernel
theorem dX4_share_94 : decode cX4_share 94 = .ok (.i2l, 1) := by decide +kernel
theorem dX4_share_95 : decode cX4_share 95 = .ok (.ldiv, 1) := by decide +kernel
theorem dX4_share_96 : decode cX4_share 96 = .ok (.lreturn, 1) := by decide +kernel
theorem dX4_event_0 : decode cX4_event 0 = .ok (.aload_n 0, 1) := by decide +kernel
theorem dX4_event_1 : decode cX4_event 1 = .ok (.iconst 0, 1) := by decide +kernel
theorem dX4_event_2 : decode cX4_event 2 = .ok (.putfield 77, 3) := by decide +kernel
theorem dX4_event_5 : decode cX4_event 5 = .ok (.aload_n 0, 1) := by decide +kernel
theorem dX4_event_6 : decode cX4_event 6 = .ok (.iload_n 1, 1) := by decide +kernel
theorem dX4_event_7 : decode cX4_event 7 = .ok (.invokevirtual 129, 3) := by decide +kernel
theorem dX4_event_10 : decode cX4_event 10 = .ok (.ifCond .ne 7, 3) := by decide +kernel
theorem dX4_event_13 : decode cX4_event 13 = .ok (.sipush (-1002), 3) := by decide +kernel
theorem dX4_event_16 : decode cX4_event 16 = .ok (.ireturn, 1) := by decide +kernel
theorem dX4_event_17 : decode cX4_event 17 = .ok (.iload_n 2, 1) := by decide +kernel
theorem dX4_event_18 : decode cX4_event 18 = .ok (.tableswitch 84 0 5 #[38, 45, 52, 59, 66, 78], 38) := by decide +kernel
theorem dX4_event_56 : decode cX4_event 56 = .ok (.aload_n 0, 1) := by decide +kernel
theorem dX4_event_57 : decode cX4_event 57 = .ok (.getfield 22, 3) := by decide +kernel
theorem dX4_event_60 : decode cX4_event 60 = .ok (.iload_n 1, 1) := by decide +kernel
theorem dX4_event_61 : decode cX4_event 61 = .ok (.iaload, 1) := by decide +kernel
theorem dX4_event_62 : decode cX4_event 62 = .ok (.ireturn, 1) := by decide +kernel
theorem dX4_event_63 : decode cX4_event 63 = .ok (.aload_n 0, 1) := by decide +kernel
theorem dX4_event_64 : decode cX4_event 64 = .ok (.getfield 25, 3) := by decide +kernel
theorem dX4_event_67 : decode cX4_event 67 = .ok (.iload_n 1, 1) := by decide +kernel
theorem dX4_event_68 : decode cX4_event 68 = .ok (.iaload, 1) := by decide +kernel
theorem dX4_event_69 : decode cX4_event 69 = .ok (.ireturn, 1) := by decide +kernel
theorem dX4_event_70 : decode cX4_event 70 = .ok (.aload_n 0, 1) := by decide +kernel
theorem dX4_event_71 : decode cX4_event 71 = .ok (.getfield 16, 3) := by decide +kernel
theorem dX4_event_74 : decode cX4_event 74 = .ok (.iload_n 1, 1) := by decide +kernel
theorem dX4_event_75 : decode cX4_event 75 = .ok (.iaload, 1) := by decide +kernel
theorem dX4_event_76 : decode cX4_event 76 = .ok (.ireturn, 1) := by decide +kernel
theorem dX4_event_77 : decode cX4_event 77 = .ok (.aload_n 0, 1) := by decide +kernel
theorem dX4_event_78 : decode cX4_event 78 = .ok (.getfield 40, 3) := by decide +kernel
theorem dX4_event_81 : decode cX4_event 81 = .ok (.iload_n 1, 1) := by decide +kernel
theorem dX4_event_82 : decode cX4_event 82 = .ok (.iaload, 1) := by decide +kernel
theorem dX4_event_83 : decode cX4_event 83 = .ok (.ireturn, 1) := by decide +kernel
theorem dX4_event_84 : decode cX4_event 84 = .ok (.aload_n 0, 1) := by decide +kernel
theorem dX4_event_85 : decode cX4_event 85 = .ok (.getfield 22, 3) := by decide +kernel
theorem dX4_event_88 : decode cX4_event 88 = .ok (.iload_n 1, 1) := by decide +kernel
theorem dX4_event_89 : decode cX4_event 89 = .ok (.iaload, 1) := by decide +kernel
theorem dX4_event_90 : decode cX4_event 90 = .ok (.aload_n 0, 1) := by decide +kernel
theorem dX4_event_91 : decode cX4_event 91 = .ok (.getfield 101, 3) := by decide +kernel
theorem dX4_event_94 : decode cX4_event 94 = .ok (.idiv, 1) := by decide +kernel
theorem dX4_event_95 : decode cX4_event 95 = .ok (.ireturn, 1) := by decide +kernel
theorem dX4_event_96 : decode cX4_event 96 = .ok (.aload_n 0, 1) := by decide +kernel
theorem dX4_event_97 : decode cX4_event 97 = .ok (.iload_n 1, 1) := by decide +kernel
theorem dX4_event_98 : decode cX4_event 98 = .ok (.invokevirtual 158, 3) := by decide +kernel
theorem dX4_event_101 : decode cX4_event 101 = .ok (.ireturn, 1) := by decide +kernel
theorem dX4_event_102 : decode cX4_event 102 = .ok (.sipush (-1003), 3) := by decide +kernel
theorem dX4_event_105 : decode cX4_event 105 = .ok (.ireturn, 1) := by decide +kernel
theorem dX4_count_0 : decode cX4_count 0 = .ok (.aload_n 0, 1) := by decide +kernel
theorem dX4_count_1 : decode cX4_count 1 = .ok (.iconst 0, 1) := by decide +kernel
theorem dX4_count_2 : decode cX4_count 2 = .ok (.putfield 77, 3) := by decide +kernel
theorem dX4_count_5 : decode cX4_count 5 = .ok (.iload_n 1, 1) := by decide +kernel
theorem dX4_count_6 : decode cX4_count 6 = .ok (.tableswitch 81 0 6 #[42, 47, 52, 57, 62, 67, 74], 42) := by decide +kernel
theorem dX4_count_48 : decode cX4_count 48 = .ok (.aload_n 0, 1) := by decide +kernel
theorem dX4_count_49 : decode cX4_count 49 = .ok (.getfield 81, 3) := by decide +kernel
theorem dX4_count_52 : decode cX4_count 52 = .ok (.ireturn, 1) := by decide +kernel
theorem dX4_count_53 : decode cX4_count 53 = .ok (.aload_n 0, 1) := by decide +kernel
theorem dX4_count_54 : decode cX4_count 54 = .ok (.getfield 88, 3) := by decide +kernel
theorem dX4_count_57 : decode cX4_count 57 = .ok (.ireturn, 1) := by decide +kernel
theorem dX4_count_58 : decode cX4_count 58 = .ok (.aload_n 0, 1) := by decide +kernel
theorem dX4_count_59 : decode cX4_count 59 = .ok (.getfield 91, 3) := by decide +kernel
theorem dX4_count_62 : decode cX4_count 62 = .ok (.ireturn, 1) := by decide +kernel
theorem dX4_count_63 : decode cX4_count 63 = .ok (.aload_n 0, 1) := by decide +kernel
theorem dX4_count_64 : decode cX4_count 64 = .ok (.getfield 104, 3) := by decide +kernel
theorem dX4_count_67 : decode cX4_count 67 = .ok (.ireturn, 1) := by decide +kernel
theorem dX4_count_68 : decode cX4_count 68 = .ok (.aload_n 0, 1) := by decide +kernel
theorem dX4_count_69 : decode cX4_count 69 = .ok (.getfield 101, 3) := by decide +kernel
theorem dX4_count_72 : decode cX4_count 72 = .ok (.ireturn, 1) := by decide +kernel
theorem dX4_count_73 : decode cX4_count 73 = .ok (.aload_n 0, 1) := by decide +kernel
theorem dX4_count_74 : decode cX4_count 74 = .ok (.getfield 43, 3) := by decide +kernel
theorem dX4_count_77 : decode cX4_count 77 = .ok (.iconst 0, 1) := by decide +kernel
theorem dX4_count_78 : decode cX4_count 78 = .ok (.iaload, 1) := by decide +kernel
theorem dX4_count_79 : decode cX4_count 79 = .ok (.ireturn, 1) := by decide +kernel
theorem dX4_count_80 : decode cX4_count 80 = .ok (.aload_n 0, 1) := by decide +kernel
theorem dX4_count_81 : decode cX4_count 81 = .ok (.getfield 43, 3) := by decide +kernel
theorem dX4_count_84 : decode cX4_count 84 = .ok (.iconst 1, 1) := by decide +kernel
theorem dX4_count_85 : decode cX4_count 85 = .ok (.iaload, 1) := by decide +kernel
theorem dX4_count_86 : decode cX4_count 86 = .ok (.ireturn, 1) := by decide +kernel
theorem dX4_count_87 : decode cX4_count 87 = .ok (.sipush (-1003), 3) := by decide +kernel
theorem dX4_count_90 : decode cX4_count 90 = .ok (.ireturn, 1) := by decide +kernel
theorem dX4_clear_0 : decode cX4_clear 0 = .ok (.aload_n 0, 1) := by decide +kernel
theorem dX4_clear_1 : decode cX4_clear 1 = .ok (.iconst 0, 1) := by decide +kernel
theorem dX4_clear_2 : decode cX4_clear 2 = .ok (.putfield 77, 3) := by decide +kernel
theorem dX4_clear_5 : decode cX4_clear 5 = .ok (.aload_n 0, 1) := by decide +kernel
theorem dX4_clear_6 : decode cX4_clear 6 = .ok (.getfield 81, 3) := by decide +kernel
theorem dX4_clear_9 : decode cX4_clear 9 = .ok (.istore_n 1, 1) := by decide +kernel
theorem dX4_clear_10 : decode cX4_clear 10 = .ok (.aload_n 0, 1) := by decide +kernel
theorem dX4_clear_11 : decode cX4_clear 11 = .ok (.invokevirtual 74, 3) := by decide +kernel
theorem dX4_clear_14 : decode cX4_clear 14 = .ok (.iload_n 1, 1) := by decide +kernel
theorem dX4_clear_15 : decode cX4_clear 15 = .ok (.ireturn, 1) := by decide +kernel
set_option maxRecDepth 20000 in
theorem bkX4_level_0 {w : zW} {Γ : zC} {N S : Nat} {Rt : zR} (X : zm_X w Γ mX4_level N S Rt) : ∀ lv st h, (zi_lda 0 (zi_push (.int 0) (zi_pf 4 0 .int (zi_lda 0 (zi_ldi 1 (zi_cv w mX4_isEvent 4 2 N S (zi_if (fun x => x = 0) (zi_push (.int (-1002)) (zi_iret Rt)) (zi_ldi 2 (zi_i2l (zi_push (.long 1) (zi_push (.long (4)) (zi_cs w mX4_in 3 N S (zi_if (fun x => x = 0) (zi_push (.int (-1003)) (zi_iret Rt)) (zi_lda 0 (zi_gf 4 6 (zi_ldi 1 (zi_ia 0 (zi_push (.int 1) (zi_ic (fun x y => x = y) (zi_push (.int (-1004)) (zi_iret Rt)) (zi_lda 0 (zi_ldi 1 (zi_cv w mX4_beamOf 4 2 N S (zi_sti 3 (zi_ldi 3 (zi_push (.int (-1001)) (zi_ic (fun x y => x = y) (zi_push (.int 0) (zi_iret Rt)) (zi_lda 0 (zi_ldi 1 (zi_cv w mX4_levels 4 2 N S (zi_ldi 2 (zi_ic (fun x y => y ≤ x) (zi_lda 0 (zi_ldi 3 (zi_ldi 1 (zi_cv w mX4_placeIn 4 3 N S (zi_sti 4 (zi_lda 0 (zi_gf 4 20 (zi_ldi 3 (zi_ia 0 (zi_sti 5 (zi_push (.int 0) (zi_sti 6 (zi_ldi 4 (zi_if (fun x => x ≤ 0) (zm_V w Γ 133) (zi_lda 0 (zi_lda 0 (zi_ldi 3 (zi_ldi 4 (zi_push (.int 1) (zi_b (fun x y => x - y) (zi_cv w mX4_noteAt 4 3 N S (zi_cv w mX4_levels 4 2 N S (zi_ldi 2 (zi_ic (fun x y => x < y) (zm_V w Γ 133) (zi_ldi 2 (zi_push (.int 1) (zi_ic (fun x y => x = y) (zm_V w Γ 130) (zi_lda 0 (zi_gf 4 13 (zi_ldi 1 (zi_ia 0 (zi_ldi 2 (zi_b (fun x y => x >>> (y &&& 31)) (zi_push (.int 1) (zi_b (fun x y => x &&& y) (zi_if (fun x => x = 0) (zm_V w Γ 130) (zm_V w Γ 133))))))))))))))))))))))))))))))))))))) (zi_push (.int 0) (zi_iret Rt))))))))))))))))))))))))))))))))) lv st h → zm_V w Γ 0 lv st h := (zs_aload_n X rfl dX4_level_0 (zs_iconst X (by decide) dX4_level_1 (zs_pf X (ci := 4) rfl (by decide) zm_in4 kw_X4_77 tyX4 tyX4_ok nmX4 rfl rfl dX4_level_2 (zs_aload_n X rfl dX4_level_5 (zs_iload_n X rfl dX4_level_6 (zs_cv X (M' := mX4_isEvent) (n := 1) kd_X4_isEvent ki_X4 (by decide +kernel) (by decide) kw_X4_129 rfl ks_X4_isEvent kl_X4_isEvent dX4_level_7 (zs_if_ne X dX4_level_10 (by decide) (zs_iload_n X rfl dX4_level_17 (zs_i2l X dX4_level_18 (zs_lconst X (by decide) dX4_level_19 (zs_ldc2 X kw_X4_133 dX4_level_20 (zs_cs X (M' := mX4_in) (n := 3) kd_X4_in ki_X4 (by decide +kernel) (by decide) kw_X4_109 ks_X4_in dX4_level_23 (zs_if_ne X dX4_level_26 (by decide) (zs_aload_n X rfl dX4_level_33 (zs_gf X (ci := 4) rfl (by decide) zm_in4 kw_X4_13 dX4_level_34 (zs_iload_n X rfl dX4_level_37 (zs_iald X (fun _ => rfl) dX4_level_38 (zs_iconst X (by decide) dX4_level_39 (zs_icmp_ne X dX4_level_40 (by decide) (zs_aload_n X rfl dX4_level_47 (zs_iload_n X rfl dX4_level_48 (zs_cv X (M' := mX4_beamOf) (n := 1) kd_X4_beamOf ki_X4 (by decide +kernel) (by decide) kw_X4_227 rfl ks_X4_beamOf kl_X4_beamOf dX4_level_49 (zs_istore_n X rfl (by decide) dX4_level_52 (zs_iload_n X rfl dX4_level_53 (zs_sipush X (by decide) dX4_level_54 (zs_icmp_eq X dX4_level_57 (by decide) (zs_iconst X (by decide) dX4_level_69 (zs_iret X rfl dX4_level_70)) (zs_aload_n X rfl dX4_level_60 (zs_iload_n X rfl dX4_level_61 (zs_cv X (M' := mX4_levels) (n := 1) kd_X4_levels ki_X4 (by decide +kernel) (by decide) kw_X4_145 rfl ks_X4_levels kl_X4_levels dX4_level_62 (zs_iload_n X rfl dX4_level_65 (zs_icmp_ge X dX4_level_66 (by decide) (zs_aload_n X rfl dX4_level_71 (zs_iload_n X rfl dX4_level_72 (zs_iload_n X rfl dX4_level_73 (zs_cv X (M' := mX4_placeIn) (n := 2) kd_X4_placeIn ki_X4 (by decide +kernel) (by decide) kw_X4_230 rfl ks_X4_placeIn kl_X4_placeIn dX4_level_74 (zs_istore X (by decide) dX4_level_77 (zs_aload_n X rfl dX4_level_79 (zs_gf X (ci := 4) rfl (by decide) zm_in4 kw_X4_46 dX4_level_80 (zs_iload_n X rfl dX4_level_83 (zs_iald X (fun _ => rfl) dX4_level_84 (zs_istore X (by decide) dX4_level_85 (zs_iconst X (by decide) dX4_level_87 (zs_istore X (by decide) dX4_level_88 (zs_iload X dX4_level_90 (zs_if_le X dX4_level_92 (by decide) (fun _ _ _ h => h) (zs_aload_n X rfl dX4_level_95 (zs_aload_n X rfl dX4_level_96 (zs_iload_n X rfl dX4_level_97 (zs_iload X dX4_level_98 (zs_iconst X (by decide) dX4_level_100 (zs_isub X dX4_level_101 (zs_cv X (M' := mX4_noteAt) (n := 2) kd_X4_noteAt ki_X4 (by decide +kernel) (by decide) kw_X4_177 rfl ks_X4_noteAt kl_X4_noteAt dX4_level_102 (zs_cv X (M' := mX4_levels) (n := 1) kd_X4_levels ki_X4 (by decide +kernel) (by decide) kw_X4_145 rfl ks_X4_levels kl_X4_levels dX4_level_105 (zs_iload_n X rfl dX4_level_108 (zs_icmp_lt X dX4_level_109 (by decide) (fun _ _ _ h => h) (zs_iload_n X rfl dX4_level_112 (zs_iconst X (by decide) dX4_level_113 (zs_icmp_eq X dX4_level_114 (by decide) (fun _ _ _ h => h) (zs_aload_n X rfl dX4_level_117 (zs_gf X (ci := 4) rfl (by decide) zm_in4 kw_X4_34 dX4_level_118 (zs_iload_n X rfl dX4_level_121 (zs_iald X (fun _ => rfl) dX4_level_122 (zs_iload_n X rfl dX4_level_123 (zs_ishr X dX4_level_124 (zs_iconst X (by decide) dX4_level_125 (zs_iand X dX4_level_126 (zs_if_ne X dX4_level_127 (by decide) (fun _ _ _ h => h) (fun _ _ _ h => h))))))))))))))))))))))))))))))))))))) (zs_iconst X (by decide) dX4_level_69 (zs_iret X rfl dX4_level_70)))))))))))))) (zs_sipush X (by decide) dX4_level_43 (zs_iret X rfl dX4_level_46)))))))) (zs_sipush X (by decide) dX4_level_29 (zs_iret X rfl dX4_level_32)))))))) (zs_sipush X (by decide) dX4_level_13 (zs_iret X rfl dX4_level_16)))))))))
set_option maxRecDepth 20000 in
theorem bkX4_level_130 {w : zW} {Γ : zC} {N S : Nat} {Rt : zR} (X : zm_X w Γ mX4_level N S Rt) : ∀ lv st h, (zi_inc 6 1 (zm_V w Γ 133)) lv st h → zm_V w Γ 130 lv st h := (zs_iinc X (by decide) (by decide) dX4_level_130 (fun _ _ _ h => h))
set_option maxRecDepth 20000 in
theorem bkX4_level_133 {w : zW} {Γ : zC} {N S : Nat} {Rt : zR} (X : zm_X w Γ mX4_level N S Rt) : ∀ lv st h, (zi_ldi 4 (zi_ldi 5 (zi_push (.int 1) (zi_b (fun x y => x - y) (zi_ic (fun x y => y ≤ x) (zm_V w Γ 188) (zi_lda 0 (zi_lda 0 (zi_ldi 3 (zi_ldi 4 (zi_push (.int 1) (zi_b (fun x y => x + y) (zi_cv w mX4_noteAt 4 3 N S (zi_cv w mX4_levels 4 2 N S (zi_ldi 2 (zi_ic (fun x y => x < y) (zm_V w Γ 188) (zi_ldi 2 (zi_push (.int 1) (zi_ic (fun x y => x = y) (zm_V w Γ 185) (zi_lda 0 (zi_gf 4 13 (zi_lda 0 (zi_ldi 3 (zi_ldi 4 (zi_push (.int 1) (zi_b (fun x y => x + y) (zi_cv w mX4_noteAt 4 3 N S (zi_ia 0 (zi_ldi 2 (zi_b (fun x y => x >>> (y &&& 31)) (zi_push (.int 1) (zi_b (fun x y => x &&& y) (zi_if (fun x => x = 0) (zm_V w Γ 185) (zm_V w Γ 188))))))))))))))))))))))))))))))))) lv st h → zm_V w Γ 133 lv st h := (zs_iload X dX4_level_133 (zs_iload X dX4_level_135 (zs_iconst X (by decide) dX4_level_137 (zs_isub X dX4_level_138 (zs_icmp_ge X dX4_level_139 (by decide) (fun _ _ _ h => h) (zs_aload_n X rfl dX4_level_142 (zs_aload_n X rfl dX4_level_143 (zs_iload_n X rfl dX4_level_144 (zs_iload X dX4_level_145 (zs_iconst X (by decide) dX4_level_147 (zs_iadd X dX4_level_148 (zs_cv X (M' := mX4_noteAt) (n := 2) kd_X4_noteAt ki_X4 (by decide +kernel) (by decide) kw_X4_177 rfl ks_X4_noteAt kl_X4_noteAt dX4_level_149 (zs_cv X (M' := mX4_levels) (n := 1) kd_X4_levels ki_X4 (by decide +kernel) (by decide) kw_X4_145 rfl ks_X4_levels kl_X4_levels dX4_level_152 (zs_iload_n X rfl dX4_level_155 (zs_icmp_lt X dX4_level_156 (by decide) (fun _ _ _ h => h) (zs_iload_n X rfl dX4_level_159 (zs_iconst X (by decide) dX4_level_160 (zs_icmp_eq X dX4_level_161 (by decide) (fun _ _ _ h => h) (zs_aload_n X rfl dX4_level_164 (zs_gf X (ci := 4) rfl (by decide) zm_in4 kw_X4_34 dX4_level_165 (zs_aload_n X rfl dX4_level_168 (zs_iload_n X rfl dX4_level_169 (zs_iload X dX4_level_170 (zs_iconst X (by decide) dX4_level_172 (zs_iadd X dX4_level_173 (zs_cv X (M' := mX4_noteAt) (n := 2) kd_X4_noteAt ki_X4 (by decide +kernel) (by decide) kw_X4_177 rfl ks_X4_noteAt kl_X4_noteAt dX4_level_174 (zs_iald X (fun _ => rfl) dX4_level_177 (zs_iload_n X rfl dX4_level_178 (zs_ishr X dX4_level_179 (zs_iconst X (by decide) dX4_level_180 (zs_iand X dX4_level_181 (zs_if_ne X dX4_level_182 (by decide) (fun _ _ _ h => h) (fun _ _ _ h => h)))))))))))))))))))))))))))))))))
set_option maxRecDepth 20000 in
theorem bkX4_level_185 {w : zW} {Γ : zC} {N S : Nat} {Rt : zR} (X : zm_X w Γ mX4_level N S Rt) : ∀ lv st h, (zi_inc 6 2 (zm_V w Γ 188)) lv st h → zm_V w Γ 185 lv st h := (zs_iinc X (by decide) (by decide) dX4_level_185 (fun _ _ _ h => h))
set_option maxRecDepth 20000 in
theorem bkX4_level_188 {w : zW} {Γ : zC} {N S : Nat} {Rt : zR} (X : zm_X w Γ mX4_level N S Rt) : ∀ lv st h, (zi_ldi 6 (zi_if (fun x => x ≤ 0) (zi_ldi 4 (zi_if (fun x => x = 0) (zi_push (.int 8) (zi_iret Rt)) (zi_ldi 4 (zi_ldi 5 (zi_push (.int 1) (zi_b (fun x y => x - y) (zi_ic (fun x y => x = y) (zi_push (.int 4) (zi_iret Rt)) (zi_lda 0 (zi_gf 4 9 (zi_ldi 1 (zi_ia 0 (zi_lda 0 (zi_gf 4 2 (zi_d (fun x y => x - x / y * y) (zi_push (.int 2) (zi_push (.int 256) (zi_lda 0 (zi_gf 4 8 (zi_ldi 1 (zi_ia 0 (zi_b (fun x y => x >>> (y &&& 31)) (zi_b (fun x y => x * y) (zi_d (fun x y => x - x / y * y) (zi_if (fun x => x = 0) (zi_push (.int 8) (zi_iret Rt)) (zi_push (.int 4) (zi_iret Rt)))))))))))))))))))))))))) (zi_ldi 6 (zi_iret Rt)))) lv st h → zm_V w Γ 188 lv st h := (zs_iload X dX4_level_188 (zs_if_le X dX4_level_190 (by decide) (zs_iload X dX4_level_196 (zs_if_ne X dX4_level_198 (by decide) (zs_iload X dX4_level_204 (zs_iload X dX4_level_206 (zs_iconst X (by decide) dX4_level_208 (zs_isub X dX4_level_209 (zs_icmp_ne X dX4_level_210 (by decide) (zs_aload_n X rfl dX4_level_215 (zs_gf X (ci := 4) rfl (by decide) zm_in4 kw_X4_22 dX4_level_216 (zs_iload_n X rfl dX4_level_219 (zs_iald X (fun _ => rfl) dX4_level_220 (zs_aload_n X rfl dX4_level_221 (zs_gf X (ci := 4) rfl (by decide) zm_in4 kw_X4_101 dX4_level_222 (zs_irem X dX4_level_225 (zs_iconst X (by decide) dX4_level_226 (zs_sipush X (by decide) dX4_level_227 (zs_aload_n X rfl dX4_level_230 (zs_gf X (ci := 4) rfl (by decide) zm_in4 kw_X4_19 dX4_level_231 (zs_iload_n X rfl dX4_level_234 (zs_iald X (fun _ => rfl) dX4_level_235 (zs_ishr X dX4_level_236 (zs_imul X dX4_level_237 (zs_irem X dX4_level_238 (zs_if_ne X dX4_level_239 (by decide) (zs_iconst X (by decide) dX4_level_247 (zs_iret X rfl dX4_level_248)) (zs_bipush X (by decide) dX4_level_242 (zs_goto X dX4_level_244 (by decide) (zs_iret X rfl dX4_level_248)))))))))))))))))))) (zs_iconst X (by decide) dX4_level_213 (zs_iret X rfl dX4_level_214))))))) (zs_bipush X (by decide) dX4_level_201 (zs_iret X rfl dX4_level_203)))) (zs_iload X dX4_level_193 (zs_iret X rfl dX4_level_195))))
set_option maxRecDepth 20000 in
theorem bkX4_feather_0 {w : zW} {Γ : zC} {N S : Nat} {Rt : zR} (X : zm_X w Γ mX4_feather N S Rt) : ∀ lv st h, (zi_lda 0 (zi_push (.int 0) (zi_pf 4 0 .int (zi_lda 0 (zi_ldi 1 (zi_cv w mX4_isBeam 4 2 N S (zi_if (fun x => x = 0) (zi_push (.int (-1002)) (zi_iret Rt)) (zi_ldi 2 (zi_i2l (zi_push (.long 0) (zi_push (.long (2)) (zi_cs w mX4_in 3 N S (zi_if (fun x => x = 0) (zi_push (.int (-1003)) (zi_iret Rt)) (zi_lda 0 (zi_gf 4 27 (zi_ldi 1 (zi_ia 0 (zi_sti 3 (zi_lda 0 (zi_gf 4 27 (zi_ldi 1 (zi_ldi 2 (zi_is 0 (zi_ldi 3 (zi_iret Rt))))))))))))))))))))))))) lv st h → zm_V w Γ 0 lv st h := (zs_aload_n X rfl dX4_feather_0 (zs_iconst X (by decide) dX4_feather_1 (zs_pf X (ci := 4) rfl (by decide) zm_in4 kw_X4_77 tyX4 tyX4_ok nmX4 rfl rfl dX4_feather_2 (zs_aload_n X rfl dX4_feather_5 (zs_iload_n X rfl dX4_feather_6 (zs_cv X (M' := mX4_isBeam) (n := 1) kd_X4_isBeam ki_X4 (by decide +kernel) (by decide) kw_X4_215 rfl ks_X4_isBeam kl_X4_isBeam dX4_feather_7 (zs_if_ne X dX4_feather_10 (by decide) (zs_iload_n X rfl dX4_feather_17 (zs_i2l X dX4_feather_18 (zs_lconst X (by decide) dX4_feather_19 (zs_ldc2 X kw_X4_119 dX4_feather_20 (zs_cs X (M' := mX4_in) (n := 3) kd_X4_in ki_X4 (by decide +kernel) (by decide) kw_X4_109 ks_X4_in dX4_feather_23 (zs_if_ne X dX4_feather_26 (by decide) (zs_aload_n X rfl dX4_feather_33 (zs_gf X (ci := 4) rfl (by decide) zm_in4 kw_X4_67 dX4_feather_34 (zs_iload_n X rfl dX4_feather_37 (zs_iald X (fun _ => rfl) dX4_feather_38 (zs_istore_n X rfl (by decide) dX4_feather_39 (zs_aload_n X rfl dX4_feather_40 (zs_gf X (ci := 4) rfl (by decide) zm_in4 kw_X4_67 dX4_feather_41 (zs_iload_n X rfl dX4_feather_44 (zs_iload_n X rfl dX4_feather_45 (zs_iast X (fun _ => rfl) dX4_feather_46 (zs_iload_n X rfl dX4_feather_47 (zs_iret X rfl dX4_feather_48)))))))))))) (zs_sipush X (by decide) dX4_feather_29 (zs_iret X rfl dX4_feather_32)))))))) (zs_sipush X (by decide) dX4_feather_13 (zs_iret X rfl dX4_feather_16)))))))))
set_option maxRecDepth 20000 in
theorem bkX4_laneAt_0 {w : zW} {Γ : zC} {N S : Nat} {Rt : zR} (X : zm_X w Γ mX4_laneAt N S Rt) : ∀ lv st h, (zi_push (.int 3) (zi_ldi 3 (zi_push (.int 1) (zi_b (fun x y => x - y) (zi_b (fun x y => x * y) (zi_sti 4 (zi_lda 0 (zi_gf 4 20 (zi_ldi 1 (zi_ia 0 (zi_push (.int 1) (zi_b (fun x y => x - y) (zi_sti 5 (zi_lda 0 (zi_gf 4 27 (zi_ldi 1 (zi_ia 0 (zi_if (fun x => x = 0) (zi_ldi 4 (zm_V w Γ 57)) (zi_ldi 4 (zi_lda 0 (zi_gf 4 27 (zi_ldi 1 (zi_ia 0 (zi_push (.int 1) (zi_ic (fun x y => x = y) (zi_ldi 2 (zm_V w Γ 51)) (zi_ldi 5 (zi_ldi 2 (zi_b (fun x y => x - y) (zm_V w Γ 51))))))))))))))))))))))))))))) lv st h → zm_V w Γ 0 lv st h := (zs_iconst X (by decide) dX4_laneAt_0 (zs_iload_n X rfl dX4_laneAt_1 (zs_iconst X (by decide) dX4_laneAt_2 (zs_isub X dX4_laneAt_3 (zs_imul X dX4_laneAt_4 (zs_istore X (by decide) dX4_laneAt_5 (zs_aload_n X rfl dX4_laneAt_7 (zs_gf X (ci := 4) rfl (by decide) zm_in4 kw_X4_46 dX4_laneAt_8 (zs_iload_n X rfl dX4_laneAt_11 (zs_iald X (fun _ => rfl) dX4_laneAt_12 (zs_iconst X (by decide) dX4_laneAt_13 (zs_isub X dX4_laneAt_14 (zs_istore X (by decide) dX4_laneAt_15 (zs_aload_n X rfl dX4_laneAt_17 (zs_gf X (ci := 4) rfl (by decide) zm_in4 kw_X4_67 dX4_laneAt_18 (zs_iload_n X rfl dX4_laneAt_21 (zs_iald X (fun _ => rfl) dX4_laneAt_22 (zs_if_ne X dX4_laneAt_23 (by decide) (zs_iload X dX4_laneAt_31 (zs_aload_n X rfl dX4_laneAt_33 (zs_gf X (ci := 4) rfl (by decide) zm_in4 kw_X4_67 dX4_laneAt_34 (zs_iload_n X rfl dX4_laneAt_37 (zs_iald X (fun _ => rfl) dX4_laneAt_38 (zs_iconst X (by decide) dX4_laneAt_39 (zs_icmp_ne X dX4_laneAt_40 (by decide) (zs_iload X dX4_laneAt_47 (zs_iload_n X rfl dX4_laneAt_49 (zs_isub X dX4_laneAt_50 (fun _ _ _ h => h)))) (zs_iload_n X rfl dX4_laneAt_43 (zs_goto X dX4_laneAt_44 (by decide) (fun _ _ _ h => h)))))))))) (zs_iload X dX4_laneAt_26 (zs_goto X dX4_laneAt_28 (by decide) (fun _ _ _ h => h)))))))))))))))))))))
set_option maxRecDepth 20000 in
theorem bkX4_laneAt_51 {w : zW} {Γ : zC} {N S : Nat} {Rt : zR} (X : zm_X w Γ mX4_laneAt N S Rt) : ∀ lv st h, (zi_b (fun x y => x * y) (zi_ldi 5 (zi_cs w mX4_rounded 2 N S (zm_V w Γ 57)))) lv st h → zm_V w Γ 51 lv st h := (zs_imul X dX4_laneAt_51 (zs_iload X dX4_laneAt_52 (zs_cs X (M' := mX4_rounded) (n := 2) kd_X4_rounded ki_X4 (by decide +kernel) (by decide) kw_X4_186 ks_X4_rounded dX4_laneAt_54 (fun _ _ _ h => h))))
set_option maxRecDepth 20000 in
theorem bkX4_laneAt_57 {w : zW} {Γ : zC} {N S : Nat} {Rt : zR} (X : zm_X w Γ mX4_laneAt N S Rt) : ∀ lv st h, (zi_sti 4 (zi_lda 0 (zi_ldi 1 (zi_lda 0 (zi_gf 4 23 (zi_ldi 1 (zi_ia 0 (zi_lda 0 (zi_gf 4 24 (zi_ldi 1 (zi_ia 0 (zi_ldi 2 (zi_cv w mX4_heightAt 4 5 N S (zi_lda 0 (zi_gf 4 22 (zi_ldi 1 (zi_ia 0 (zi_if (fun x => 0 ≤ x) (zi_ldi 4 (zi_u (fun x => -x) (zi_b (fun x y => x + y) (zi_iret Rt)))) (zi_ldi 4 (zi_b (fun x y => x + y) (zi_iret Rt))))))))))))))))))))) lv st h → zm_V w Γ 57 lv st h := (zs_istore X (by decide) dX4_laneAt_57 (zs_aload_n X rfl dX4_laneAt_59 (zs_iload_n X rfl dX4_laneAt_60 (zs_aload_n X rfl dX4_laneAt_61 (zs_gf X (ci := 4) rfl (by decide) zm_in4 kw_X4_55 dX4_laneAt_62 (zs_iload_n X rfl dX4_laneAt_65 (zs_iald X (fun _ => rfl) dX4_laneAt_66 (zs_aload_n X rfl dX4_laneAt_67 (zs_gf X (ci := 4) rfl (by decide) zm_in4 kw_X4_58 dX4_laneAt_68 (zs_iload_n X rfl dX4_laneAt_71 (zs_iald X (fun _ => rfl) dX4_laneAt_72 (zs_iload_n X rfl dX4_laneAt_73 (zs_cv X (M' := mX4_heightAt) (n := 4) kd_X4_heightAt ki_X4 (by decide +kernel) (by decide) kw_X4_189 rfl ks_X4_heightAt kl_X4_heightAt dX4_laneAt_74 (zs_aload_n X rfl dX4_laneAt_77 (zs_gf X (ci := 4) rfl (by decide) zm_in4 kw_X4_52 dX4_laneAt_78 (zs_iload_n X rfl dX4_laneAt_81 (zs_iald X (fun _ => rfl) dX4_laneAt_82 (zs_if_ge X dX4_laneAt_83 (by decide) (zs_iload X dX4_laneAt_91 (zs_ineg X dX4_laneAt_93 (zs_iadd X dX4_laneAt_94 (zs_iret X rfl dX4_laneAt_95)))) (zs_iload X dX4_laneAt_86 (zs_goto X dX4_laneAt_88 (by decide) (zs_iadd X dX4_laneAt_94 (zs_iret X rfl dX4_laneAt_95))))))))))))))))))))))
set_option maxRecDepth 20000 in
theorem bkX4_lane_0 {w : zW} {Γ : zC} {N S : Nat} {Rt : zR} (X : zm_X w Γ mX4_lane N S Rt) : ∀ lv st h, (zi_lda 0 (zi_push (.int 0) (zi_pf 4 0 .int (zi_lda 0 (zi_ldi 1 (zi_cv w mX4_isBeam 4 2 N S (zi_if (fun x => x = 0) (zi_push (.int (-1002)) (zi_iret Rt)) (zi_ldi 2 (zi_i2l (zi_push (.long 0) (zi_lda 0 (zi_gf 4 20 (zi_ldi 1 (zi_ia 0 (zi_push (.int 1) (zi_b (fun x y => x - y) (zi_i2l (zi_cs w mX4_in 3 N S (zi_if (fun x => x = 0) (zi_push (.int (-1003)) (zi_iret Rt)) (zi_ldi 3 (zi_i2l (zi_push (.long 1) (zi_lda 0 (zi_ldi 1 (zi_cv w mX4_greatest 4 2 N S (zi_i2l (zi_cs w mX4_in 3 N S (zi_if (fun x => x = 0) (zi_push (.int (-1003)) (zi_iret Rt)) (zi_lda 0 (zi_ldi 1 (zi_ldi 2 (zi_ldi 3 (zi_cv w mX4_laneAt 4 4 N S (zi_iret Rt)))))))))))))))))))))))))))))))))) lv st h → zm_V w Γ 0 lv st h := (zs_aload_n X rfl dX4_lane_0 (zs_iconst X (by decide) dX4_lane_1 (zs_pf X (ci := 4) rfl (by decide) zm_in4 kw_X4_77 tyX4 tyX4_ok nmX4 rfl rfl dX4_lane_2 (zs_aload_n X rfl dX4_lane_5 (zs_iload_n X rfl dX4_lane_6 (zs_cv X (M' := mX4_isBeam) (n := 1) kd_X4_isBeam ki_X4 (by decide +kernel) (by decide) kw_X4_215 rfl ks_X4_isBeam kl_X4_isBeam dX4_lane_7 (zs_if_ne X dX4_lane_10 (by decide) (zs_iload_n X rfl dX4_lane_17 (zs_i2l X dX4_lane_18 (zs_lconst X (by decide) dX4_lane_19 (zs_aload_n X rfl dX4_lane_20 (zs_gf X (ci := 4) rfl (by decide) zm_in4 kw_X4_46 dX4_lane_21 (zs_iload_n X rfl dX4_lane_24 (zs_iald X (fun _ => rfl) dX4_lane_25 (zs_iconst X (by decide) dX4_lane_26 (zs_isub X dX4_lane_27 (zs_i2l X dX4_lane_28 (zs_cs X (M' := mX4_in) (n := 3) kd_X4_in ki_X4 (by decide +kernel) (by decide) kw_X4_109 ks_X4_in dX4_lane_29 (zs_if_eq X dX4_lane_32 (by decide) (zs_sipush X (by decide) dX4_lane_60 (zs_iret X rfl dX4_lane_63)) (zs_iload_n X rfl dX4_lane_35 (zs_i2l X dX4_lane_36 (zs_lconst X (by decide) dX4_lane_37 (zs_aload_n X rfl dX4_lane_38 (zs_iload_n X rfl dX4_lane_39 (zs_cv X (M' := mX4_greatest) (n := 1) kd_X4_greatest ki_X4 (by decide +kernel) (by decide) kw_X4_218 rfl ks_X4_greatest kl_X4_greatest dX4_lane_40 (zs_i2l X dX4_lane_43 (zs_cs X (M' := mX4_in) (n := 3) kd_X4_in ki_X4 (by decide +kernel) (by decide) kw_X4_109 ks_X4_in dX4_lane_44 (zs_if_eq X dX4_lane_47 (by decide) (zs_sipush X (by decide) dX4_lane_60 (zs_iret X rfl dX4_lane_63)) (zs_aload_n X rfl dX4_lane_50 (zs_iload_n X rfl dX4_lane_51 (zs_iload_n X rfl dX4_lane_52 (zs_iload_n X rfl dX4_lane_53 (zs_cv X (M' := mX4_laneAt) (n := 3) kd_X4_laneAt ki_X4 (by decide +kernel) (by decide) kw_X4_233 rfl ks_X4_laneAt kl_X4_laneAt dX4_lane_54 (zs_goto X dX4_lane_57 (by decide) (zs_iret X rfl dX4_lane_63)))))))))))))))))))))))))))) (zs_sipush X (by decide) dX4_lane_13 (zs_iret X rfl dX4_lane_16)))))))))
set_option maxRecDepth 20000 in
theorem bkX4_rest_0 {w : zW} {Γ : zC} {N S : Nat} {Rt : zR} (X : zm_X w Γ mX4_rest N S Rt) : ∀ lv st h, (zi_lda 0 (zi_push (.int 0) (zi_pf 4 0 .int (zi_lda 0 (zi_ldi 1 (zi_cv w mX4_isEvent 4 2 N S (zi_if (fun x => x = 0) (zi_push (.int (-1002)) (zi_iret Rt)) (zi_lda 0 (zi_gf 4 6 (zi_ldi 1 (zi_ia 0 (zi_if (fun x => x = 0) (zi_push (.int (-1004)) (zi_iret Rt)) (zi_lda 0 (zi_gf 4 16 (zi_push (.int 1) (zi_ia 0 (zi_if (fun x => x = 0) (zi_push (.int 0) (zi_sti 2 (zi_push (.int 0) (zi_sti 3 (zm_V w Γ 62))))) (zi_lda 0 (zi_gf 4 7 (zi_ldi 1 (zi_ia 0 (zi_if (fun x => x = 0) (zi_push (.int 8) (zi_sti 2 (zi_push (.int 0) (zi_sti 3 (zm_V w Γ 62))))) (zi_push (.int (-8)) (zi_sti 2 (zi_push (.int 0) (zi_sti 3 (zm_V w Γ 62))))))))))))))))))))))))))) lv st h → zm_V w Γ 0 lv st h := (zs_aload_n X rfl dX4_rest_0 (zs_iconst X (by decide) dX4_rest_1 (zs_pf X (ci := 4) rfl (by decide) zm_in4 kw_X4_77 tyX4 tyX4_ok nmX4 rfl rfl dX4_rest_2 (zs_aload_n X rfl dX4_rest_5 (zs_iload_n X rfl dX4_rest_6 (zs_cv X (M' := mX4_isEvent) (n := 1) kd_X4_isEvent ki_X4 (by decide +kernel) (by decide) kw_X4_129 rfl ks_X4_isEvent kl_X4_isEvent dX4_rest_7 (zs_if_ne X dX4_rest_10 (by decide) (zs_aload_n X rfl dX4_rest_17 (zs_gf X (ci := 4) rfl (by decide) zm_in4 kw_X4_13 dX4_rest_18 (zs_iload_n X rfl dX4_rest_21 (zs_iald X (fun _ => rfl) dX4_rest_22 (zs_if_ne X dX4_rest_23 (by decide) (zs_aload_n X rfl dX4_rest_30 (zs_gf X (ci := 4) rfl (by decide) zm_in4 kw_X4_43 dX4_rest_31 (zs_iconst X (by decide) dX4_rest_34 (zs_iald X (fun _ => rfl) dX4_rest_35 (zs_if_ne X dX4_rest_36 (by decide) (zs_aload_n X rfl dX4_rest_43 (zs_gf X (ci := 4) rfl (by decide) zm_in4 kw_X4_16 dX4_rest_44 (zs_iload_n X rfl dX4_rest_47 (zs_iald X (fun _ => rfl) dX4_rest_48 (zs_if_ne X dX4_rest_49 (by decide) (zs_bipush X (by decide) dX4_rest_57 (zs_istore_n X rfl (by decide) dX4_rest_59 (zs_iconst X (by decide) dX4_rest_60 (zs_istore_n X rfl (by decide) dX4_rest_61 (fun _ _ _ h => h))))) (zs_bipush X (by decide) dX4_rest_52 (zs_goto X dX4_rest_54 (by decide) (zs_istore_n X rfl (by decide) dX4_rest_59 (zs_iconst X (by decide) dX4_rest_60 (zs_istore_n X rfl (by decide) dX4_rest_61 (fun _ _ _ h => h))))))))))) (zs_iconst X (by decide) dX4_rest_39 (zs_goto X dX4_rest_40 (by decide) (zs_istore_n X rfl (by decide) dX4_rest_59 (zs_iconst X (by decide) dX4_rest_60 (zs_istore_n X rfl (by decide) dX4_rest_61 (fun _ _ _ h => h))))))))))) (zs_sipush X (by decide) dX4_rest_26 (zs_iret X rfl dX4_rest_29))))))) (zs_sipush X (by decide) dX4_rest_13 (zs_iret X rfl dX4_rest_16)))))))))
set_option maxRecDepth 20000 in
theorem bkX4_rest_62 {w : zW} {Γ : zC} {N S : Nat} {Rt : zR} (X : zm_X w Γ mX4_rest N S Rt) : ∀ lv st h, (zi_ldi 3 (zi_lda 0 (zi_gf 4 18 (zi_ic (fun x y => y ≤ x) (zi_ldi 2 (zi_iret Rt)) (zi_push (.int 0) (zi_sti 4 (zm_V w Γ 73))))))) lv st h → zm_V w Γ 62 lv st h := (zs_iload_n X rfl dX4_rest_62 (zs_aload_n X rfl dX4_rest_63 (zs_gf X (ci := 4) rfl (by decide) zm_in4 kw_X4_88 dX4_rest_64 (zs_icmp_ge X dX4_rest_67 (by decide) (zs_iload_n X rfl dX4_rest_215 (zs_iret X rfl dX4_rest_216)) (zs_iconst X (by decide) dX4_rest_70 (zs_istore X (by decide) dX4_rest_71 (fun _ _ _ h => h)))))))
set_option maxRecDepth 20000 in
theorem bkX4_rest_73 {w : zW} {Γ : zC} {N S : Nat} {Rt : zR} (X : zm_X w Γ mX4_rest N S Rt) : ∀ lv st h, (zi_ldi 4 (zi_push (.int 1) (zi_b (fun x y => x + y) (zi_lda 0 (zi_gf 4 20 (zi_ldi 3 (zi_ia 0 (zi_ic (fun x y => y ≤ x) (zi_inc 3 1 (zm_V w Γ 62)) (zi_lda 0 (zi_gf 4 7 (zi_lda 0 (zi_ldi 3 (zi_push (.int 0) (zi_cv w mX4_noteAt 4 3 N S (zi_ia 0 (zi_lda 0 (zi_gf 4 7 (zi_ldi 1 (zi_ia 0 (zi_ic (fun x y => x = y) (zi_lda 0 (zi_ldi 3 (zi_ldi 4 (zi_cv w mX4_noteAt 4 3 N S (zi_ldi 1 (zi_ic (fun x y => y ≤ x) (zi_inc 4 1 (zm_V w Γ 73)) (zi_lda 0 (zi_ldi 3 (zi_ldi 4 (zi_push (.int 1) (zi_b (fun x y => x + y) (zi_cv w mX4_noteAt 4 3 N S (zi_ldi 1 (zi_ic (fun x y => x ≤ y) (zi_inc 4 1 (zm_V w Γ 73)) (zi_lda 0 (zi_gf 4 22 (zi_ldi 3 (zi_ia 0 (zi_if (fun x => x = 0) (zi_inc 4 1 (zm_V w Γ 73)) (zi_lda 0 (zi_gf 4 22 (zi_ldi 3 (zi_ia 0 (zi_lda 0 (zi_ldi 3 (zi_ldi 4 (zi_lda 0 (zi_ldi 3 (zi_cv w mX4_greatest 4 2 N S (zi_cv w mX4_laneAt 4 4 N S (zi_b (fun x y => x * y) (zi_push (.int 6) (zi_b (fun x y => x - y) (zi_sti 5 (zi_lda 0 (zi_gf 4 22 (zi_ldi 3 (zi_ia 0 (zi_ldi 2 (zi_b (fun x y => x * y) (zi_sti 6 (zi_ldi 6 (zi_ldi 5 (zi_ic (fun x y => x ≤ y) (zi_inc 4 1 (zm_V w Γ 73)) (zi_ldi 5 (zi_push (.int 4) (zi_d (fun x y => x - x / y * y) (zi_push (.int 4) (zi_b (fun x y => x + y) (zi_push (.int 4) (zi_d (fun x y => x - x / y * y) (zi_sti 7 (zi_lda 0 (zi_gf 4 22 (zi_ldi 3 (zi_ia 0 (zi_ldi 5 (zi_ldi 7 (zi_b (fun x y => x - y) (zi_b (fun x y => x * y) (zi_sti 2 (zi_inc 4 1 (zm_V w Γ 73))))))))))))))))))))))))))))))))))))))))))))))))))))))))))))))) (zi_inc 4 1 (zm_V w Γ 73)))))))))))))))))))))) lv st h → zm_V w Γ 73 lv st h := (zs_iload X dX4_rest_73 (zs_iconst X (by decide) dX4_rest_75 (zs_iadd X dX4_rest_76 (zs_aload_n X rfl dX4_rest_77 (zs_gf X (ci := 4) rfl (by decide) zm_in4 kw_X4_46 dX4_rest_78 (zs_iload_n X rfl dX4_rest_81 (zs_iald X (fun _ => rfl) dX4_rest_82 (zs_icmp_ge X dX4_rest_83 (by decide) (zs_iinc X (by decide) (by decide) dX4_rest_209 (zs_goto X dX4_rest_212 (by decide) (fun _ _ _ h => h))) (zs_aload_n X rfl dX4_rest_86 (zs_gf X (ci := 4) rfl (by decide) zm_in4 kw_X4_16 dX4_rest_87 (zs_aload_n X rfl dX4_rest_90 (zs_iload_n X rfl dX4_rest_91 (zs_iconst X (by decide) dX4_rest_92 (zs_cv X (M' := mX4_noteAt) (n := 2) kd_X4_noteAt ki_X4 (by decide +kernel) (by decide) kw_X4_177 rfl ks_X4_noteAt kl_X4_noteAt dX4_rest_93 (zs_iald X (fun _ => rfl) dX4_rest_96 (zs_aload_n X rfl dX4_rest_97 (zs_gf X (ci := 4) rfl (by decide) zm_in4 kw_X4_16 dX4_rest_98 (zs_iload_n X rfl dX4_rest_101 (zs_iald X (fun _ => rfl) dX4_rest_102 (zs_icmp_ne X dX4_rest_103 (by decide) (zs_iinc X (by decide) (by decide) dX4_rest_203 (zs_goto X dX4_rest_206 (by decide) (fun _ _ _ h => h))) (zs_aload_n X rfl dX4_rest_106 (zs_iload_n X rfl dX4_rest_107 (zs_iload X dX4_rest_108 (zs_cv X (M' := mX4_noteAt) (n := 2) kd_X4_noteAt ki_X4 (by decide +kernel) (by decide) kw_X4_177 rfl ks_X4_noteAt kl_X4_noteAt dX4_rest_110 (zs_iload_n X rfl dX4_rest_113 (zs_icmp_ge X dX4_rest_114 (by decide) (zs_iinc X (by decide) (by decide) dX4_rest_203 (zs_goto X dX4_rest_206 (by decide) (fun _ _ _ h => h))) (zs_aload_n X rfl dX4_rest_117 (zs_iload_n X rfl dX4_rest_118 (zs_iload X dX4_rest_119 (zs_iconst X (by decide) dX4_rest_121 (zs_iadd X dX4_rest_122 (zs_cv X (M' := mX4_noteAt) (n := 2) kd_X4_noteAt ki_X4 (by decide +kernel) (by decide) kw_X4_177 rfl ks_X4_noteAt kl_X4_noteAt dX4_rest_123 (zs_iload_n X rfl dX4_rest_126 (zs_icmp_le X dX4_rest_127 (by decide) (zs_iinc X (by decide) (by decide) dX4_rest_203 (zs_goto X dX4_rest_206 (by decide) (fun _ _ _ h => h))) (zs_aload_n X rfl dX4_rest_130 (zs_gf X (ci := 4) rfl (by decide) zm_in4 kw_X4_52 dX4_rest_131 (zs_iload_n X rfl dX4_rest_134 (zs_iald X (fun _ => rfl) dX4_rest_135 (zs_if_eq X dX4_rest_136 (by decide) (zs_iinc X (by decide) (by decide) dX4_rest_203 (zs_goto X dX4_rest_206 (by decide) (fun _ _ _ h => h))) (zs_aload_n X rfl dX4_rest_139 (zs_gf X (ci := 4) rfl (by decide) zm_in4 kw_X4_52 dX4_rest_140 (zs_iload_n X rfl dX4_rest_143 (zs_iald X (fun _ => rfl) dX4_rest_144 (zs_aload_n X rfl dX4_rest_145 (zs_iload_n X rfl dX4_rest_146 (zs_iload X dX4_rest_147 (zs_aload_n X rfl dX4_rest_149 (zs_iload_n X rfl dX4_rest_150 (zs_cv X (M' := mX4_greatest) (n := 1) kd_X4_greatest ki_X4 (by decide +kernel) (by decide) kw_X4_218 rfl ks_X4_greatest kl_X4_greatest dX4_rest_151 (zs_cv X (M' := mX4_laneAt) (n := 3) kd_X4_laneAt ki_X4 (by decide +kernel) (by decide) kw_X4_233 rfl ks_X4_laneAt kl_X4_laneAt dX4_rest_154 (zs_imul X dX4_rest_157 (zs_bipush X (by decide) dX4_rest_158 (zs_isub X dX4_rest_160 (zs_istore X (by decide) dX4_rest_161 (zs_aload_n X rfl dX4_rest_163 (zs_gf X (ci := 4) rfl (by decide) zm_in4 kw_X4_52 dX4_rest_164 (zs_iload_n X rfl dX4_rest_167 (zs_iald X (fun _ => rfl) dX4_rest_168 (zs_iload_n X rfl dX4_rest_169 (zs_imul X dX4_rest_170 (zs_istore X (by decide) dX4_rest_171 (zs_iload X dX4_rest_173 (zs_iload X dX4_rest_175 (zs_icmp_le X dX4_rest_177 (by decide) (zs_iinc X (by decide) (by decide) dX4_rest_203 (zs_goto X dX4_rest_206 (by decide) (fun _ _ _ h => h))) (zs_iload X dX4_rest_180 (zs_iconst X (by decide) dX4_rest_182 (zs_irem X dX4_rest_183 (zs_iconst X (by decide) dX4_rest_184 (zs_iadd X dX4_rest_185 (zs_iconst X (by decide) dX4_rest_186 (zs_irem X dX4_rest_187 (zs_istore X (by decide) dX4_rest_188 (zs_aload_n X rfl dX4_rest_190 (zs_gf X (ci := 4) rfl (by decide) zm_in4 kw_X4_52 dX4_rest_191 (zs_iload_n X rfl dX4_rest_194 (zs_iald X (fun _ => rfl) dX4_rest_195 (zs_iload X dX4_rest_196 (zs_iload X dX4_rest_198 (zs_isub X dX4_rest_200 (zs_imul X dX4_rest_201 (zs_istore_n X rfl (by decide) dX4_rest_202 (zs_iinc X (by decide) (by decide) dX4_rest_203 (zs_goto X dX4_rest_206 (by decide) (fun _ _ _ h => h))))))))))))))))))))))))))))))))))))))))))))))))))))))))))))))))))))))))))))))))))))
set_option maxRecDepth 20000 in
theorem bkX4_share_0 {w : zW} {Γ : zC} {N S : Nat} {Rt : zR} (X : zm_X w Γ mX4_share N S Rt) : ∀ lv st h, (zi_lda 0 (zi_push (.int 0) (zi_pf 4 0 .int (zi_push (.long 0) (zi_stl 3 (zi_push (.int 0) (zi_sti 5 (zi_push (.int 0) (zi_sti 6 (zm_V w Γ 13)))))))))) lv st h → zm_V w Γ 0 lv st h := (zs_aload_n X rfl dX4_share_0 (zs_iconst X (by decide) dX4_share_1 (zs_pf X (ci := 4) rfl (by decide) zm_in4 kw_X4_77 tyX4 tyX4_ok nmX4 rfl rfl dX4_share_2 (zs_lconst X (by decide) dX4_share_5 (zs_lstore_n X rfl (by decide) dX4_share_6 (zs_iconst X (by decide) dX4_share_7 (zs_istore X (by decide) dX4_share_8 (zs_iconst X (by decide) dX4_share_10 (zs_istore X (by decide) dX4_share_11 (fun _ _ _ h => h))))))))))
set_option maxRecDepth 20000 in
theorem bkX4_share_13 {w : zW} {Γ : zC} {N S : Nat} {Rt : zR} (X : zm_X w Γ mX4_share N S Rt) : ∀ lv st h, (zi_lda 0 (zi_ldi 1 (zi_cv w mX4_isBeam 4 2 N S (zi_if (fun x => x = 0) (zm_V w Γ 79) (zi_ldi 6 (zi_lda 0 (zi_gf 4 20 (zi_ldi 1 (zi_ia 0 (zi_ic (fun x y => y ≤ x) (zm_V w Γ 79) (zi_lda 0 (zi_lda 0 (zi_ldi 1 (zi_ldi 6 (zi_cv w mX4_noteAt 4 3 N S (zi_cv w mX4_levels 4 2 N S (zi_ldi 2 (zi_ic (fun x y => x < y) (zi_inc 6 1 (zm_V w Γ 13)) (zi_ldl 3 (zi_lda 0 (zi_ldi 1 (zi_lda 0 (zi_gf 4 23 (zi_ldi 1 (zi_ia 0 (zi_lda 0 (zi_gf 4 24 (zi_ldi 1 (zi_ia 0 (zi_ldi 6 (zi_cv w mX4_lengthAt 4 5 N S (zi_i2l (zi_bl (fun x y => x + y) (zi_stl 3 (zi_inc 5 1 (zi_inc 6 1 (zm_V w Γ 13))))))))))))))))))))))))))))))))))))) lv st h → zm_V w Γ 13 lv st h := (zs_aload_n X rfl dX4_share_13 (zs_iload_n X rfl dX4_share_14 (zs_cv X (M' := mX4_isBeam) (n := 1) kd_X4_isBeam ki_X4 (by decide +kernel) (by decide) kw_X4_215 rfl ks_X4_isBeam kl_X4_isBeam dX4_share_15 (zs_if_eq X dX4_share_18 (by decide) (fun _ _ _ h => h) (zs_iload X dX4_share_21 (zs_aload_n X rfl dX4_share_23 (zs_gf X (ci := 4) rfl (by decide) zm_in4 kw_X4_46 dX4_share_24 (zs_iload_n X rfl dX4_share_27 (zs_iald X (fun _ => rfl) dX4_share_28 (zs_icmp_ge X dX4_share_29 (by decide) (fun _ _ _ h => h) (zs_aload_n X rfl dX4_share_32 (zs_aload_n X rfl dX4_share_33 (zs_iload_n X rfl dX4_share_34 (zs_iload X dX4_share_35 (zs_cv X (M' := mX4_noteAt) (n := 2) kd_X4_noteAt ki_X4 (by decide +kernel) (by decide) kw_X4_177 rfl ks_X4_noteAt kl_X4_noteAt dX4_share_37 (zs_cv X (M' := mX4_levels) (n := 1) kd_X4_levels ki_X4 (by decide +kernel) (by decide) kw_X4_145 rfl ks_X4_levels kl_X4_levels dX4_share_40 (zs_iload_n X rfl dX4_share_43 (zs_icmp_lt X dX4_share_44 (by decide) (zs_iinc X (by decide) (by decide) dX4_share_73 (zs_goto X dX4_share_76 (by decide) (fun _ _ _ h => h))) (zs_lload_n X rfl dX4_share_47 (zs_aload_n X rfl dX4_share_48 (zs_iload_n X rfl dX4_share_49 (zs_aload_n X rfl dX4_share_50 (zs_gf X (ci := 4) rfl (by decide) zm_in4 kw_X4_55 dX4_share_51 (zs_iload_n X rfl dX4_share_54 (zs_iald X (fun _ => rfl) dX4_share_55 (zs_aload_n X rfl dX4_share_56 (zs_gf X (ci := 4) rfl (by decide) zm_in4 kw_X4_58 dX4_share_57 (zs_iload_n X rfl dX4_share_60 (zs_iald X (fun _ => rfl) dX4_share_61 (zs_iload X dX4_share_62 (zs_cv X (M' := mX4_lengthAt) (n := 4) kd_X4_lengthAt ki_X4 (by decide +kernel) (by decide) kw_X4_197 rfl ks_X4_lengthAt kl_X4_lengthAt dX4_share_64 (zs_i2l X dX4_share_67 (zs_ladd X dX4_share_68 (zs_lstore_n X rfl (by decide) dX4_share_69 (zs_iinc X (by decide) (by decide) dX4_share_70 (zs_iinc X (by decide) (by decide) dX4_share_73 (zs_goto X dX4_share_76 (by decide) (fun _ _ _ h => h))))))))))))))))))))))))))))))))))))))
set_option maxRecDepth 20000 in
theorem bkX4_share_79 {w : zW} {Γ : zC} {N S : Nat} {Rt : zR} (X : zm_X w Γ mX4_share N S Rt) : ∀ lv st h, (zi_ldi 5 (zi_if (fun x => x = 0) (zi_lda 0 (zi_push (.int 1) (zi_pf 4 0 .int (zi_push (.long 0) (zi_lret Rt))))) (zi_ldl 3 (zi_ldi 5 (zi_i2l (zi_dl (fun x y => x / y) (zi_lret Rt))))))) lv st h → zm_V w Γ 79 lv st h := (zs_iload X dX4_share_79 (zs_if_ne X dX4_share_81 (by decide) (zs_lload_n X rfl dX4_share_91 (zs_iload X dX4_share_92 (zs_i2l X dX4_share_94 (zs_ldiv X dX4_share_95 (zs_lret X rfl dX4_share_96))))) (zs_aload_n X rfl dX4_share_84 (zs_iconst X (by decide) dX4_share_85 (zs_pf X (ci := 4) rfl (by decide) zm_in4 kw_X4_77 tyX4 tyX4_ok nmX4 rfl rfl dX4_share_86 (zs_lconst X (by decide) dX4_share_89 (zs_lret X rfl dX4_share_90)))))))
set_option maxRecDepth 20000 in
theorem bkX4_event_0 {w : zW} {Γ : zC} {N S : Nat} {Rt : zR} (X : zm_X w Γ mX4_event N S Rt) : ∀ lv st h, (zi_lda 0 (zi_push (.int 0) (zi_pf 4 0 .int (zi_lda 0 (zi_ldi 1 (zi_cv w mX4_isEvent 4 2 N S (zi_if (fun x => x = 0) (zi_push (.int (-1002)) (zi_iret Rt)) (zi_ldi 2 (zi_sw [(0, (zi_lda 0 (zi_gf 4 9 (zi_ldi 1 (zi_ia 0 (zi_iret Rt)))))), (1, (zi_lda 0 (zi_gf 4 10 (zi_ldi 1 (zi_ia 0 (zi_iret Rt)))))), (2, (zi_lda 0 (zi_gf 4 7 (zi_ldi 1 (zi_ia 0 (zi_iret Rt)))))), (3, (zi_lda 0 (zi_gf 4 15 (zi_ldi 1 (zi_ia 0 (zi_iret Rt)))))), (4, (zi_lda 0 (zi_gf 4 9 (zi_ldi 1 (zi_ia 0 (zi_lda 0 (zi_gf 4 2 (zi_d (fun x y => x / y) (zi_iret Rt))))))))), (5, (zi_lda 0 (zi_ldi 1 (zi_cv w mX4_groupOf 4 2 N S (zi_iret Rt)))))] (zi_push (.int (-1003)) (zi_iret Rt))))))))))) lv st h → zm_V w Γ 0 lv st h := (zs_aload_n X rfl dX4_event_0 (zs_iconst X (by decide) dX4_event_1 (zs_pf X (ci := 4) rfl (by decide) zm_in4 kw_X4_77 tyX4 tyX4_ok nmX4 rfl rfl dX4_event_2 (zs_aload_n X rfl dX4_event_5 (zs_iload_n X rfl dX4_event_6 (zs_cv X (M' := mX4_isEvent) (n := 1) kd_X4_isEvent ki_X4 (by decide +kernel) (by decide) kw_X4_129 rfl ks_X4_isEvent kl_X4_isEvent dX4_event_7 (zs_if_ne X dX4_event_10 (by decide) (zs_iload_n X rfl dX4_event_17 (zs_tsw X dX4_event_18 (by decide) (zm_tk_cons (by decide) (by decide) (zs_aload_n X rfl dX4_event_56 (zs_gf X (ci := 4) rfl (by decide) zm_in4 kw_X4_22 dX4_event_57 (zs_iload_n X rfl dX4_event_60 (zs_iald X (fun _ => rfl) dX4_event_61 (zs_iret X rfl dX4_event_62))))) (zm_tk_cons (by decide) (by decide) (zs_aload_n X rfl dX4_event_63 (zs_gf X (ci := 4) rfl (by decide) zm_in4 kw_X4_25 dX4_event_64 (zs_iload_n X rfl dX4_event_67 (zs_iald X (fun _ => rfl) dX4_event_68 (zs_iret X rfl dX4_event_69))))) (zm_tk_cons (by decide) (by decide) (zs_aload_n X rfl dX4_event_70 (zs_gf X (ci := 4) rfl (by decide) zm_in4 kw_X4_16 dX4_event_71 (zs_iload_n X rfl dX4_event_74 (zs_iald X (fun _ => rfl) dX4_event_75 (zs_iret X rfl dX4_event_76))))) (zm_tk_cons (by decide) (by decide) (zs_aload_n X rfl dX4_event_77 (zs_gf X (ci := 4) rfl (by decide) zm_in4 kw_X4_40 dX4_event_78 (zs_iload_n X rfl dX4_event_81 (zs_iald X (fun _ => rfl) dX4_event_82 (zs_iret X rfl dX4_event_83))))) (zm_tk_cons (by decide) (by decide) (zs_aload_n X rfl dX4_event_84 (zs_gf X (ci := 4) rfl (by decide) zm_in4 kw_X4_22 dX4_event_85 (zs_iload_n X rfl dX4_event_88 (zs_iald X (fun _ => rfl) dX4_event_89 (zs_aload_n X rfl dX4_event_90 (zs_gf X (ci := 4) rfl (by decide) zm_in4 kw_X4_101 dX4_event_91 (zs_idiv X dX4_event_94 (zs_iret X rfl dX4_event_95)))))))) (zm_tk_cons (by decide) (by decide) (zs_aload_n X rfl dX4_event_96 (zs_iload_n X rfl dX4_event_97 (zs_cv X (M' := mX4_groupOf) (n := 1) kd_X4_groupOf ki_X4 (by decide +kernel) (by decide) kw_X4_158 rfl ks_X4_groupOf kl_X4_groupOf dX4_event_98 (zs_iret X rfl dX4_event_101)))) zm_tk_nil)))))) (by decide) (zs_sipush X (by decide) dX4_event_102 (zs_iret X rfl dX4_event_105)))) (zs_sipush X (by decide) dX4_event_13 (zs_iret X rfl dX4_event_16)))))))))
set_option maxRecDepth 20000 in
theorem bkX4_count_0 {w : zW} {Γ : zC} {N S : Nat} {Rt : zR} (X : zm_X w Γ mX4_count N S Rt) : ∀ lv st h, (zi_lda 0 (zi_push (.int 0) (zi_pf 4 0 .int (zi_ldi 1 (zi_sw [(0, (zi_lda 0 (zi_gf 4 5 (zi_iret Rt)))), (1, (zi_lda 0 (zi_gf 4 18 (zi_iret Rt)))), (2, (zi_lda 0 (zi_gf 4 19 (zi_iret Rt)))), (3, (zi_lda 0 (zi_gf 4 3 (zi_iret Rt)))), (4, (zi_lda 0 (zi_gf 4 2 (zi_iret Rt)))), (5, (zi_lda 0 (zi_gf 4 16 (zi_push (.int 0) (zi_ia 0 (zi_iret Rt)))))), (6, (zi_lda 0 (zi_gf 4 16 (zi_push (.int 1) (zi_ia 0 (zi_iret Rt))))))] (zi_push (.int (-1003)) (zi_iret Rt))))))) lv st h → zm_V w Γ 0 lv st h := (zs_aload_n X rfl dX4_count_0 (zs_iconst X (by decide) dX4_count_1 (zs_pf X (ci := 4) rfl (by decide) zm_in4 kw_X4_77 tyX4 tyX4_ok nmX4 rfl rfl dX4_count_2 (zs_iload_n X rfl dX4_count_5 (zs_tsw X dX4_count_6 (by decide) (zm_tk_cons (by decide) (by decide) (zs_aload_n X rfl dX4_count_48 (zs_gf X (ci := 4) rfl (by decide) zm_in4 kw_X4_81 dX4_count_49 (zs_iret X rfl dX4_count_52))) (zm_tk_cons (by decide) (by decide) (zs_aload_n X rfl dX4_count_53 (zs_gf X (ci := 4) rfl (by decide) zm_in4 kw_X4_88 dX4_count_54 (zs_iret X rfl dX4_count_57))) (zm_tk_cons (by decide) (by decide) (zs_aload_n X rfl dX4_count_58 (zs_gf X (ci := 4) rfl (by decide) zm_in4 kw_X4_91 dX4_count_59 (zs_iret X rfl dX4_count_62))) (zm_tk_cons (by decide) (by decide) (zs_aload_n X rfl dX4_count_63 (zs_gf X (ci := 4) rfl (by decide) zm_in4 kw_X4_104 dX4_count_64 (zs_iret X rfl dX4_count_67))) (zm_tk_cons (by decide) (by decide) (zs_aload_n X rfl dX4_count_68 (zs_gf X (ci := 4) rfl (by decide) zm_in4 kw_X4_101 dX4_count_69 (zs_iret X rfl dX4_count_72))) (zm_tk_cons (by decide) (by decide) (zs_aload_n X rfl dX4_count_73 (zs_gf X (ci := 4) rfl (by decide) zm_in4 kw_X4_43 dX4_count_74 (zs_iconst X (by decide) dX4_count_77 (zs_iald X (fun _ => rfl) dX4_count_78 (zs_iret X rfl dX4_count_79))))) (zm_tk_cons (by decide) (by decide) (zs_aload_n X rfl dX4_count_80 (zs_gf X (ci := 4) rfl (by decide) zm_in4 kw_X4_43 dX4_count_81 (zs_iconst X (by decide) dX4_count_84 (zs_iald X (fun _ => rfl) dX4_count_85 (zs_iret X rfl dX4_count_86))))) zm_tk_nil))))))) (by decide) (zs_sipush X (by decide) dX4_count_87 (zs_iret X rfl dX4_count_90)))))))
set_option maxRecDepth 20000 in
theorem bkX4_clear_0 {w : zW} {Γ : zC} {N S : Nat} {Rt : zR} (X : zm_X w Γ mX4_clear N S Rt) : ∀ lv st h, (zi_lda 0 (zi_push (.int 0) (zi_pf 4 0 .int (zi_lda 0 (zi_gf 4 5 (zi_sti 1 (zi_lda 0 (zi_cv w mX4_begin 4 1 N S (zi_ldi 1 (zi_iret Rt)))))))))) lv st h → zm_V w Γ 0 lv st h := (zs_aload_n X rfl dX4_clear_0 (zs_iconst X (by decide) dX4_clear_1 (zs_pf X (ci := 4) rfl (by decide) zm_in4 kw_X4_77 tyX4 tyX4_ok nmX4 rfl rfl dX4_clear_2 (zs_aload_n X rfl dX4_clear_5 (zs_gf X (ci := 4) rfl (by decide) zm_in4 kw_X4_81 dX4_clear_6 (zs_istore_n X rfl (by decide) dX4_clear_9 (zs_aload_n X rfl dX4_clear_10 (zs_cv X (M' := mX4_begin) (n := 0) kd_X4_begin ki_X4 (by decide +kernel) (by decide) kw_X4_74 rfl ks_X4_begin kl_X4_begin dX4_clear_11 (zs_iload_n X rfl dX4_clear_14 (zs_iret X rfl dX4_clear_15))))))))))
