theorem dX4_want_0 : decode cX4_want 0 = .ok (.bipush 14, 2) := by decide +kernel
theorem dX4_want_2 : decode cX4_want 2 = .ok (.aload_n 0, 1) := by decide +kernel
theorem dX4_want_3 : decode cX4_want 3 = .ok (.iload_n 1, 1) := by decide +kernel
theorem dX4_want_4 : decode cX4_want 4 = .ok (.invokevirtual 148, 3) := by decide +kernel
theorem dX4_want_7 : decode cX4_want 7 = .ok (.iadd, 1) := by decide +kernel
theorem dX4_want_8 : decode cX4_want 8 = .ok (.istore 4, 2) := by decide +kernel
theorem dX4_want_10 : decode cX4_want 10 = .ok (.iload_n 2, 1) := by decide +kernel
theorem dX4_want_11 : decode cX4_want 11 = .ok (.ifCond .le 22, 3) := by decide +kernel
theorem dX4_want_14 : decode cX4_want 14 = .ok (.aload_n 0, 1) := by decide +kernel
theorem dX4_want_15 : decode cX4_want 15 = .ok (.getfield 28, 3) := by decide +kernel
theorem dX4_want_18 : decode cX4_want 18 = .ok (.iload_n 1, 1) := by decide +kernel
theorem dX4_want_19 : decode cX4_want 19 = .ok (.iaload, 1) := by decide +kernel
theorem dX4_want_20 : decode cX4_want 20 = .ok (.invokestatic 135, 3) := by decide +kernel
theorem dX4_want_23 : decode cX4_want 23 = .ok (.aload_n 0, 1) := by decide +kernel
theorem dX4_want_24 : decode cX4_want 24 = .ok (.iload_n 1, 1) := by decide +kernel
theorem dX4_want_25 : decode cX4_want 25 = .ok (.iload_n 2, 1) := by decide +kernel
theorem dX4_want_26 : decode cX4_want 26 = .ok (.invokevirtual 151, 3) := by decide +kernel
theorem dX4_want_29 : decode cX4_want 29 = .ok (.isub, 1) := by decide +kernel
theorem dX4_want_30 : decode cX4_want 30 = .ok (.goto 19, 3) := by decide +kernel
theorem dX4_want_33 : decode cX4_want 33 = .ok (.aload_n 0, 1) := by decide +kernel
theorem dX4_want_34 : decode cX4_want 34 = .ok (.iload_n 1, 1) := by decide +kernel
theorem dX4_want_35 : decode cX4_want 35 = .ok (.iload_n 2, 1) := by decide +kernel
theorem dX4_want_36 : decode cX4_want 36 = .ok (.invokevirtual 151, 3) := by decide +kernel
theorem dX4_want_39 : decode cX4_want 39 = .ok (.aload_n 0, 1) := by decide +kernel
theorem dX4_want_40 : decode cX4_want 40 = .ok (.getfield 28, 3) := by decide +kernel
theorem dX4_want_43 : decode cX4_want 43 = .ok (.iload_n 1, 1) := by decide +kernel
theorem dX4_want_44 : decode cX4_want 44 = .ok (.iaload, 1) := by decide +kernel
theorem dX4_want_45 : decode cX4_want 45 = .ok (.invokestatic 135, 3) := by decide +kernel
theorem dX4_want_48 : decode cX4_want 48 = .ok (.isub, 1) := by decide +kernel
theorem dX4_want_49 : decode cX4_want 49 = .ok (.istore 5, 2) := by decide +kernel
theorem dX4_want_51 : decode cX4_want 51 = .ok (.iload_n 3, 1) := by decide +kernel
theorem dX4_want_52 : decode cX4_want 52 = .ok (.ifCond .ne 15, 3) := by decide +kernel
theorem dX4_want_55 : decode cX4_want 55 = .ok (.iload 5, 2) := by decide +kernel
theorem dX4_want_57 : decode cX4_want 57 = .ok (.iload 4, 2) := by decide +kernel
theorem dX4_want_59 : decode cX4_want 59 = .ok (.if_icmp .le 8, 3) := by decide +kernel
theorem dX4_want_62 : decode cX4_want 62 = .ok (.iload 5, 2) := by decide +kernel
theorem dX4_want_64 : decode cX4_want 64 = .ok (.goto 5, 3) := by decide +kernel
theorem dX4_want_67 : decode cX4_want 67 = .ok (.iload 4, 2) := by decide +kernel
theorem dX4_want_69 : decode cX4_want 69 = .ok (.ireturn, 1) := by decide +kernel
theorem dX4_alone_0 : decode cX4_alone 0 = .ok (.aload_n 0, 1) := by decide +kernel
theorem dX4_alone_1 : decode cX4_alone 1 = .ok (.getfield 43, 3) := by decide +kernel
theorem dX4_alone_4 : decode cX4_alone 4 = .ok (.iconst 1, 1) := by decide +kernel
theorem dX4_alone_5 : decode cX4_alone 5 = .ok (.iaload, 1) := by decide +kernel
theorem dX4_alone_6 : decode cX4_alone 6 = .ok (.ifCond .le 18, 3) := by decide +kernel
theorem dX4_alone_9 : decode cX4_alone 9 = .ok (.aload_n 0, 1) := by decide +kernel
theorem dX4_alone_10 : decode cX4_alone 10 = .ok (.getfield 16, 3) := by decide +kernel
theorem dX4_alone_13 : decode cX4_alone 13 = .ok (.iload_n 1, 1) := by decide +kernel
theorem dX4_alone_14 : decode cX4_alone 14 = .ok (.iaload, 1) := by decide +kernel
theorem dX4_alone_15 : decode cX4_alone 15 = .ok (.ifCond .ne 7, 3) := by decide +kernel
theorem dX4_alone_18 : decode cX4_alone 18 = .ok (.iconst 1, 1) := by decide +kernel
theorem dX4_alone_19 : decode cX4_alone 19 = .ok (.goto 4, 3) := by decide +kernel
theorem dX4_alone_22 : decode cX4_alone 22 = .ok (.iconst (-1), 1) := by decide +kernel
theorem dX4_alone_23 : decode cX4_alone 23 = .ok (.ireturn, 1) := by decide +kernel
theorem dX4_alone_24 : decode cX4_alone 24 = .ok (.aload_n 0, 1) := by decide +kernel
theorem dX4_alone_25 : decode cX4_alone 25 = .ok (.iload_n 1, 1) := by decide +kernel
theorem dX4_alone_26 : decode cX4_alone 26 = .ok (.invokevirtual 139, 3) := by decide +kernel
theorem dX4_alone_29 : decode cX4_alone 29 = .ok (.aload_n 0, 1) := by decide +kernel
theorem dX4_alone_30 : decode cX4_alone 30 = .ok (.iload_n 1, 1) := by decide +kernel
theorem dX4_alone_31 : decode cX4_alone 31 = .ok (.invokevirtual 142, 3) := by decide +kernel
theorem dX4_alone_34 : decode cX4_alone 34 = .ok (.iadd, 1) := by decide +kernel
theorem dX4_alone_35 : decode cX4_alone 35 = .ok (.ifCond .ge 7, 3) := by decide +kernel
theorem dX4_alone_38 : decode cX4_alone 38 = .ok (.iconst 1, 1) := by decide +kernel
theorem dX4_alone_39 : decode cX4_alone 39 = .ok (.goto 4, 3) := by decide +kernel
theorem dX4_alone_42 : decode cX4_alone 42 = .ok (.iconst (-1), 1) := by decide +kernel
theorem dX4_alone_43 : decode cX4_alone 43 = .ok (.ireturn, 1) := by decide +kernel
theorem dX4_isShort_0 : decode cX4_isShort 0 = .ok (.iload_n 0, 1) := by decide +kernel
theorem dX4_isShort_1 : decode cX4_isShort 1 = .ok (.iconst 3, 1) := by decide +kernel
theorem dX4_isShort_2 : decode cX4_isShort 2 = .ok (.if_icmp .lt 7, 3) := by decide +kernel
theorem dX4_isShort_5 : decode cX4_isShort 5 = .ok (.iconst 1, 1) := by decide +kernel
theorem dX4_isShort_6 : decode cX4_isShort 6 = .ok (.goto 4, 3) := by decide +kernel
theorem dX4_isShort_9 : decode cX4_isShort 9 = .ok (.iconst 0, 1) := by decide +kernel
theorem dX4_isShort_10 : decode cX4_isShort 10 = .ok (.ireturn, 1) := by decide +kernel
theorem dX4_group_0 : decode cX4_group 0 = .ok (.aload_n 0, 1) := by decide +kernel
theorem dX4_group_1 : decode cX4_group 1 = .ok (.iconst 0, 1) := by decide +kernel
theorem dX4_group_2 : decode cX4_group 2 = .ok (.putfield 77, 3) := by decide +kernel
theorem dX4_group_5 : decode cX4_group 5 = .ok (.aload_n 0, 1) := by decide +kernel
theorem dX4_group_6 : decode cX4_group 6 = .ok (.iconst 0, 1) := by decide +kernel
theorem dX4_group_7 : decode cX4_group 7 = .ok (.putfield 88, 3) := by decide +kernel
theorem dX4_group_10 : decode cX4_group 10 = .ok (.aload_n 0, 1) := by decide +kernel
theorem dX4_group_11 : decode cX4_group 11 = .ok (.iconst 0, 1) := by decide +kernel
theorem dX4_group_12 : decode cX4_group 12 = .ok (.putfield 91, 3) := by decide +kernel
theorem dX4_group_15 : decode cX4_group 15 = .ok (.iconst 0, 1) := by decide +kernel
theorem dX4_group_16 : decode cX4_group 16 = .ok (.istore_n 1, 1) := by decide +kernel
theorem dX4_group_17 : decode cX4_group 17 = .ok (.iload_n 1, 1) := by decide +kernel
theorem dX4_group_18 : decode cX4_group 18 = .ok (.iconst 2, 1) := by decide +kernel
theorem dX4_group_19 : decode cX4_group 19 = .ok (.if_icmp .ge 302, 3) := by decide +kernel
theorem dX4_group_22 : decode cX4_group 22 = .ok (.iconst (-1), 1) := by decide +kernel
theorem dX4_group_23 : decode cX4_group 23 = .ok (.istore_n 2, 1) := by decide +kernel
theorem dX4_group_24 : decode cX4_group 24 = .ok (.iconst 0, 1) := by decide +kernel
theorem dX4_group_25 : decode cX4_group 25 = .ok (.istore_n 3, 1) := by decide +kernel
theorem dX4_group_26 : decode cX4_group 26 = .ok (.iconst 0, 1) := by decide +kernel
theorem dX4_group_27 : decode cX4_group 27 = .ok (.istore 4, 2) := by decide +kernel
theorem dX4_group_29 : decode cX4_group 29 = .ok (.iconst 0, 1) := by decide +kernel
theorem dX4_group_30 : decode cX4_group 30 = .ok (.istore 5, 2) := by decide +kernel
theorem dX4_group_32 : decode cX4_group 32 = .ok (.iconst 0, 1) := by decide +kernel
theorem dX4_group_33 : decode cX4_group 33 = .ok (.istore 6, 2) := by decide +kernel
theorem dX4_group_35 : decode cX4_group 35 = .ok (.iload 6, 2) := by decide +kernel
theorem dX4_group_37 : decode cX4_group 37 = .ok (.aload_n 0, 1) := by decide +kernel
theorem dX4_group_38 : decode cX4_group 38 = .ok (.getfield 81, 3) := by decide +kernel
theorem dX4_group_41 : decode cX4_group 41 = .ok (.if_icmp .ge 268, 3) := by decide +kernel
theorem dX4_group_44 : decode cX4_group 44 = .ok (.aload_n 0, 1) := by decide +kernel
theorem dX4_group_45 : decode cX4_group 45 = .ok (.getfield 16, 3) := by decide +kernel
theorem dX4_group_48 : decode cX4_group 48 = .ok (.iload 6, 2) := by decide +kernel
theorem dX4_group_50 : decode cX4_group 50 = .ok (.iaload, 1) := by decide +kernel
theorem dX4_group_51 : decode cX4_group 51 = .ok (.iload_n 1, 1) := by decide +kernel
theorem dX4_group_52 : decode cX4_group 52 = .ok (.if_icmp .eq 6, 3) := by decide +kernel
theorem dX4_group_55 : decode cX4_group 55 = .ok (.goto 248, 3) := by decide +kernel
theorem dX4_group_58 : decode cX4_group 58 = .ok (.aload_n 0, 1) := by decide +kernel
theorem dX4_group_59 : decode cX4_group 59 = .ok (.getfield 13, 3) := by decide +kernel
theorem dX4_group_62 : decode cX4_group 62 = .ok (.iload 6, 2) := by decide +kernel
theorem dX4_group_64 : decode cX4_group 64 = .ok (.iaload, 1) := by decide +kernel
theorem dX4_group_65 : decode cX4_group 65 = .ok (.iconst 1, 1) := by decide +kernel
theorem dX4_group_66 : decode cX4_group 66 = .ok (.if_icmp .ne 33, 3) := by decide +kernel
theorem dX4_group_69 : decode cX4_group 69 = .ok (.iconst 1, 1) := by decide +kernel
theorem dX4_group_70 : decode cX4_group 70 = .ok (.istore_n 3, 1) := by decide +kernel
theorem dX4_group_71 : decode cX4_group 71 = .ok (.iload 4, 2) := by decide +kernel
theorem dX4_group_73 : decode cX4_group 73 = .ok (.ifCond .ne 16, 3) := by decide +kernel
theorem dX4_group_76 : decode cX4_group 76 = .ok (.aload_n 0, 1) := by decide +kernel
theorem dX4_group_77 : decode cX4_group 77 = .ok (.getfield 19, 3) := by decide +kernel
theorem dX4_group_80 : decode cX4_group 80 = .ok (.iload 6, 2) := by decide +kernel
theorem dX4_group_82 : decode cX4_group 82 = .ok (.iaload, 1) := by decide +kernel
theorem dX4_group_83 : decode cX4_group 83 = .ok (.invokestatic 155, 3) := by decide +kernel
theorem dX4_group_86 : decode cX4_group 86 = .ok (.ifCond .ne 7, 3) := by decide +kernel
theorem dX4_group_89 : decode cX4_group 89 = .ok (.iconst 1, 1) := by decide +kernel
theorem dX4_group_90 : decode cX4_group 90 = .ok (.goto 4, 3) := by decide +kernel
theorem dX4_group_93 : decode cX4_group 93 = .ok (.iconst 0, 1) := by decide +kernel
theorem dX4_group_94 : decode cX4_group 94 = .ok (.istore 4, 2) := by decide +kernel
theorem dX4_group_96 : decode cX4_group 96 = .ok (.goto 207, 3) := by decide +kernel
theorem dX4_group_99 : decode cX4_group 99 = .ok (.iload_n 2, 1) := by decide +kernel
theorem dX4_group_100 : decode cX4_group 100 = .ok (.ifCond .lt 66, 3) := by decide +kernel
theorem dX4_group_103 : decode cX4_group 103 = .ok (.aload_n 0, 1) := by decide +kernel
theorem dX4_group_104 : decode cX4_group 104 = .ok (.getfield 19, 3) := by decide +kernel
theorem dX4_group_107 : decode cX4_group 107 = .ok (.iload 6, 2) := by decide +kernel
theorem dX4_group_109 : decode cX4_group 109 = .ok (.iaload, 1) := by decide +kernel
theorem dX4_group_110 : decode cX4_group 110 = .ok (.invokestatic 155, 3) := by decide +kernel
theorem dX4_group_113 : decode cX4_group 113 = .ok (.ifCond .eq 53, 3) := by decide +kernel
theorem dX4_group_116 : decode cX4_group 116 = .ok (.aload_n 0, 1) := by decide +kernel
theorem dX4_group_117 : decode cX4_group 117 = .ok (.getfield 19, 3) := by decide +kernel
theorem dX4_group_120 : decode cX4_group 120 = .ok (.iload_n 2, 1) := by decide +kernel
theorem dX4_group_121 : decode cX4_group 121 = .ok (.iaload, 1) := by decide +kernel
theorem dX4_group_122 : decode cX4_group 122 = .ok (.invokestatic 155, 3) := by decide +kernel
theorem dX4_group_125 : decode cX4_group 125 = .ok (.ifCond .eq 41, 3) := by decide +kernel
theorem dX4_group_128 : decode cX4_group 128 = .ok (.iload_n 3, 1) := by decide +kernel
theorem dX4_group_129 : decode cX4_group 129 = .ok (.ifCond .eq 15, 3) := by decide +kernel
theorem dX4_group_132 : decode cX4_group 132 = .ok (.aload_n 0, 1) := by decide +kernel
theorem dX4_group_133 : decode cX4_group 133 = .ok (.getfield 84, 3) := by decide +kernel
theorem dX4_group_136 : decode cX4_group 136 = .ok (.ifCond .eq 30, 3) := by decide +kernel
theorem dX4_group_139 : decode cX4_group 139 = .ok (.iload 4, 2) := by decide +kernel
theorem dX4_group_141 : decode cX4_group 141 = .ok (.ifCond .ne 25, 3) := by decide +kernel
theorem dX4_group_144 : decode cX4_group 144 = .ok (.aload_n 0, 1) := by decide +kernel
theorem dX4_group_145 : decode cX4_group 145 = .ok (.getfield 31, 3) := by decide +kernel
theorem dX4_group_148 : decode cX4_group 148 = .ok (.iload 6, 2) := by decide +kernel
theorem dX4_group_150 : decode cX4_group 150 = .ok (.iaload, 1) := by decide +kernel
theorem dX4_group_151 : decode cX4_group 151 = .ok (.iconst 1, 1) := by decide +kernel
theorem dX4_group_152 : decode cX4_group 152 = .ok (.if_icmp .eq 14, 3) := by decide +kernel
theorem dX4_group_155 : decode cX4_group 155 = .ok (.iload 5, 2) := by decide +kernel
theorem dX4_group_157 : decode cX4_group 157 = .ok (.bipush 16, 2) := by decide +kernel
theorem dX4_group_159 : decode cX4_group 159 = .ok (.if_icmp .ge 7, 3) := by decide +kernel
theorem dX4_group_162 : decode cX4_group 162 = .ok (.iconst 1, 1) := by decide +kernel
theorem dX4_group_163 : decode cX4_group 163 = .ok (.goto 4, 3) := by decide +kernel
theorem dX4_group_166 : decode cX4_group 166 = .ok (.iconst 0, 1) := by decide +kernel
theorem dX4_group_167 : decode cX4_group 167 = .ok (.istore 7, 2) := by decide +kernel
theorem dX4_group_169 : decode cX4_group 169 = .ok (.iload_n 2, 1) := by decide +kernel
theorem dX4_group_170 : decode cX4_group 170 = .ok (.ifCond .lt 47, 3) := by decide +kernel
theorem dX4_group_173 : decode cX4_group 173 = .ok (.aload_n 0, 1) := by decide +kernel
theorem dX4_group_174 : decode cX4_group 174 = .ok (.getfield 22, 3) := by decide +kernel
theorem dX4_group_177 : decode cX4_group 177 = .ok (.iload 6, 2) := by decide +kernel
theorem dX4_group_179 : decode cX4_group 179 = .ok (.iaload, 1) := by decide +kernel
theorem dX4_group_180 : decode cX4_group 180 = .ok (.aload_n 0, 1) := by decide +kernel
theorem dX4_group_181 : decode cX4_group 181 = .ok (.getfield 101, 3) := by decide +kernel
theorem dX4_group_184 : decode cX4_group 184 = .ok (.idiv, 1) := by decide +kernel
theorem dX4_group_185 : decode cX4_group 185 = .ok (.aload_n 0, 1) := by decide +kernel
theorem dX4_group_186 : decode cX4_group 186 = .ok (.getfield 22, 3) := by decide +kernel
theorem dX4_group_189 : decode cX4_group 189 = .ok (.iload_n 2, 1) := by decide +kernel
theorem dX4_group_190 : decode cX4_group 190 = .ok (.iaload, 1) := by decide +kernel
theorem dX4_group_191 : decode cX4_group 191 = .ok (.aload_n 0, 1) := by decide +kernel
theorem dX4_group_192 : decode cX4_group 192 = .ok (.getfield 101, 3) := by decide +kernel
theorem dX4_group_195 : decode cX4_group 195 = .ok (.idiv, 1) := by decide +kernel
theorem dX4_group_196 : decode cX4_group 196 = .ok (.if_icmp .ne 21, 3) := by decide +kernel
theorem dX4_group_199 : decode cX4_group 199 = .ok (.aload_n 0, 1) := by decide +kernel
theorem dX4_group_200 : decode cX4_group 200 = .ok (.iload 6, 2) := by decide +kernel
theorem dX4_group_202 : decode cX4_group 202 = .ok (.invokevirtual 158, 3) := by decide +kernel
theorem dX4_group_205 : decode cX4_group 205 = .ok (.aload_n 0, 1) := by decide +kernel
theorem dX4_group_206 : decode cX4_group 206 = .ok (.iload_n 2, 1) := by decide +kernel
theorem dX4_group_207 : decode cX4_group 207 = .ok (.invokevirtual 158, 3) := by decide +kernel
theorem dX4_group_210 : decode cX4_group 210 = .ok (.if_icmp .ne 7, 3) := by decide +kernel
theorem dX4_group_213 : decode cX4_group 213 = .ok (.iconst 1, 1) := by decide +kernel
theorem dX4_group_214 : decode cX4_group 214 = .ok (.goto 4, 3) := by decide +kernel
theorem dX4_group_217 : decode cX4_group 217 = .ok (.iconst 0, 1) := by decide +kernel
theorem dX4_group_218 : decode cX4_group 218 = .ok (.istore 8, 2) := by decide +kernel
theorem dX4_group_220 : decode cX4_group 220 = .ok (.iload 7, 2) := by decide +kernel
theorem dX4_group_222 : decode cX4_group 222 = .ok (.ifCond .eq 23, 3) := by decide +kernel
theorem dX4_group_225 : decode cX4_group 225 = .ok (.iload 8, 2) := by decide +kernel
theorem dX4_group_227 : decode cX4_group 227 = .ok (.ifCond .ne 14, 3) := by decide +kernel
theorem dX4_group_230 : decode cX4_group 230 = .ok (.aload_n 0, 1) := by decide +kernel
theorem dX4_group_231 : decode cX4_group 231 = .ok (.getfield 31, 3) := by decide +kernel
theorem dX4_group_234 : decode cX4_group 234 = .ok (.iload 6, 2) := by decide +kernel
theorem dX4_group_236 : decode cX4_group 236 = .ok (.iaload, 1) := by decide +kernel
theorem dX4_group_237 : decode cX4_group 237 = .ok (.iconst 2, 1) := by decide +kernel
theorem dX4_group_238 : decode cX4_group 238 = .ok (.if_icmp .ne 7, 3) := by decide +kernel
theorem dX4_group_241 : decode cX4_group 241 = .ok (.iconst 1, 1) := by decide +kernel
theorem dX4_group_242 : decode cX4_group 242 = .ok (.goto 4, 3) := by decide +kernel
theorem dX4_group_245 : decode cX4_group 245 = .ok (.iconst 0, 1) := by decide +kernel
theorem dX4_group_246 : decode cX4_group 246 = .ok (.istore 7, 2) := by decide +kernel
theorem dX4_group_248 : decode cX4_group 248 = .ok (.iload 7, 2) := by decide +kernel
theorem dX4_group_250 : decode cX4_group 250 = .ok (.ifCond .ne 12, 3) := by decide +kernel
theorem dX4_group_253 : decode cX4_group 253 = .ok (.aload_n 0, 1) := by decide +kernel
theorem dX4_group_254 : decode cX4_group 254 = .ok (.iload 5, 2) := by decide +kernel
theorem dX4_group_256 : decode cX4_group 256 = .ok (.invokevirtual 161, 3) := by decide +kernel
theorem dX4_group_259 : decode cX4_group 259 = .ok (.iconst 0, 1) := by decide +kernel
theorem dX4_group_260 : decode cX4_group 260 = .ok (.istore 5, 2) := by decide +kernel
theorem dX4_group_262 : decode cX4_group 262 = .ok (.aload_n 0, 1) := by decide +kernel
theorem dX4_group_263 : decode cX4_group 263 = .ok (.getfield 19, 3) := by decide +kernel
theorem dX4_group_266 : decode cX4_group 266 = .ok (.iload 6, 2) := by decide +kernel
theorem dX4_group_268 : decode cX4_group 268 = .ok (.iaload, 1) := by decide +kernel
theorem dX4_group_269 : decode cX4_group 269 = .ok (.invokestatic 155, 3) := by decide +kernel
theorem dX4_group_272 : decode cX4_group 272 = .ok (.ifCond .eq 23, 3) := by decide +kernel
theorem dX4_group_275 : decode cX4_group 275 = .ok (.aload_n 0, 1) := by decide +kernel
theorem dX4_group_276 : decode cX4_group 276 = .ok (.getfield 49, 3) := by decide +kernel
theorem dX4_group_279 : decode cX4_group 279 = .ok (.bipush 16, 2) := by decide +kernel
theorem dX4_group_281 : decode cX4_group 281 = .ok (.aload_n 0, 1) := by decide +kernel
theorem dX4_group_282 : decode cX4_group 282 = .ok (.getfield 88, 3) := by decide +kernel
theorem dX4_group_285 : decode cX4_group 285 = .ok (.imul, 1) := by decide +kernel
theorem dX4_group_286 : decode cX4_group 286 = .ok (.iload 5, 2) := by decide +kernel
theorem dX4_group_288 : decode cX4_group 288 = .ok (.iadd, 1) := by decide +kernel
theorem dX4_group_289 : decode cX4_group 289 = .ok (.iload 6, 2) := by decide +kernel
theorem dX4_group_291 : decode cX4_group 291 = .ok (.iastore, 1) := by decide +kernel
theorem dX4_group_292 : decode cX4_group 292 = .ok (.iinc 5 1, 3) := by decide +kernel
theorem dX4_group_295 : decode cX4_group 295 = .ok (.iload 6, 2) := by decide +kernel
theorem dX4_group_297 : decode cX4_group 297 = .ok (.istore_n 2, 1) := by decide +kernel
theorem dX4_group_298 : decode cX4_group 298 = .ok (.iconst 0, 1) := by decide +kernel
theorem dX4_group_299 : decode cX4_group 299 = .ok (.istore_n 3, 1) := by decide +kernel
theorem dX4_group_300 : decode cX4_group 300 = .ok (.iconst 0, 1) := by decide +kernel
theorem dX4_group_301 : decode cX4_group 301 = .ok (.istore 4, 2) := by decide +kernel
theorem dX4_group_303 : decode cX4_group 303 = .ok (.iinc 6 1, 3) := by decide +kernel
theorem dX4_group_306 : decode cX4_group 306 = .ok (.goto (-271), 3) := by decide +kernel
theorem dX4_group_309 : decode cX4_group 309 = .ok (.aload_n 0, 1) := by decide +kernel
theorem dX4_group_310 : decode cX4_group 310 = .ok (.iload 5, 2) := by decide +kernel
theorem dX4_group_312 : decode cX4_group 312 = .ok (.invokevirtual 161, 3) := by decide +kernel
theorem dX4_group_315 : decode cX4_group 315 = .ok (.iinc 1 1, 3) := by decide +kernel
theorem dX4_group_318 : decode cX4_group 318 = .ok (.goto (-301), 3) := by decide +kernel
theorem dX4_group_321 : decode cX4_group 321 = .ok (.aload_n 0, 1) := by decide +kernel
theorem dX4_group_322 : decode cX4_group 322 = .ok (.getfield 88, 3) := by decide +kernel
theorem dX4_group_325 : decode cX4_group 325 = .ok (.ireturn, 1) := by decide +kernel
theorem dX4_ends_0 : decode cX4_ends 0 = .ok (.iload_n 1, 1) := by decide +kernel
theorem dX4_ends_1 : decode cX4_ends 1 = .ok (.iconst 2, 1) := by decide +kernel
theorem dX4_ends_2 : decode cX4_ends 2 = .ok (.if_icmp .ge 4, 3) := by decide +kernel
theorem dX4_ends_5 : decode cX4_ends 5 = .ok (.return_, 1) := by decide +kernel
theorem dX4_ends_6 : decode cX4_ends 6 = .ok (.aload_n 0, 1) := by decide +kernel
theorem dX4_ends_7 : decode cX4_ends 7 = .ok (.getfield 88, 3) := by decide +kernel
theorem dX4_ends_10 : decode cX4_ends 10 = .ok (.istore_n 2, 1) := by decide +kernel
theorem dX4_ends_11 : decode cX4_ends 11 = .ok (.aload_n 0, 1) := by decide +kernel
theorem dX4_ends_12 : decode cX4_ends 12 = .ok (.getfield 46, 3) := by decide +kernel
theorem dX4_ends_15 : decode cX4_ends 15 = .ok (.iload_n 2, 1) := by decide +kernel
theorem dX4_ends_16 : decode cX4_ends 16 = .ok (.iload_n 1, 1) := by decide +kernel
theorem dX4_ends_17 : decode cX4_ends 17 = .ok (.iastore, 1) := by decide +kernel
theorem dX4_ends_18 : decode cX4_ends 18 = .ok (.aload_n 0, 1) := by decide +kernel
theorem dX4_ends_19 : decode cX4_ends 19 = .ok (.getfield 67, 3) := by decide +kernel
theorem dX4_ends_22 : decode cX4_ends 22 = .ok (.iload_n 2, 1) := by decide +kernel
theorem dX4_ends_23 : decode cX4_ends 23 = .ok (.iconst 0, 1) := by decide +kernel
theorem dX4_ends_24 : decode cX4_ends 24 = .ok (.iastore, 1) := by decide +kernel
theorem dX4_ends_25 : decode cX4_ends 25 = .ok (.aload_n 0, 1) := by decide +kernel
theorem dX4_ends_26 : decode cX4_ends 26 = .ok (.getfield 52, 3) := by decide +kernel
theorem dX4_ends_29 : decode cX4_ends 29 = .ok (.iload_n 2, 1) := by decide +kernel
theorem dX4_ends_30 : decode cX4_ends 30 = .ok (.aload_n 0, 1) := by decide +kernel
theorem dX4_ends_31 : decode cX4_ends 31 = .ok (.iload_n 2, 1) := by decide +kernel
theorem dX4_ends_32 : decode cX4_ends 32 = .ok (.invokevirtual 165, 3) := by decide +kernel
theorem dX4_ends_35 : decode cX4_ends 35 = .ok (.iastore, 1) := by decide +kernel
theorem dX4_ends_36 : decode cX4_ends 36 = .ok (.aload_n 0, 1) := by decide +kernel
theorem dX4_ends_37 : decode cX4_ends 37 = .ok (.getfield 64, 3) := by decide +kernel
theorem dX4_ends_40 : decode cX4_ends 40 = .ok (.iload_n 2, 1) := by decide +kernel
theorem dX4_ends_41 : decode cX4_ends 41 = .ok (.aload_n 0, 1) := by decide +kernel
theorem dX4_ends_42 : decode cX4_ends 42 = .ok (.iload_n 2, 1) := by decide +kernel
theorem dX4_ends_43 : decode cX4_ends 43 = .ok (.invokevirtual 168, 3) := by decide +kernel
theorem dX4_ends_46 : decode cX4_ends 46 = .ok (.ifCond .eq 7, 3) := by decide +kernel
theorem dX4_ends_49 : decode cX4_ends 49 = .ok (.iconst 1, 1) := by decide +kernel
theorem dX4_ends_50 : decode cX4_ends 50 = .ok (.goto 4, 3) := by decide +kernel
theorem dX4_ends_53 : decode cX4_ends 53 = .ok (.iconst 0, 1) := by decide +kernel
theorem dX4_ends_54 : decode cX4_ends 54 = .ok (.iastore, 1) := by decide +kernel
theorem dX4_ends_55 : decode cX4_ends 55 = .ok (.aload_n 0, 1) := by decide +kernel
theorem dX4_ends_56 : decode cX4_ends 56 = .ok (.iload_n 2, 1) := by decide +kernel
theorem dX4_ends_57 : decode cX4_ends 57 = .ok (.iload_n 1, 1) := by decide +kernel
theorem dX4_ends_58 : decode cX4_ends 58 = .ok (.iconst 1, 1) := by decide +kernel
theorem dX4_ends_59 : decode cX4_ends 59 = .ok (.isub, 1) := by decide +kernel
theorem dX4_ends_60 : decode cX4_ends 60 = .ok (.invokevirtual 171, 3) := by decide +kernel
theorem dX4_ends_63 : decode cX4_ends 63 = .ok (.aload_n 0, 1) := by decide +kernel
theorem dX4_ends_64 : decode cX4_ends 64 = .ok (.iload_n 2, 1) := by decide +kernel
theorem dX4_ends_65 : decode cX4_ends 65 = .ok (.iconst 0, 1) := by decide +kernel
theorem dX4_ends_66 : decode cX4_ends 66 = .ok (.invokevirtual 171, 3) := by decide +kernel
theorem dX4_ends_69 : decode cX4_ends 69 = .ok (.isub, 1) := by decide +kernel
theorem dX4_ends_70 : decode cX4_ends 70 = .ok (.istore_n 3, 1) := by decide +kernel
theorem dX4_ends_71 : decode cX4_ends 71 = .ok (.aload_n 0, 1) := by decide +kernel
theorem dX4_ends_72 : decode cX4_ends 72 = .ok (.getfield 61, 3) := by decide +kernel
theorem dX4_ends_75 : decode cX4_ends 75 = .ok (.iload_n 2, 1) := by decide +kernel
theorem dX4_ends_76 : decode cX4_ends 76 = .ok (.aload_n 0, 1) := by decide +kernel
theorem dX4_ends_77 : decode cX4_ends 77 = .ok (.getfield 52, 3) := by decide +kernel
theorem dX4_ends_80 : decode cX4_ends 80 = .ok (.iload_n 2, 1) := by decide +kernel
theorem dX4_ends_81 : decode cX4_ends 81 = .ok (.iaload, 1) := by decide +kernel
theorem dX4_ends_82 : decode cX4_ends 82 = .ok (.ifCond .eq 13, 3) := by decide +kernel
theorem dX4_ends_85 : decode cX4_ends 85 = .ok (.aload_n 0, 1) := by decide +kernel
theorem dX4_ends_86 : decode cX4_ends 86 = .ok (.getfield 64, 3) := by decide +kernel
theorem dX4_ends_89 : decode cX4_ends 89 = .ok (.iload_n 2, 1) := by decide +kernel
theorem dX4_ends_90 : decode cX4_ends 90 = .ok (.iaload, 1) := by decide +kernel
theorem dX4_ends_91 : decode cX4_ends 91 = .ok (.iconst 1, 1) := by decide +kernel
theorem dX4_ends_92 : decode cX4_ends 92 = .ok (.if_icmp .ne 7, 3) := by decide +kernel
theorem dX4_ends_95 : decode cX4_ends 95 = .ok (.iconst 0, 1) := by decide +kernel
theorem dX4_ends_96 : decode cX4_ends 96 = .ok (.goto 32, 3) := by decide +kernel
theorem dX4_ends_99 : decode cX4_ends 99 = .ok (.iload_n 3, 1) := by decide +kernel
theorem dX4_ends_100 : decode cX4_ends 100 = .ok (.iconst 2, 1) := by decide +kernel
theorem dX4_ends_101 : decode cX4_ends 101 = .ok (.idiv, 1) := by decide +kernel
theorem dX4_ends_102 : decode cX4_ends 102 = .ok (.bipush 6, 2) := by decide +kernel
theorem dX4_ends_104 : decode cX4_ends 104 = .ok (.if_icmp .le 8, 3) := by decide +kernel
theorem dX4_ends_107 : decode cX4_ends 107 = .ok (.bipush 6, 2) := by decide +kernel
theorem dX4_ends_109 : decode cX4_ends 109 = .ok (.goto 19, 3) := by decide +kernel
theorem dX4_ends_112 : decode cX4_ends 112 = .ok (.iload_n 3, 1) := by decide +kernel
theorem dX4_ends_113 : decode cX4_ends 113 = .ok (.iconst 2, 1) := by decide +kernel
theorem dX4_ends_114 : decode cX4_ends 114 = .ok (.idiv, 1) := by decide +kernel
theorem dX4_ends_115 : decode cX4_ends 115 = .ok (.bipush (-6), 2) := by decide +kernel
theorem dX4_ends_117 : decode cX4_ends 117 = .ok (.if_icmp .ge 8, 3) := by decide +kernel
theorem dX4_ends_120 : decode cX4_ends 120 = .ok (.bipush (-6), 2) := by decide +kernel
theorem dX4_ends_122 : decode cX4_ends 122 = .ok (.goto 6, 3) := by decide +kernel
theorem dX4_ends_125 : decode cX4_ends 125 = .ok (.iload_n 3, 1) := by decide +kernel
theorem dX4_ends_126 : decode cX4_ends 126 = .ok (.iconst 2, 1) := by decide +kernel
theorem dX4_ends_127 : decode cX4_ends 127 = .ok (.idiv, 1) := by decide +kernel
theorem dX4_ends_128 : decode cX4_ends 128 = .ok (.iastore, 1) := by decide +kernel
theorem dX4_ends_129 : decode cX4_ends 129 = .ok (.aload_n 0, 1) := by decide +kernel
theorem dX4_ends_130 : decode cX4_ends 130 = .ok (.iload_n 2, 1) := by decide +kernel
theorem dX4_ends_131 : decode cX4_ends 131 = .ok (.invokevirtual 174, 3) := by decide +kernel
theorem dX4_ends_134 : decode cX4_ends 134 = .ok (.ifCond .eq 16, 3) := by decide +kernel
theorem dX4_ends_137 : decode cX4_ends 137 = .ok (.aload_n 0, 1) := by decide +kernel
theorem dX4_ends_138 : decode cX4_ends 138 = .ok (.dup, 1) := by decide +kernel
theorem dX4_ends_139 : decode cX4_ends 139 = .ok (.getfield 88, 3) := by decide +kernel
theorem dX4_ends_142 : decode cX4_ends 142 = .ok (.iconst 1, 1) := by decide +kernel
theorem dX4_ends_143 : decode cX4_ends 143 = .ok (.iadd, 1) := by decide +kernel
theorem dX4_ends_144 : decode cX4_ends 144 = .ok (.putfield 88, 3) := by decide +kernel
theorem dX4_ends_147 : decode cX4_ends 147 = .ok (.goto 13, 3) := by decide +kernel
theorem dX4_ends_150 : decode cX4_ends 150 = .ok (.aload_n 0, 1) := by decide +kernel
theorem dX4_ends_151 : decode cX4_ends 151 = .ok (.dup, 1) := by decide +kernel
theorem dX4_ends_152 : decode cX4_ends 152 = .ok (.getfield 91, 3) := by decide +kernel
theorem dX4_ends_155 : decode cX4_ends 155 = .ok (.iconst 1, 1) := by decide +kernel
theorem dX4_ends_156 : decode cX4_ends 156 = .ok (.iadd, 1) := by decide +kernel
theorem dX4_ends_157 : decode cX4_ends 157 = .ok (.putfield 91, 3) := by decide +kernel
theorem dX4_ends_160 : decode cX4_ends 160 = .ok (.return_, 1) := by decide +kernel
theorem dX4_noteAt_0 : decode cX4_noteAt 0 = .ok (.aload_n 0, 1) := by decide +kernel
theorem dX4_noteAt_1 : decode cX4_noteAt 1 = .ok (.getfield 49, 3) := by decide +kernel
theorem dX4_noteAt_4 : decode cX4_noteAt 4 = .ok (.bipush 16, 2) := by decide +kernel
theorem dX4_noteAt_6 : decode cX4_noteAt 6 = .ok (.iload_n 1, 1) := by decide +kernel
theorem dX4_noteAt_7 : decode cX4_noteAt 7 = .ok (.imul, 1) := by decide +kernel
theorem dX4_noteAt_8 : decode cX4_noteAt 8 = .ok (.iload_n 2, 1) := by decide +kernel
theorem dX4_noteAt_9 : decode cX4_noteAt 9 = .ok (.iadd, 1) := by decide +kernel
theorem dX4_noteAt_10 : decode cX4_noteAt 10 = .ok (.iaload, 1) := by decide +kernel
theorem dX4_noteAt_11 : decode cX4_noteAt 11 = .ok (.ireturn, 1) := by decide +kernel
theorem dX4_direction_0 : decode cX4_direction 0 = .ok (.aload_n 0, 1) := by decide +kernel
theorem dX4_direction_1 : decode cX4_direction 1 = .ok (.getfield 28, 3) := by decide +kernel
theorem dX4_direction_4 : decode cX4_direction 4 = .ok (.aload_n 0, 1) := by decide +kernel
theorem dX4_direction_5 : decode cX4_direction 5 = .ok (.iload_n 1, 1) := by decide +kernel
theorem dX4_direction_6 : decode cX4_direction 6 = .ok (.iconst 0, 1) := by decide +kernel
theorem dX4_direction_7 : decode cX4_direction 7 = .ok (.invokevirtual 177, 3) := by decide +kernel
theorem dX4_direction_10 : decode cX4_direction 10 = .ok (.iaload, 1) := by decide +kernel
theorem dX4_direction_11 : decode cX4_direction 11 = .ok (.istore_n 2, 1) := by decide +kernel
theorem dX4_direction_12 : decode cX4_direction 12 = .ok (.sipush (-1000), 3) := by decide +kernel
theorem dX4_direction_15 : decode cX4_direction 15 = .ok (.istore_n 3, 1) := by decide +kernel
theorem dX4_direction_16 : decode cX4_direction 16 = .ok (.sipush 1000, 3) := by decide +kernel
theorem dX4_direction_19 : decode cX4_direction 19 = .ok (.istore 4, 2) := by decide +kernel
theorem dX4_direction_21 : decode cX4_direction 21 = .ok (.iconst 0, 1) := by decide +kernel
theorem dX4_direction_22 : decode cX4_direction 22 = .ok (.istore 5, 2) := by decide +kernel
theorem dX4_direction_24 : decode cX4_direction 24 = .ok (.iconst 0, 1) := by decide +kernel
theorem dX4_direction_25 : decode cX4_direction 25 = .ok (.istore 6, 2) := by decide +kernel
theorem dX4_direction_27 : decode cX4_direction 27 = .ok (.iconst 0, 1) := by decide +kernel
theorem dX4_direction_28 : decode cX4_direction 28 = .ok (.istore 7, 2) := by decide +kernel
theorem dX4_direction_30 : decode cX4_direction 30 = .ok (.iload 7, 2) := by decide +kernel
theorem dX4_direction_32 : decode cX4_direction 32 = .ok (.aload_n 0, 1) := by decide +kernel
theorem dX4_direction_33 : decode cX4_direction 33 = .ok (.getfield 46, 3) := by decide +kernel
theorem dX4_direction_36 : decode cX4_direction 36 = .ok (.iload_n 1, 1) := by decide +kernel
theorem dX4_direction_37 : decode cX4_direction 37 = .ok (.iaload, 1) := by decide +kernel
theorem dX4_direction_38 : decode cX4_direction 38 = .ok (.if_icmp .ge 97, 3) := by decide +kernel
theorem dX4_direction_41 : decode cX4_direction 41 = .ok (.aload_n 0, 1) := by decide +kernel
theorem dX4_direction_42 : decode cX4_direction 42 = .ok (.iload_n 1, 1) := by decide +kernel
theorem dX4_direction_43 : decode cX4_direction 43 = .ok (.iload 7, 2) := by decide +kernel
theorem dX4_direction_45 : decode cX4_direction 45 = .ok (.invokevirtual 177, 3) := by decide +kernel
theorem dX4_direction_48 : decode cX4_direction 48 = .ok (.istore 8, 2) := by decide +kernel
theorem dX4_direction_50 : decode cX4_direction 50 = .ok (.iload 6, 2) := by decide +kernel
theorem dX4_direction_52 : decode cX4_direction 52 = .ok (.ifCond .ne 14, 3) := by decide +kernel
theorem dX4_direction_55 : decode cX4_direction 55 = .ok (.aload_n 0, 1) := by decide +kernel
theorem dX4_direction_56 : decode cX4_direction 56 = .ok (.getfield 28, 3) := by decide +kernel
theorem dX4_direction_59 : decode cX4_direction 59 = .ok (.iload 8, 2) := by decide +kernel
theorem dX4_direction_61 : decode cX4_direction 61 = .ok (.iaload, 1) := by decide +kernel
theorem dX4_direction_62 : decode cX4_direction 62 = .ok (.iload_n 2, 1) := by decide +kernel
theorem dX4_direction_63 : decode cX4_direction 63 = .ok (.if_icmp .eq 7, 3) := by decide +kernel
theorem dX4_direction_66 : decode cX4_direction 66 = .ok (.iconst 1, 1) := by decide +kernel
theorem dX4_direction_67 : decode cX4_direction 67 = .ok (.goto 4, 3) := by decide +kernel
theorem dX4_direction_70 : decode cX4_direction 70 = .ok (.iconst 0, 1) := by decide +kernel
theorem dX4_direction_71 : decode cX4_direction 71 = .ok (.istore 6, 2) := by decide +kernel
theorem dX4_direction_73 : decode cX4_direction 73 = .ok (.aload_n 0, 1) := by decide +kernel
theorem dX4_direction_74 : decode cX4_direction 74 = .ok (.iload 8, 2) := by decide +kernel
theorem dX4_direction_76 : decode cX4_direction 76 = .ok (.invokevirtual 139, 3) := by decide +kernel
theorem dX4_direction_79 : decode cX4_direction 79 = .ok (.iload_n 3, 1) := by decide +kernel
theorem dX4_direction_80 : decode cX4_direction 80 = .ok (.if_icmp .le 12, 3) := by decide +kernel
theorem dX4_direction_83 : decode cX4_direction 83 = .ok (.aload_n 0, 1) := by decide +kernel
theorem dX4_direction_84 : decode cX4_direction 84 = .ok (.iload 8, 2) := by decide +kernel
theorem dX4_direction_86 : decode cX4_direction 86 = .ok (.invokevirtual 139, 3) := by decide +kernel
theorem dX4_direction_89 : decode cX4_direction 89 = .ok (.goto 4, 3) := by decide +kernel
theorem dX4_direction_92 : decode cX4_direction 92 = .ok (.iload_n 3, 1) := by decide +kernel
theorem dX4_direction_93 : decode cX4_direction 93 = .ok (.istore_n 3, 1) := by decide +kernel
theorem dX4_direction_94 : decode cX4_direction 94 = .ok (.aload_n 0, 1) := by decide +kernel
theorem dX4_direction_95 : decode cX4_direction 95 = .ok (.iload 8, 2) := by decide +kernel
theorem dX4_direction_97 : decode cX4_direction 97 = .ok (.invokevirtual 142, 3) := by decide +kernel
theorem dX4_direction_100 : decode cX4_direction 100 = .ok (.iload 4, 2) := by decide +kernel
theorem dX4_direction_102 : decode cX4_direction 102 = .ok (.if_icmp .ge 12, 3) := by decide +kernel
theorem dX4_direction_105 : decode cX4_direction 105 = .ok (.aload_n 0, 1) := by decide +kernel
theorem dX4_direction_106 : decode cX4_direction 106 = .ok (.iload 8, 2) := by decide +kernel
theorem dX4_direction_108 : decode cX4_direction 108 = .ok (.invokevirtual 142, 3) := by decide +kernel
theorem dX4_direction_111 : decode cX4_direction 111 = .ok (.goto 5, 3) := by decide +kernel
theorem dX4_direction_114 : decode cX4_direction 114 = .ok (.iload 4, 2) := by decide +kernel
theorem dX4_direction_116 : decode cX4_direction 116 = .ok (.istore 4, 2) := by decide +kernel
theorem dX4_direction_118 : decode cX4_direction 118 = .ok (.iload 5, 2) := by decide +kernel
theorem dX4_direction_120 : decode cX4_direction 120 = .ok (.aload_n 0, 1) := by decide +kernel
theorem dX4_direction_121 : decode cX4_direction 121 = .ok (.iload 8, 2) := by decide +kernel
theorem dX4_direction_123 : decode cX4_direction 123 = .ok (.invokevirtual 180, 3) := by decide +kernel
theorem dX4_direction_126 : decode cX4_direction 126 = .ok (.iadd, 1) := by decide +kernel
theorem dX4_direction_127 : decode cX4_direction 127 = .ok (.istore 5, 2) := by decide +kernel
theorem dX4_direction_129 : decode cX4_direction 129 = .ok (.iinc 7 1, 3) := by decide +kernel
theorem dX4_direction_132 : decode cX4_direction 132 = .ok (.goto (-102), 3) := by decide +kernel
theorem dX4_direction_135 : decode cX4_direction 135 = .ok (.iload 6, 2) := by decide +kernel
theorem dX4_direction_137 : decode cX4_direction 137 = .ok (.ifCond .eq 5, 3) := by decide +kernel
theorem dX4_direction_140 : decode cX4_direction 140 = .ok (.iconst 0, 1) := by decide +kernel
theorem dX4_direction_141 : decode cX4_direction 141 = .ok (.ireturn, 1) := by decide +kernel
theorem dX4_direction_142 : decode cX4_direction 142 = .ok (.aload_n 0, 1) := by decide +kernel
theorem dX4_direction_143 : decode cX4_direction 143 = .ok (.getfield 43, 3) := by decide +kernel
theorem dX4_direction_146 : decode cX4_direction 146 = .ok (.iconst 1, 1) := by decide +kernel
theorem dX4_direction_147 : decode cX4_direction 147 = .ok (.iaload, 1) := by decide +kernel
theorem dX4_direction_148 : decode cX4_direction 148 = .ok (.ifCond .le 14, 3) := by decide +kernel
theorem dX4_direction_151 : decode cX4_direction 151 = .ok (.aload_n 0, 1) := by decide +kernel
theorem dX4_direction_152 : decode cX4_direction 152 = .ok (.aload_n 0, 1) := by decide +kernel
theorem dX4_direction_153 : decode cX4_direction 153 = .ok (.iload_n 1, 1) := by decide +kernel
theorem dX4_direction_154 : decode cX4_direction 154 = .ok (.iconst 0, 1) := by decide +kernel
theorem dX4_direction_155 : decode cX4_direction 155 = .ok (.invokevirtual 177, 3) := by decide +kernel
theorem dX4_direction_158 : decode cX4_direction 158 = .ok (.invokevirtual 180, 3) := by decide +kernel
theorem dX4_direction_161 : decode cX4_direction 161 = .ok (.ireturn, 1) := by decide +kernel
theorem dX4_direction_162 : decode cX4_direction 162 = .ok (.iload_n 3, 1) := by decide +kernel
theorem dX4_direction_163 : decode cX4_direction 163 = .ok (.iload 4, 2) := by decide +kernel
theorem dX4_direction_165 : decode cX4_direction 165 = .ok (.iadd, 1) := by decide +kernel
theorem dX4_direction_166 : decode cX4_direction 166 = .ok (.ifCond .ge 7, 3) := by decide +kernel
theorem dX4_direction_169 : decode cX4_direction 169 = .ok (.iconst 1, 1) := by decide +kernel
theorem dX4_direction_170 : decode cX4_direction 170 = .ok (.goto 24, 3) := by decide +kernel
theorem dX4_direction_173 : decode cX4_direction 173 = .ok (.iload_n 3, 1) := by decide +kernel
theorem dX4_direction_174 : decode cX4_direction 174 = .ok (.iload 4, 2) := by decide +kernel
theorem dX4_direction_176 : decode cX4_direction 176 = .ok (.iadd, 1) := by decide +kernel
theorem dX4_direction_177 : decode cX4_direction 177 = .ok (.ifCond .le 7, 3) := by decide +kernel
theorem dX4_direction_180 : decode cX4_direction 180 = .ok (.iconst (-1), 1) := by decide +kernel
theorem dX4_direction_181 : decode cX4_direction 181 = .ok (.goto 13, 3) := by decide +kernel
theorem dX4_direction_184 : decode cX4_direction 184 = .ok (.iload 5, 2) := by decide +kernel
theorem dX4_direction_186 : decode cX4_direction 186 = .ok (.ifCond .le 7, 3) := by decide +kernel
theorem dX4_direction_189 : decode cX4_direction 189 = .ok (.iconst 1, 1) := by decide +kernel
theorem dX4_direction_190 : decode cX4_direction 190 = .ok (.goto 4, 3) := by decide +kernel
theorem dX4_direction_193 : decode cX4_direction 193 = .ok (.iconst (-1), 1) := by decide +kernel
theorem dX4_direction_194 : decode cX4_direction 194 = .ok (.ireturn, 1) := by decide +kernel
theorem dX4_upAt_0 : decode cX4_upAt 0 = .ok (.aload_n 0, 1) := by decide +kernel
theorem dX4_upAt_1 : decode cX4_upAt 1 = .ok (.getfield 52, 3) := by decide +kernel
theorem dX4_upAt_4 : decode cX4_upAt 4 = .ok (.iload_n 1, 1) := by decide +kernel
theorem dX4_upAt_5 : decode cX4_upAt 5 = .ok (.iaload, 1) := by decide +kernel
theorem dX4_upAt_6 : decode cX4_upAt 6 = .ok (.ifCond .eq 12, 3) := by decide +kernel
theorem dX4_upAt_9 : decode cX4_upAt 9 = .ok (.aload_n 0, 1) := by decide +kernel
theorem dX4_upAt_10 : decode cX4_upAt 10 = .ok (.getfield 52, 3) := by decide +kernel
theorem dX4_upAt_13 : decode cX4_upAt 13 = .ok (.iload_n 1, 1) := by decide +kernel
theorem dX4_upAt_14 : decode cX4_upAt 14 = .ok (.iaload, 1) := by decide +kernel
theorem dX4_upAt_15 : decode cX4_upAt 15 = .ok (.goto 23, 3) := by decide +kernel
theorem dX4_upAt_18 : decode cX4_upAt 18 = .ok (.aload_n 0, 1) := by decide +kernel
theorem dX4_upAt_19 : decode cX4_upAt 19 = .ok (.getfield 28, 3) := by decide +kernel
theorem dX4_upAt_22 : decode cX4_upAt 22 = .ok (.aload_n 0, 1) := by decide +kernel
theorem dX4_upAt_23 : decode cX4_upAt 23 = .ok (.iload_n 1, 1) := by decide +kernel
theorem dX4_upAt_24 : decode cX4_upAt 24 = .ok (.iload_n 2, 1) := by decide +kernel
theorem dX4_upAt_25 : decode cX4_upAt 25 = .ok (.invokevirtual 177, 3) := by decide +kernel
theorem dX4_upAt_28 : decode cX4_upAt 28 = .ok (.iaload, 1) := by decide +kernel
theorem dX4_upAt_29 : decode cX4_upAt 29 = .ok (.iconst 1, 1) := by decide +kernel
theorem dX4_upAt_30 : decode cX4_upAt 30 = .ok (.if_icmp .ne 7, 3) := by decide +kernel
theorem dX4_upAt_33 : decode cX4_upAt 33 = .ok (.iconst 1, 1) := by decide +kernel
theorem dX4_upAt_34 : decode cX4_upAt 34 = .ok (.goto 4, 3) := by decide +kernel
theorem dX4_upAt_37 : decode cX4_upAt 37 = .ok (.iconst (-1), 1) := by decide +kernel
theorem dX4_upAt_38 : decode cX4_upAt 38 = .ok (.ireturn, 1) := by decide +kernel
theorem dX4_nearAt_0 : decode cX4_nearAt 0 = .ok (.aload_n 0, 1) := by decide +kernel
theorem dX4_nearAt_1 : decode cX4_nearAt 1 = .ok (.aload_n 0, 1) := by decide +kernel
theorem dX4_nearAt_2 : decode cX4_nearAt 2 = .ok (.iload_n 1, 1) := by decide +kernel
theorem dX4_nearAt_3 : decode cX4_nearAt 3 = .ok (.iload_n 2, 1) := by decide +kernel
theorem dX4_nearAt_4 : decode cX4_nearAt 4 = .ok (.invokevirtual 177, 3) := by decide +kernel
theorem dX4_nearAt_7 : decode cX4_nearAt 7 = .ok (.aload_n 0, 1) := by decide +kernel
theorem dX4_nearAt_8 : decode cX4_nearAt 8 = .ok (.iload_n 1, 1) := by decide +kernel
theorem dX4_nearAt_9 : decode cX4_nearAt 9 = .ok (.iload_n 2, 1) := by decide +kernel
theorem dX4_nearAt_10 : decode cX4_nearAt 10 = .ok (.invokevirtual 183, 3) := by decide +kernel
theorem dX4_nearAt_13 : decode cX4_nearAt 13 = .ok (.invokevirtual 151, 3) := by decide +kernel
theorem dX4_nearAt_16 : decode cX4_nearAt 16 = .ok (.ireturn, 1) := by decide +kernel
theorem dX4_isFlat_0 : decode cX4_isFlat 0 = .ok (.aload_n 0, 1) := by decide +kernel
theorem dX4_isFlat_1 : decode cX4_isFlat 1 = .ok (.getfield 52, 3) := by decide +kernel
theorem dX4_isFlat_4 : decode cX4_isFlat 4 = .ok (.iload_n 1, 1) := by decide +kernel
theorem dX4_isFlat_5 : decode cX4_isFlat 5 = .ok (.iaload, 1) := by decide +kernel
theorem dX4_isFlat_6 : decode cX4_isFlat 6 = .ok (.ifCond .ne 5, 3) := by decide +kernel
theorem dX4_isFlat_9 : decode cX4_isFlat 9 = .ok (.iconst 0, 1) := by decide +kernel
theorem dX4_isFlat_10 : decode cX4_isFlat 10 = .ok (.ireturn, 1) := by decide +kernel
theorem dX4_isFlat_11 : decode cX4_isFlat 11 = .ok (.aload_n 0, 1) := by decide +kernel
theorem dX4_isFlat_12 : decode cX4_isFlat 12 = .ok (.getfield 52, 3) := by decide +kernel
theorem dX4_isFlat_15 : decode cX4_isFlat 15 = .ok (.iload_n 1, 1) := by decide +kernel
theorem dX4_isFlat_16 : decode cX4_isFlat 16 = .ok (.iaload, 1) := by decide +kernel
theorem dX4_isFlat_17 : decode cX4_isFlat 17 = .ok (.aload_n 0, 1) := by decide +kernel
theorem dX4_isFlat_18 : decode cX4_isFlat 18 = .ok (.iload_n 1, 1) := by decide +kernel
theorem dX4_isFlat_19 : decode cX4_isFlat 19 = .ok (.iconst 0, 1) := by decide +kernel
theorem dX4_isFlat_20 : decode cX4_isFlat 20 = .ok (.invokevirtual 171, 3) := by decide +kernel
theorem dX4_isFlat_23 : decode cX4_isFlat 23 = .ok (.imul, 1) := by decide +kernel
theorem dX4_isFlat_24 : decode cX4_isFlat 24 = .ok (.istore_n 2, 1) := by decide +kernel
theorem dX4_isFlat_25 : decode cX4_isFlat 25 = .ok (.aload_n 0, 1) := by decide +kernel
theorem dX4_isFlat_26 : decode cX4_isFlat 26 = .ok (.getfield 52, 3) := by decide +kernel
theorem dX4_isFlat_29 : decode cX4_isFlat 29 = .ok (.iload_n 1, 1) := by decide +kernel
theorem dX4_isFlat_30 : decode cX4_isFlat 30 = .ok (.iaload, 1) := by decide +kernel
theorem dX4_isFlat_31 : decode cX4_isFlat 31 = .ok (.aload_n 0, 1) := by decide +kernel
theorem dX4_isFlat_32 : decode cX4_isFlat 32 = .ok (.iload_n 1, 1) := by decide +kernel
theorem dX4_isFlat_33 : decode cX4_isFlat 33 = .ok (.aload_n 0, 1) := by decide +kernel
theorem dX4_isFlat_34 : decode cX4_isFlat 34 = .ok (.getfield 46, 3) := by decide +kernel
theorem dX4_isFlat_37 : decode cX4_isFlat 37 = .ok (.iload_n 1, 1) := by decide +kernel
theorem dX4_isFlat_38 : decode cX4_isFlat 38 = .ok (.iaload, 1) := by decide +kernel
theorem dX4_isFlat_39 : decode cX4_isFlat 39 = .ok (.iconst 1, 1) := by decide +kernel
theorem dX4_isFlat_40 : decode cX4_isFlat 40 = .ok (.isub, 1) := by decide +kernel
theorem dX4_isFlat_41 : decode cX4_isFlat 41 = .ok (.invokevirtual 171, 3) := by decide +kernel
theorem dX4_isFlat_44 : decode cX4_isFlat 44 = .ok (.imul, 1) := by decide +kernel
theorem dX4_isFlat_45 : decode cX4_isFlat 45 = .ok (.istore_n 3, 1) := by decide +kernel
theorem dX4_isFlat_46 : decode cX4_isFlat 46 = .ok (.iload_n 2, 1) := by decide +kernel
theorem dX4_isFlat_47 : decode cX4_isFlat 47 = .ok (.iload_n 3, 1) := by decide +kernel
theorem dX4_isFlat_48 : decode cX4_isFlat 48 = .ok (.if_icmp .ne 7, 3) := by decide +kernel
theorem dX4_isFlat_51 : decode cX4_isFlat 51 = .ok (.iconst 1, 1) := by decide +kernel
theorem dX4_isFlat_52 : decode cX4_isFlat 52 = .ok (.goto 4, 3) := by decide +kernel
theorem dX4_isFlat_55 : decode cX4_isFlat 55 = .ok (.iconst 0, 1) := by decide +kernel
theorem dX4_isFlat_56 : decode cX4_isFlat 56 = .ok (.istore 4, 2) := by decide +kernel
theorem dX4_isFlat_58 : decode cX4_isFlat 58 = .ok (.iconst 1, 1) := by decide +kernel
theorem dX4_isFlat_59 : decode cX4_isFlat 59 = .ok (.istore 5, 2) := by decide +kernel
theorem dX4_isFlat_61 : decode cX4_isFlat 61 = .ok (.iload 5, 2) := by decide +kernel
theorem dX4_isFlat_63 : decode cX4_isFlat 63 = .ok (.aload_n 0, 1) := by decide +kernel
theorem dX4_isFlat_64 : decode cX4_isFlat 64 = .ok (.getfield 46, 3) := by decide +kernel
theorem dX4_isFlat_67 : decode cX4_isFlat 67 = .ok (.iload_n 1, 1) := by decide +kernel
theorem dX4_isFlat_68 : decode cX4_isFlat 68 = .ok (.iaload, 1) := by decide +kernel
theorem dX4_isFlat_69 : decode cX4_isFlat 69 = .ok (.iconst 1, 1) := by decide +kernel
theorem dX4_isFlat_70 : decode cX4_isFlat 70 = .ok (.isub, 1) := by decide +kernel
theorem dX4_isFlat_71 : decode cX4_isFlat 71 = .ok (.if_icmp .ge 49, 3) := by decide +kernel
theorem dX4_isFlat_74 : decode cX4_isFlat 74 = .ok (.aload_n 0, 1) := by decide +kernel
theorem dX4_isFlat_75 : decode cX4_isFlat 75 = .ok (.getfield 52, 3) := by decide +kernel
theorem dX4_isFlat_78 : decode cX4_isFlat 78 = .ok (.iload_n 1, 1) := by decide +kernel
theorem dX4_isFlat_79 : decode cX4_isFlat 79 = .ok (.iaload, 1) := by decide +kernel
theorem dX4_isFlat_80 : decode cX4_isFlat 80 = .ok (.aload_n 0, 1) := by decide +kernel
theorem dX4_isFlat_81 : decode cX4_isFlat 81 = .ok (.iload_n 1, 1) := by decide +kernel
theorem dX4_isFlat_82 : decode cX4_isFlat 82 = .ok (.iload 5, 2) := by decide +kernel
theorem dX4_isFlat_84 : decode cX4_isFlat 84 = .ok (.invokevirtual 171, 3) := by decide +kernel
theorem dX4_isFlat_87 : decode cX4_isFlat 87 = .ok (.imul, 1) := by decide +kernel
theorem dX4_isFlat_88 : decode cX4_isFlat 88 = .ok (.istore 6, 2) := by decide +kernel
theorem dX4_isFlat_90 : decode cX4_isFlat 90 = .ok (.iload 4, 2) := by decide +kernel
theorem dX4_isFlat_92 : decode cX4_isFlat 92 = .ok (.ifCond .ne 15, 3) := by decide +kernel
theorem dX4_isFlat_95 : decode cX4_isFlat 95 = .ok (.iload 6, 2) := by decide +kernel
theorem dX4_isFlat_97 : decode cX4_isFlat 97 = .ok (.iload_n 2, 1) := by decide +kernel
theorem dX4_isFlat_98 : decode cX4_isFlat 98 = .ok (.if_icmp .le 13, 3) := by decide +kernel
theorem dX4_isFlat_101 : decode cX4_isFlat 101 = .ok (.iload 6, 2) := by decide +kernel
theorem dX4_isFlat_103 : decode cX4_isFlat 103 = .ok (.iload_n 3, 1) := by decide +kernel
theorem dX4_isFlat_104 : decode cX4_isFlat 104 = .ok (.if_icmp .le 7, 3) := by decide +kernel
theorem dX4_isFlat_107 : decode cX4_isFlat 107 = .ok (.iconst 1, 1) := by decide +kernel
theorem dX4_isFlat_108 : decode cX4_isFlat 108 = .ok (.goto 4, 3) := by decide +kernel
theorem dX4_isFlat_111 : decode cX4_isFlat 111 = .ok (.iconst 0, 1) := by decide +kernel
theorem dX4_isFlat_112 : decode cX4_isFlat 112 = .ok (.istore 4, 2) := by decide +kernel
theorem dX4_isFlat_114 : decode cX4_isFlat 114 = .ok (.iinc 5 1, 3) := by decide +kernel
theorem dX4_isFlat_117 : decode cX4_isFlat 117 = .ok (.goto (-56), 3) := by decide +kernel
theorem dX4_isFlat_120 : decode cX4_isFlat 120 = .ok (.iload 4, 2) := by decide +kernel
theorem dX4_isFlat_122 : decode cX4_isFlat 122 = .ok (.ireturn, 1) := by decide +kernel
theorem dX4_heightAt_0 : decode cX4_heightAt 0 = .ok (.iload_n 2, 1) := by decide +kernel
theorem dX4_heightAt_1 : decode cX4_heightAt 1 = .ok (.iload_n 3, 1) := by decide +kernel
theorem dX4_heightAt_2 : decode cX4_heightAt 2 = .ok (.iload 4, 2) := by decide +kernel
theorem dX4_heightAt_4 : decode cX4_heightAt 4 = .ok (.imul, 1) := by decide +kernel
theorem dX4_heightAt_5 : decode cX4_heightAt 5 = .ok (.aload_n 0, 1) := by decide +kernel
theorem dX4_heightAt_6 : decode cX4_heightAt 6 = .ok (.getfield 46, 3) := by decide +kernel
theorem dX4_heightAt_9 : decode cX4_heightAt 9 = .ok (.iload_n 1, 1) := by decide +kernel
theorem dX4_heightAt_10 : decode cX4_heightAt 10 = .ok (.iaload, 1) := by decide +kernel
theorem dX4_heightAt_11 : decode cX4_heightAt 11 = .ok (.iconst 1, 1) := by decide +kernel
theorem dX4_heightAt_12 : decode cX4_heightAt 12 = .ok (.isub, 1) := by decide +kernel
theorem dX4_heightAt_13 : decode cX4_heightAt 13 = .ok (.invokestatic 186, 3) := by decide +kernel
theorem dX4_heightAt_16 : decode cX4_heightAt 16 = .ok (.iadd, 1) := by decide +kernel
theorem dX4_heightAt_17 : decode cX4_heightAt 17 = .ok (.ireturn, 1) := by decide +kernel
theorem dX4_lengthAt_0 : decode cX4_lengthAt 0 = .ok (.aload_n 0, 1) := by decide +kernel
theorem dX4_lengthAt_1 : decode cX4_lengthAt 1 = .ok (.iload_n 1, 1) := by decide +kernel
theorem dX4_lengthAt_2 : decode cX4_lengthAt 2 = .ok (.iload 4, 2) := by decide +kernel
theorem dX4_lengthAt_4 : decode cX4_lengthAt 4 = .ok (.invokevirtual 183, 3) := by decide +kernel
theorem dX4_lengthAt_7 : decode cX4_lengthAt 7 = .ok (.aload_n 0, 1) := by decide +kernel
theorem dX4_lengthAt_8 : decode cX4_lengthAt 8 = .ok (.iload_n 1, 1) := by decide +kernel
theorem dX4_lengthAt_9 : decode cX4_lengthAt 9 = .ok (.iload_n 2, 1) := by decide +kernel
theorem dX4_lengthAt_10 : decode cX4_lengthAt 10 = .ok (.iload_n 3, 1) := by decide +kernel
theorem dX4_lengthAt_11 : decode cX4_lengthAt 11 = .ok (.iload 4, 2) := by decide +kernel
theorem dX4_lengthAt_13 : decode cX4_lengthAt 13 = .ok (.invokevirtual 189, 3) := by decide +kernel
theorem dX4_lengthAt_16 : decode cX4_lengthAt 16 = .ok (.aload_n 0, 1) := by decide +kernel
theorem dX4_lengthAt_17 : decode cX4_lengthAt 17 = .ok (.iload_n 1, 1) := by decide +kernel
theorem dX4_lengthAt_18 : decode cX4_lengthAt 18 = .ok (.iload 4, 2) := by decide +kernel
theorem dX4_lengthAt_20 : decode cX4_lengthAt 20 = .ok (.invokevirtual 171, 3) := by decide +kernel
theorem dX4_lengthAt_23 : decode cX4_lengthAt 23 = .ok (.isub, 1) := by decide +kernel
theorem dX4_lengthAt_24 : decode cX4_lengthAt 24 = .ok (.imul, 1) := by decide +kernel
theorem dX4_lengthAt_25 : decode cX4_lengthAt 25 = .ok (.ireturn, 1) := by decide +kernel
set_option maxRecDepth 20000 in
theorem bkX4_want_0 {w : zW} {Γ : zC} {N S : Nat} {Rt : zR} (X : zm_X w Γ mX4_want N S Rt) : ∀ lv st h, (zi_push (.int 14) (zi_lda 0 (zi_ldi 1 (zi_cv w mX4_more 4 2 N S (zi_b (fun x y => x + y) (zi_sti 4 (zi_ldi 2 (zi_if (fun x => x ≤ 0) (zi_lda 0 (zi_ldi 1 (zi_ldi 2 (zi_cv w mX4_near 4 3 N S (zi_lda 0 (zi_gf 4 11 (zi_ldi 1 (zi_ia 0 (zi_cs w mX4_middle 1 N S (zi_b (fun x y => x - y) (zm_V w Γ 49))))))))))) (zi_lda 0 (zi_gf 4 11 (zi_ldi 1 (zi_ia 0 (zi_cs w mX4_middle 1 N S (zi_lda 0 (zi_ldi 1 (zi_ldi 2 (zi_cv w mX4_near 4 3 N S (zi_b (fun x y => x - y) (zm_V w Γ 49))))))))))))))))))) lv st h → zm_V w Γ 0 lv st h := (zs_bipush X (by decide) dX4_want_0 (zs_aload_n X rfl dX4_want_2 (zs_iload_n X rfl dX4_want_3 (zs_cv X (M' := mX4_more) (n := 1) kd_X4_more ki_X4 (by decide +kernel) (by decide) kw_X4_148 rfl ks_X4_more kl_X4_more dX4_want_4 (zs_iadd X dX4_want_7 (zs_istore X (by decide) dX4_want_8 (zs_iload_n X rfl dX4_want_10 (zs_if_le X dX4_want_11 (by decide) (zs_aload_n X rfl dX4_want_33 (zs_iload_n X rfl dX4_want_34 (zs_iload_n X rfl dX4_want_35 (zs_cv X (M' := mX4_near) (n := 2) kd_X4_near ki_X4 (by decide +kernel) (by decide) kw_X4_151 rfl ks_X4_near kl_X4_near dX4_want_36 (zs_aload_n X rfl dX4_want_39 (zs_gf X (ci := 4) rfl (by decide) zm_in4 kw_X4_28 dX4_want_40 (zs_iload_n X rfl dX4_want_43 (zs_iald X (fun _ => rfl) dX4_want_44 (zs_cs X (M' := mX4_middle) (n := 1) kd_X4_middle ki_X4 (by decide +kernel) (by decide) kw_X4_135 ks_X4_middle dX4_want_45 (zs_isub X dX4_want_48 (fun _ _ _ h => h))))))))))) (zs_aload_n X rfl dX4_want_14 (zs_gf X (ci := 4) rfl (by decide) zm_in4 kw_X4_28 dX4_want_15 (zs_iload_n X rfl dX4_want_18 (zs_iald X (fun _ => rfl) dX4_want_19 (zs_cs X (M' := mX4_middle) (n := 1) kd_X4_middle ki_X4 (by decide +kernel) (by decide) kw_X4_135 ks_X4_middle dX4_want_20 (zs_aload_n X rfl dX4_want_23 (zs_iload_n X rfl dX4_want_24 (zs_iload_n X rfl dX4_want_25 (zs_cv X (M' := mX4_near) (n := 2) kd_X4_near ki_X4 (by decide +kernel) (by decide) kw_X4_151 rfl ks_X4_near kl_X4_near dX4_want_26 (zs_isub X dX4_want_29 (zs_goto X dX4_want_30 (by decide) (fun _ _ _ h => h))))))))))))))))))))
set_option maxRecDepth 20000 in
theorem bkX4_want_49 {w : zW} {Γ : zC} {N S : Nat} {Rt : zR} (X : zm_X w Γ mX4_want N S Rt) : ∀ lv st h, (zi_sti 5 (zi_ldi 3 (zi_if (fun x => x = 0) (zi_ldi 5 (zi_ldi 4 (zi_ic (fun x y => x ≤ y) (zi_ldi 4 (zi_iret Rt)) (zi_ldi 5 (zi_iret Rt))))) (zi_ldi 4 (zi_iret Rt))))) lv st h → zm_V w Γ 49 lv st h := (zs_istore X (by decide) dX4_want_49 (zs_iload_n X rfl dX4_want_51 (zs_if_ne X dX4_want_52 (by decide) (zs_iload X dX4_want_67 (zs_iret X rfl dX4_want_69)) (zs_iload X dX4_want_55 (zs_iload X dX4_want_57 (zs_icmp_le X dX4_want_59 (by decide) (zs_iload X dX4_want_67 (zs_iret X rfl dX4_want_69)) (zs_iload X dX4_want_62 (zs_goto X dX4_want_64 (by decide) (zs_iret X rfl dX4_want_69)))))))))
set_option maxRecDepth 20000 in
theorem bkX4_alone_0 {w : zW} {Γ : zC} {N S : Nat} {Rt : zR} (X : zm_X w Γ mX4_alone N S Rt) : ∀ lv st h, (zi_lda 0 (zi_gf 4 16 (zi_push (.int 1) (zi_ia 0 (zi_if (fun x => x ≤ 0) (zi_lda 0 (zi_ldi 1 (zi_cv w mX4_highest 4 2 N S (zi_lda 0 (zi_ldi 1 (zi_cv w mX4_lowest 4 2 N S (zi_b (fun x y => x + y) (zi_if (fun x => 0 ≤ x) (zi_push (.int (-1)) (zi_iret Rt)) (zi_push (.int 1) (zi_iret Rt)))))))))) (zi_lda 0 (zi_gf 4 7 (zi_ldi 1 (zi_ia 0 (zi_if (fun x => x = 0) (zi_push (.int 1) (zi_iret Rt)) (zi_push (.int (-1)) (zi_iret Rt)))))))))))) lv st h → zm_V w Γ 0 lv st h := (zs_aload_n X rfl dX4_alone_0 (zs_gf X (ci := 4) rfl (by decide) zm_in4 kw_X4_43 dX4_alone_1 (zs_iconst X (by decide) dX4_alone_4 (zs_iald X (fun _ => rfl) dX4_alone_5 (zs_if_le X dX4_alone_6 (by decide) (zs_aload_n X rfl dX4_alone_24 (zs_iload_n X rfl dX4_alone_25 (zs_cv X (M' := mX4_highest) (n := 1) kd_X4_highest ki_X4 (by decide +kernel) (by decide) kw_X4_139 rfl ks_X4_highest kl_X4_highest dX4_alone_26 (zs_aload_n X rfl dX4_alone_29 (zs_iload_n X rfl dX4_alone_30 (zs_cv X (M' := mX4_lowest) (n := 1) kd_X4_lowest ki_X4 (by decide +kernel) (by decide) kw_X4_142 rfl ks_X4_lowest kl_X4_lowest dX4_alone_31 (zs_iadd X dX4_alone_34 (zs_if_ge X dX4_alone_35 (by decide) (zs_iconst X (by decide) dX4_alone_42 (zs_iret X rfl dX4_alone_43)) (zs_iconst X (by decide) dX4_alone_38 (zs_goto X dX4_alone_39 (by decide) (zs_iret X rfl dX4_alone_43))))))))))) (zs_aload_n X rfl dX4_alone_9 (zs_gf X (ci := 4) rfl (by decide) zm_in4 kw_X4_16 dX4_alone_10 (zs_iload_n X rfl dX4_alone_13 (zs_iald X (fun _ => rfl) dX4_alone_14 (zs_if_ne X dX4_alone_15 (by decide) (zs_iconst X (by decide) dX4_alone_22 (zs_iret X rfl dX4_alone_23)) (zs_iconst X (by decide) dX4_alone_18 (zs_goto X dX4_alone_19 (by decide) (zs_iret X rfl dX4_alone_23)))))))))))))
set_option maxRecDepth 20000 in
theorem bkX4_isShort_0 {w : zW} {Γ : zC} {N S : Nat} {Rt : zR} (X : zm_X w Γ mX4_isShort N S Rt) : ∀ lv st h, (zi_ldi 0 (zi_push (.int 3) (zi_ic (fun x y => x < y) (zi_push (.int 0) (zi_zret Rt)) (zi_push (.int 1) (zi_zret Rt))))) lv st h → zm_V w Γ 0 lv st h := (zs_iload_n X rfl dX4_isShort_0 (zs_iconst X (by decide) dX4_isShort_1 (zs_icmp_lt X dX4_isShort_2 (by decide) (zs_iconst X (by decide) dX4_isShort_9 (zs_zret X rfl dX4_isShort_10)) (zs_iconst X (by decide) dX4_isShort_5 (zs_goto X dX4_isShort_6 (by decide) (zs_zret X rfl dX4_isShort_10))))))
set_option maxRecDepth 20000 in
theorem bkX4_group_0 {w : zW} {Γ : zC} {N S : Nat} {Rt : zR} (X : zm_X w Γ mX4_group N S Rt) : ∀ lv st h, (zi_lda 0 (zi_push (.int 0) (zi_pf 4 0 .int (zi_lda 0 (zi_push (.int 0) (zi_pf 4 18 .int (zi_lda 0 (zi_push (.int 0) (zi_pf 4 19 .int (zi_push (.int 0) (zi_sti 1 (zm_V w Γ 17)))))))))))) lv st h → zm_V w Γ 0 lv st h := (zs_aload_n X rfl dX4_group_0 (zs_iconst X (by decide) dX4_group_1 (zs_pf X (ci := 4) rfl (by decide) zm_in4 kw_X4_77 tyX4 tyX4_ok nmX4 rfl rfl dX4_group_2 (zs_aload_n X rfl dX4_group_5 (zs_iconst X (by decide) dX4_group_6 (zs_pf X (ci := 4) rfl (by decide) zm_in4 kw_X4_88 tyX4 tyX4_ok nmX4 rfl rfl dX4_group_7 (zs_aload_n X rfl dX4_group_10 (zs_iconst X (by decide) dX4_group_11 (zs_pf X (ci := 4) rfl (by decide) zm_in4 kw_X4_91 tyX4 tyX4_ok nmX4 rfl rfl dX4_group_12 (zs_iconst X (by decide) dX4_group_15 (zs_istore_n X rfl (by decide) dX4_group_16 (fun _ _ _ h => h))))))))))))
set_option maxRecDepth 20000 in
theorem bkX4_group_17 {w : zW} {Γ : zC} {N S : Nat} {Rt : zR} (X : zm_X w Γ mX4_group N S Rt) : ∀ lv st h, (zi_ldi 1 (zi_push (.int 2) (zi_ic (fun x y => y ≤ x) (zi_lda 0 (zi_gf 4 18 (zi_iret Rt))) (zi_push (.int (-1)) (zi_sti 2 (zi_push (.int 0) (zi_sti 3 (zi_push (.int 0) (zi_sti 4 (zi_push (.int 0) (zi_sti 5 (zi_push (.int 0) (zi_sti 6 (zm_V w Γ 35)))))))))))))) lv st h → zm_V w Γ 17 lv st h := (zs_iload_n X rfl dX4_group_17 (zs_iconst X (by decide) dX4_group_18 (zs_icmp_ge X dX4_group_19 (by decide) (zs_aload_n X rfl dX4_group_321 (zs_gf X (ci := 4) rfl (by decide) zm_in4 kw_X4_88 dX4_group_322 (zs_iret X rfl dX4_group_325))) (zs_iconst X (by decide) dX4_group_22 (zs_istore_n X rfl (by decide) dX4_group_23 (zs_iconst X (by decide) dX4_group_24 (zs_istore_n X rfl (by decide) dX4_group_25 (zs_iconst X (by decide) dX4_group_26 (zs_istore X (by decide) dX4_group_27 (zs_iconst X (by decide) dX4_group_29 (zs_istore X (by decide) dX4_group_30 (zs_iconst X (by decide) dX4_group_32 (zs_istore X (by decide) dX4_group_33 (fun _ _ _ h => h))))))))))))))
set_option maxRecDepth 20000 in
theorem bkX4_group_35 {w : zW} {Γ : zC} {N S : Nat} {Rt : zR} (X : zm_X w Γ mX4_group N S Rt) : ∀ lv st h, (zi_ldi 6 (zi_lda 0 (zi_gf 4 5 (zi_ic (fun x y => y ≤ x) (zi_lda 0 (zi_ldi 5 (zi_cv w mX4_ends 4 2 N S (zi_inc 1 1 (zm_V w Γ 17))))) (zi_lda 0 (zi_gf 4 7 (zi_ldi 6 (zi_ia 0 (zi_ldi 1 (zi_ic (fun x y => x = y) (zi_lda 0 (zi_gf 4 6 (zi_ldi 6 (zi_ia 0 (zi_push (.int 1) (zi_ic (fun x y => x = y) (zi_push (.int 1) (zi_sti 3 (zi_ldi 4 (zi_if (fun x => x = 0) (zi_lda 0 (zi_gf 4 8 (zi_ldi 6 (zi_ia 0 (zi_cs w mX4_isShort 1 N S (zi_if (fun x => x = 0) (zi_push (.int 1) (zi_sti 4 (zi_inc 6 1 (zm_V w Γ 35)))) (zi_push (.int 0) (zi_sti 4 (zi_inc 6 1 (zm_V w Γ 35)))))))))) (zi_push (.int 1) (zi_sti 4 (zi_inc 6 1 (zm_V w Γ 35)))))))) (zi_ldi 2 (zi_if (fun x => x < 0) (zm_V w Γ 166) (zi_lda 0 (zi_gf 4 8 (zi_ldi 6 (zi_ia 0 (zi_cs w mX4_isShort 1 N S (zi_if (fun x => x = 0) (zm_V w Γ 166) (zi_lda 0 (zi_gf 4 8 (zi_ldi 2 (zi_ia 0 (zi_cs w mX4_isShort 1 N S (zi_if (fun x => x = 0) (zm_V w Γ 166) (zi_ldi 3 (zi_if (fun x => x = 0) (zm_V w Γ 144) (zi_lda 0 (zi_gf 4 17 (zi_if (fun x => x = 0) (zm_V w Γ 166) (zi_ldi 4 (zi_if (fun x => x = 0) (zm_V w Γ 144) (zm_V w Γ 166)))))))))))))))))))))))))))) (zi_inc 6 1 (zm_V w Γ 35)))))))))))) lv st h → zm_V w Γ 35 lv st h := (zs_iload X dX4_group_35 (zs_aload_n X rfl dX4_group_37 (zs_gf X (ci := 4) rfl (by decide) zm_in4 kw_X4_81 dX4_group_38 (zs_icmp_ge X dX4_group_41 (by decide) (zs_aload_n X rfl dX4_group_309 (zs_iload X dX4_group_310 (zs_cv X (M' := mX4_ends) (n := 1) kd_X4_ends ki_X4 (by decide +kernel) (by decide) kw_X4_161 rfl ks_X4_ends kl_X4_ends dX4_group_312 (zs_iinc X (by decide) (by decide) dX4_group_315 (zs_goto X dX4_group_318 (by decide) (fun _ _ _ h => h)))))) (zs_aload_n X rfl dX4_group_44 (zs_gf X (ci := 4) rfl (by decide) zm_in4 kw_X4_16 dX4_group_45 (zs_iload X dX4_group_48 (zs_iald X (fun _ => rfl) dX4_group_50 (zs_iload_n X rfl dX4_group_51 (zs_icmp_eq X dX4_group_52 (by decide) (zs_aload_n X rfl dX4_group_58 (zs_gf X (ci := 4) rfl (by decide) zm_in4 kw_X4_13 dX4_group_59 (zs_iload X dX4_group_62 (zs_iald X (fun _ => rfl) dX4_group_64 (zs_iconst X (by decide) dX4_group_65 (zs_icmp_ne X dX4_group_66 (by decide) (zs_iload_n X rfl dX4_group_99 (zs_if_lt X dX4_group_100 (by decide) (fun _ _ _ h => h) (zs_aload_n X rfl dX4_group_103 (zs_gf X (ci := 4) rfl (by decide) zm_in4 kw_X4_19 dX4_group_104 (zs_iload X dX4_group_107 (zs_iald X (fun _ => rfl) dX4_group_109 (zs_cs X (M' := mX4_isShort) (n := 1) kd_X4_isShort ki_X4 (by decide +kernel) (by decide) kw_X4_155 ks_X4_isShort dX4_group_110 (zs_if_eq X dX4_group_113 (by decide) (fun _ _ _ h => h) (zs_aload_n X rfl dX4_group_116 (zs_gf X (ci := 4) rfl (by decide) zm_in4 kw_X4_19 dX4_group_117 (zs_iload_n X rfl dX4_group_120 (zs_iald X (fun _ => rfl) dX4_group_121 (zs_cs X (M' := mX4_isShort) (n := 1) kd_X4_isShort ki_X4 (by decide +kernel) (by decide) kw_X4_155 ks_X4_isShort dX4_group_122 (zs_if_eq X dX4_group_125 (by decide) (fun _ _ _ h => h) (zs_iload_n X rfl dX4_group_128 (zs_if_eq X dX4_group_129 (by decide) (fun _ _ _ h => h) (zs_aload_n X rfl dX4_group_132 (zs_gf X (ci := 4) rfl (by decide) zm_in4 kw_X4_84 dX4_group_133 (zs_if_eq X dX4_group_136 (by decide) (fun _ _ _ h => h) (zs_iload X dX4_group_139 (zs_if_ne X dX4_group_141 (by decide) (fun _ _ _ h => h) (fun _ _ _ h => h)))))))))))))))))))))) (zs_iconst X (by decide) dX4_group_69 (zs_istore_n X rfl (by decide) dX4_group_70 (zs_iload X dX4_group_71 (zs_if_ne X dX4_group_73 (by decide) (zs_iconst X (by decide) dX4_group_89 (zs_goto X dX4_group_90 (by decide) (zs_istore X (by decide) dX4_group_94 (zs_goto X dX4_group_96 (by decide) (zs_iinc X (by decide) (by decide) dX4_group_303 (zs_goto X dX4_group_306 (by decide) (fun _ _ _ h => h))))))) (zs_aload_n X rfl dX4_group_76 (zs_gf X (ci := 4) rfl (by decide) zm_in4 kw_X4_19 dX4_group_77 (zs_iload X dX4_group_80 (zs_iald X (fun _ => rfl) dX4_group_82 (zs_cs X (M' := mX4_isShort) (n := 1) kd_X4_isShort ki_X4 (by decide +kernel) (by decide) kw_X4_155 ks_X4_isShort dX4_group_83 (zs_if_ne X dX4_group_86 (by decide) (zs_iconst X (by decide) dX4_group_93 (zs_istore X (by decide) dX4_group_94 (zs_goto X dX4_group_96 (by decide) (zs_iinc X (by decide) (by decide) dX4_group_303 (zs_goto X dX4_group_306 (by decide) (fun _ _ _ h => h)))))) (zs_iconst X (by decide) dX4_group_89 (zs_goto X dX4_group_90 (by decide) (zs_istore X (by decide) dX4_group_94 (zs_goto X dX4_group_96 (by decide) (zs_iinc X (by decide) (by decide) dX4_group_303 (zs_goto X dX4_group_306 (by decide) (fun _ _ _ h => h))))))))))))))))))))))) (zs_goto X dX4_group_55 (by decide) (zs_iinc X (by decide) (by decide) dX4_group_303 (zs_goto X dX4_group_306 (by decide) (fun _ _ _ h => h))))))))))))))
set_option maxRecDepth 20000 in
theorem bkX4_group_144 {w : zW} {Γ : zC} {N S : Nat} {Rt : zR} (X : zm_X w Γ mX4_group N S Rt) : ∀ lv st h, (zi_lda 0 (zi_gf 4 12 (zi_ldi 6 (zi_ia 0 (zi_push (.int 1) (zi_ic (fun x y => x = y) (zm_V w Γ 166) (zi_ldi 5 (zi_push (.int 16) (zi_ic (fun x y => y ≤ x) (zm_V w Γ 166) (zi_push (.int 1) (zm_V w Γ 167))))))))))) lv st h → zm_V w Γ 144 lv st h := (zs_aload_n X rfl dX4_group_144 (zs_gf X (ci := 4) rfl (by decide) zm_in4 kw_X4_31 dX4_group_145 (zs_iload X dX4_group_148 (zs_iald X (fun _ => rfl) dX4_group_150 (zs_iconst X (by decide) dX4_group_151 (zs_icmp_eq X dX4_group_152 (by decide) (fun _ _ _ h => h) (zs_iload X dX4_group_155 (zs_bipush X (by decide) dX4_group_157 (zs_icmp_ge X dX4_group_159 (by decide) (fun _ _ _ h => h) (zs_iconst X (by decide) dX4_group_162 (zs_goto X dX4_group_163 (by decide) (fun _ _ _ h => h))))))))))))
set_option maxRecDepth 20000 in
theorem bkX4_group_166 {w : zW} {Γ : zC} {N S : Nat} {Rt : zR} (X : zm_X w Γ mX4_group N S Rt) : ∀ lv st h, (zi_push (.int 0) (zm_V w Γ 167)) lv st h → zm_V w Γ 166 lv st h := (zs_iconst X (by decide) dX4_group_166 (fun _ _ _ h => h))
set_option maxRecDepth 20000 in
theorem bkX4_group_167 {w : zW} {Γ : zC} {N S : Nat} {Rt : zR} (X : zm_X w Γ mX4_group N S Rt) : ∀ lv st h, (zi_sti 7 (zi_ldi 2 (zi_if (fun x => x < 0) (zm_V w Γ 217) (zi_lda 0 (zi_gf 4 9 (zi_ldi 6 (zi_ia 0 (zi_lda 0 (zi_gf 4 2 (zi_d (fun x y => x / y) (zi_lda 0 (zi_gf 4 9 (zi_ldi 2 (zi_ia 0 (zi_lda 0 (zi_gf 4 2 (zi_d (fun x y => x / y) (zi_ic (fun x y => x = y) (zi_lda 0 (zi_ldi 6 (zi_cv w mX4_groupOf 4 2 N S (zi_lda 0 (zi_ldi 2 (zi_cv w mX4_groupOf 4 2 N S (zi_ic (fun x y => x = y) (zi_push (.int 1) (zm_V w Γ 218)) (zm_V w Γ 217)))))))) (zm_V w Γ 217))))))))))))))))))) lv st h → zm_V w Γ 167 lv st h := (zs_istore X (by decide) dX4_group_167 (zs_iload_n X rfl dX4_group_169 (zs_if_lt X dX4_group_170 (by decide) (fun _ _ _ h => h) (zs_aload_n X rfl dX4_group_173 (zs_gf X (ci := 4) rfl (by decide) zm_in4 kw_X4_22 dX4_group_174 (zs_iload X dX4_group_177 (zs_iald X (fun _ => rfl) dX4_group_179 (zs_aload_n X rfl dX4_group_180 (zs_gf X (ci := 4) rfl (by decide) zm_in4 kw_X4_101 dX4_group_181 (zs_idiv X dX4_group_184 (zs_aload_n X rfl dX4_group_185 (zs_gf X (ci := 4) rfl (by decide) zm_in4 kw_X4_22 dX4_group_186 (zs_iload_n X rfl dX4_group_189 (zs_iald X (fun _ => rfl) dX4_group_190 (zs_aload_n X rfl dX4_group_191 (zs_gf X (ci := 4) rfl (by decide) zm_in4 kw_X4_101 dX4_group_192 (zs_idiv X dX4_group_195 (zs_icmp_ne X dX4_group_196 (by decide) (fun _ _ _ h => h) (zs_aload_n X rfl dX4_group_199 (zs_iload X dX4_group_200 (zs_cv X (M' := mX4_groupOf) (n := 1) kd_X4_groupOf ki_X4 (by decide +kernel) (by decide) kw_X4_158 rfl ks_X4_groupOf kl_X4_groupOf dX4_group_202 (zs_aload_n X rfl dX4_group_205 (zs_iload_n X rfl dX4_group_206 (zs_cv X (M' := mX4_groupOf) (n := 1) kd_X4_groupOf ki_X4 (by decide +kernel) (by decide) kw_X4_158 rfl ks_X4_groupOf kl_X4_groupOf dX4_group_207 (zs_icmp_ne X dX4_group_210 (by decide) (fun _ _ _ h => h) (zs_iconst X (by decide) dX4_group_213 (zs_goto X dX4_group_214 (by decide) (fun _ _ _ h => h))))))))))))))))))))))))))))
set_option maxRecDepth 20000 in
theorem bkX4_group_217 {w : zW} {Γ : zC} {N S : Nat} {Rt : zR} (X : zm_X w Γ mX4_group N S Rt) : ∀ lv st h, (zi_push (.int 0) (zm_V w Γ 218)) lv st h → zm_V w Γ 217 lv st h := (zs_iconst X (by decide) dX4_group_217 (fun _ _ _ h => h))
set_option maxRecDepth 20000 in
theorem bkX4_group_218 {w : zW} {Γ : zC} {N S : Nat} {Rt : zR} (X : zm_X w Γ mX4_group N S Rt) : ∀ lv st h, (zi_sti 8 (zi_ldi 7 (zi_if (fun x => x = 0) (zm_V w Γ 245) (zi_ldi 8 (zi_if (fun x => x = 0) (zi_lda 0 (zi_gf 4 12 (zi_ldi 6 (zi_ia 0 (zi_push (.int 2) (zi_ic (fun x y => x = y) (zm_V w Γ 241) (zm_V w Γ 245))))))) (zm_V w Γ 241)))))) lv st h → zm_V w Γ 218 lv st h := (zs_istore X (by decide) dX4_group_218 (zs_iload X dX4_group_220 (zs_if_eq X dX4_group_222 (by decide) (fun _ _ _ h => h) (zs_iload X dX4_group_225 (zs_if_ne X dX4_group_227 (by decide) (fun _ _ _ h => h) (zs_aload_n X rfl dX4_group_230 (zs_gf X (ci := 4) rfl (by decide) zm_in4 kw_X4_31 dX4_group_231 (zs_iload X dX4_group_234 (zs_iald X (fun _ => rfl) dX4_group_236 (zs_iconst X (by decide) dX4_group_237 (zs_icmp_ne X dX4_group_238 (by decide) (fun _ _ _ h => h) (fun _ _ _ h => h))))))))))))
set_option maxRecDepth 20000 in
theorem bkX4_group_241 {w : zW} {Γ : zC} {N S : Nat} {Rt : zR} (X : zm_X w Γ mX4_group N S Rt) : ∀ lv st h, (zi_push (.int 1) (zm_V w Γ 246)) lv st h → zm_V w Γ 241 lv st h := (zs_iconst X (by decide) dX4_group_241 (zs_goto X dX4_group_242 (by decide) (fun _ _ _ h => h)))
set_option maxRecDepth 20000 in
theorem bkX4_group_245 {w : zW} {Γ : zC} {N S : Nat} {Rt : zR} (X : zm_X w Γ mX4_group N S Rt) : ∀ lv st h, (zi_push (.int 0) (zm_V w Γ 246)) lv st h → zm_V w Γ 245 lv st h := (zs_iconst X (by decide) dX4_group_245 (fun _ _ _ h => h))
set_option maxRecDepth 20000 in
theorem bkX4_group_246 {w : zW} {Γ : zC} {N S : Nat} {Rt : zR} (X : zm_X w Γ mX4_group N S Rt) : ∀ lv st h, (zi_sti 7 (zi_ldi 7 (zi_if (fun x => x = 0) (zi_lda 0 (zi_ldi 5 (zi_cv w mX4_ends 4 2 N S (zi_push (.int 0) (zi_sti 5 (zm_V w Γ 262)))))) (zm_V w Γ 262)))) lv st h → zm_V w Γ 246 lv st h := (zs_istore X (by decide) dX4_group_246 (zs_iload X dX4_group_248 (zs_if_ne X dX4_group_250 (by decide) (fun _ _ _ h => h) (zs_aload_n X rfl dX4_group_253 (zs_iload X dX4_group_254 (zs_cv X (M' := mX4_ends) (n := 1) kd_X4_ends ki_X4 (by decide +kernel) (by decide) kw_X4_161 rfl ks_X4_ends kl_X4_ends dX4_group_256 (zs_iconst X (by decide) dX4_group_259 (zs_istore X (by decide) dX4_group_260 (fun _ _ _ h => h)))))))))
set_option maxRecDepth 20000 in
theorem bkX4_group_262 {w : zW} {Γ : zC} {N S : Nat} {Rt : zR} (X : zm_X w Γ mX4_group N S Rt) : ∀ lv st h, (zi_lda 0 (zi_gf 4 8 (zi_ldi 6 (zi_ia 0 (zi_cs w mX4_isShort 1 N S (zi_if (fun x => x = 0) (zi_ldi 6 (zi_sti 2 (zi_push (.int 0) (zi_sti 3 (zi_push (.int 0) (zi_sti 4 (zi_inc 6 1 (zm_V w Γ 35)))))))) (zi_lda 0 (zi_gf 4 21 (zi_push (.int 16) (zi_lda 0 (zi_gf 4 18 (zi_b (fun x y => x * y) (zi_ldi 5 (zi_b (fun x y => x + y) (zi_ldi 6 (zi_is 0 (zi_inc 5 1 (zi_ldi 6 (zi_sti 2 (zi_push (.int 0) (zi_sti 3 (zi_push (.int 0) (zi_sti 4 (zi_inc 6 1 (zm_V w Γ 35))))))))))))))))))))))))) lv st h → zm_V w Γ 262 lv st h := (zs_aload_n X rfl dX4_group_262 (zs_gf X (ci := 4) rfl (by decide) zm_in4 kw_X4_19 dX4_group_263 (zs_iload X dX4_group_266 (zs_iald X (fun _ => rfl) dX4_group_268 (zs_cs X (M' := mX4_isShort) (n := 1) kd_X4_isShort ki_X4 (by decide +kernel) (by decide) kw_X4_155 ks_X4_isShort dX4_group_269 (zs_if_eq X dX4_group_272 (by decide) (zs_iload X dX4_group_295 (zs_istore_n X rfl (by decide) dX4_group_297 (zs_iconst X (by decide) dX4_group_298 (zs_istore_n X rfl (by decide) dX4_group_299 (zs_iconst X (by decide) dX4_group_300 (zs_istore X (by decide) dX4_group_301 (zs_iinc X (by decide) (by decide) dX4_group_303 (zs_goto X dX4_group_306 (by decide) (fun _ _ _ h => h))))))))) (zs_aload_n X rfl dX4_group_275 (zs_gf X (ci := 4) rfl (by decide) zm_in4 kw_X4_49 dX4_group_276 (zs_bipush X (by decide) dX4_group_279 (zs_aload_n X rfl dX4_group_281 (zs_gf X (ci := 4) rfl (by decide) zm_in4 kw_X4_88 dX4_group_282 (zs_imul X dX4_group_285 (zs_iload X dX4_group_286 (zs_iadd X dX4_group_288 (zs_iload X dX4_group_289 (zs_iast X (fun _ => rfl) dX4_group_291 (zs_iinc X (by decide) (by decide) dX4_group_292 (zs_iload X dX4_group_295 (zs_istore_n X rfl (by decide) dX4_group_297 (zs_iconst X (by decide) dX4_group_298 (zs_istore_n X rfl (by decide) dX4_group_299 (zs_iconst X (by decide) dX4_group_300 (zs_istore X (by decide) dX4_group_301 (zs_iinc X (by decide) (by decide) dX4_group_303 (zs_goto X dX4_group_306 (by decide) (fun _ _ _ h => h))))))))))))))))))))))))))
set_option maxRecDepth 20000 in
theorem bkX4_ends_0 {w : zW} {Γ : zC} {N S : Nat} {Rt : zR} (X : zm_X w Γ mX4_ends N S Rt) : ∀ lv st h, (zi_ldi 1 (zi_push (.int 2) (zi_ic (fun x y => y ≤ x) (zi_lda 0 (zi_gf 4 18 (zi_sti 2 (zi_lda 0 (zi_gf 4 20 (zi_ldi 2 (zi_ldi 1 (zi_is 0 (zi_lda 0 (zi_gf 4 27 (zi_ldi 2 (zi_push (.int 0) (zi_is 0 (zi_lda 0 (zi_gf 4 22 (zi_ldi 2 (zi_lda 0 (zi_ldi 2 (zi_cv w mX4_direction 4 2 N S (zi_is 0 (zi_lda 0 (zi_gf 4 26 (zi_ldi 2 (zi_lda 0 (zi_ldi 2 (zi_cv w mX4_isFlat 4 2 N S (zi_if (fun x => x = 0) (zi_push (.int 0) (zm_V w Γ 54)) (zi_push (.int 1) (zm_V w Γ 54))))))))))))))))))))))))))))) (zi_vret Rt)))) lv st h → zm_V w Γ 0 lv st h := (zs_iload_n X rfl dX4_ends_0 (zs_iconst X (by decide) dX4_ends_1 (zs_icmp_ge X dX4_ends_2 (by decide) (zs_aload_n X rfl dX4_ends_6 (zs_gf X (ci := 4) rfl (by decide) zm_in4 kw_X4_88 dX4_ends_7 (zs_istore_n X rfl (by decide) dX4_ends_10 (zs_aload_n X rfl dX4_ends_11 (zs_gf X (ci := 4) rfl (by decide) zm_in4 kw_X4_46 dX4_ends_12 (zs_iload_n X rfl dX4_ends_15 (zs_iload_n X rfl dX4_ends_16 (zs_iast X (fun _ => rfl) dX4_ends_17 (zs_aload_n X rfl dX4_ends_18 (zs_gf X (ci := 4) rfl (by decide) zm_in4 kw_X4_67 dX4_ends_19 (zs_iload_n X rfl dX4_ends_22 (zs_iconst X (by decide) dX4_ends_23 (zs_iast X (fun _ => rfl) dX4_ends_24 (zs_aload_n X rfl dX4_ends_25 (zs_gf X (ci := 4) rfl (by decide) zm_in4 kw_X4_52 dX4_ends_26 (zs_iload_n X rfl dX4_ends_29 (zs_aload_n X rfl dX4_ends_30 (zs_iload_n X rfl dX4_ends_31 (zs_cv X (M' := mX4_direction) (n := 1) kd_X4_direction ki_X4 (by decide +kernel) (by decide) kw_X4_165 rfl ks_X4_direction kl_X4_direction dX4_ends_32 (zs_iast X (fun _ => rfl) dX4_ends_35 (zs_aload_n X rfl dX4_ends_36 (zs_gf X (ci := 4) rfl (by decide) zm_in4 kw_X4_64 dX4_ends_37 (zs_iload_n X rfl dX4_ends_40 (zs_aload_n X rfl dX4_ends_41 (zs_iload_n X rfl dX4_ends_42 (zs_cv X (M' := mX4_isFlat) (n := 1) kd_X4_isFlat ki_X4 (by decide +kernel) (by decide) kw_X4_168 rfl ks_X4_isFlat kl_X4_isFlat dX4_ends_43 (zs_if_eq X dX4_ends_46 (by decide) (zs_iconst X (by decide) dX4_ends_53 (fun _ _ _ h => h)) (zs_iconst X (by decide) dX4_ends_49 (zs_goto X dX4_ends_50 (by decide) (fun _ _ _ h => h)))))))))))))))))))))))))))))) (zs_vret X rfl dX4_ends_5))))
set_option maxRecDepth 20000 in
theorem bkX4_ends_54 {w : zW} {Γ : zC} {N S : Nat} {Rt : zR} (X : zm_X w Γ mX4_ends N S Rt) : ∀ lv st h, (zi_is 0 (zi_lda 0 (zi_ldi 2 (zi_ldi 1 (zi_push (.int 1) (zi_b (fun x y => x - y) (zi_cv w mX4_nearAt 4 3 N S (zi_lda 0 (zi_ldi 2 (zi_push (.int 0) (zi_cv w mX4_nearAt 4 3 N S (zi_b (fun x y => x - y) (zi_sti 3 (zi_lda 0 (zi_gf 4 25 (zi_ldi 2 (zi_lda 0 (zi_gf 4 22 (zi_ldi 2 (zi_ia 0 (zi_if (fun x => x = 0) (zm_V w Γ 95) (zi_lda 0 (zi_gf 4 26 (zi_ldi 2 (zi_ia 0 (zi_push (.int 1) (zi_ic (fun x y => x = y) (zm_V w Γ 95) (zi_ldi 3 (zi_push (.int 2) (zi_d (fun x y => x / y) (zi_push (.int 6) (zi_ic (fun x y => x ≤ y) (zi_ldi 3 (zi_push (.int 2) (zi_d (fun x y => x / y) (zi_push (.int (-6)) (zi_ic (fun x y => y ≤ x) (zi_ldi 3 (zi_push (.int 2) (zi_d (fun x y => x / y) (zm_V w Γ 128)))) (zi_push (.int (-6)) (zm_V w Γ 128))))))) (zi_push (.int 6) (zm_V w Γ 128)))))))))))))))))))))))))))))))))) lv st h → zm_V w Γ 54 lv st h := (zs_iast X (fun _ => rfl) dX4_ends_54 (zs_aload_n X rfl dX4_ends_55 (zs_iload_n X rfl dX4_ends_56 (zs_iload_n X rfl dX4_ends_57 (zs_iconst X (by decide) dX4_ends_58 (zs_isub X dX4_ends_59 (zs_cv X (M' := mX4_nearAt) (n := 2) kd_X4_nearAt ki_X4 (by decide +kernel) (by decide) kw_X4_171 rfl ks_X4_nearAt kl_X4_nearAt dX4_ends_60 (zs_aload_n X rfl dX4_ends_63 (zs_iload_n X rfl dX4_ends_64 (zs_iconst X (by decide) dX4_ends_65 (zs_cv X (M' := mX4_nearAt) (n := 2) kd_X4_nearAt ki_X4 (by decide +kernel) (by decide) kw_X4_171 rfl ks_X4_nearAt kl_X4_nearAt dX4_ends_66 (zs_isub X dX4_ends_69 (zs_istore_n X rfl (by decide) dX4_ends_70 (zs_aload_n X rfl dX4_ends_71 (zs_gf X (ci := 4) rfl (by decide) zm_in4 kw_X4_61 dX4_ends_72 (zs_iload_n X rfl dX4_ends_75 (zs_aload_n X rfl dX4_ends_76 (zs_gf X (ci := 4) rfl (by decide) zm_in4 kw_X4_52 dX4_ends_77 (zs_iload_n X rfl dX4_ends_80 (zs_iald X (fun _ => rfl) dX4_ends_81 (zs_if_eq X dX4_ends_82 (by decide) (fun _ _ _ h => h) (zs_aload_n X rfl dX4_ends_85 (zs_gf X (ci := 4) rfl (by decide) zm_in4 kw_X4_64 dX4_ends_86 (zs_iload_n X rfl dX4_ends_89 (zs_iald X (fun _ => rfl) dX4_ends_90 (zs_iconst X (by decide) dX4_ends_91 (zs_icmp_ne X dX4_ends_92 (by decide) (zs_iload_n X rfl dX4_ends_99 (zs_iconst X (by decide) dX4_ends_100 (zs_idiv X dX4_ends_101 (zs_bipush X (by decide) dX4_ends_102 (zs_icmp_le X dX4_ends_104 (by decide) (zs_iload_n X rfl dX4_ends_112 (zs_iconst X (by decide) dX4_ends_113 (zs_idiv X dX4_ends_114 (zs_bipush X (by decide) dX4_ends_115 (zs_icmp_ge X dX4_ends_117 (by decide) (zs_iload_n X rfl dX4_ends_125 (zs_iconst X (by decide) dX4_ends_126 (zs_idiv X dX4_ends_127 (fun _ _ _ h => h)))) (zs_bipush X (by decide) dX4_ends_120 (zs_goto X dX4_ends_122 (by decide) (fun _ _ _ h => h)))))))) (zs_bipush X (by decide) dX4_ends_107 (zs_goto X dX4_ends_109 (by decide) (fun _ _ _ h => h)))))))) (fun _ _ _ h => h))))))))))))))))))))))))))))
set_option maxRecDepth 20000 in
theorem bkX4_ends_95 {w : zW} {Γ : zC} {N S : Nat} {Rt : zR} (X : zm_X w Γ mX4_ends N S Rt) : ∀ lv st h, (zi_push (.int 0) (zm_V w Γ 128)) lv st h → zm_V w Γ 95 lv st h := (zs_iconst X (by decide) dX4_ends_95 (zs_goto X dX4_ends_96 (by decide) (fun _ _ _ h => h)))
set_option maxRecDepth 20000 in
theorem bkX4_ends_128 {w : zW} {Γ : zC} {N S : Nat} {Rt : zR} (X : zm_X w Γ mX4_ends N S Rt) : ∀ lv st h, (zi_is 0 (zi_lda 0 (zi_ldi 2 (zi_cv w mX4_find 4 2 N S (zi_if (fun x => x = 0) (zi_lda 0 (zi_dup (zi_gf 4 19 (zi_push (.int 1) (zi_b (fun x y => x + y) (zi_pf 4 19 .int (zi_vret Rt))))))) (zi_lda 0 (zi_dup (zi_gf 4 18 (zi_push (.int 1) (zi_b (fun x y => x + y) (zi_pf 4 18 .int (zi_vret Rt)))))))))))) lv st h → zm_V w Γ 128 lv st h := (zs_iast X (fun _ => rfl) dX4_ends_128 (zs_aload_n X rfl dX4_ends_129 (zs_iload_n X rfl dX4_ends_130 (zs_cv X (M' := mX4_find) (n := 1) kd_X4_find ki_X4 (by decide +kernel) (by decide) kw_X4_174 rfl ks_X4_find kl_X4_find dX4_ends_131 (zs_if_eq X dX4_ends_134 (by decide) (zs_aload_n X rfl dX4_ends_150 (zs_dup X dX4_ends_151 (zs_gf X (ci := 4) rfl (by decide) zm_in4 kw_X4_91 dX4_ends_152 (zs_iconst X (by decide) dX4_ends_155 (zs_iadd X dX4_ends_156 (zs_pf X (ci := 4) rfl (by decide) zm_in4 kw_X4_91 tyX4 tyX4_ok nmX4 rfl rfl dX4_ends_157 (zs_vret X rfl dX4_ends_160))))))) (zs_aload_n X rfl dX4_ends_137 (zs_dup X dX4_ends_138 (zs_gf X (ci := 4) rfl (by decide) zm_in4 kw_X4_88 dX4_ends_139 (zs_iconst X (by decide) dX4_ends_142 (zs_iadd X dX4_ends_143 (zs_pf X (ci := 4) rfl (by decide) zm_in4 kw_X4_88 tyX4 tyX4_ok nmX4 rfl rfl dX4_ends_144 (zs_goto X dX4_ends_147 (by decide) (zs_vret X rfl dX4_ends_160)))))))))))))
set_option maxRecDepth 20000 in
theorem bkX4_noteAt_0 {w : zW} {Γ : zC} {N S : Nat} {Rt : zR} (X : zm_X w Γ mX4_noteAt N S Rt) : ∀ lv st h, (zi_lda 0 (zi_gf 4 21 (zi_push (.int 16) (zi_ldi 1 (zi_b (fun x y => x * y) (zi_ldi 2 (zi_b (fun x y => x + y) (zi_ia 0 (zi_iret Rt))))))))) lv st h → zm_V w Γ 0 lv st h := (zs_aload_n X rfl dX4_noteAt_0 (zs_gf X (ci := 4) rfl (by decide) zm_in4 kw_X4_49 dX4_noteAt_1 (zs_bipush X (by decide) dX4_noteAt_4 (zs_iload_n X rfl dX4_noteAt_6 (zs_imul X dX4_noteAt_7 (zs_iload_n X rfl dX4_noteAt_8 (zs_iadd X dX4_noteAt_9 (zs_iald X (fun _ => rfl) dX4_noteAt_10 (zs_iret X rfl dX4_noteAt_11)))))))))
set_option maxRecDepth 20000 in
theorem bkX4_direction_0 {w : zW} {Γ : zC} {N S : Nat} {Rt : zR} (X : zm_X w Γ mX4_direction N S Rt) : ∀ lv st h, (zi_lda 0 (zi_gf 4 11 (zi_lda 0 (zi_ldi 1 (zi_push (.int 0) (zi_cv w mX4_noteAt 4 3 N S (zi_ia 0 (zi_sti 2 (zi_push (.int (-1000)) (zi_sti 3 (zi_push (.int 1000) (zi_sti 4 (zi_push (.int 0) (zi_sti 5 (zi_push (.int 0) (zi_sti 6 (zi_push (.int 0) (zi_sti 7 (zm_V w Γ 30))))))))))))))))))) lv st h → zm_V w Γ 0 lv st h := (zs_aload_n X rfl dX4_direction_0 (zs_gf X (ci := 4) rfl (by decide) zm_in4 kw_X4_28 dX4_direction_1 (zs_aload_n X rfl dX4_direction_4 (zs_iload_n X rfl dX4_direction_5 (zs_iconst X (by decide) dX4_direction_6 (zs_cv X (M' := mX4_noteAt) (n := 2) kd_X4_noteAt ki_X4 (by decide +kernel) (by decide) kw_X4_177 rfl ks_X4_noteAt kl_X4_noteAt dX4_direction_7 (zs_iald X (fun _ => rfl) dX4_direction_10 (zs_istore_n X rfl (by decide) dX4_direction_11 (zs_sipush X (by decide) dX4_direction_12 (zs_istore_n X rfl (by decide) dX4_direction_15 (zs_sipush X (by decide) dX4_direction_16 (zs_istore X (by decide) dX4_direction_19 (zs_iconst X (by decide) dX4_direction_21 (zs_istore X (by decide) dX4_direction_22 (zs_iconst X (by decide) dX4_direction_24 (zs_istore X (by decide) dX4_direction_25 (zs_iconst X (by decide) dX4_direction_27 (zs_istore X (by decide) dX4_direction_28 (fun _ _ _ h => h)))))))))))))))))))
set_option maxRecDepth 20000 in
theorem bkX4_direction_30 {w : zW} {Γ : zC} {N S : Nat} {Rt : zR} (X : zm_X w Γ mX4_direction N S Rt) : ∀ lv st h, (zi_ldi 7 (zi_lda 0 (zi_gf 4 20 (zi_ldi 1 (zi_ia 0 (zi_ic (fun x y => y ≤ x) (zi_ldi 6 (zi_if (fun x => x = 0) (zi_lda 0 (zi_gf 4 16 (zi_push (.int 1) (zi_ia 0 (zi_if (fun x => x ≤ 0) (zi_ldi 3 (zi_ldi 4 (zi_b (fun x y => x + y) (zi_if (fun x => 0 ≤ x) (zi_ldi 3 (zi_ldi 4 (zi_b (fun x y => x + y) (zi_if (fun x => x ≤ 0) (zi_ldi 5 (zi_if (fun x => x ≤ 0) (zi_push (.int (-1)) (zi_iret Rt)) (zi_push (.int 1) (zi_iret Rt)))) (zi_push (.int (-1)) (zi_iret Rt)))))) (zi_push (.int 1) (zi_iret Rt)))))) (zi_lda 0 (zi_lda 0 (zi_ldi 1 (zi_push (.int 0) (zi_cv w mX4_noteAt 4 3 N S (zi_cv w mX4_alone 4 2 N S (zi_iret Rt)))))))))))) (zi_push (.int 0) (zi_iret Rt)))) (zi_lda 0 (zi_ldi 1 (zi_ldi 7 (zi_cv w mX4_noteAt 4 3 N S (zi_sti 8 (zi_ldi 6 (zi_if (fun x => x = 0) (zi_lda 0 (zi_gf 4 11 (zi_ldi 8 (zi_ia 0 (zi_ldi 2 (zi_ic (fun x y => x = y) (zi_push (.int 0) (zm_V w Γ 71)) (zm_V w Γ 66))))))) (zm_V w Γ 66)))))))))))))) lv st h → zm_V w Γ 30 lv st h := (zs_iload X dX4_direction_30 (zs_aload_n X rfl dX4_direction_32 (zs_gf X (ci := 4) rfl (by decide) zm_in4 kw_X4_46 dX4_direction_33 (zs_iload_n X rfl dX4_direction_36 (zs_iald X (fun _ => rfl) dX4_direction_37 (zs_icmp_ge X dX4_direction_38 (by decide) (zs_iload X dX4_direction_135 (zs_if_eq X dX4_direction_137 (by decide) (zs_aload_n X rfl dX4_direction_142 (zs_gf X (ci := 4) rfl (by decide) zm_in4 kw_X4_43 dX4_direction_143 (zs_iconst X (by decide) dX4_direction_146 (zs_iald X (fun _ => rfl) dX4_direction_147 (zs_if_le X dX4_direction_148 (by decide) (zs_iload_n X rfl dX4_direction_162 (zs_iload X dX4_direction_163 (zs_iadd X dX4_direction_165 (zs_if_ge X dX4_direction_166 (by decide) (zs_iload_n X rfl dX4_direction_173 (zs_iload X dX4_direction_174 (zs_iadd X dX4_direction_176 (zs_if_le X dX4_direction_177 (by decide) (zs_iload X dX4_direction_184 (zs_if_le X dX4_direction_186 (by decide) (zs_iconst X (by decide) dX4_direction_193 (zs_iret X rfl dX4_direction_194)) (zs_iconst X (by decide) dX4_direction_189 (zs_goto X dX4_direction_190 (by decide) (zs_iret X rfl dX4_direction_194))))) (zs_iconst X (by decide) dX4_direction_180 (zs_goto X dX4_direction_181 (by decide) (zs_iret X rfl dX4_direction_194))))))) (zs_iconst X (by decide) dX4_direction_169 (zs_goto X dX4_direction_170 (by decide) (zs_iret X rfl dX4_direction_194))))))) (zs_aload_n X rfl dX4_direction_151 (zs_aload_n X rfl dX4_direction_152 (zs_iload_n X rfl dX4_direction_153 (zs_iconst X (by decide) dX4_direction_154 (zs_cv X (M' := mX4_noteAt) (n := 2) kd_X4_noteAt ki_X4 (by decide +kernel) (by decide) kw_X4_177 rfl ks_X4_noteAt kl_X4_noteAt dX4_direction_155 (zs_cv X (M' := mX4_alone) (n := 1) kd_X4_alone ki_X4 (by decide +kernel) (by decide) kw_X4_180 rfl ks_X4_alone kl_X4_alone dX4_direction_158 (zs_iret X rfl dX4_direction_161)))))))))))) (zs_iconst X (by decide) dX4_direction_140 (zs_iret X rfl dX4_direction_141)))) (zs_aload_n X rfl dX4_direction_41 (zs_iload_n X rfl dX4_direction_42 (zs_iload X dX4_direction_43 (zs_cv X (M' := mX4_noteAt) (n := 2) kd_X4_noteAt ki_X4 (by decide +kernel) (by decide) kw_X4_177 rfl ks_X4_noteAt kl_X4_noteAt dX4_direction_45 (zs_istore X (by decide) dX4_direction_48 (zs_iload X dX4_direction_50 (zs_if_ne X dX4_direction_52 (by decide) (fun _ _ _ h => h) (zs_aload_n X rfl dX4_direction_55 (zs_gf X (ci := 4) rfl (by decide) zm_in4 kw_X4_28 dX4_direction_56 (zs_iload X dX4_direction_59 (zs_iald X (fun _ => rfl) dX4_direction_61 (zs_iload_n X rfl dX4_direction_62 (zs_icmp_eq X dX4_direction_63 (by decide) (zs_iconst X (by decide) dX4_direction_70 (fun _ _ _ h => h)) (fun _ _ _ h => h))))))))))))))))))))
set_option maxRecDepth 20000 in
theorem bkX4_direction_66 {w : zW} {Γ : zC} {N S : Nat} {Rt : zR} (X : zm_X w Γ mX4_direction N S Rt) : ∀ lv st h, (zi_push (.int 1) (zm_V w Γ 71)) lv st h → zm_V w Γ 66 lv st h := (zs_iconst X (by decide) dX4_direction_66 (zs_goto X dX4_direction_67 (by decide) (fun _ _ _ h => h)))
set_option maxRecDepth 20000 in
theorem bkX4_direction_71 {w : zW} {Γ : zC} {N S : Nat} {Rt : zR} (X : zm_X w Γ mX4_direction N S Rt) : ∀ lv st h, (zi_sti 6 (zi_lda 0 (zi_ldi 8 (zi_cv w mX4_highest 4 2 N S (zi_ldi 3 (zi_ic (fun x y => x ≤ y) (zi_ldi 3 (zm_V w Γ 93)) (zi_lda 0 (zi_ldi 8 (zi_cv w mX4_highest 4 2 N S (zm_V w Γ 93)))))))))) lv st h → zm_V w Γ 71 lv st h := (zs_istore X (by decide) dX4_direction_71 (zs_aload_n X rfl dX4_direction_73 (zs_iload X dX4_direction_74 (zs_cv X (M' := mX4_highest) (n := 1) kd_X4_highest ki_X4 (by decide +kernel) (by decide) kw_X4_139 rfl ks_X4_highest kl_X4_highest dX4_direction_76 (zs_iload_n X rfl dX4_direction_79 (zs_icmp_le X dX4_direction_80 (by decide) (zs_iload_n X rfl dX4_direction_92 (fun _ _ _ h => h)) (zs_aload_n X rfl dX4_direction_83 (zs_iload X dX4_direction_84 (zs_cv X (M' := mX4_highest) (n := 1) kd_X4_highest ki_X4 (by decide +kernel) (by decide) kw_X4_139 rfl ks_X4_highest kl_X4_highest dX4_direction_86 (zs_goto X dX4_direction_89 (by decide) (fun _ _ _ h => h)))))))))))
set_option maxRecDepth 20000 in
theorem bkX4_direction_93 {w : zW} {Γ : zC} {N S : Nat} {Rt : zR} (X : zm_X w Γ mX4_direction N S Rt) : ∀ lv st h, (zi_sti 3 (zi_lda 0 (zi_ldi 8 (zi_cv w mX4_lowest 4 2 N S (zi_ldi 4 (zi_ic (fun x y => y ≤ x) (zi_ldi 4 (zm_V w Γ 116)) (zi_lda 0 (zi_ldi 8 (zi_cv w mX4_lowest 4 2 N S (zm_V w Γ 116)))))))))) lv st h → zm_V w Γ 93 lv st h := (zs_istore_n X rfl (by decide) dX4_direction_93 (zs_aload_n X rfl dX4_direction_94 (zs_iload X dX4_direction_95 (zs_cv X (M' := mX4_lowest) (n := 1) kd_X4_lowest ki_X4 (by decide +kernel) (by decide) kw_X4_142 rfl ks_X4_lowest kl_X4_lowest dX4_direction_97 (zs_iload X dX4_direction_100 (zs_icmp_ge X dX4_direction_102 (by decide) (zs_iload X dX4_direction_114 (fun _ _ _ h => h)) (zs_aload_n X rfl dX4_direction_105 (zs_iload X dX4_direction_106 (zs_cv X (M' := mX4_lowest) (n := 1) kd_X4_lowest ki_X4 (by decide +kernel) (by decide) kw_X4_142 rfl ks_X4_lowest kl_X4_lowest dX4_direction_108 (zs_goto X dX4_direction_111 (by decide) (fun _ _ _ h => h)))))))))))
set_option maxRecDepth 20000 in
theorem bkX4_direction_116 {w : zW} {Γ : zC} {N S : Nat} {Rt : zR} (X : zm_X w Γ mX4_direction N S Rt) : ∀ lv st h, (zi_sti 4 (zi_ldi 5 (zi_lda 0 (zi_ldi 8 (zi_cv w mX4_alone 4 2 N S (zi_b (fun x y => x + y) (zi_sti 5 (zi_inc 7 1 (zm_V w Γ 30))))))))) lv st h → zm_V w Γ 116 lv st h := (zs_istore X (by decide) dX4_direction_116 (zs_iload X dX4_direction_118 (zs_aload_n X rfl dX4_direction_120 (zs_iload X dX4_direction_121 (zs_cv X (M' := mX4_alone) (n := 1) kd_X4_alone ki_X4 (by decide +kernel) (by decide) kw_X4_180 rfl ks_X4_alone kl_X4_alone dX4_direction_123 (zs_iadd X dX4_direction_126 (zs_istore X (by decide) dX4_direction_127 (zs_iinc X (by decide) (by decide) dX4_direction_129 (zs_goto X dX4_direction_132 (by decide) (fun _ _ _ h => h))))))))))
set_option maxRecDepth 20000 in
theorem bkX4_upAt_0 {w : zW} {Γ : zC} {N S : Nat} {Rt : zR} (X : zm_X w Γ mX4_upAt N S Rt) : ∀ lv st h, (zi_lda 0 (zi_gf 4 22 (zi_ldi 1 (zi_ia 0 (zi_if (fun x => x = 0) (zi_lda 0 (zi_gf 4 11 (zi_lda 0 (zi_ldi 1 (zi_ldi 2 (zi_cv w mX4_noteAt 4 3 N S (zi_ia 0 (zi_push (.int 1) (zi_ic (fun x y => x = y) (zi_push (.int 1) (zi_iret Rt)) (zi_push (.int (-1)) (zi_iret Rt))))))))))) (zi_lda 0 (zi_gf 4 22 (zi_ldi 1 (zi_ia 0 (zi_iret Rt)))))))))) lv st h → zm_V w Γ 0 lv st h := (zs_aload_n X rfl dX4_upAt_0 (zs_gf X (ci := 4) rfl (by decide) zm_in4 kw_X4_52 dX4_upAt_1 (zs_iload_n X rfl dX4_upAt_4 (zs_iald X (fun _ => rfl) dX4_upAt_5 (zs_if_eq X dX4_upAt_6 (by decide) (zs_aload_n X rfl dX4_upAt_18 (zs_gf X (ci := 4) rfl (by decide) zm_in4 kw_X4_28 dX4_upAt_19 (zs_aload_n X rfl dX4_upAt_22 (zs_iload_n X rfl dX4_upAt_23 (zs_iload_n X rfl dX4_upAt_24 (zs_cv X (M' := mX4_noteAt) (n := 2) kd_X4_noteAt ki_X4 (by decide +kernel) (by decide) kw_X4_177 rfl ks_X4_noteAt kl_X4_noteAt dX4_upAt_25 (zs_iald X (fun _ => rfl) dX4_upAt_28 (zs_iconst X (by decide) dX4_upAt_29 (zs_icmp_ne X dX4_upAt_30 (by decide) (zs_iconst X (by decide) dX4_upAt_37 (zs_iret X rfl dX4_upAt_38)) (zs_iconst X (by decide) dX4_upAt_33 (zs_goto X dX4_upAt_34 (by decide) (zs_iret X rfl dX4_upAt_38)))))))))))) (zs_aload_n X rfl dX4_upAt_9 (zs_gf X (ci := 4) rfl (by decide) zm_in4 kw_X4_52 dX4_upAt_10 (zs_iload_n X rfl dX4_upAt_13 (zs_iald X (fun _ => rfl) dX4_upAt_14 (zs_goto X dX4_upAt_15 (by decide) (zs_iret X rfl dX4_upAt_38)))))))))))
set_option maxRecDepth 20000 in
theorem bkX4_nearAt_0 {w : zW} {Γ : zC} {N S : Nat} {Rt : zR} (X : zm_X w Γ mX4_nearAt N S Rt) : ∀ lv st h, (zi_lda 0 (zi_lda 0 (zi_ldi 1 (zi_ldi 2 (zi_cv w mX4_noteAt 4 3 N S (zi_lda 0 (zi_ldi 1 (zi_ldi 2 (zi_cv w mX4_upAt 4 3 N S (zi_cv w mX4_near 4 3 N S (zi_iret Rt))))))))))) lv st h → zm_V w Γ 0 lv st h := (zs_aload_n X rfl dX4_nearAt_0 (zs_aload_n X rfl dX4_nearAt_1 (zs_iload_n X rfl dX4_nearAt_2 (zs_iload_n X rfl dX4_nearAt_3 (zs_cv X (M' := mX4_noteAt) (n := 2) kd_X4_noteAt ki_X4 (by decide +kernel) (by decide) kw_X4_177 rfl ks_X4_noteAt kl_X4_noteAt dX4_nearAt_4 (zs_aload_n X rfl dX4_nearAt_7 (zs_iload_n X rfl dX4_nearAt_8 (zs_iload_n X rfl dX4_nearAt_9 (zs_cv X (M' := mX4_upAt) (n := 2) kd_X4_upAt ki_X4 (by decide +kernel) (by decide) kw_X4_183 rfl ks_X4_upAt kl_X4_upAt dX4_nearAt_10 (zs_cv X (M' := mX4_near) (n := 2) kd_X4_near ki_X4 (by decide +kernel) (by decide) kw_X4_151 rfl ks_X4_near kl_X4_near dX4_nearAt_13 (zs_iret X rfl dX4_nearAt_16)))))))))))
set_option maxRecDepth 20000 in
theorem bkX4_isFlat_0 {w : zW} {Γ : zC} {N S : Nat} {Rt : zR} (X : zm_X w Γ mX4_isFlat N S Rt) : ∀ lv st h, (zi_lda 0 (zi_gf 4 22 (zi_ldi 1 (zi_ia 0 (zi_if (fun x => x = 0) (zi_push (.int 0) (zi_zret Rt)) (zi_lda 0 (zi_gf 4 22 (zi_ldi 1 (zi_ia 0 (zi_lda 0 (zi_ldi 1 (zi_push (.int 0) (zi_cv w mX4_nearAt 4 3 N S (zi_b (fun x y => x * y) (zi_sti 2 (zi_lda 0 (zi_gf 4 22 (zi_ldi 1 (zi_ia 0 (zi_lda 0 (zi_ldi 1 (zi_lda 0 (zi_gf 4 20 (zi_ldi 1 (zi_ia 0 (zi_push (.int 1) (zi_b (fun x y => x - y) (zi_cv w mX4_nearAt 4 3 N S (zi_b (fun x y => x * y) (zi_sti 3 (zi_ldi 2 (zi_ldi 3 (zi_ic (fun x y => x = y) (zi_push (.int 1) (zi_sti 4 (zi_push (.int 1) (zi_sti 5 (zm_V w Γ 61))))) (zi_push (.int 0) (zi_sti 4 (zi_push (.int 1) (zi_sti 5 (zm_V w Γ 61)))))))))))))))))))))))))))))))))))))) lv st h → zm_V w Γ 0 lv st h := (zs_aload_n X rfl dX4_isFlat_0 (zs_gf X (ci := 4) rfl (by decide) zm_in4 kw_X4_52 dX4_isFlat_1 (zs_iload_n X rfl dX4_isFlat_4 (zs_iald X (fun _ => rfl) dX4_isFlat_5 (zs_if_ne X dX4_isFlat_6 (by decide) (zs_aload_n X rfl dX4_isFlat_11 (zs_gf X (ci := 4) rfl (by decide) zm_in4 kw_X4_52 dX4_isFlat_12 (zs_iload_n X rfl dX4_isFlat_15 (zs_iald X (fun _ => rfl) dX4_isFlat_16 (zs_aload_n X rfl dX4_isFlat_17 (zs_iload_n X rfl dX4_isFlat_18 (zs_iconst X (by decide) dX4_isFlat_19 (zs_cv X (M' := mX4_nearAt) (n := 2) kd_X4_nearAt ki_X4 (by decide +kernel) (by decide) kw_X4_171 rfl ks_X4_nearAt kl_X4_nearAt dX4_isFlat_20 (zs_imul X dX4_isFlat_23 (zs_istore_n X rfl (by decide) dX4_isFlat_24 (zs_aload_n X rfl dX4_isFlat_25 (zs_gf X (ci := 4) rfl (by decide) zm_in4 kw_X4_52 dX4_isFlat_26 (zs_iload_n X rfl dX4_isFlat_29 (zs_iald X (fun _ => rfl) dX4_isFlat_30 (zs_aload_n X rfl dX4_isFlat_31 (zs_iload_n X rfl dX4_isFlat_32 (zs_aload_n X rfl dX4_isFlat_33 (zs_gf X (ci := 4) rfl (by decide) zm_in4 kw_X4_46 dX4_isFlat_34 (zs_iload_n X rfl dX4_isFlat_37 (zs_iald X (fun _ => rfl) dX4_isFlat_38 (zs_iconst X (by decide) dX4_isFlat_39 (zs_isub X dX4_isFlat_40 (zs_cv X (M' := mX4_nearAt) (n := 2) kd_X4_nearAt ki_X4 (by decide +kernel) (by decide) kw_X4_171 rfl ks_X4_nearAt kl_X4_nearAt dX4_isFlat_41 (zs_imul X dX4_isFlat_44 (zs_istore_n X rfl (by decide) dX4_isFlat_45 (zs_iload_n X rfl dX4_isFlat_46 (zs_iload_n X rfl dX4_isFlat_47 (zs_icmp_ne X dX4_isFlat_48 (by decide) (zs_iconst X (by decide) dX4_isFlat_55 (zs_istore X (by decide) dX4_isFlat_56 (zs_iconst X (by decide) dX4_isFlat_58 (zs_istore X (by decide) dX4_isFlat_59 (fun _ _ _ h => h))))) (zs_iconst X (by decide) dX4_isFlat_51 (zs_goto X dX4_isFlat_52 (by decide) (zs_istore X (by decide) dX4_isFlat_56 (zs_iconst X (by decide) dX4_isFlat_58 (zs_istore X (by decide) dX4_isFlat_59 (fun _ _ _ h => h)))))))))))))))))))))))))))))))))) (zs_iconst X (by decide) dX4_isFlat_9 (zs_zret X rfl dX4_isFlat_10)))))))
set_option maxRecDepth 20000 in
theorem bkX4_isFlat_61 {w : zW} {Γ : zC} {N S : Nat} {Rt : zR} (X : zm_X w Γ mX4_isFlat N S Rt) : ∀ lv st h, (zi_ldi 5 (zi_lda 0 (zi_gf 4 20 (zi_ldi 1 (zi_ia 0 (zi_push (.int 1) (zi_b (fun x y => x - y) (zi_ic (fun x y => y ≤ x) (zi_ldi 4 (zi_zret Rt)) (zi_lda 0 (zi_gf 4 22 (zi_ldi 1 (zi_ia 0 (zi_lda 0 (zi_ldi 1 (zi_ldi 5 (zi_cv w mX4_nearAt 4 3 N S (zi_b (fun x y => x * y) (zi_sti 6 (zi_ldi 4 (zi_if (fun x => x = 0) (zi_ldi 6 (zi_ldi 2 (zi_ic (fun x y => x ≤ y) (zi_push (.int 0) (zi_sti 4 (zi_inc 5 1 (zm_V w Γ 61)))) (zi_ldi 6 (zi_ldi 3 (zi_ic (fun x y => x ≤ y) (zi_push (.int 0) (zi_sti 4 (zi_inc 5 1 (zm_V w Γ 61)))) (zi_push (.int 1) (zi_sti 4 (zi_inc 5 1 (zm_V w Γ 61)))))))))) (zi_push (.int 1) (zi_sti 4 (zi_inc 5 1 (zm_V w Γ 61)))))))))))))))))))))))) lv st h → zm_V w Γ 61 lv st h := (zs_iload X dX4_isFlat_61 (zs_aload_n X rfl dX4_isFlat_63 (zs_gf X (ci := 4) rfl (by decide) zm_in4 kw_X4_46 dX4_isFlat_64 (zs_iload_n X rfl dX4_isFlat_67 (zs_iald X (fun _ => rfl) dX4_isFlat_68 (zs_iconst X (by decide) dX4_isFlat_69 (zs_isub X dX4_isFlat_70 (zs_icmp_ge X dX4_isFlat_71 (by decide) (zs_iload X dX4_isFlat_120 (zs_zret X rfl dX4_isFlat_122)) (zs_aload_n X rfl dX4_isFlat_74 (zs_gf X (ci := 4) rfl (by decide) zm_in4 kw_X4_52 dX4_isFlat_75 (zs_iload_n X rfl dX4_isFlat_78 (zs_iald X (fun _ => rfl) dX4_isFlat_79 (zs_aload_n X rfl dX4_isFlat_80 (zs_iload_n X rfl dX4_isFlat_81 (zs_iload X dX4_isFlat_82 (zs_cv X (M' := mX4_nearAt) (n := 2) kd_X4_nearAt ki_X4 (by decide +kernel) (by decide) kw_X4_171 rfl ks_X4_nearAt kl_X4_nearAt dX4_isFlat_84 (zs_imul X dX4_isFlat_87 (zs_istore X (by decide) dX4_isFlat_88 (zs_iload X dX4_isFlat_90 (zs_if_ne X dX4_isFlat_92 (by decide) (zs_iconst X (by decide) dX4_isFlat_107 (zs_goto X dX4_isFlat_108 (by decide) (zs_istore X (by decide) dX4_isFlat_112 (zs_iinc X (by decide) (by decide) dX4_isFlat_114 (zs_goto X dX4_isFlat_117 (by decide) (fun _ _ _ h => h)))))) (zs_iload X dX4_isFlat_95 (zs_iload_n X rfl dX4_isFlat_97 (zs_icmp_le X dX4_isFlat_98 (by decide) (zs_iconst X (by decide) dX4_isFlat_111 (zs_istore X (by decide) dX4_isFlat_112 (zs_iinc X (by decide) (by decide) dX4_isFlat_114 (zs_goto X dX4_isFlat_117 (by decide) (fun _ _ _ h => h))))) (zs_iload X dX4_isFlat_101 (zs_iload_n X rfl dX4_isFlat_103 (zs_icmp_le X dX4_isFlat_104 (by decide) (zs_iconst X (by decide) dX4_isFlat_111 (zs_istore X (by decide) dX4_isFlat_112 (zs_iinc X (by decide) (by decide) dX4_isFlat_114 (zs_goto X dX4_isFlat_117 (by decide) (fun _ _ _ h => h))))) (zs_iconst X (by decide) dX4_isFlat_107 (zs_goto X dX4_isFlat_108 (by decide) (zs_istore X (by decide) dX4_isFlat_112 (zs_iinc X (by decide) (by decide) dX4_isFlat_114 (zs_goto X dX4_isFlat_117 (by decide) (fun _ _ _ h => h))))))))))))))))))))))))))))))))
set_option maxRecDepth 20000 in
theorem bkX4_heightAt_0 {w : zW} {Γ : zC} {N S : Nat} {Rt : zR} (X : zm_X w Γ mX4_heightAt N S Rt) : ∀ lv st h, (zi_ldi 2 (zi_ldi 3 (zi_ldi 4 (zi_b (fun x y => x * y) (zi_lda 0 (zi_gf 4 20 (zi_ldi 1 (zi_ia 0 (zi_push (.int 1) (zi_b (fun x y => x - y) (zi_cs w mX4_rounded 2 N S (zi_b (fun x y => x + y) (zi_iret Rt))))))))))))) lv st h → zm_V w Γ 0 lv st h := (zs_iload_n X rfl dX4_heightAt_0 (zs_iload_n X rfl dX4_heightAt_1 (zs_iload X dX4_heightAt_2 (zs_imul X dX4_heightAt_4 (zs_aload_n X rfl dX4_heightAt_5 (zs_gf X (ci := 4) rfl (by decide) zm_in4 kw_X4_46 dX4_heightAt_6 (zs_iload_n X rfl dX4_heightAt_9 (zs_iald X (fun _ => rfl) dX4_heightAt_10 (zs_iconst X (by decide) dX4_heightAt_11 (zs_isub X dX4_heightAt_12 (zs_cs X (M' := mX4_rounded) (n := 2) kd_X4_rounded ki_X4 (by decide +kernel) (by decide) kw_X4_186 ks_X4_rounded dX4_heightAt_13 (zs_iadd X dX4_heightAt_16 (zs_iret X rfl dX4_heightAt_17)))))))))))))
set_option maxRecDepth 20000 in
theorem bkX4_lengthAt_0 {w : zW} {Γ : zC} {N S : Nat} {Rt : zR} (X : zm_X w Γ mX4_lengthAt N S Rt) : ∀ lv st h, (zi_lda 0 (zi_ldi 1 (zi_ldi 4 (zi_cv w mX4_upAt 4 3 N S (zi_lda 0 (zi_ldi 1 (zi_ldi 2 (zi_ldi 3 (zi_ldi 4 (zi_cv w mX4_heightAt 4 5 N S (zi_lda 0 (zi_ldi 1 (zi_ldi 4 (zi_cv w mX4_nearAt 4 3 N S (zi_b (fun x y => x - y) (zi_b (fun x y => x * y) (zi_iret Rt))))))))))))))))) lv st h → zm_V w Γ 0 lv st h := (zs_aload_n X rfl dX4_lengthAt_0 (zs_iload_n X rfl dX4_lengthAt_1 (zs_iload X dX4_lengthAt_2 (zs_cv X (M' := mX4_upAt) (n := 2) kd_X4_upAt ki_X4 (by decide +kernel) (by decide) kw_X4_183 rfl ks_X4_upAt kl_X4_upAt dX4_lengthAt_4 (zs_aload_n X rfl dX4_lengthAt_7 (zs_iload_n X rfl dX4_lengthAt_8 (zs_iload_n X rfl dX4_lengthAt_9 (zs_iload_n X rfl dX4_lengthAt_10 (zs_iload X dX4_lengthAt_11 (zs_cv X (M' := mX4_heightAt) (n := 4) kd_X4_heightAt ki_X4 (by decide +kernel) (by decide) kw_X4_189 rfl ks_X4_heightAt kl_X4_heightAt dX4_lengthAt_13 (zs_aload_n X rfl dX4_lengthAt_16 (zs_iload_n X rfl dX4_lengthAt_17 (zs_iload X dX4_lengthAt_18 (zs_cv X (M' := mX4_nearAt) (n := 2) kd_X4_nearAt ki_X4 (by decide +kernel) (by decide) kw_X4_171 rfl ks_X4_nearAt kl_X4_nearAt dX4_lengthAt_20 (zs_isub X dX4_lengthAt_23 (zs_imul X dX4_lengthAt_24 (zs_iret X rfl dX4_lengthAt_25)))))))))))))))))
