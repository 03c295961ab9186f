theorem dX4_isWedge_0 : decode cX4_isWedge 0 = .ok (.iload_n 2, 1) := by decide +kernel
theorem dX4_isWedge_1 : decode cX4_isWedge 1 = .ok (.aload_n 0, 1) := by decide +kernel
theorem dX4_isWedge_2 : decode cX4_isWedge 2 = .ok (.getfield 28, 3) := by decide +kernel
theorem dX4_isWedge_5 : decode cX4_isWedge 5 = .ok (.aload_n 0, 1) := by decide +kernel
theorem dX4_isWedge_6 : decode cX4_isWedge 6 = .ok (.iload_n 1, 1) := by decide +kernel
theorem dX4_isWedge_7 : decode cX4_isWedge 7 = .ok (.iconst 0, 1) := by decide +kernel
theorem dX4_isWedge_8 : decode cX4_isWedge 8 = .ok (.invokevirtual 177, 3) := by decide +kernel
theorem dX4_isWedge_11 : decode cX4_isWedge 11 = .ok (.iaload, 1) := by decide +kernel
theorem dX4_isWedge_12 : decode cX4_isWedge 12 = .ok (.invokestatic 135, 3) := by decide +kernel
theorem dX4_isWedge_15 : decode cX4_isWedge 15 = .ok (.isub, 1) := by decide +kernel
theorem dX4_isWedge_16 : decode cX4_isWedge 16 = .ok (.istore_n 3, 1) := by decide +kernel
theorem dX4_isWedge_17 : decode cX4_isWedge 17 = .ok (.aload_n 0, 1) := by decide +kernel
theorem dX4_isWedge_18 : decode cX4_isWedge 18 = .ok (.getfield 52, 3) := by decide +kernel
theorem dX4_isWedge_21 : decode cX4_isWedge 21 = .ok (.iload_n 1, 1) := by decide +kernel
theorem dX4_isWedge_22 : decode cX4_isWedge 22 = .ok (.iaload, 1) := by decide +kernel
theorem dX4_isWedge_23 : decode cX4_isWedge 23 = .ok (.ifCond .eq 31, 3) := by decide +kernel
theorem dX4_isWedge_26 : decode cX4_isWedge 26 = .ok (.iload_n 3, 1) := by decide +kernel
theorem dX4_isWedge_27 : decode cX4_isWedge 27 = .ok (.i2l, 1) := by decide +kernel
theorem dX4_isWedge_28 : decode cX4_isWedge 28 = .ok (.ldc2_w 193, 3) := by decide +kernel
theorem dX4_isWedge_31 : decode cX4_isWedge 31 = .ok (.ldc2_w 195, 3) := by decide +kernel
theorem dX4_isWedge_34 : decode cX4_isWedge 34 = .ok (.invokestatic 109, 3) := by decide +kernel
theorem dX4_isWedge_37 : decode cX4_isWedge 37 = .ok (.ifCond .eq 17, 3) := by decide +kernel
theorem dX4_isWedge_40 : decode cX4_isWedge 40 = .ok (.iload_n 3, 1) := by decide +kernel
theorem dX4_isWedge_41 : decode cX4_isWedge 41 = .ok (.bipush 40, 2) := by decide +kernel
theorem dX4_isWedge_43 : decode cX4_isWedge 43 = .ok (.iadd, 1) := by decide +kernel
theorem dX4_isWedge_44 : decode cX4_isWedge 44 = .ok (.iconst 4, 1) := by decide +kernel
theorem dX4_isWedge_45 : decode cX4_isWedge 45 = .ok (.irem, 1) := by decide +kernel
theorem dX4_isWedge_46 : decode cX4_isWedge 46 = .ok (.iconst 2, 1) := by decide +kernel
theorem dX4_isWedge_47 : decode cX4_isWedge 47 = .ok (.if_icmp .ne 7, 3) := by decide +kernel
theorem dX4_isWedge_50 : decode cX4_isWedge 50 = .ok (.iconst 1, 1) := by decide +kernel
theorem dX4_isWedge_51 : decode cX4_isWedge 51 = .ok (.goto 4, 3) := by decide +kernel
theorem dX4_isWedge_54 : decode cX4_isWedge 54 = .ok (.iconst 0, 1) := by decide +kernel
theorem dX4_isWedge_55 : decode cX4_isWedge 55 = .ok (.ireturn, 1) := by decide +kernel
theorem dX4_badnessOf_0 : decode cX4_badnessOf 0 = .ok (.ldc2_w 195, 3) := by decide +kernel
theorem dX4_badnessOf_3 : decode cX4_badnessOf 3 = .ok (.iload_n 3, 1) := by decide +kernel
theorem dX4_badnessOf_4 : decode cX4_badnessOf 4 = .ok (.aload_n 0, 1) := by decide +kernel
theorem dX4_badnessOf_5 : decode cX4_badnessOf 5 = .ok (.getfield 61, 3) := by decide +kernel
theorem dX4_badnessOf_8 : decode cX4_badnessOf 8 = .ok (.iload_n 1, 1) := by decide +kernel
theorem dX4_badnessOf_9 : decode cX4_badnessOf 9 = .ok (.iaload, 1) := by decide +kernel
theorem dX4_badnessOf_10 : decode cX4_badnessOf 10 = .ok (.isub, 1) := by decide +kernel
theorem dX4_badnessOf_11 : decode cX4_badnessOf 11 = .ok (.i2l, 1) := by decide +kernel
theorem dX4_badnessOf_12 : decode cX4_badnessOf 12 = .ok (.lmul, 1) := by decide +kernel
theorem dX4_badnessOf_13 : decode cX4_badnessOf 13 = .ok (.iload_n 3, 1) := by decide +kernel
theorem dX4_badnessOf_14 : decode cX4_badnessOf 14 = .ok (.aload_n 0, 1) := by decide +kernel
theorem dX4_badnessOf_15 : decode cX4_badnessOf 15 = .ok (.getfield 61, 3) := by decide +kernel
theorem dX4_badnessOf_18 : decode cX4_badnessOf 18 = .ok (.iload_n 1, 1) := by decide +kernel
theorem dX4_badnessOf_19 : decode cX4_badnessOf 19 = .ok (.iaload, 1) := by decide +kernel
theorem dX4_badnessOf_20 : decode cX4_badnessOf 20 = .ok (.isub, 1) := by decide +kernel
theorem dX4_badnessOf_21 : decode cX4_badnessOf 21 = .ok (.i2l, 1) := by decide +kernel
theorem dX4_badnessOf_22 : decode cX4_badnessOf 22 = .ok (.lmul, 1) := by decide +kernel
theorem dX4_badnessOf_23 : decode cX4_badnessOf 23 = .ok (.lstore 4, 2) := by decide +kernel
theorem dX4_badnessOf_25 : decode cX4_badnessOf 25 = .ok (.iconst 0, 1) := by decide +kernel
theorem dX4_badnessOf_26 : decode cX4_badnessOf 26 = .ok (.istore 6, 2) := by decide +kernel
theorem dX4_badnessOf_28 : decode cX4_badnessOf 28 = .ok (.iload 6, 2) := by decide +kernel
theorem dX4_badnessOf_30 : decode cX4_badnessOf 30 = .ok (.aload_n 0, 1) := by decide +kernel
theorem dX4_badnessOf_31 : decode cX4_badnessOf 31 = .ok (.getfield 46, 3) := by decide +kernel
theorem dX4_badnessOf_34 : decode cX4_badnessOf 34 = .ok (.iload_n 1, 1) := by decide +kernel
theorem dX4_badnessOf_35 : decode cX4_badnessOf 35 = .ok (.iaload, 1) := by decide +kernel
theorem dX4_badnessOf_36 : decode cX4_badnessOf 36 = .ok (.if_icmp .ge 90, 3) := by decide +kernel
theorem dX4_badnessOf_39 : decode cX4_badnessOf 39 = .ok (.aload_n 0, 1) := by decide +kernel
theorem dX4_badnessOf_40 : decode cX4_badnessOf 40 = .ok (.iload_n 1, 1) := by decide +kernel
theorem dX4_badnessOf_41 : decode cX4_badnessOf 41 = .ok (.iload 6, 2) := by decide +kernel
theorem dX4_badnessOf_43 : decode cX4_badnessOf 43 = .ok (.invokevirtual 177, 3) := by decide +kernel
theorem dX4_badnessOf_46 : decode cX4_badnessOf 46 = .ok (.istore 7, 2) := by decide +kernel
theorem dX4_badnessOf_48 : decode cX4_badnessOf 48 = .ok (.aload_n 0, 1) := by decide +kernel
theorem dX4_badnessOf_49 : decode cX4_badnessOf 49 = .ok (.iload_n 1, 1) := by decide +kernel
theorem dX4_badnessOf_50 : decode cX4_badnessOf 50 = .ok (.iload_n 2, 1) := by decide +kernel
theorem dX4_badnessOf_51 : decode cX4_badnessOf 51 = .ok (.iload_n 3, 1) := by decide +kernel
theorem dX4_badnessOf_52 : decode cX4_badnessOf 52 = .ok (.iload 6, 2) := by decide +kernel
theorem dX4_badnessOf_54 : decode cX4_badnessOf 54 = .ok (.invokevirtual 197, 3) := by decide +kernel
theorem dX4_badnessOf_57 : decode cX4_badnessOf 57 = .ok (.istore 8, 2) := by decide +kernel
theorem dX4_badnessOf_59 : decode cX4_badnessOf 59 = .ok (.iload 8, 2) := by decide +kernel
theorem dX4_badnessOf_61 : decode cX4_badnessOf 61 = .ok (.bipush 10, 2) := by decide +kernel
theorem dX4_badnessOf_63 : decode cX4_badnessOf 63 = .ok (.aload_n 0, 1) := by decide +kernel
theorem dX4_badnessOf_64 : decode cX4_badnessOf 64 = .ok (.iload 7, 2) := by decide +kernel
theorem dX4_badnessOf_66 : decode cX4_badnessOf 66 = .ok (.invokevirtual 148, 3) := by decide +kernel
theorem dX4_badnessOf_69 : decode cX4_badnessOf 69 = .ok (.iadd, 1) := by decide +kernel
theorem dX4_badnessOf_70 : decode cX4_badnessOf 70 = .ok (.if_icmp .ge 7, 3) := by decide +kernel
theorem dX4_badnessOf_73 : decode cX4_badnessOf 73 = .ok (.ldc2_w 200, 3) := by decide +kernel
theorem dX4_badnessOf_76 : decode cX4_badnessOf 76 = .ok (.lreturn, 1) := by decide +kernel
theorem dX4_badnessOf_77 : decode cX4_badnessOf 77 = .ok (.iload 8, 2) := by decide +kernel
theorem dX4_badnessOf_79 : decode cX4_badnessOf 79 = .ok (.aload_n 0, 1) := by decide +kernel
theorem dX4_badnessOf_80 : decode cX4_badnessOf 80 = .ok (.iload 7, 2) := by decide +kernel
theorem dX4_badnessOf_82 : decode cX4_badnessOf 82 = .ok (.aload_n 0, 1) := by decide +kernel
theorem dX4_badnessOf_83 : decode cX4_badnessOf 83 = .ok (.iload_n 1, 1) := by decide +kernel
theorem dX4_badnessOf_84 : decode cX4_badnessOf 84 = .ok (.iload 6, 2) := by decide +kernel
theorem dX4_badnessOf_86 : decode cX4_badnessOf 86 = .ok (.invokevirtual 183, 3) := by decide +kernel
theorem dX4_badnessOf_89 : decode cX4_badnessOf 89 = .ok (.aload_n 0, 1) := by decide +kernel
theorem dX4_badnessOf_90 : decode cX4_badnessOf 90 = .ok (.getfield 52, 3) := by decide +kernel
theorem dX4_badnessOf_93 : decode cX4_badnessOf 93 = .ok (.iload_n 1, 1) := by decide +kernel
theorem dX4_badnessOf_94 : decode cX4_badnessOf 94 = .ok (.iaload, 1) := by decide +kernel
theorem dX4_badnessOf_95 : decode cX4_badnessOf 95 = .ok (.ifCond .ne 7, 3) := by decide +kernel
theorem dX4_badnessOf_98 : decode cX4_badnessOf 98 = .ok (.iconst 1, 1) := by decide +kernel
theorem dX4_badnessOf_99 : decode cX4_badnessOf 99 = .ok (.goto 4, 3) := by decide +kernel
theorem dX4_badnessOf_102 : decode cX4_badnessOf 102 = .ok (.iconst 0, 1) := by decide +kernel
theorem dX4_badnessOf_103 : decode cX4_badnessOf 103 = .ok (.invokevirtual 202, 3) := by decide +kernel
theorem dX4_badnessOf_106 : decode cX4_badnessOf 106 = .ok (.isub, 1) := by decide +kernel
theorem dX4_badnessOf_107 : decode cX4_badnessOf 107 = .ok (.i2l, 1) := by decide +kernel
theorem dX4_badnessOf_108 : decode cX4_badnessOf 108 = .ok (.lstore 9, 2) := by decide +kernel
theorem dX4_badnessOf_110 : decode cX4_badnessOf 110 = .ok (.lload 4, 2) := by decide +kernel
theorem dX4_badnessOf_112 : decode cX4_badnessOf 112 = .ok (.lload 9, 2) := by decide +kernel
theorem dX4_badnessOf_114 : decode cX4_badnessOf 114 = .ok (.lload 9, 2) := by decide +kernel
theorem dX4_badnessOf_116 : decode cX4_badnessOf 116 = .ok (.lmul, 1) := by decide +kernel
theorem dX4_badnessOf_117 : decode cX4_badnessOf 117 = .ok (.ladd, 1) := by decide +kernel
theorem dX4_badnessOf_118 : decode cX4_badnessOf 118 = .ok (.lstore 4, 2) := by decide +kernel
theorem dX4_badnessOf_120 : decode cX4_badnessOf 120 = .ok (.iinc 6 1, 3) := by decide +kernel
theorem dX4_badnessOf_123 : decode cX4_badnessOf 123 = .ok (.goto (-95), 3) := by decide +kernel
theorem dX4_badnessOf_126 : decode cX4_badnessOf 126 = .ok (.lload 4, 2) := by decide +kernel
theorem dX4_badnessOf_128 : decode cX4_badnessOf 128 = .ok (.aload_n 0, 1) := by decide +kernel
theorem dX4_badnessOf_129 : decode cX4_badnessOf 129 = .ok (.iload_n 1, 1) := by decide +kernel
theorem dX4_badnessOf_130 : decode cX4_badnessOf 130 = .ok (.aload_n 0, 1) := by decide +kernel
theorem dX4_badnessOf_131 : decode cX4_badnessOf 131 = .ok (.iload_n 1, 1) := by decide +kernel
theorem dX4_badnessOf_132 : decode cX4_badnessOf 132 = .ok (.iload_n 2, 1) := by decide +kernel
theorem dX4_badnessOf_133 : decode cX4_badnessOf 133 = .ok (.iload_n 3, 1) := by decide +kernel
theorem dX4_badnessOf_134 : decode cX4_badnessOf 134 = .ok (.iconst 0, 1) := by decide +kernel
theorem dX4_badnessOf_135 : decode cX4_badnessOf 135 = .ok (.invokevirtual 189, 3) := by decide +kernel
theorem dX4_badnessOf_138 : decode cX4_badnessOf 138 = .ok (.invokevirtual 206, 3) := by decide +kernel
theorem dX4_badnessOf_141 : decode cX4_badnessOf 141 = .ok (.ifCond .eq 9, 3) := by decide +kernel
theorem dX4_badnessOf_144 : decode cX4_badnessOf 144 = .ok (.ldc2_w 209, 3) := by decide +kernel
theorem dX4_badnessOf_147 : decode cX4_badnessOf 147 = .ok (.goto 4, 3) := by decide +kernel
theorem dX4_badnessOf_150 : decode cX4_badnessOf 150 = .ok (.lconst 0, 1) := by decide +kernel
theorem dX4_badnessOf_151 : decode cX4_badnessOf 151 = .ok (.ladd, 1) := by decide +kernel
theorem dX4_badnessOf_152 : decode cX4_badnessOf 152 = .ok (.lstore 4, 2) := by decide +kernel
theorem dX4_badnessOf_154 : decode cX4_badnessOf 154 = .ok (.lload 4, 2) := by decide +kernel
theorem dX4_badnessOf_156 : decode cX4_badnessOf 156 = .ok (.aload_n 0, 1) := by decide +kernel
theorem dX4_badnessOf_157 : decode cX4_badnessOf 157 = .ok (.iload_n 1, 1) := by decide +kernel
theorem dX4_badnessOf_158 : decode cX4_badnessOf 158 = .ok (.aload_n 0, 1) := by decide +kernel
theorem dX4_badnessOf_159 : decode cX4_badnessOf 159 = .ok (.iload_n 1, 1) := by decide +kernel
theorem dX4_badnessOf_160 : decode cX4_badnessOf 160 = .ok (.iload_n 2, 1) := by decide +kernel
theorem dX4_badnessOf_161 : decode cX4_badnessOf 161 = .ok (.iload_n 3, 1) := by decide +kernel
theorem dX4_badnessOf_162 : decode cX4_badnessOf 162 = .ok (.aload_n 0, 1) := by decide +kernel
theorem dX4_badnessOf_163 : decode cX4_badnessOf 163 = .ok (.getfield 46, 3) := by decide +kernel
theorem dX4_badnessOf_166 : decode cX4_badnessOf 166 = .ok (.iload_n 1, 1) := by decide +kernel
theorem dX4_badnessOf_167 : decode cX4_badnessOf 167 = .ok (.iaload, 1) := by decide +kernel
theorem dX4_badnessOf_168 : decode cX4_badnessOf 168 = .ok (.iconst 1, 1) := by decide +kernel
theorem dX4_badnessOf_169 : decode cX4_badnessOf 169 = .ok (.isub, 1) := by decide +kernel
theorem dX4_badnessOf_170 : decode cX4_badnessOf 170 = .ok (.invokevirtual 189, 3) := by decide +kernel
theorem dX4_badnessOf_173 : decode cX4_badnessOf 173 = .ok (.invokevirtual 206, 3) := by decide +kernel
theorem dX4_badnessOf_176 : decode cX4_badnessOf 176 = .ok (.ifCond .eq 9, 3) := by decide +kernel
theorem dX4_badnessOf_179 : decode cX4_badnessOf 179 = .ok (.ldc2_w 209, 3) := by decide +kernel
theorem dX4_badnessOf_182 : decode cX4_badnessOf 182 = .ok (.goto 4, 3) := by decide +kernel
theorem dX4_badnessOf_185 : decode cX4_badnessOf 185 = .ok (.lconst 0, 1) := by decide +kernel
theorem dX4_badnessOf_186 : decode cX4_badnessOf 186 = .ok (.ladd, 1) := by decide +kernel
theorem dX4_badnessOf_187 : decode cX4_badnessOf 187 = .ok (.lstore 4, 2) := by decide +kernel
theorem dX4_badnessOf_189 : decode cX4_badnessOf 189 = .ok (.lload 4, 2) := by decide +kernel
theorem dX4_badnessOf_191 : decode cX4_badnessOf 191 = .ok (.lreturn, 1) := by decide +kernel
theorem dX4_find_0 : decode cX4_find 0 = .ok (.iconst 0, 1) := by decide +kernel
theorem dX4_find_1 : decode cX4_find 1 = .ok (.istore_n 2, 1) := by decide +kernel
theorem dX4_find_2 : decode cX4_find 2 = .ok (.iconst 0, 1) := by decide +kernel
theorem dX4_find_3 : decode cX4_find 3 = .ok (.istore_n 3, 1) := by decide +kernel
theorem dX4_find_4 : decode cX4_find 4 = .ok (.iload_n 3, 1) := by decide +kernel
theorem dX4_find_5 : decode cX4_find 5 = .ok (.aload_n 0, 1) := by decide +kernel
theorem dX4_find_6 : decode cX4_find 6 = .ok (.getfield 46, 3) := by decide +kernel
theorem dX4_find_9 : decode cX4_find 9 = .ok (.iload_n 1, 1) := by decide +kernel
theorem dX4_find_10 : decode cX4_find 10 = .ok (.iaload, 1) := by decide +kernel
theorem dX4_find_11 : decode cX4_find 11 = .ok (.if_icmp .ge 64, 3) := by decide +kernel
theorem dX4_find_14 : decode cX4_find 14 = .ok (.aload_n 0, 1) := by decide +kernel
theorem dX4_find_15 : decode cX4_find 15 = .ok (.getfield 52, 3) := by decide +kernel
theorem dX4_find_18 : decode cX4_find 18 = .ok (.iload_n 1, 1) := by decide +kernel
theorem dX4_find_19 : decode cX4_find 19 = .ok (.iaload, 1) := by decide +kernel
theorem dX4_find_20 : decode cX4_find 20 = .ok (.ifCond .eq 55, 3) := by decide +kernel
theorem dX4_find_23 : decode cX4_find 23 = .ok (.aload_n 0, 1) := by decide +kernel
theorem dX4_find_24 : decode cX4_find 24 = .ok (.getfield 52, 3) := by decide +kernel
theorem dX4_find_27 : decode cX4_find 27 = .ok (.iload_n 1, 1) := by decide +kernel
theorem dX4_find_28 : decode cX4_find 28 = .ok (.iaload, 1) := by decide +kernel
theorem dX4_find_29 : decode cX4_find 29 = .ok (.aload_n 0, 1) := by decide +kernel
theorem dX4_find_30 : decode cX4_find 30 = .ok (.iload_n 1, 1) := by decide +kernel
theorem dX4_find_31 : decode cX4_find 31 = .ok (.iload_n 3, 1) := by decide +kernel
theorem dX4_find_32 : decode cX4_find 32 = .ok (.invokevirtual 171, 3) := by decide +kernel
theorem dX4_find_35 : decode cX4_find 35 = .ok (.imul, 1) := by decide +kernel
theorem dX4_find_36 : decode cX4_find 36 = .ok (.bipush 10, 2) := by decide +kernel
theorem dX4_find_38 : decode cX4_find 38 = .ok (.iadd, 1) := by decide +kernel
theorem dX4_find_39 : decode cX4_find 39 = .ok (.aload_n 0, 1) := by decide +kernel
theorem dX4_find_40 : decode cX4_find 40 = .ok (.aload_n 0, 1) := by decide +kernel
theorem dX4_find_41 : decode cX4_find 41 = .ok (.iload_n 1, 1) := by decide +kernel
theorem dX4_find_42 : decode cX4_find 42 = .ok (.iload_n 3, 1) := by decide +kernel
theorem dX4_find_43 : decode cX4_find 43 = .ok (.invokevirtual 177, 3) := by decide +kernel
theorem dX4_find_46 : decode cX4_find 46 = .ok (.invokevirtual 148, 3) := by decide +kernel
theorem dX4_find_49 : decode cX4_find 49 = .ok (.iadd, 1) := by decide +kernel
theorem dX4_find_50 : decode cX4_find 50 = .ok (.istore 4, 2) := by decide +kernel
theorem dX4_find_52 : decode cX4_find 52 = .ok (.iload_n 3, 1) := by decide +kernel
theorem dX4_find_53 : decode cX4_find 53 = .ok (.ifCond .eq 9, 3) := by decide +kernel
theorem dX4_find_56 : decode cX4_find 56 = .ok (.iload 4, 2) := by decide +kernel
theorem dX4_find_58 : decode cX4_find 58 = .ok (.iload_n 2, 1) := by decide +kernel
theorem dX4_find_59 : decode cX4_find 59 = .ok (.if_icmp .le 8, 3) := by decide +kernel
theorem dX4_find_62 : decode cX4_find 62 = .ok (.iload 4, 2) := by decide +kernel
theorem dX4_find_64 : decode cX4_find 64 = .ok (.goto 4, 3) := by decide +kernel
theorem dX4_find_67 : decode cX4_find 67 = .ok (.iload_n 2, 1) := by decide +kernel
theorem dX4_find_68 : decode cX4_find 68 = .ok (.istore_n 2, 1) := by decide +kernel
theorem dX4_find_69 : decode cX4_find 69 = .ok (.iinc 3 1, 3) := by decide +kernel
theorem dX4_find_72 : decode cX4_find 72 = .ok (.goto (-68), 3) := by decide +kernel
theorem dX4_find_75 : decode cX4_find 75 = .ok (.aload_n 0, 1) := by decide +kernel
theorem dX4_find_76 : decode cX4_find 76 = .ok (.getfield 70, 3) := by decide +kernel
theorem dX4_find_79 : decode cX4_find 79 = .ok (.iload_n 1, 1) := by decide +kernel
theorem dX4_find_80 : decode cX4_find 80 = .ok (.ldc2_w 200, 3) := by decide +kernel
theorem dX4_find_83 : decode cX4_find 83 = .ok (.lastore, 1) := by decide +kernel
theorem dX4_find_84 : decode cX4_find 84 = .ok (.iconst 0, 1) := by decide +kernel
theorem dX4_find_85 : decode cX4_find 85 = .ok (.istore_n 3, 1) := by decide +kernel
theorem dX4_find_86 : decode cX4_find 86 = .ok (.iload_n 3, 1) := by decide +kernel
theorem dX4_find_87 : decode cX4_find 87 = .ok (.aload_n 0, 1) := by decide +kernel
theorem dX4_find_88 : decode cX4_find 88 = .ok (.getfield 64, 3) := by decide +kernel
theorem dX4_find_91 : decode cX4_find 91 = .ok (.iload_n 1, 1) := by decide +kernel
theorem dX4_find_92 : decode cX4_find 92 = .ok (.iaload, 1) := by decide +kernel
theorem dX4_find_93 : decode cX4_find 93 = .ok (.iconst 1, 1) := by decide +kernel
theorem dX4_find_94 : decode cX4_find 94 = .ok (.if_icmp .ne 7, 3) := by decide +kernel
theorem dX4_find_97 : decode cX4_find 97 = .ok (.iconst 1, 1) := by decide +kernel
theorem dX4_find_98 : decode cX4_find 98 = .ok (.goto 5, 3) := by decide +kernel
theorem dX4_find_101 : decode cX4_find 101 = .ok (.bipush 13, 2) := by decide +kernel
theorem dX4_find_103 : decode cX4_find 103 = .ok (.if_icmp .ge 166, 3) := by decide +kernel
theorem dX4_find_106 : decode cX4_find 106 = .ok (.iload_n 3, 1) := by decide +kernel
theorem dX4_find_107 : decode cX4_find 107 = .ok (.iconst 2, 1) := by decide +kernel
theorem dX4_find_108 : decode cX4_find 108 = .ok (.irem, 1) := by decide +kernel
theorem dX4_find_109 : decode cX4_find 109 = .ok (.iconst 1, 1) := by decide +kernel
theorem dX4_find_110 : decode cX4_find 110 = .ok (.if_icmp .ne 11, 3) := by decide +kernel
theorem dX4_find_113 : decode cX4_find 113 = .ok (.iload_n 3, 1) := by decide +kernel
theorem dX4_find_114 : decode cX4_find 114 = .ok (.iconst 1, 1) := by decide +kernel
theorem dX4_find_115 : decode cX4_find 115 = .ok (.iadd, 1) := by decide +kernel
theorem dX4_find_116 : decode cX4_find 116 = .ok (.iconst 2, 1) := by decide +kernel
theorem dX4_find_117 : decode cX4_find 117 = .ok (.idiv, 1) := by decide +kernel
theorem dX4_find_118 : decode cX4_find 118 = .ok (.goto 7, 3) := by decide +kernel
theorem dX4_find_121 : decode cX4_find 121 = .ok (.iload_n 3, 1) := by decide +kernel
theorem dX4_find_122 : decode cX4_find 122 = .ok (.ineg, 1) := by decide +kernel
theorem dX4_find_123 : decode cX4_find 123 = .ok (.iconst 2, 1) := by decide +kernel
theorem dX4_find_124 : decode cX4_find 124 = .ok (.idiv, 1) := by decide +kernel
theorem dX4_find_125 : decode cX4_find 125 = .ok (.istore 4, 2) := by decide +kernel
theorem dX4_find_127 : decode cX4_find 127 = .ok (.aload_n 0, 1) := by decide +kernel
theorem dX4_find_128 : decode cX4_find 128 = .ok (.getfield 52, 3) := by decide +kernel
theorem dX4_find_131 : decode cX4_find 131 = .ok (.iload_n 1, 1) := by decide +kernel
theorem dX4_find_132 : decode cX4_find 132 = .ok (.iaload, 1) := by decide +kernel
theorem dX4_find_133 : decode cX4_find 133 = .ok (.ifCond .ne 8, 3) := by decide +kernel
theorem dX4_find_136 : decode cX4_find 136 = .ok (.bipush (-48), 2) := by decide +kernel
theorem dX4_find_138 : decode cX4_find 138 = .ok (.goto 5, 3) := by decide +kernel
theorem dX4_find_141 : decode cX4_find 141 = .ok (.bipush (-24), 2) := by decide +kernel
theorem dX4_find_143 : decode cX4_find 143 = .ok (.istore 5, 2) := by decide +kernel
theorem dX4_find_145 : decode cX4_find 145 = .ok (.iload 5, 2) := by decide +kernel
theorem dX4_find_147 : decode cX4_find 147 = .ok (.aload_n 0, 1) := by decide +kernel
theorem dX4_find_148 : decode cX4_find 148 = .ok (.getfield 52, 3) := by decide +kernel
theorem dX4_find_151 : decode cX4_find 151 = .ok (.iload_n 1, 1) := by decide +kernel
theorem dX4_find_152 : decode cX4_find 152 = .ok (.iaload, 1) := by decide +kernel
theorem dX4_find_153 : decode cX4_find 153 = .ok (.ifCond .ne 7, 3) := by decide +kernel
theorem dX4_find_156 : decode cX4_find 156 = .ok (.iconst 0, 1) := by decide +kernel
theorem dX4_find_157 : decode cX4_find 157 = .ok (.goto 5, 3) := by decide +kernel
theorem dX4_find_160 : decode cX4_find 160 = .ok (.bipush 12, 2) := by decide +kernel
theorem dX4_find_162 : decode cX4_find 162 = .ok (.if_icmp .gt 101, 3) := by decide +kernel
theorem dX4_find_165 : decode cX4_find 165 = .ok (.aload_n 0, 1) := by decide +kernel
theorem dX4_find_166 : decode cX4_find 166 = .ok (.getfield 52, 3) := by decide +kernel
theorem dX4_find_169 : decode cX4_find 169 = .ok (.iload_n 1, 1) := by decide +kernel
theorem dX4_find_170 : decode cX4_find 170 = .ok (.iaload, 1) := by decide +kernel
theorem dX4_find_171 : decode cX4_find 171 = .ok (.ifCond .ne 8, 3) := by decide +kernel
theorem dX4_find_174 : decode cX4_find 174 = .ok (.iload 5, 2) := by decide +kernel
theorem dX4_find_176 : decode cX4_find 176 = .ok (.goto 14, 3) := by decide +kernel
theorem dX4_find_179 : decode cX4_find 179 = .ok (.aload_n 0, 1) := by decide +kernel
theorem dX4_find_180 : decode cX4_find 180 = .ok (.getfield 52, 3) := by decide +kernel
theorem dX4_find_183 : decode cX4_find 183 = .ok (.iload_n 1, 1) := by decide +kernel
theorem dX4_find_184 : decode cX4_find 184 = .ok (.iaload, 1) := by decide +kernel
theorem dX4_find_185 : decode cX4_find 185 = .ok (.iload_n 2, 1) := by decide +kernel
theorem dX4_find_186 : decode cX4_find 186 = .ok (.iload 5, 2) := by decide +kernel
theorem dX4_find_188 : decode cX4_find 188 = .ok (.iadd, 1) := by decide +kernel
theorem dX4_find_189 : decode cX4_find 189 = .ok (.imul, 1) := by decide +kernel
theorem dX4_find_190 : decode cX4_find 190 = .ok (.istore 6, 2) := by decide +kernel
theorem dX4_find_192 : decode cX4_find 192 = .ok (.aload_n 0, 1) := by decide +kernel
theorem dX4_find_193 : decode cX4_find 193 = .ok (.iload_n 1, 1) := by decide +kernel
theorem dX4_find_194 : decode cX4_find 194 = .ok (.iload 6, 2) := by decide +kernel
theorem dX4_find_196 : decode cX4_find 196 = .ok (.iload 4, 2) := by decide +kernel
theorem dX4_find_198 : decode cX4_find 198 = .ok (.invokevirtual 211, 3) := by decide +kernel
theorem dX4_find_201 : decode cX4_find 201 = .ok (.lstore 7, 2) := by decide +kernel
theorem dX4_find_203 : decode cX4_find 203 = .ok (.lload 7, 2) := by decide +kernel
theorem dX4_find_205 : decode cX4_find 205 = .ok (.lconst 0, 1) := by decide +kernel
theorem dX4_find_206 : decode cX4_find 206 = .ok (.lcmp, 1) := by decide +kernel
theorem dX4_find_207 : decode cX4_find 207 = .ok (.ifCond .lt 50, 3) := by decide +kernel
theorem dX4_find_210 : decode cX4_find 210 = .ok (.aload_n 0, 1) := by decide +kernel
theorem dX4_find_211 : decode cX4_find 211 = .ok (.getfield 70, 3) := by decide +kernel
theorem dX4_find_214 : decode cX4_find 214 = .ok (.iload_n 1, 1) := by decide +kernel
theorem dX4_find_215 : decode cX4_find 215 = .ok (.laload, 1) := by decide +kernel
theorem dX4_find_216 : decode cX4_find 216 = .ok (.lconst 0, 1) := by decide +kernel
theorem dX4_find_217 : decode cX4_find 217 = .ok (.lcmp, 1) := by decide +kernel
theorem dX4_find_218 : decode cX4_find 218 = .ok (.ifCond .lt 15, 3) := by decide +kernel
theorem dX4_find_221 : decode cX4_find 221 = .ok (.lload 7, 2) := by decide +kernel
theorem dX4_find_223 : decode cX4_find 223 = .ok (.aload_n 0, 1) := by decide +kernel
theorem dX4_find_224 : decode cX4_find 224 = .ok (.getfield 70, 3) := by decide +kernel
theorem dX4_find_227 : decode cX4_find 227 = .ok (.iload_n 1, 1) := by decide +kernel
theorem dX4_find_228 : decode cX4_find 228 = .ok (.laload, 1) := by decide +kernel
theorem dX4_find_229 : decode cX4_find 229 = .ok (.lcmp, 1) := by decide +kernel
theorem dX4_find_230 : decode cX4_find 230 = .ok (.ifCond .ge 27, 3) := by decide +kernel
theorem dX4_find_233 : decode cX4_find 233 = .ok (.aload_n 0, 1) := by decide +kernel
theorem dX4_find_234 : decode cX4_find 234 = .ok (.getfield 70, 3) := by decide +kernel
theorem dX4_find_237 : decode cX4_find 237 = .ok (.iload_n 1, 1) := by decide +kernel
theorem dX4_find_238 : decode cX4_find 238 = .ok (.lload 7, 2) := by decide +kernel
theorem dX4_find_240 : decode cX4_find 240 = .ok (.lastore, 1) := by decide +kernel
theorem dX4_find_241 : decode cX4_find 241 = .ok (.aload_n 0, 1) := by decide +kernel
theorem dX4_find_242 : decode cX4_find 242 = .ok (.getfield 55, 3) := by decide +kernel
theorem dX4_find_245 : decode cX4_find 245 = .ok (.iload_n 1, 1) := by decide +kernel
theorem dX4_find_246 : decode cX4_find 246 = .ok (.iload 6, 2) := by decide +kernel
theorem dX4_find_248 : decode cX4_find 248 = .ok (.iastore, 1) := by decide +kernel
theorem dX4_find_249 : decode cX4_find 249 = .ok (.aload_n 0, 1) := by decide +kernel
theorem dX4_find_250 : decode cX4_find 250 = .ok (.getfield 58, 3) := by decide +kernel
theorem dX4_find_253 : decode cX4_find 253 = .ok (.iload_n 1, 1) := by decide +kernel
theorem dX4_find_254 : decode cX4_find 254 = .ok (.iload 4, 2) := by decide +kernel
theorem dX4_find_256 : decode cX4_find 256 = .ok (.iastore, 1) := by decide +kernel
theorem dX4_find_257 : decode cX4_find 257 = .ok (.iinc 5 1, 3) := by decide +kernel
theorem dX4_find_260 : decode cX4_find 260 = .ok (.goto (-115), 3) := by decide +kernel
theorem dX4_find_263 : decode cX4_find 263 = .ok (.iinc 3 1, 3) := by decide +kernel
theorem dX4_find_266 : decode cX4_find 266 = .ok (.goto (-180), 3) := by decide +kernel
theorem dX4_find_269 : decode cX4_find 269 = .ok (.aload_n 0, 1) := by decide +kernel
theorem dX4_find_270 : decode cX4_find 270 = .ok (.getfield 70, 3) := by decide +kernel
theorem dX4_find_273 : decode cX4_find 273 = .ok (.iload_n 1, 1) := by decide +kernel
theorem dX4_find_274 : decode cX4_find 274 = .ok (.laload, 1) := by decide +kernel
theorem dX4_find_275 : decode cX4_find 275 = .ok (.lconst 0, 1) := by decide +kernel
theorem dX4_find_276 : decode cX4_find 276 = .ok (.lcmp, 1) := by decide +kernel
theorem dX4_find_277 : decode cX4_find 277 = .ok (.ifCond .lt 7, 3) := by decide +kernel
theorem dX4_find_280 : decode cX4_find 280 = .ok (.iconst 1, 1) := by decide +kernel
theorem dX4_find_281 : decode cX4_find 281 = .ok (.goto 4, 3) := by decide +kernel
theorem dX4_find_284 : decode cX4_find 284 = .ok (.iconst 0, 1) := by decide +kernel
theorem dX4_find_285 : decode cX4_find 285 = .ok (.ireturn, 1) := by decide +kernel
theorem dX4_isBeam_0 : decode cX4_isBeam 0 = .ok (.iload_n 1, 1) := by decide +kernel
theorem dX4_isBeam_1 : decode cX4_isBeam 1 = .ok (.i2l, 1) := by decide +kernel
theorem dX4_isBeam_2 : decode cX4_isBeam 2 = .ok (.lconst 0, 1) := by decide +kernel
theorem dX4_isBeam_3 : decode cX4_isBeam 3 = .ok (.aload_n 0, 1) := by decide +kernel
theorem dX4_isBeam_4 : decode cX4_isBeam 4 = .ok (.getfield 88, 3) := by decide +kernel
theorem dX4_isBeam_7 : decode cX4_isBeam 7 = .ok (.iconst 1, 1) := by decide +kernel
theorem dX4_isBeam_8 : decode cX4_isBeam 8 = .ok (.isub, 1) := by decide +kernel
theorem dX4_isBeam_9 : decode cX4_isBeam 9 = .ok (.i2l, 1) := by decide +kernel
theorem dX4_isBeam_10 : decode cX4_isBeam 10 = .ok (.invokestatic 109, 3) := by decide +kernel
theorem dX4_isBeam_13 : decode cX4_isBeam 13 = .ok (.ireturn, 1) := by decide +kernel
theorem dX4_greatest_0 : decode cX4_greatest 0 = .ok (.iconst 1, 1) := by decide +kernel
theorem dX4_greatest_1 : decode cX4_greatest 1 = .ok (.istore_n 2, 1) := by decide +kernel
theorem dX4_greatest_2 : decode cX4_greatest 2 = .ok (.iconst 0, 1) := by decide +kernel
theorem dX4_greatest_3 : decode cX4_greatest 3 = .ok (.istore_n 3, 1) := by decide +kernel
theorem dX4_greatest_4 : decode cX4_greatest 4 = .ok (.iload_n 3, 1) := by decide +kernel
theorem dX4_greatest_5 : decode cX4_greatest 5 = .ok (.aload_n 0, 1) := by decide +kernel
theorem dX4_greatest_6 : decode cX4_greatest 6 = .ok (.getfield 46, 3) := by decide +kernel
theorem dX4_greatest_9 : decode cX4_greatest 9 = .ok (.iload_n 1, 1) := by decide +kernel
theorem dX4_greatest_10 : decode cX4_greatest 10 = .ok (.iaload, 1) := by decide +kernel
theorem dX4_greatest_11 : decode cX4_greatest 11 = .ok (.if_icmp .ge 38, 3) := by decide +kernel
theorem dX4_greatest_14 : decode cX4_greatest 14 = .ok (.aload_n 0, 1) := by decide +kernel
theorem dX4_greatest_15 : decode cX4_greatest 15 = .ok (.aload_n 0, 1) := by decide +kernel
theorem dX4_greatest_16 : decode cX4_greatest 16 = .ok (.iload_n 1, 1) := by decide +kernel
theorem dX4_greatest_17 : decode cX4_greatest 17 = .ok (.iload_n 3, 1) := by decide +kernel
theorem dX4_greatest_18 : decode cX4_greatest 18 = .ok (.invokevirtual 177, 3) := by decide +kernel
theorem dX4_greatest_21 : decode cX4_greatest 21 = .ok (.invokevirtual 145, 3) := by decide +kernel
theorem dX4_greatest_24 : decode cX4_greatest 24 = .ok (.iload_n 2, 1) := by decide +kernel
theorem dX4_greatest_25 : decode cX4_greatest 25 = .ok (.if_icmp .le 16, 3) := by decide +kernel
theorem dX4_greatest_28 : decode cX4_greatest 28 = .ok (.aload_n 0, 1) := by decide +kernel
theorem dX4_greatest_29 : decode cX4_greatest 29 = .ok (.aload_n 0, 1) := by decide +kernel
theorem dX4_greatest_30 : decode cX4_greatest 30 = .ok (.iload_n 1, 1) := by decide +kernel
theorem dX4_greatest_31 : decode cX4_greatest 31 = .ok (.iload_n 3, 1) := by decide +kernel
theorem dX4_greatest_32 : decode cX4_greatest 32 = .ok (.invokevirtual 177, 3) := by decide +kernel
theorem dX4_greatest_35 : decode cX4_greatest 35 = .ok (.invokevirtual 145, 3) := by decide +kernel
theorem dX4_greatest_38 : decode cX4_greatest 38 = .ok (.goto 4, 3) := by decide +kernel
theorem dX4_greatest_41 : decode cX4_greatest 41 = .ok (.iload_n 2, 1) := by decide +kernel
theorem dX4_greatest_42 : decode cX4_greatest 42 = .ok (.istore_n 2, 1) := by decide +kernel
theorem dX4_greatest_43 : decode cX4_greatest 43 = .ok (.iinc 3 1, 3) := by decide +kernel
theorem dX4_greatest_46 : decode cX4_greatest 46 = .ok (.goto (-42), 3) := by decide +kernel
theorem dX4_greatest_49 : decode cX4_greatest 49 = .ok (.iload_n 2, 1) := by decide +kernel
theorem dX4_greatest_50 : decode cX4_greatest 50 = .ok (.ireturn, 1) := by decide +kernel
theorem dX4_beam_0 : decode cX4_beam 0 = .ok (.aload_n 0, 1) := by decide +kernel
theorem dX4_beam_1 : decode cX4_beam 1 = .ok (.iconst 0, 1) := by decide +kernel
theorem dX4_beam_2 : decode cX4_beam 2 = .ok (.putfield 77, 3) := by decide +kernel
theorem dX4_beam_5 : decode cX4_beam 5 = .ok (.aload_n 0, 1) := by decide +kernel
theorem dX4_beam_6 : decode cX4_beam 6 = .ok (.iload_n 1, 1) := by decide +kernel
theorem dX4_beam_7 : decode cX4_beam 7 = .ok (.invokevirtual 215, 3) := by decide +kernel
theorem dX4_beam_10 : decode cX4_beam 10 = .ok (.ifCond .ne 7, 3) := by decide +kernel
theorem dX4_beam_13 : decode cX4_beam 13 = .ok (.sipush (-1002), 3) := by decide +kernel
theorem dX4_beam_16 : decode cX4_beam 16 = .ok (.ireturn, 1) := by decide +kernel
theorem dX4_beam_17 : decode cX4_beam 17 = .ok (.iload_n 2, 1) := by decide +kernel
theorem dX4_beam_18 : decode cX4_beam 18 = .ok (.tableswitch 101 0 7 #[46, 53, 59, 66, 73, 80, 87, 94], 46) := by decide +kernel
theorem dX4_beam_64 : decode cX4_beam 64 = .ok (.aload_n 0, 1) := by decide +kernel
theorem dX4_beam_65 : decode cX4_beam 65 = .ok (.getfield 46, 3) := by decide +kernel
theorem dX4_beam_68 : decode cX4_beam 68 = .ok (.iload_n 1, 1) := by decide +kernel
theorem dX4_beam_69 : decode cX4_beam 69 = .ok (.iaload, 1) := by decide +kernel
theorem dX4_beam_70 : decode cX4_beam 70 = .ok (.ireturn, 1) := by decide +kernel
theorem dX4_beam_71 : decode cX4_beam 71 = .ok (.aload_n 0, 1) := by decide +kernel
theorem dX4_beam_72 : decode cX4_beam 72 = .ok (.iload_n 1, 1) := by decide +kernel
theorem dX4_beam_73 : decode cX4_beam 73 = .ok (.invokevirtual 218, 3) := by decide +kernel
theorem dX4_beam_76 : decode cX4_beam 76 = .ok (.ireturn, 1) := by decide +kernel
theorem dX4_beam_77 : decode cX4_beam 77 = .ok (.aload_n 0, 1) := by decide +kernel
theorem dX4_beam_78 : decode cX4_beam 78 = .ok (.getfield 52, 3) := by decide +kernel
theorem dX4_beam_81 : decode cX4_beam 81 = .ok (.iload_n 1, 1) := by decide +kernel
theorem dX4_beam_82 : decode cX4_beam 82 = .ok (.iaload, 1) := by decide +kernel
theorem dX4_beam_83 : decode cX4_beam 83 = .ok (.ireturn, 1) := by decide +kernel
theorem dX4_beam_84 : decode cX4_beam 84 = .ok (.aload_n 0, 1) := by decide +kernel
theorem dX4_beam_85 : decode cX4_beam 85 = .ok (.getfield 55, 3) := by decide +kernel
theorem dX4_beam_88 : decode cX4_beam 88 = .ok (.iload_n 1, 1) := by decide +kernel
theorem dX4_beam_89 : decode cX4_beam 89 = .ok (.iaload, 1) := by decide +kernel
theorem dX4_beam_90 : decode cX4_beam 90 = .ok (.ireturn, 1) := by decide +kernel
theorem dX4_beam_91 : decode cX4_beam 91 = .ok (.aload_n 0, 1) := by decide +kernel
theorem dX4_beam_92 : decode cX4_beam 92 = .ok (.getfield 58, 3) := by decide +kernel
theorem dX4_beam_95 : decode cX4_beam 95 = .ok (.iload_n 1, 1) := by decide +kernel
theorem dX4_beam_96 : decode cX4_beam 96 = .ok (.iaload, 1) := by decide +kernel
theorem dX4_beam_97 : decode cX4_beam 97 = .ok (.ireturn, 1) := by decide +kernel
theorem dX4_beam_98 : decode cX4_beam 98 = .ok (.aload_n 0, 1) := by decide +kernel
theorem dX4_beam_99 : decode cX4_beam 99 = .ok (.getfield 61, 3) := by decide +kernel
theorem dX4_beam_102 : decode cX4_beam 102 = .ok (.iload_n 1, 1) := by decide +kernel
theorem dX4_beam_103 : decode cX4_beam 103 = .ok (.iaload, 1) := by decide +kernel
theorem dX4_beam_104 : decode cX4_beam 104 = .ok (.ireturn, 1) := by decide +kernel
theorem dX4_beam_105 : decode cX4_beam 105 = .ok (.aload_n 0, 1) := by decide +kernel
theorem dX4_beam_106 : decode cX4_beam 106 = .ok (.getfield 64, 3) := by decide +kernel
theorem dX4_beam_109 : decode cX4_beam 109 = .ok (.iload_n 1, 1) := by decide +kernel
theorem dX4_beam_110 : decode cX4_beam 110 = .ok (.iaload, 1) := by decide +kernel
theorem dX4_beam_111 : decode cX4_beam 111 = .ok (.ireturn, 1) := by decide +kernel
theorem dX4_beam_112 : decode cX4_beam 112 = .ok (.aload_n 0, 1) := by decide +kernel
theorem dX4_beam_113 : decode cX4_beam 113 = .ok (.getfield 67, 3) := by decide +kernel
theorem dX4_beam_116 : decode cX4_beam 116 = .ok (.iload_n 1, 1) := by decide +kernel
theorem dX4_beam_117 : decode cX4_beam 117 = .ok (.iaload, 1) := by decide +kernel
theorem dX4_beam_118 : decode cX4_beam 118 = .ok (.ireturn, 1) := by decide +kernel
theorem dX4_beam_119 : decode cX4_beam 119 = .ok (.sipush (-1003), 3) := by decide +kernel
theorem dX4_beam_122 : decode cX4_beam 122 = .ok (.ireturn, 1) := by decide +kernel
theorem dX4_member_0 : decode cX4_member 0 = .ok (.aload_n 0, 1) := by decide +kernel
theorem dX4_member_1 : decode cX4_member 1 = .ok (.iconst 0, 1) := by decide +kernel
theorem dX4_member_2 : decode cX4_member 2 = .ok (.putfield 77, 3) := by decide +kernel
theorem dX4_member_5 : decode cX4_member 5 = .ok (.aload_n 0, 1) := by decide +kernel
theorem dX4_member_6 : decode cX4_member 6 = .ok (.iload_n 1, 1) := by decide +kernel
theorem dX4_member_7 : decode cX4_member 7 = .ok (.invokevirtual 215, 3) := by decide +kernel
theorem dX4_member_10 : decode cX4_member 10 = .ok (.ifCond .ne 9, 3) := by decide +kernel
theorem dX4_member_13 : decode cX4_member 13 = .ok (.sipush (-1002), 3) := by decide +kernel
theorem dX4_member_16 : decode cX4_member 16 = .ok (.goto 33, 3) := by decide +kernel
theorem dX4_member_19 : decode cX4_member 19 = .ok (.iload_n 2, 1) := by decide +kernel
theorem dX4_member_20 : decode cX4_member 20 = .ok (.i2l, 1) := by decide +kernel
theorem dX4_member_21 : decode cX4_member 21 = .ok (.lconst 0, 1) := by decide +kernel
theorem dX4_member_22 : decode cX4_member 22 = .ok (.aload_n 0, 1) := by decide +kernel
theorem dX4_member_23 : decode cX4_member 23 = .ok (.getfield 46, 3) := by decide +kernel
theorem dX4_member_26 : decode cX4_member 26 = .ok (.iload_n 1, 1) := by decide +kernel
theorem dX4_member_27 : decode cX4_member 27 = .ok (.iaload, 1) := by decide +kernel
theorem dX4_member_28 : decode cX4_member 28 = .ok (.iconst 1, 1) := by decide +kernel
theorem dX4_member_29 : decode cX4_member 29 = .ok (.isub, 1) := by decide +kernel
theorem dX4_member_30 : decode cX4_member 30 = .ok (.i2l, 1) := by decide +kernel
theorem dX4_member_31 : decode cX4_member 31 = .ok (.invokestatic 109, 3) := by decide +kernel
theorem dX4_member_34 : decode cX4_member 34 = .ok (.ifCond .eq 12, 3) := by decide +kernel
theorem dX4_member_37 : decode cX4_member 37 = .ok (.aload_n 0, 1) := by decide +kernel
theorem dX4_member_38 : decode cX4_member 38 = .ok (.iload_n 1, 1) := by decide +kernel
theorem dX4_member_39 : decode cX4_member 39 = .ok (.iload_n 2, 1) := by decide +kernel
theorem dX4_member_40 : decode cX4_member 40 = .ok (.invokevirtual 177, 3) := by decide +kernel
theorem dX4_member_43 : decode cX4_member 43 = .ok (.goto 6, 3) := by decide +kernel
theorem dX4_member_46 : decode cX4_member 46 = .ok (.sipush (-1001), 3) := by decide +kernel
theorem dX4_member_49 : decode cX4_member 49 = .ok (.ireturn, 1) := by decide +kernel
theorem dX4_badness_0 : decode cX4_badness 0 = .ok (.aload_n 0, 1) := by decide +kernel
theorem dX4_badness_1 : decode cX4_badness 1 = .ok (.iconst 0, 1) := by decide +kernel
theorem dX4_badness_2 : decode cX4_badness 2 = .ok (.putfield 77, 3) := by decide +kernel
theorem dX4_badness_5 : decode cX4_badness 5 = .ok (.aload_n 0, 1) := by decide +kernel
theorem dX4_badness_6 : decode cX4_badness 6 = .ok (.iload_n 1, 1) := by decide +kernel
theorem dX4_badness_7 : decode cX4_badness 7 = .ok (.invokevirtual 215, 3) := by decide +kernel
theorem dX4_badness_10 : decode cX4_badness 10 = .ok (.ifCond .eq 12, 3) := by decide +kernel
theorem dX4_badness_13 : decode cX4_badness 13 = .ok (.aload_n 0, 1) := by decide +kernel
theorem dX4_badness_14 : decode cX4_badness 14 = .ok (.getfield 70, 3) := by decide +kernel
theorem dX4_badness_17 : decode cX4_badness 17 = .ok (.iload_n 1, 1) := by decide +kernel
theorem dX4_badness_18 : decode cX4_badness 18 = .ok (.laload, 1) := by decide +kernel
theorem dX4_badness_19 : decode cX4_badness 19 = .ok (.goto 6, 3) := by decide +kernel
theorem dX4_badness_22 : decode cX4_badness 22 = .ok (.ldc2_w 200, 3) := by decide +kernel
theorem dX4_badness_25 : decode cX4_badness 25 = .ok (.lreturn, 1) := by decide +kernel
theorem dX4_other_0 : decode cX4_other 0 = .ok (.aload_n 0, 1) := by decide +kernel
theorem dX4_other_1 : decode cX4_other 1 = .ok (.iconst 0, 1) := by decide +kernel
theorem dX4_other_2 : decode cX4_other 2 = .ok (.putfield 77, 3) := by decide +kernel
theorem dX4_other_5 : decode cX4_other 5 = .ok (.aload_n 0, 1) := by decide +kernel
theorem dX4_other_6 : decode cX4_other 6 = .ok (.iload_n 1, 1) := by decide +kernel
theorem dX4_other_7 : decode cX4_other 7 = .ok (.invokevirtual 215, 3) := by decide +kernel
theorem dX4_other_10 : decode cX4_other 10 = .ok (.ifCond .eq 31, 3) := by decide +kernel
theorem dX4_other_13 : decode cX4_other 13 = .ok (.iload_n 2, 1) := by decide +kernel
theorem dX4_other_14 : decode cX4_other 14 = .ok (.i2l, 1) := by decide +kernel
theorem dX4_other_15 : decode cX4_other 15 = .ok (.ldc2_w 221, 3) := by decide +kernel
theorem dX4_other_18 : decode cX4_other 18 = .ok (.ldc2_w 223, 3) := by decide +kernel
theorem dX4_other_21 : decode cX4_other 21 = .ok (.invokestatic 109, 3) := by decide +kernel
theorem dX4_other_24 : decode cX4_other 24 = .ok (.ifCond .eq 17, 3) := by decide +kernel
theorem dX4_other_27 : decode cX4_other 27 = .ok (.iload_n 3, 1) := by decide +kernel
theorem dX4_other_28 : decode cX4_other 28 = .ok (.i2l, 1) := by decide +kernel
theorem dX4_other_29 : decode cX4_other 29 = .ok (.ldc2_w 225, 3) := by decide +kernel
theorem dX4_other_32 : decode cX4_other 32 = .ok (.ldc2_w 117, 3) := by decide +kernel
theorem dX4_other_35 : decode cX4_other 35 = .ok (.invokestatic 109, 3) := by decide +kernel
theorem dX4_other_38 : decode cX4_other 38 = .ok (.ifCond .ne 9, 3) := by decide +kernel
theorem dX4_other_41 : decode cX4_other 41 = .ok (.ldc2_w 200, 3) := by decide +kernel
theorem dX4_other_44 : decode cX4_other 44 = .ok (.goto 10, 3) := by decide +kernel
theorem dX4_other_47 : decode cX4_other 47 = .ok (.aload_n 0, 1) := by decide +kernel
theorem dX4_other_48 : decode cX4_other 48 = .ok (.iload_n 1, 1) := by decide +kernel
theorem dX4_other_49 : decode cX4_other 49 = .ok (.iload_n 2, 1) := by decide +kernel
theorem dX4_other_50 : decode cX4_other 50 = .ok (.iload_n 3, 1) := by decide +kernel
theorem dX4_other_51 : decode cX4_other 51 = .ok (.invokevirtual 211, 3) := by decide +kernel
theorem dX4_other_54 : decode cX4_other 54 = .ok (.lreturn, 1) := by decide +kernel
theorem dX4_beamOf_0 : decode cX4_beamOf 0 = .ok (.sipush (-1001), 3) := by decide +kernel
theorem dX4_beamOf_3 : decode cX4_beamOf 3 = .ok (.istore_n 2, 1) := by decide +kernel
theorem dX4_beamOf_4 : decode cX4_beamOf 4 = .ok (.iconst 0, 1) := by decide +kernel
theorem dX4_beamOf_5 : decode cX4_beamOf 5 = .ok (.istore_n 3, 1) := by decide +kernel
theorem dX4_beamOf_6 : decode cX4_beamOf 6 = .ok (.iload_n 3, 1) := by decide +kernel
theorem dX4_beamOf_7 : decode cX4_beamOf 7 = .ok (.aload_n 0, 1) := by decide +kernel
theorem dX4_beamOf_8 : decode cX4_beamOf 8 = .ok (.getfield 88, 3) := by decide +kernel
theorem dX4_beamOf_11 : decode cX4_beamOf 11 = .ok (.if_icmp .ge 46, 3) := by decide +kernel
theorem dX4_beamOf_14 : decode cX4_beamOf 14 = .ok (.iconst 0, 1) := by decide +kernel
theorem dX4_beamOf_15 : decode cX4_beamOf 15 = .ok (.istore 4, 2) := by decide +kernel
theorem dX4_beamOf_17 : decode cX4_beamOf 17 = .ok (.iload 4, 2) := by decide +kernel
theorem dX4_beamOf_19 : decode cX4_beamOf 19 = .ok (.aload_n 0, 1) := by decide +kernel
theorem dX4_beamOf_20 : decode cX4_beamOf 20 = .ok (.getfield 46, 3) := by decide +kernel
theorem dX4_beamOf_23 : decode cX4_beamOf 23 = .ok (.iload_n 3, 1) := by decide +kernel
theorem dX4_beamOf_24 : decode cX4_beamOf 24 = .ok (.iaload, 1) := by decide +kernel
theorem dX4_beamOf_25 : decode cX4_beamOf 25 = .ok (.if_icmp .ge 26, 3) := by decide +kernel
theorem dX4_beamOf_28 : decode cX4_beamOf 28 = .ok (.aload_n 0, 1) := by decide +kernel
theorem dX4_beamOf_29 : decode cX4_beamOf 29 = .ok (.iload_n 3, 1) := by decide +kernel
theorem dX4_beamOf_30 : decode cX4_beamOf 30 = .ok (.iload 4, 2) := by decide +kernel
theorem dX4_beamOf_32 : decode cX4_beamOf 32 = .ok (.invokevirtual 177, 3) := by decide +kernel
theorem dX4_beamOf_35 : decode cX4_beamOf 35 = .ok (.iload_n 1, 1) := by decide +kernel
theorem dX4_beamOf_36 : decode cX4_beamOf 36 = .ok (.if_icmp .ne 7, 3) := by decide +kernel
theorem dX4_beamOf_39 : decode cX4_beamOf 39 = .ok (.iload_n 3, 1) := by decide +kernel
theorem dX4_beamOf_40 : decode cX4_beamOf 40 = .ok (.goto 4, 3) := by decide +kernel
theorem dX4_beamOf_43 : decode cX4_beamOf 43 = .ok (.iload_n 2, 1) := by decide +kernel
theorem dX4_beamOf_44 : decode cX4_beamOf 44 = .ok (.istore_n 2, 1) := by decide +kernel
theorem dX4_beamOf_45 : decode cX4_beamOf 45 = .ok (.iinc 4 1, 3) := by decide +kernel
theorem dX4_beamOf_48 : decode cX4_beamOf 48 = .ok (.goto (-31), 3) := by decide +kernel
theorem dX4_beamOf_51 : decode cX4_beamOf 51 = .ok (.iinc 3 1, 3) := by decide +kernel
theorem dX4_beamOf_54 : decode cX4_beamOf 54 = .ok (.goto (-48), 3) := by decide +kernel
theorem dX4_beamOf_57 : decode cX4_beamOf 57 = .ok (.iload_n 2, 1) := by decide +kernel
theorem dX4_beamOf_58 : decode cX4_beamOf 58 = .ok (.ireturn, 1) := by decide +kernel
theorem dX4_placeIn_0 : decode cX4_placeIn 0 = .ok (.iconst 0, 1) := by decide +kernel
theorem dX4_placeIn_1 : decode cX4_placeIn 1 = .ok (.istore_n 3, 1) := by decide +kernel
theorem dX4_placeIn_2 : decode cX4_placeIn 2 = .ok (.iconst 0, 1) := by decide +kernel
theorem dX4_placeIn_3 : decode cX4_placeIn 3 = .ok (.istore 4, 2) := by decide +kernel
theorem dX4_placeIn_5 : decode cX4_placeIn 5 = .ok (.iload 4, 2) := by decide +kernel
theorem dX4_placeIn_7 : decode cX4_placeIn 7 = .ok (.aload_n 0, 1) := by decide +kernel
theorem dX4_placeIn_8 : decode cX4_placeIn 8 = .ok (.getfield 46, 3) := by decide +kernel
theorem dX4_placeIn_11 : decode cX4_placeIn 11 = .ok (.iload_n 1, 1) := by decide +kernel
theorem dX4_placeIn_12 : decode cX4_placeIn 12 = .ok (.iaload, 1) := by decide +kernel
theorem dX4_placeIn_13 : decode cX4_placeIn 13 = .ok (.if_icmp .ge 27, 3) := by decide +kernel
theorem dX4_placeIn_16 : decode cX4_placeIn 16 = .ok (.aload_n 0, 1) := by decide +kernel
theorem dX4_placeIn_17 : decode cX4_placeIn 17 = .ok (.iload_n 1, 1) := by decide +kernel
theorem dX4_placeIn_18 : decode cX4_placeIn 18 = .ok (.iload 4, 2) := by decide +kernel
theorem dX4_placeIn_20 : decode cX4_placeIn 20 = .ok (.invokevirtual 177, 3) := by decide +kernel
theorem dX4_placeIn_23 : decode cX4_placeIn 23 = .ok (.iload_n 2, 1) := by decide +kernel
theorem dX4_placeIn_24 : decode cX4_placeIn 24 = .ok (.if_icmp .ne 8, 3) := by decide +kernel
theorem dX4_placeIn_27 : decode cX4_placeIn 27 = .ok (.iload 4, 2) := by decide +kernel
theorem dX4_placeIn_29 : decode cX4_placeIn 29 = .ok (.goto 4, 3) := by decide +kernel
theorem dX4_placeIn_32 : decode cX4_placeIn 32 = .ok (.iload_n 3, 1) := by decide +kernel
theorem dX4_placeIn_33 : decode cX4_placeIn 33 = .ok (.istore_n 3, 1) := by decide +kernel
theorem dX4_placeIn_34 : decode cX4_placeIn 34 = .ok (.iinc 4 1, 3) := by decide +kernel
theorem dX4_placeIn_37 : decode cX4_placeIn 37 = .ok (.goto (-32), 3) := by decide +kernel
theorem dX4_placeIn_40 : decode cX4_placeIn 40 = .ok (.iload_n 3, 1) := by decide +kernel
theorem dX4_placeIn_41 : decode cX4_placeIn 41 = .ok (.ireturn, 1) := by decide +kernel
theorem dX4_stem_0 : decode cX4_stem 0 = .ok (.aload_n 0, 1) := by decide +kernel
theorem dX4_stem_1 : decode cX4_stem 1 = .ok (.iconst 0, 1) := by decide +kernel
theorem dX4_stem_2 : decode cX4_stem 2 = .ok (.putfield 77, 3) := by decide +kernel
theorem dX4_stem_5 : decode cX4_stem 5 = .ok (.aload_n 0, 1) := by decide +kernel
theorem dX4_stem_6 : decode cX4_stem 6 = .ok (.iload_n 1, 1) := by decide +kernel
theorem dX4_stem_7 : decode cX4_stem 7 = .ok (.invokevirtual 129, 3) := by decide +kernel
theorem dX4_stem_10 : decode cX4_stem 10 = .ok (.ifCond .ne 7, 3) := by decide +kernel
theorem dX4_stem_13 : decode cX4_stem 13 = .ok (.sipush (-1002), 3) := by decide +kernel
theorem dX4_stem_16 : decode cX4_stem 16 = .ok (.ireturn, 1) := by decide +kernel
theorem dX4_stem_17 : decode cX4_stem 17 = .ok (.iload_n 2, 1) := by decide +kernel
theorem dX4_stem_18 : decode cX4_stem 18 = .ok (.i2l, 1) := by decide +kernel
theorem dX4_stem_19 : decode cX4_stem 19 = .ok (.lconst 0, 1) := by decide +kernel
theorem dX4_stem_20 : decode cX4_stem 20 = .ok (.ldc2_w 133, 3) := by decide +kernel
theorem dX4_stem_23 : decode cX4_stem 23 = .ok (.invokestatic 109, 3) := by decide +kernel
theorem dX4_stem_26 : decode cX4_stem 26 = .ok (.ifCond .ne 7, 3) := by decide +kernel
theorem dX4_stem_29 : decode cX4_stem 29 = .ok (.sipush (-1003), 3) := by decide +kernel
theorem dX4_stem_32 : decode cX4_stem 32 = .ok (.ireturn, 1) := by decide +kernel
theorem dX4_stem_33 : decode cX4_stem 33 = .ok (.aload_n 0, 1) := by decide +kernel
theorem dX4_stem_34 : decode cX4_stem 34 = .ok (.getfield 13, 3) := by decide +kernel
theorem dX4_stem_37 : decode cX4_stem 37 = .ok (.iload_n 1, 1) := by decide +kernel
theorem dX4_stem_38 : decode cX4_stem 38 = .ok (.iaload, 1) := by decide +kernel
theorem dX4_stem_39 : decode cX4_stem 39 = .ok (.iconst 1, 1) := by decide +kernel
theorem dX4_stem_40 : decode cX4_stem 40 = .ok (.if_icmp .ne 7, 3) := by decide +kernel
theorem dX4_stem_43 : decode cX4_stem 43 = .ok (.sipush (-1004), 3) := by decide +kernel
theorem dX4_stem_46 : decode cX4_stem 46 = .ok (.ireturn, 1) := by decide +kernel
theorem dX4_stem_47 : decode cX4_stem 47 = .ok (.aload_n 0, 1) := by decide +kernel
theorem dX4_stem_48 : decode cX4_stem 48 = .ok (.iload_n 1, 1) := by decide +kernel
theorem dX4_stem_49 : decode cX4_stem 49 = .ok (.invokevirtual 227, 3) := by decide +kernel
theorem dX4_stem_52 : decode cX4_stem 52 = .ok (.istore_n 3, 1) := by decide +kernel
theorem dX4_stem_53 : decode cX4_stem 53 = .ok (.iload_n 2, 1) := by decide +kernel
theorem dX4_stem_54 : decode cX4_stem 54 = .ok (.iconst 4, 1) := by decide +kernel
theorem dX4_stem_55 : decode cX4_stem 55 = .ok (.if_icmp .ne 5, 3) := by decide +kernel
theorem dX4_stem_58 : decode cX4_stem 58 = .ok (.iload_n 3, 1) := by decide +kernel
theorem dX4_stem_59 : decode cX4_stem 59 = .ok (.ireturn, 1) := by decide +kernel
theorem dX4_stem_60 : decode cX4_stem 60 = .ok (.aload_n 0, 1) := by decide +kernel
theorem dX4_stem_61 : decode cX4_stem 61 = .ok (.getfield 19, 3) := by decide +kernel
theorem dX4_stem_64 : decode cX4_stem 64 = .ok (.iload_n 1, 1) := by decide +kernel
theorem dX4_stem_65 : decode cX4_stem 65 = .ok (.iaload, 1) := by decide +kernel
theorem dX4_stem_66 : decode cX4_stem 66 = .ok (.ifCond .ne 7, 3) := by decide +kernel
theorem dX4_stem_69 : decode cX4_stem 69 = .ok (.sipush (-1001), 3) := by decide +kernel
theorem dX4_stem_72 : decode cX4_stem 72 = .ok (.ireturn, 1) := by decide +kernel
theorem dX4_stem_73 : decode cX4_stem 73 = .ok (.aload_n 0, 1) := by decide +kernel
theorem dX4_stem_74 : decode cX4_stem 74 = .ok (.iload_n 1, 1) := by decide +kernel
theorem dX4_stem_75 : decode cX4_stem 75 = .ok (.invokevirtual 180, 3) := by decide +kernel
theorem dX4_stem_78 : decode cX4_stem 78 = .ok (.istore 4, 2) := by decide +kernel
theorem dX4_stem_80 : decode cX4_stem 80 = .ok (.iload_n 3, 1) := by decide +kernel
theorem dX4_stem_81 : decode cX4_stem 81 = .ok (.sipush (-1001), 3) := by decide +kernel
theorem dX4_stem_84 : decode cX4_stem 84 = .ok (.if_icmp .ne 59, 3) := by decide +kernel
theorem dX4_stem_87 : decode cX4_stem 87 = .ok (.aload_n 0, 1) := by decide +kernel
theorem dX4_stem_88 : decode cX4_stem 88 = .ok (.iload_n 1, 1) := by decide +kernel
theorem dX4_stem_89 : decode cX4_stem 89 = .ok (.iload 4, 2) := by decide +kernel
theorem dX4_stem_91 : decode cX4_stem 91 = .ok (.iconst 0, 1) := by decide +kernel
theorem dX4_stem_92 : decode cX4_stem 92 = .ok (.invokevirtual 202, 3) := by decide +kernel
theorem dX4_stem_95 : decode cX4_stem 95 = .ok (.istore 5, 2) := by decide +kernel
theorem dX4_stem_97 : decode cX4_stem 97 = .ok (.iload_n 2, 1) := by decide +kernel
theorem dX4_stem_98 : decode cX4_stem 98 = .ok (.ifCond .ne 8, 3) := by decide +kernel
theorem dX4_stem_101 : decode cX4_stem 101 = .ok (.iload 4, 2) := by decide +kernel
theorem dX4_stem_103 : decode cX4_stem 103 = .ok (.goto 39, 3) := by decide +kernel
theorem dX4_stem_106 : decode cX4_stem 106 = .ok (.iload_n 2, 1) := by decide +kernel
theorem dX4_stem_107 : decode cX4_stem 107 = .ok (.iconst 1, 1) := by decide +kernel
theorem dX4_stem_108 : decode cX4_stem 108 = .ok (.if_icmp .ne 19, 3) := by decide +kernel
theorem dX4_stem_111 : decode cX4_stem 111 = .ok (.aload_n 0, 1) := by decide +kernel
theorem dX4_stem_112 : decode cX4_stem 112 = .ok (.iload_n 1, 1) := by decide +kernel
theorem dX4_stem_113 : decode cX4_stem 113 = .ok (.iload 4, 2) := by decide +kernel
theorem dX4_stem_115 : decode cX4_stem 115 = .ok (.invokevirtual 151, 3) := by decide +kernel
theorem dX4_stem_118 : decode cX4_stem 118 = .ok (.iload 4, 2) := by decide +kernel
theorem dX4_stem_120 : decode cX4_stem 120 = .ok (.iload 5, 2) := by decide +kernel
theorem dX4_stem_122 : decode cX4_stem 122 = .ok (.imul, 1) := by decide +kernel
theorem dX4_stem_123 : decode cX4_stem 123 = .ok (.iadd, 1) := by decide +kernel
theorem dX4_stem_124 : decode cX4_stem 124 = .ok (.goto 18, 3) := by decide +kernel
theorem dX4_stem_127 : decode cX4_stem 127 = .ok (.iload_n 2, 1) := by decide +kernel
theorem dX4_stem_128 : decode cX4_stem 128 = .ok (.iconst 2, 1) := by decide +kernel
theorem dX4_stem_129 : decode cX4_stem 129 = .ok (.if_icmp .ne 8, 3) := by decide +kernel
theorem dX4_stem_132 : decode cX4_stem 132 = .ok (.iload 5, 2) := by decide +kernel
theorem dX4_stem_134 : decode cX4_stem 134 = .ok (.goto 8, 3) := by decide +kernel
theorem dX4_stem_137 : decode cX4_stem 137 = .ok (.aload_n 0, 1) := by decide +kernel
theorem dX4_stem_138 : decode cX4_stem 138 = .ok (.iload_n 1, 1) := by decide +kernel
theorem dX4_stem_139 : decode cX4_stem 139 = .ok (.invokevirtual 145, 3) := by decide +kernel
theorem dX4_stem_142 : decode cX4_stem 142 = .ok (.ireturn, 1) := by decide +kernel
theorem dX4_stem_143 : decode cX4_stem 143 = .ok (.aload_n 0, 1) := by decide +kernel
theorem dX4_stem_144 : decode cX4_stem 144 = .ok (.iload_n 3, 1) := by decide +kernel
theorem dX4_stem_145 : decode cX4_stem 145 = .ok (.iload_n 1, 1) := by decide +kernel
theorem dX4_stem_146 : decode cX4_stem 146 = .ok (.invokevirtual 230, 3) := by decide +kernel
theorem dX4_stem_149 : decode cX4_stem 149 = .ok (.istore 5, 2) := by decide +kernel
theorem dX4_stem_151 : decode cX4_stem 151 = .ok (.iload_n 2, 1) := by decide +kernel
theorem dX4_stem_152 : decode cX4_stem 152 = .ok (.ifCond .ne 13, 3) := by decide +kernel
theorem dX4_stem_155 : decode cX4_stem 155 = .ok (.aload_n 0, 1) := by decide +kernel
theorem dX4_stem_156 : decode cX4_stem 156 = .ok (.iload_n 3, 1) := by decide +kernel
theorem dX4_stem_157 : decode cX4_stem 157 = .ok (.iload 5, 2) := by decide +kernel
theorem dX4_stem_159 : decode cX4_stem 159 = .ok (.invokevirtual 183, 3) := by decide +kernel
theorem dX4_stem_162 : decode cX4_stem 162 = .ok (.goto 58, 3) := by decide +kernel
theorem dX4_stem_165 : decode cX4_stem 165 = .ok (.iload_n 2, 1) := by decide +kernel
theorem dX4_stem_166 : decode cX4_stem 166 = .ok (.iconst 1, 1) := by decide +kernel
theorem dX4_stem_167 : decode cX4_stem 167 = .ok (.if_icmp .ne 25, 3) := by decide +kernel
theorem dX4_stem_170 : decode cX4_stem 170 = .ok (.aload_n 0, 1) := by decide +kernel
theorem dX4_stem_171 : decode cX4_stem 171 = .ok (.iload_n 3, 1) := by decide +kernel
theorem dX4_stem_172 : decode cX4_stem 172 = .ok (.aload_n 0, 1) := by decide +kernel
theorem dX4_stem_173 : decode cX4_stem 173 = .ok (.getfield 55, 3) := by decide +kernel
theorem dX4_stem_176 : decode cX4_stem 176 = .ok (.iload_n 3, 1) := by decide +kernel
theorem dX4_stem_177 : decode cX4_stem 177 = .ok (.iaload, 1) := by decide +kernel
theorem dX4_stem_178 : decode cX4_stem 178 = .ok (.aload_n 0, 1) := by decide +kernel
theorem dX4_stem_179 : decode cX4_stem 179 = .ok (.getfield 58, 3) := by decide +kernel
theorem dX4_stem_182 : decode cX4_stem 182 = .ok (.iload_n 3, 1) := by decide +kernel
theorem dX4_stem_183 : decode cX4_stem 183 = .ok (.iaload, 1) := by decide +kernel
theorem dX4_stem_184 : decode cX4_stem 184 = .ok (.iload 5, 2) := by decide +kernel
theorem dX4_stem_186 : decode cX4_stem 186 = .ok (.invokevirtual 189, 3) := by decide +kernel
theorem dX4_stem_189 : decode cX4_stem 189 = .ok (.goto 31, 3) := by decide +kernel
theorem dX4_stem_192 : decode cX4_stem 192 = .ok (.iload_n 2, 1) := by decide +kernel
theorem dX4_stem_193 : decode cX4_stem 193 = .ok (.iconst 2, 1) := by decide +kernel
theorem dX4_stem_194 : decode cX4_stem 194 = .ok (.if_icmp .ne 25, 3) := by decide +kernel
theorem dX4_stem_197 : decode cX4_stem 197 = .ok (.aload_n 0, 1) := by decide +kernel
theorem dX4_stem_198 : decode cX4_stem 198 = .ok (.iload_n 3, 1) := by decide +kernel
theorem dX4_stem_199 : decode cX4_stem 199 = .ok (.aload_n 0, 1) := by decide +kernel
theorem dX4_stem_200 : decode cX4_stem 200 = .ok (.getfield 55, 3) := by decide +kernel
theorem dX4_stem_203 : decode cX4_stem 203 = .ok (.iload_n 3, 1) := by decide +kernel
theorem dX4_stem_204 : decode cX4_stem 204 = .ok (.iaload, 1) := by decide +kernel
theorem dX4_stem_205 : decode cX4_stem 205 = .ok (.aload_n 0, 1) := by decide +kernel
theorem dX4_stem_206 : decode cX4_stem 206 = .ok (.getfield 58, 3) := by decide +kernel
theorem dX4_stem_209 : decode cX4_stem 209 = .ok (.iload_n 3, 1) := by decide +kernel
theorem dX4_stem_210 : decode cX4_stem 210 = .ok (.iaload, 1) := by decide +kernel
theorem dX4_stem_211 : decode cX4_stem 211 = .ok (.iload 5, 2) := by decide +kernel
theorem dX4_stem_213 : decode cX4_stem 213 = .ok (.invokevirtual 197, 3) := by decide +kernel
theorem dX4_stem_216 : decode cX4_stem 216 = .ok (.goto 4, 3) := by decide +kernel
theorem dX4_stem_219 : decode cX4_stem 219 = .ok (.iconst 0, 1) := by decide +kernel
theorem dX4_stem_220 : decode cX4_stem 220 = .ok (.ireturn, 1) := by decide +kernel
set_option maxRecDepth 20000 in
theorem bkX4_isWedge_0 {w : zW} {Γ : zC} {N S : Nat} {Rt : zR} (X : zm_X w Γ mX4_isWedge N S Rt) : ∀ lv st h, (zi_ldi 2 (zi_lda 0 (zi_gf 4 11 (zi_lda 0 (zi_ldi 1 (zi_push (.int 0) (zi_cv w mX4_noteAt 4 3 N S (zi_ia 0 (zi_cs w mX4_middle 1 N S (zi_b (fun x y => x - y) (zi_sti 3 (zi_lda 0 (zi_gf 4 22 (zi_ldi 1 (zi_ia 0 (zi_if (fun x => x = 0) (zi_push (.int 0) (zi_zret Rt)) (zi_ldi 3 (zi_i2l (zi_push (.long (-8)) (zi_push (.long (8)) (zi_cs w mX4_in 3 N S (zi_if (fun x => x = 0) (zi_push (.int 0) (zi_zret Rt)) (zi_ldi 3 (zi_push (.int 40) (zi_b (fun x y => x + y) (zi_push (.int 4) (zi_d (fun x y => x - x / y * y) (zi_push (.int 2) (zi_ic (fun x y => x = y) (zi_push (.int 1) (zi_zret Rt)) (zi_push (.int 0) (zi_zret Rt))))))))))))))))))))))))))))))) lv st h → zm_V w Γ 0 lv st h := (zs_iload_n X rfl dX4_isWedge_0 (zs_aload_n X rfl dX4_isWedge_1 (zs_gf X (ci := 4) rfl (by decide) zm_in4 kw_X4_28 dX4_isWedge_2 (zs_aload_n X rfl dX4_isWedge_5 (zs_iload_n X rfl dX4_isWedge_6 (zs_iconst X (by decide) dX4_isWedge_7 (zs_cv X (M' := mX4_noteAt) (n := 2) kd_X4_noteAt ki_X4 (by decide +kernel) (by decide) kw_X4_177 rfl ks_X4_noteAt kl_X4_noteAt dX4_isWedge_8 (zs_iald X (fun _ => rfl) dX4_isWedge_11 (zs_cs X (M' := mX4_middle) (n := 1) kd_X4_middle ki_X4 (by decide +kernel) (by decide) kw_X4_135 ks_X4_middle dX4_isWedge_12 (zs_isub X dX4_isWedge_15 (zs_istore_n X rfl (by decide) dX4_isWedge_16 (zs_aload_n X rfl dX4_isWedge_17 (zs_gf X (ci := 4) rfl (by decide) zm_in4 kw_X4_52 dX4_isWedge_18 (zs_iload_n X rfl dX4_isWedge_21 (zs_iald X (fun _ => rfl) dX4_isWedge_22 (zs_if_eq X dX4_isWedge_23 (by decide) (zs_iconst X (by decide) dX4_isWedge_54 (zs_zret X rfl dX4_isWedge_55)) (zs_iload_n X rfl dX4_isWedge_26 (zs_i2l X dX4_isWedge_27 (zs_ldc2 X kw_X4_193 dX4_isWedge_28 (zs_ldc2 X kw_X4_195 dX4_isWedge_31 (zs_cs X (M' := mX4_in) (n := 3) kd_X4_in ki_X4 (by decide +kernel) (by decide) kw_X4_109 ks_X4_in dX4_isWedge_34 (zs_if_eq X dX4_isWedge_37 (by decide) (zs_iconst X (by decide) dX4_isWedge_54 (zs_zret X rfl dX4_isWedge_55)) (zs_iload_n X rfl dX4_isWedge_40 (zs_bipush X (by decide) dX4_isWedge_41 (zs_iadd X dX4_isWedge_43 (zs_iconst X (by decide) dX4_isWedge_44 (zs_irem X dX4_isWedge_45 (zs_iconst X (by decide) dX4_isWedge_46 (zs_icmp_ne X dX4_isWedge_47 (by decide) (zs_iconst X (by decide) dX4_isWedge_54 (zs_zret X rfl dX4_isWedge_55)) (zs_iconst X (by decide) dX4_isWedge_50 (zs_goto X dX4_isWedge_51 (by decide) (zs_zret X rfl dX4_isWedge_55))))))))))))))))))))))))))))))))
set_option maxRecDepth 20000 in
theorem bkX4_badnessOf_0 {w : zW} {Γ : zC} {N S : Nat} {Rt : zR} (X : zm_X w Γ mX4_badnessOf N S Rt) : ∀ lv st h, (zi_push (.long (8)) (zi_ldi 3 (zi_lda 0 (zi_gf 4 25 (zi_ldi 1 (zi_ia 0 (zi_b (fun x y => x - y) (zi_i2l (zi_bl (fun x y => x * y) (zi_ldi 3 (zi_lda 0 (zi_gf 4 25 (zi_ldi 1 (zi_ia 0 (zi_b (fun x y => x - y) (zi_i2l (zi_bl (fun x y => x * y) (zi_stl 4 (zi_push (.int 0) (zi_sti 6 (zm_V w Γ 28))))))))))))))))))))) lv st h → zm_V w Γ 0 lv st h := (zs_ldc2 X kw_X4_195 dX4_badnessOf_0 (zs_iload_n X rfl dX4_badnessOf_3 (zs_aload_n X rfl dX4_badnessOf_4 (zs_gf X (ci := 4) rfl (by decide) zm_in4 kw_X4_61 dX4_badnessOf_5 (zs_iload_n X rfl dX4_badnessOf_8 (zs_iald X (fun _ => rfl) dX4_badnessOf_9 (zs_isub X dX4_badnessOf_10 (zs_i2l X dX4_badnessOf_11 (zs_lmul X dX4_badnessOf_12 (zs_iload_n X rfl dX4_badnessOf_13 (zs_aload_n X rfl dX4_badnessOf_14 (zs_gf X (ci := 4) rfl (by decide) zm_in4 kw_X4_61 dX4_badnessOf_15 (zs_iload_n X rfl dX4_badnessOf_18 (zs_iald X (fun _ => rfl) dX4_badnessOf_19 (zs_isub X dX4_badnessOf_20 (zs_i2l X dX4_badnessOf_21 (zs_lmul X dX4_badnessOf_22 (zs_lstore X (by decide) dX4_badnessOf_23 (zs_iconst X (by decide) dX4_badnessOf_25 (zs_istore X (by decide) dX4_badnessOf_26 (fun _ _ _ h => h)))))))))))))))))))))
set_option maxRecDepth 20000 in
theorem bkX4_badnessOf_28 {w : zW} {Γ : zC} {N S : Nat} {Rt : zR} (X : zm_X w Γ mX4_badnessOf N S Rt) : ∀ lv st h, (zi_ldi 6 (zi_lda 0 (zi_gf 4 20 (zi_ldi 1 (zi_ia 0 (zi_ic (fun x y => y ≤ x) (zi_ldl 4 (zi_lda 0 (zi_ldi 1 (zi_lda 0 (zi_ldi 1 (zi_ldi 2 (zi_ldi 3 (zi_push (.int 0) (zi_cv w mX4_heightAt 4 5 N S (zi_cv w mX4_isWedge 4 3 N S (zi_if (fun x => x = 0) (zi_push (.long 0) (zm_V w Γ 151)) (zi_push (.long (25)) (zm_V w Γ 151))))))))))))) (zi_lda 0 (zi_ldi 1 (zi_ldi 6 (zi_cv w mX4_noteAt 4 3 N S (zi_sti 7 (zi_lda 0 (zi_ldi 1 (zi_ldi 2 (zi_ldi 3 (zi_ldi 6 (zi_cv w mX4_lengthAt 4 5 N S (zi_sti 8 (zi_ldi 8 (zi_push (.int 10) (zi_lda 0 (zi_ldi 7 (zi_cv w mX4_more 4 2 N S (zi_b (fun x y => x + y) (zi_ic (fun x y => y ≤ x) (zi_ldi 8 (zi_lda 0 (zi_ldi 7 (zi_lda 0 (zi_ldi 1 (zi_ldi 6 (zi_cv w mX4_upAt 4 3 N S (zi_lda 0 (zi_gf 4 22 (zi_ldi 1 (zi_ia 0 (zi_if (fun x => x = 0) (zi_push (.int 1) (zm_V w Γ 103)) (zi_push (.int 0) (zm_V w Γ 103)))))))))))))) (zi_push (.long (-1)) (zi_lret Rt))))))))))))))))))))))))))) lv st h → zm_V w Γ 28 lv st h := (zs_iload X dX4_badnessOf_28 (zs_aload_n X rfl dX4_badnessOf_30 (zs_gf X (ci := 4) rfl (by decide) zm_in4 kw_X4_46 dX4_badnessOf_31 (zs_iload_n X rfl dX4_badnessOf_34 (zs_iald X (fun _ => rfl) dX4_badnessOf_35 (zs_icmp_ge X dX4_badnessOf_36 (by decide) (zs_lload X dX4_badnessOf_126 (zs_aload_n X rfl dX4_badnessOf_128 (zs_iload_n X rfl dX4_badnessOf_129 (zs_aload_n X rfl dX4_badnessOf_130 (zs_iload_n X rfl dX4_badnessOf_131 (zs_iload_n X rfl dX4_badnessOf_132 (zs_iload_n X rfl dX4_badnessOf_133 (zs_iconst X (by decide) dX4_badnessOf_134 (zs_cv X (M' := mX4_heightAt) (n := 4) kd_X4_heightAt ki_X4 (by decide +kernel) (by decide) kw_X4_189 rfl ks_X4_heightAt kl_X4_heightAt dX4_badnessOf_135 (zs_cv X (M' := mX4_isWedge) (n := 2) kd_X4_isWedge ki_X4 (by decide +kernel) (by decide) kw_X4_206 rfl ks_X4_isWedge kl_X4_isWedge dX4_badnessOf_138 (zs_if_eq X dX4_badnessOf_141 (by decide) (zs_lconst X (by decide) dX4_badnessOf_150 (fun _ _ _ h => h)) (zs_ldc2 X kw_X4_209 dX4_badnessOf_144 (zs_goto X dX4_badnessOf_147 (by decide) (fun _ _ _ h => h)))))))))))))) (zs_aload_n X rfl dX4_badnessOf_39 (zs_iload_n X rfl dX4_badnessOf_40 (zs_iload X dX4_badnessOf_41 (zs_cv X (M' := mX4_noteAt) (n := 2) kd_X4_noteAt ki_X4 (by decide +kernel) (by decide) kw_X4_177 rfl ks_X4_noteAt kl_X4_noteAt dX4_badnessOf_43 (zs_istore X (by decide) dX4_badnessOf_46 (zs_aload_n X rfl dX4_badnessOf_48 (zs_iload_n X rfl dX4_badnessOf_49 (zs_iload_n X rfl dX4_badnessOf_50 (zs_iload_n X rfl dX4_badnessOf_51 (zs_iload X dX4_badnessOf_52 (zs_cv X (M' := mX4_lengthAt) (n := 4) kd_X4_lengthAt ki_X4 (by decide +kernel) (by decide) kw_X4_197 rfl ks_X4_lengthAt kl_X4_lengthAt dX4_badnessOf_54 (zs_istore X (by decide) dX4_badnessOf_57 (zs_iload X dX4_badnessOf_59 (zs_bipush X (by decide) dX4_badnessOf_61 (zs_aload_n X rfl dX4_badnessOf_63 (zs_iload X dX4_badnessOf_64 (zs_cv X (M' := mX4_more) (n := 1) kd_X4_more ki_X4 (by decide +kernel) (by decide) kw_X4_148 rfl ks_X4_more kl_X4_more dX4_badnessOf_66 (zs_iadd X dX4_badnessOf_69 (zs_icmp_ge X dX4_badnessOf_70 (by decide) (zs_iload X dX4_badnessOf_77 (zs_aload_n X rfl dX4_badnessOf_79 (zs_iload X dX4_badnessOf_80 (zs_aload_n X rfl dX4_badnessOf_82 (zs_iload_n X rfl dX4_badnessOf_83 (zs_iload X dX4_badnessOf_84 (zs_cv X (M' := mX4_upAt) (n := 2) kd_X4_upAt ki_X4 (by decide +kernel) (by decide) kw_X4_183 rfl ks_X4_upAt kl_X4_upAt dX4_badnessOf_86 (zs_aload_n X rfl dX4_badnessOf_89 (zs_gf X (ci := 4) rfl (by decide) zm_in4 kw_X4_52 dX4_badnessOf_90 (zs_iload_n X rfl dX4_badnessOf_93 (zs_iald X (fun _ => rfl) dX4_badnessOf_94 (zs_if_ne X dX4_badnessOf_95 (by decide) (zs_iconst X (by decide) dX4_badnessOf_102 (fun _ _ _ h => h)) (zs_iconst X (by decide) dX4_badnessOf_98 (zs_goto X dX4_badnessOf_99 (by decide) (fun _ _ _ h => h))))))))))))))) (zs_ldc2 X kw_X4_200 dX4_badnessOf_73 (zs_lret X rfl dX4_badnessOf_76)))))))))))))))))))))))))))
set_option maxRecDepth 20000 in
theorem bkX4_badnessOf_103 {w : zW} {Γ : zC} {N S : Nat} {Rt : zR} (X : zm_X w Γ mX4_badnessOf N S Rt) : ∀ lv st h, (zi_cv w mX4_want 4 4 N S (zi_b (fun x y => x - y) (zi_i2l (zi_stl 9 (zi_ldl 4 (zi_ldl 9 (zi_ldl 9 (zi_bl (fun x y => x * y) (zi_bl (fun x y => x + y) (zi_stl 4 (zi_inc 6 1 (zm_V w Γ 28)))))))))))) lv st h → zm_V w Γ 103 lv st h := (zs_cv X (M' := mX4_want) (n := 3) kd_X4_want ki_X4 (by decide +kernel) (by decide) kw_X4_202 rfl ks_X4_want kl_X4_want dX4_badnessOf_103 (zs_isub X dX4_badnessOf_106 (zs_i2l X dX4_badnessOf_107 (zs_lstore X (by decide) dX4_badnessOf_108 (zs_lload X dX4_badnessOf_110 (zs_lload X dX4_badnessOf_112 (zs_lload X dX4_badnessOf_114 (zs_lmul X dX4_badnessOf_116 (zs_ladd X dX4_badnessOf_117 (zs_lstore X (by decide) dX4_badnessOf_118 (zs_iinc X (by decide) (by decide) dX4_badnessOf_120 (zs_goto X dX4_badnessOf_123 (by decide) (fun _ _ _ h => h)))))))))))))
set_option maxRecDepth 20000 in
theorem bkX4_badnessOf_151 {w : zW} {Γ : zC} {N S : Nat} {Rt : zR} (X : zm_X w Γ mX4_badnessOf N S Rt) : ∀ lv st h, (zi_bl (fun x y => x + y) (zi_stl 4 (zi_ldl 4 (zi_lda 0 (zi_ldi 1 (zi_lda 0 (zi_ldi 1 (zi_ldi 2 (zi_ldi 3 (zi_lda 0 (zi_gf 4 20 (zi_ldi 1 (zi_ia 0 (zi_push (.int 1) (zi_b (fun x y => x - y) (zi_cv w mX4_heightAt 4 5 N S (zi_cv w mX4_isWedge 4 3 N S (zi_if (fun x => x = 0) (zi_push (.long 0) (zi_bl (fun x y => x + y) (zi_stl 4 (zi_ldl 4 (zi_lret Rt))))) (zi_push (.long (25)) (zi_bl (fun x y => x + y) (zi_stl 4 (zi_ldl 4 (zi_lret Rt))))))))))))))))))))))) lv st h → zm_V w Γ 151 lv st h := (zs_ladd X dX4_badnessOf_151 (zs_lstore X (by decide) dX4_badnessOf_152 (zs_lload X dX4_badnessOf_154 (zs_aload_n X rfl dX4_badnessOf_156 (zs_iload_n X rfl dX4_badnessOf_157 (zs_aload_n X rfl dX4_badnessOf_158 (zs_iload_n X rfl dX4_badnessOf_159 (zs_iload_n X rfl dX4_badnessOf_160 (zs_iload_n X rfl dX4_badnessOf_161 (zs_aload_n X rfl dX4_badnessOf_162 (zs_gf X (ci := 4) rfl (by decide) zm_in4 kw_X4_46 dX4_badnessOf_163 (zs_iload_n X rfl dX4_badnessOf_166 (zs_iald X (fun _ => rfl) dX4_badnessOf_167 (zs_iconst X (by decide) dX4_badnessOf_168 (zs_isub X dX4_badnessOf_169 (zs_cv X (M' := mX4_heightAt) (n := 4) kd_X4_heightAt ki_X4 (by decide +kernel) (by decide) kw_X4_189 rfl ks_X4_heightAt kl_X4_heightAt dX4_badnessOf_170 (zs_cv X (M' := mX4_isWedge) (n := 2) kd_X4_isWedge ki_X4 (by decide +kernel) (by decide) kw_X4_206 rfl ks_X4_isWedge kl_X4_isWedge dX4_badnessOf_173 (zs_if_eq X dX4_badnessOf_176 (by decide) (zs_lconst X (by decide) dX4_badnessOf_185 (zs_ladd X dX4_badnessOf_186 (zs_lstore X (by decide) dX4_badnessOf_187 (zs_lload X dX4_badnessOf_189 (zs_lret X rfl dX4_badnessOf_191))))) (zs_ldc2 X kw_X4_209 dX4_badnessOf_179 (zs_goto X dX4_badnessOf_182 (by decide) (zs_ladd X dX4_badnessOf_186 (zs_lstore X (by decide) dX4_badnessOf_187 (zs_lload X dX4_badnessOf_189 (zs_lret X rfl dX4_badnessOf_191))))))))))))))))))))))))
set_option maxRecDepth 20000 in
theorem bkX4_find_0 {w : zW} {Γ : zC} {N S : Nat} {Rt : zR} (X : zm_X w Γ mX4_find N S Rt) : ∀ lv st h, (zi_push (.int 0) (zi_sti 2 (zi_push (.int 0) (zi_sti 3 (zm_V w Γ 4))))) lv st h → zm_V w Γ 0 lv st h := (zs_iconst X (by decide) dX4_find_0 (zs_istore_n X rfl (by decide) dX4_find_1 (zs_iconst X (by decide) dX4_find_2 (zs_istore_n X rfl (by decide) dX4_find_3 (fun _ _ _ h => h)))))
set_option maxRecDepth 20000 in
theorem bkX4_find_4 {w : zW} {Γ : zC} {N S : Nat} {Rt : zR} (X : zm_X w Γ mX4_find N S Rt) : ∀ lv st h, (zi_ldi 3 (zi_lda 0 (zi_gf 4 20 (zi_ldi 1 (zi_ia 0 (zi_ic (fun x y => y ≤ x) (zi_lda 0 (zi_gf 4 28 (zi_ldi 1 (zi_push (.long (-1)) (zi_lst 1 (zi_push (.int 0) (zi_sti 3 (zm_V w Γ 86)))))))) (zi_lda 0 (zi_gf 4 22 (zi_ldi 1 (zi_ia 0 (zi_if (fun x => x = 0) (zi_lda 0 (zi_gf 4 28 (zi_ldi 1 (zi_push (.long (-1)) (zi_lst 1 (zi_push (.int 0) (zi_sti 3 (zm_V w Γ 86)))))))) (zi_lda 0 (zi_gf 4 22 (zi_ldi 1 (zi_ia 0 (zi_lda 0 (zi_ldi 1 (zi_ldi 3 (zi_cv w mX4_nearAt 4 3 N S (zi_b (fun x y => x * y) (zi_push (.int 10) (zi_b (fun x y => x + y) (zi_lda 0 (zi_lda 0 (zi_ldi 1 (zi_ldi 3 (zi_cv w mX4_noteAt 4 3 N S (zi_cv w mX4_more 4 2 N S (zi_b (fun x y => x + y) (zi_sti 4 (zi_ldi 3 (zi_if (fun x => x = 0) (zi_ldi 4 (zi_sti 2 (zi_inc 3 1 (zm_V w Γ 4)))) (zi_ldi 4 (zi_ldi 2 (zi_ic (fun x y => x ≤ y) (zi_ldi 2 (zi_sti 2 (zi_inc 3 1 (zm_V w Γ 4)))) (zi_ldi 4 (zi_sti 2 (zi_inc 3 1 (zm_V w Γ 4))))))))))))))))))))))))))))))))))))))) lv st h → zm_V w Γ 4 lv st h := (zs_iload_n X rfl dX4_find_4 (zs_aload_n X rfl dX4_find_5 (zs_gf X (ci := 4) rfl (by decide) zm_in4 kw_X4_46 dX4_find_6 (zs_iload_n X rfl dX4_find_9 (zs_iald X (fun _ => rfl) dX4_find_10 (zs_icmp_ge X dX4_find_11 (by decide) (zs_aload_n X rfl dX4_find_75 (zs_gf X (ci := 4) rfl (by decide) zm_in4 kw_X4_70 dX4_find_76 (zs_iload_n X rfl dX4_find_79 (zs_ldc2 X kw_X4_200 dX4_find_80 (zs_last X (fun _ => rfl) dX4_find_83 (zs_iconst X (by decide) dX4_find_84 (zs_istore_n X rfl (by decide) dX4_find_85 (fun _ _ _ h => h)))))))) (zs_aload_n X rfl dX4_find_14 (zs_gf X (ci := 4) rfl (by decide) zm_in4 kw_X4_52 dX4_find_15 (zs_iload_n X rfl dX4_find_18 (zs_iald X (fun _ => rfl) dX4_find_19 (zs_if_eq X dX4_find_20 (by decide) (zs_aload_n X rfl dX4_find_75 (zs_gf X (ci := 4) rfl (by decide) zm_in4 kw_X4_70 dX4_find_76 (zs_iload_n X rfl dX4_find_79 (zs_ldc2 X kw_X4_200 dX4_find_80 (zs_last X (fun _ => rfl) dX4_find_83 (zs_iconst X (by decide) dX4_find_84 (zs_istore_n X rfl (by decide) dX4_find_85 (fun _ _ _ h => h)))))))) (zs_aload_n X rfl dX4_find_23 (zs_gf X (ci := 4) rfl (by decide) zm_in4 kw_X4_52 dX4_find_24 (zs_iload_n X rfl dX4_find_27 (zs_iald X (fun _ => rfl) dX4_find_28 (zs_aload_n X rfl dX4_find_29 (zs_iload_n X rfl dX4_find_30 (zs_iload_n X rfl dX4_find_31 (zs_cv X (M' := mX4_nearAt) (n := 2) kd_X4_nearAt ki_X4 (by decide +kernel) (by decide) kw_X4_171 rfl ks_X4_nearAt kl_X4_nearAt dX4_find_32 (zs_imul X dX4_find_35 (zs_bipush X (by decide) dX4_find_36 (zs_iadd X dX4_find_38 (zs_aload_n X rfl dX4_find_39 (zs_aload_n X rfl dX4_find_40 (zs_iload_n X rfl dX4_find_41 (zs_iload_n X rfl dX4_find_42 (zs_cv X (M' := mX4_noteAt) (n := 2) kd_X4_noteAt ki_X4 (by decide +kernel) (by decide) kw_X4_177 rfl ks_X4_noteAt kl_X4_noteAt dX4_find_43 (zs_cv X (M' := mX4_more) (n := 1) kd_X4_more ki_X4 (by decide +kernel) (by decide) kw_X4_148 rfl ks_X4_more kl_X4_more dX4_find_46 (zs_iadd X dX4_find_49 (zs_istore X (by decide) dX4_find_50 (zs_iload_n X rfl dX4_find_52 (zs_if_eq X dX4_find_53 (by decide) (zs_iload X dX4_find_62 (zs_goto X dX4_find_64 (by decide) (zs_istore_n X rfl (by decide) dX4_find_68 (zs_iinc X (by decide) (by decide) dX4_find_69 (zs_goto X dX4_find_72 (by decide) (fun _ _ _ h => h)))))) (zs_iload X dX4_find_56 (zs_iload_n X rfl dX4_find_58 (zs_icmp_le X dX4_find_59 (by decide) (zs_iload_n X rfl dX4_find_67 (zs_istore_n X rfl (by decide) dX4_find_68 (zs_iinc X (by decide) (by decide) dX4_find_69 (zs_goto X dX4_find_72 (by decide) (fun _ _ _ h => h))))) (zs_iload X dX4_find_62 (zs_goto X dX4_find_64 (by decide) (zs_istore_n X rfl (by decide) dX4_find_68 (zs_iinc X (by decide) (by decide) dX4_find_69 (zs_goto X dX4_find_72 (by decide) (fun _ _ _ h => h)))))))))))))))))))))))))))))))))))))))))
set_option maxRecDepth 20000 in
theorem bkX4_find_86 {w : zW} {Γ : zC} {N S : Nat} {Rt : zR} (X : zm_X w Γ mX4_find N S Rt) : ∀ lv st h, (zi_ldi 3 (zi_lda 0 (zi_gf 4 26 (zi_ldi 1 (zi_ia 0 (zi_push (.int 1) (zi_ic (fun x y => x = y) (zi_push (.int 1) (zm_V w Γ 103)) (zi_push (.int 13) (zm_V w Γ 103))))))))) lv st h → zm_V w Γ 86 lv st h := (zs_iload_n X rfl dX4_find_86 (zs_aload_n X rfl dX4_find_87 (zs_gf X (ci := 4) rfl (by decide) zm_in4 kw_X4_64 dX4_find_88 (zs_iload_n X rfl dX4_find_91 (zs_iald X (fun _ => rfl) dX4_find_92 (zs_iconst X (by decide) dX4_find_93 (zs_icmp_ne X dX4_find_94 (by decide) (zs_bipush X (by decide) dX4_find_101 (fun _ _ _ h => h)) (zs_iconst X (by decide) dX4_find_97 (zs_goto X dX4_find_98 (by decide) (fun _ _ _ h => h))))))))))
set_option maxRecDepth 20000 in
theorem bkX4_find_103 {w : zW} {Γ : zC} {N S : Nat} {Rt : zR} (X : zm_X w Γ mX4_find N S Rt) : ∀ lv st h, (zi_ic (fun x y => y ≤ x) (zi_lda 0 (zi_gf 4 28 (zi_ldi 1 (zi_la 1 (zi_push (.long 0) (zi_lcmp (zi_if (fun x => x < 0) (zi_push (.int 0) (zi_zret Rt)) (zi_push (.int 1) (zi_zret Rt))))))))) (zi_ldi 3 (zi_push (.int 2) (zi_d (fun x y => x - x / y * y) (zi_push (.int 1) (zi_ic (fun x y => x = y) (zi_ldi 3 (zi_push (.int 1) (zi_b (fun x y => x + y) (zi_push (.int 2) (zi_d (fun x y => x / y) (zm_V w Γ 125)))))) (zi_ldi 3 (zi_u (fun x => -x) (zi_push (.int 2) (zi_d (fun x y => x / y) (zm_V w Γ 125))))))))))) lv st h → zm_V w Γ 103 lv st h := (zs_icmp_ge X dX4_find_103 (by decide) (zs_aload_n X rfl dX4_find_269 (zs_gf X (ci := 4) rfl (by decide) zm_in4 kw_X4_70 dX4_find_270 (zs_iload_n X rfl dX4_find_273 (zs_lald X (fun _ => rfl) dX4_find_274 (zs_lconst X (by decide) dX4_find_275 (zs_lcmp X dX4_find_276 (zs_if_lt X dX4_find_277 (by decide) (zs_iconst X (by decide) dX4_find_284 (zs_zret X rfl dX4_find_285)) (zs_iconst X (by decide) dX4_find_280 (zs_goto X dX4_find_281 (by decide) (zs_zret X rfl dX4_find_285)))))))))) (zs_iload_n X rfl dX4_find_106 (zs_iconst X (by decide) dX4_find_107 (zs_irem X dX4_find_108 (zs_iconst X (by decide) dX4_find_109 (zs_icmp_ne X dX4_find_110 (by decide) (zs_iload_n X rfl dX4_find_121 (zs_ineg X dX4_find_122 (zs_iconst X (by decide) dX4_find_123 (zs_idiv X dX4_find_124 (fun _ _ _ h => h))))) (zs_iload_n X rfl dX4_find_113 (zs_iconst X (by decide) dX4_find_114 (zs_iadd X dX4_find_115 (zs_iconst X (by decide) dX4_find_116 (zs_idiv X dX4_find_117 (zs_goto X dX4_find_118 (by decide) (fun _ _ _ h => h)))))))))))))
set_option maxRecDepth 20000 in
theorem bkX4_find_125 {w : zW} {Γ : zC} {N S : Nat} {Rt : zR} (X : zm_X w Γ mX4_find N S Rt) : ∀ lv st h, (zi_sti 4 (zi_lda 0 (zi_gf 4 22 (zi_ldi 1 (zi_ia 0 (zi_if (fun x => x = 0) (zi_push (.int (-48)) (zi_sti 5 (zm_V w Γ 145))) (zi_push (.int (-24)) (zi_sti 5 (zm_V w Γ 145))))))))) lv st h → zm_V w Γ 125 lv st h := (zs_istore X (by decide) dX4_find_125 (zs_aload_n X rfl dX4_find_127 (zs_gf X (ci := 4) rfl (by decide) zm_in4 kw_X4_52 dX4_find_128 (zs_iload_n X rfl dX4_find_131 (zs_iald X (fun _ => rfl) dX4_find_132 (zs_if_ne X dX4_find_133 (by decide) (zs_bipush X (by decide) dX4_find_141 (zs_istore X (by decide) dX4_find_143 (fun _ _ _ h => h))) (zs_bipush X (by decide) dX4_find_136 (zs_goto X dX4_find_138 (by decide) (zs_istore X (by decide) dX4_find_143 (fun _ _ _ h => h))))))))))
set_option maxRecDepth 20000 in
theorem bkX4_find_145 {w : zW} {Γ : zC} {N S : Nat} {Rt : zR} (X : zm_X w Γ mX4_find N S Rt) : ∀ lv st h, (zi_ldi 5 (zi_lda 0 (zi_gf 4 22 (zi_ldi 1 (zi_ia 0 (zi_if (fun x => x = 0) (zi_push (.int 0) (zm_V w Γ 162)) (zi_push (.int 12) (zm_V w Γ 162)))))))) lv st h → zm_V w Γ 145 lv st h := (zs_iload X dX4_find_145 (zs_aload_n X rfl dX4_find_147 (zs_gf X (ci := 4) rfl (by decide) zm_in4 kw_X4_52 dX4_find_148 (zs_iload_n X rfl dX4_find_151 (zs_iald X (fun _ => rfl) dX4_find_152 (zs_if_ne X dX4_find_153 (by decide) (zs_bipush X (by decide) dX4_find_160 (fun _ _ _ h => h)) (zs_iconst X (by decide) dX4_find_156 (zs_goto X dX4_find_157 (by decide) (fun _ _ _ h => h)))))))))
set_option maxRecDepth 20000 in
theorem bkX4_find_162 {w : zW} {Γ : zC} {N S : Nat} {Rt : zR} (X : zm_X w Γ mX4_find N S Rt) : ∀ lv st h, (zi_ic (fun x y => y < x) (zi_inc 3 1 (zm_V w Γ 86)) (zi_lda 0 (zi_gf 4 22 (zi_ldi 1 (zi_ia 0 (zi_if (fun x => x = 0) (zi_ldi 5 (zm_V w Γ 190)) (zi_lda 0 (zi_gf 4 22 (zi_ldi 1 (zi_ia 0 (zi_ldi 2 (zi_ldi 5 (zi_b (fun x y => x + y) (zi_b (fun x y => x * y) (zm_V w Γ 190))))))))))))))) lv st h → zm_V w Γ 162 lv st h := (zs_icmp_gt X dX4_find_162 (by decide) (zs_iinc X (by decide) (by decide) dX4_find_263 (zs_goto X dX4_find_266 (by decide) (fun _ _ _ h => h))) (zs_aload_n X rfl dX4_find_165 (zs_gf X (ci := 4) rfl (by decide) zm_in4 kw_X4_52 dX4_find_166 (zs_iload_n X rfl dX4_find_169 (zs_iald X (fun _ => rfl) dX4_find_170 (zs_if_ne X dX4_find_171 (by decide) (zs_aload_n X rfl dX4_find_179 (zs_gf X (ci := 4) rfl (by decide) zm_in4 kw_X4_52 dX4_find_180 (zs_iload_n X rfl dX4_find_183 (zs_iald X (fun _ => rfl) dX4_find_184 (zs_iload_n X rfl dX4_find_185 (zs_iload X dX4_find_186 (zs_iadd X dX4_find_188 (zs_imul X dX4_find_189 (fun _ _ _ h => h))))))))) (zs_iload X dX4_find_174 (zs_goto X dX4_find_176 (by decide) (fun _ _ _ h => h)))))))))
set_option maxRecDepth 20000 in
theorem bkX4_find_190 {w : zW} {Γ : zC} {N S : Nat} {Rt : zR} (X : zm_X w Γ mX4_find N S Rt) : ∀ lv st h, (zi_sti 6 (zi_lda 0 (zi_ldi 1 (zi_ldi 6 (zi_ldi 4 (zi_cv w mX4_badnessOf 4 4 N S (zi_stl 7 (zi_ldl 7 (zi_push (.long 0) (zi_lcmp (zi_if (fun x => x < 0) (zi_inc 5 1 (zm_V w Γ 145)) (zi_lda 0 (zi_gf 4 28 (zi_ldi 1 (zi_la 1 (zi_push (.long 0) (zi_lcmp (zi_if (fun x => x < 0) (zm_V w Γ 233) (zi_ldl 7 (zi_lda 0 (zi_gf 4 28 (zi_ldi 1 (zi_la 1 (zi_lcmp (zi_if (fun x => 0 ≤ x) (zi_inc 5 1 (zm_V w Γ 145)) (zm_V w Γ 233)))))))))))))))))))))))))) lv st h → zm_V w Γ 190 lv st h := (zs_istore X (by decide) dX4_find_190 (zs_aload_n X rfl dX4_find_192 (zs_iload_n X rfl dX4_find_193 (zs_iload X dX4_find_194 (zs_iload X dX4_find_196 (zs_cv X (M' := mX4_badnessOf) (n := 3) kd_X4_badnessOf ki_X4 (by decide +kernel) (by decide) kw_X4_211 rfl ks_X4_badnessOf kl_X4_badnessOf dX4_find_198 (zs_lstore X (by decide) dX4_find_201 (zs_lload X dX4_find_203 (zs_lconst X (by decide) dX4_find_205 (zs_lcmp X dX4_find_206 (zs_if_lt X dX4_find_207 (by decide) (zs_iinc X (by decide) (by decide) dX4_find_257 (zs_goto X dX4_find_260 (by decide) (fun _ _ _ h => h))) (zs_aload_n X rfl dX4_find_210 (zs_gf X (ci := 4) rfl (by decide) zm_in4 kw_X4_70 dX4_find_211 (zs_iload_n X rfl dX4_find_214 (zs_lald X (fun _ => rfl) dX4_find_215 (zs_lconst X (by decide) dX4_find_216 (zs_lcmp X dX4_find_217 (zs_if_lt X dX4_find_218 (by decide) (fun _ _ _ h => h) (zs_lload X dX4_find_221 (zs_aload_n X rfl dX4_find_223 (zs_gf X (ci := 4) rfl (by decide) zm_in4 kw_X4_70 dX4_find_224 (zs_iload_n X rfl dX4_find_227 (zs_lald X (fun _ => rfl) dX4_find_228 (zs_lcmp X dX4_find_229 (zs_if_ge X dX4_find_230 (by decide) (zs_iinc X (by decide) (by decide) dX4_find_257 (zs_goto X dX4_find_260 (by decide) (fun _ _ _ h => h))) (fun _ _ _ h => h))))))))))))))))))))))))))
set_option maxRecDepth 20000 in
theorem bkX4_find_233 {w : zW} {Γ : zC} {N S : Nat} {Rt : zR} (X : zm_X w Γ mX4_find N S Rt) : ∀ lv st h, (zi_lda 0 (zi_gf 4 28 (zi_ldi 1 (zi_ldl 7 (zi_lst 1 (zi_lda 0 (zi_gf 4 23 (zi_ldi 1 (zi_ldi 6 (zi_is 0 (zi_lda 0 (zi_gf 4 24 (zi_ldi 1 (zi_ldi 4 (zi_is 0 (zi_inc 5 1 (zm_V w Γ 145))))))))))))))))) lv st h → zm_V w Γ 233 lv st h := (zs_aload_n X rfl dX4_find_233 (zs_gf X (ci := 4) rfl (by decide) zm_in4 kw_X4_70 dX4_find_234 (zs_iload_n X rfl dX4_find_237 (zs_lload X dX4_find_238 (zs_last X (fun _ => rfl) dX4_find_240 (zs_aload_n X rfl dX4_find_241 (zs_gf X (ci := 4) rfl (by decide) zm_in4 kw_X4_55 dX4_find_242 (zs_iload_n X rfl dX4_find_245 (zs_iload X dX4_find_246 (zs_iast X (fun _ => rfl) dX4_find_248 (zs_aload_n X rfl dX4_find_249 (zs_gf X (ci := 4) rfl (by decide) zm_in4 kw_X4_58 dX4_find_250 (zs_iload_n X rfl dX4_find_253 (zs_iload X dX4_find_254 (zs_iast X (fun _ => rfl) dX4_find_256 (zs_iinc X (by decide) (by decide) dX4_find_257 (zs_goto X dX4_find_260 (by decide) (fun _ _ _ h => h))))))))))))))))))
set_option maxRecDepth 20000 in
theorem bkX4_isBeam_0 {w : zW} {Γ : zC} {N S : Nat} {Rt : zR} (X : zm_X w Γ mX4_isBeam N S Rt) : ∀ lv st h, (zi_ldi 1 (zi_i2l (zi_push (.long 0) (zi_lda 0 (zi_gf 4 18 (zi_push (.int 1) (zi_b (fun x y => x - y) (zi_i2l (zi_cs w mX4_in 3 N S (zi_zret Rt)))))))))) lv st h → zm_V w Γ 0 lv st h := (zs_iload_n X rfl dX4_isBeam_0 (zs_i2l X dX4_isBeam_1 (zs_lconst X (by decide) dX4_isBeam_2 (zs_aload_n X rfl dX4_isBeam_3 (zs_gf X (ci := 4) rfl (by decide) zm_in4 kw_X4_88 dX4_isBeam_4 (zs_iconst X (by decide) dX4_isBeam_7 (zs_isub X dX4_isBeam_8 (zs_i2l X dX4_isBeam_9 (zs_cs X (M' := mX4_in) (n := 3) kd_X4_in ki_X4 (by decide +kernel) (by decide) kw_X4_109 ks_X4_in dX4_isBeam_10 (zs_zret X rfl dX4_isBeam_13))))))))))
set_option maxRecDepth 20000 in
theorem bkX4_greatest_0 {w : zW} {Γ : zC} {N S : Nat} {Rt : zR} (X : zm_X w Γ mX4_greatest N S Rt) : ∀ lv st h, (zi_push (.int 1) (zi_sti 2 (zi_push (.int 0) (zi_sti 3 (zm_V w Γ 4))))) lv st h → zm_V w Γ 0 lv st h := (zs_iconst X (by decide) dX4_greatest_0 (zs_istore_n X rfl (by decide) dX4_greatest_1 (zs_iconst X (by decide) dX4_greatest_2 (zs_istore_n X rfl (by decide) dX4_greatest_3 (fun _ _ _ h => h)))))
set_option maxRecDepth 20000 in
theorem bkX4_greatest_4 {w : zW} {Γ : zC} {N S : Nat} {Rt : zR} (X : zm_X w Γ mX4_greatest N S Rt) : ∀ lv st h, (zi_ldi 3 (zi_lda 0 (zi_gf 4 20 (zi_ldi 1 (zi_ia 0 (zi_ic (fun x y => y ≤ x) (zi_ldi 2 (zi_iret Rt)) (zi_lda 0 (zi_lda 0 (zi_ldi 1 (zi_ldi 3 (zi_cv w mX4_noteAt 4 3 N S (zi_cv w mX4_levels 4 2 N S (zi_ldi 2 (zi_ic (fun x y => x ≤ y) (zi_ldi 2 (zi_sti 2 (zi_inc 3 1 (zm_V w Γ 4)))) (zi_lda 0 (zi_lda 0 (zi_ldi 1 (zi_ldi 3 (zi_cv w mX4_noteAt 4 3 N S (zi_cv w mX4_levels 4 2 N S (zi_sti 2 (zi_inc 3 1 (zm_V w Γ 4))))))))))))))))))))))) lv st h → zm_V w Γ 4 lv st h := (zs_iload_n X rfl dX4_greatest_4 (zs_aload_n X rfl dX4_greatest_5 (zs_gf X (ci := 4) rfl (by decide) zm_in4 kw_X4_46 dX4_greatest_6 (zs_iload_n X rfl dX4_greatest_9 (zs_iald X (fun _ => rfl) dX4_greatest_10 (zs_icmp_ge X dX4_greatest_11 (by decide) (zs_iload_n X rfl dX4_greatest_49 (zs_iret X rfl dX4_greatest_50)) (zs_aload_n X rfl dX4_greatest_14 (zs_aload_n X rfl dX4_greatest_15 (zs_iload_n X rfl dX4_greatest_16 (zs_iload_n X rfl dX4_greatest_17 (zs_cv X (M' := mX4_noteAt) (n := 2) kd_X4_noteAt ki_X4 (by decide +kernel) (by decide) kw_X4_177 rfl ks_X4_noteAt kl_X4_noteAt dX4_greatest_18 (zs_cv X (M' := mX4_levels) (n := 1) kd_X4_levels ki_X4 (by decide +kernel) (by decide) kw_X4_145 rfl ks_X4_levels kl_X4_levels dX4_greatest_21 (zs_iload_n X rfl dX4_greatest_24 (zs_icmp_le X dX4_greatest_25 (by decide) (zs_iload_n X rfl dX4_greatest_41 (zs_istore_n X rfl (by decide) dX4_greatest_42 (zs_iinc X (by decide) (by decide) dX4_greatest_43 (zs_goto X dX4_greatest_46 (by decide) (fun _ _ _ h => h))))) (zs_aload_n X rfl dX4_greatest_28 (zs_aload_n X rfl dX4_greatest_29 (zs_iload_n X rfl dX4_greatest_30 (zs_iload_n X rfl dX4_greatest_31 (zs_cv X (M' := mX4_noteAt) (n := 2) kd_X4_noteAt ki_X4 (by decide +kernel) (by decide) kw_X4_177 rfl ks_X4_noteAt kl_X4_noteAt dX4_greatest_32 (zs_cv X (M' := mX4_levels) (n := 1) kd_X4_levels ki_X4 (by decide +kernel) (by decide) kw_X4_145 rfl ks_X4_levels kl_X4_levels dX4_greatest_35 (zs_goto X dX4_greatest_38 (by decide) (zs_istore_n X rfl (by decide) dX4_greatest_42 (zs_iinc X (by decide) (by decide) dX4_greatest_43 (zs_goto X dX4_greatest_46 (by decide) (fun _ _ _ h => h)))))))))))))))))))))))))
set_option maxRecDepth 20000 in
theorem bkX4_beam_0 {w : zW} {Γ : zC} {N S : Nat} {Rt : zR} (X : zm_X w Γ mX4_beam N S Rt) : ∀ lv st h, (zi_lda 0 (zi_push (.int 0) (zi_pf 4 0 .int (zi_lda 0 (zi_ldi 1 (zi_cv w mX4_isBeam 4 2 N S (zi_if (fun x => x = 0) (zi_push (.int (-1002)) (zi_iret Rt)) (zi_ldi 2 (zi_sw [(0, (zi_lda 0 (zi_gf 4 20 (zi_ldi 1 (zi_ia 0 (zi_iret Rt)))))), (1, (zi_lda 0 (zi_ldi 1 (zi_cv w mX4_greatest 4 2 N S (zi_iret Rt))))), (2, (zi_lda 0 (zi_gf 4 22 (zi_ldi 1 (zi_ia 0 (zi_iret Rt)))))), (3, (zi_lda 0 (zi_gf 4 23 (zi_ldi 1 (zi_ia 0 (zi_iret Rt)))))), (4, (zi_lda 0 (zi_gf 4 24 (zi_ldi 1 (zi_ia 0 (zi_iret Rt)))))), (5, (zi_lda 0 (zi_gf 4 25 (zi_ldi 1 (zi_ia 0 (zi_iret Rt)))))), (6, (zi_lda 0 (zi_gf 4 26 (zi_ldi 1 (zi_ia 0 (zi_iret Rt)))))), (7, (zi_lda 0 (zi_gf 4 27 (zi_ldi 1 (zi_ia 0 (zi_iret Rt))))))] (zi_push (.int (-1003)) (zi_iret Rt))))))))))) lv st h → zm_V w Γ 0 lv st h := (zs_aload_n X rfl dX4_beam_0 (zs_iconst X (by decide) dX4_beam_1 (zs_pf X (ci := 4) rfl (by decide) zm_in4 kw_X4_77 tyX4 tyX4_ok nmX4 rfl rfl dX4_beam_2 (zs_aload_n X rfl dX4_beam_5 (zs_iload_n X rfl dX4_beam_6 (zs_cv X (M' := mX4_isBeam) (n := 1) kd_X4_isBeam ki_X4 (by decide +kernel) (by decide) kw_X4_215 rfl ks_X4_isBeam kl_X4_isBeam dX4_beam_7 (zs_if_ne X dX4_beam_10 (by decide) (zs_iload_n X rfl dX4_beam_17 (zs_tsw X dX4_beam_18 (by decide) (zm_tk_cons (by decide) (by decide) (zs_aload_n X rfl dX4_beam_64 (zs_gf X (ci := 4) rfl (by decide) zm_in4 kw_X4_46 dX4_beam_65 (zs_iload_n X rfl dX4_beam_68 (zs_iald X (fun _ => rfl) dX4_beam_69 (zs_iret X rfl dX4_beam_70))))) (zm_tk_cons (by decide) (by decide) (zs_aload_n X rfl dX4_beam_71 (zs_iload_n X rfl dX4_beam_72 (zs_cv X (M' := mX4_greatest) (n := 1) kd_X4_greatest ki_X4 (by decide +kernel) (by decide) kw_X4_218 rfl ks_X4_greatest kl_X4_greatest dX4_beam_73 (zs_iret X rfl dX4_beam_76)))) (zm_tk_cons (by decide) (by decide) (zs_aload_n X rfl dX4_beam_77 (zs_gf X (ci := 4) rfl (by decide) zm_in4 kw_X4_52 dX4_beam_78 (zs_iload_n X rfl dX4_beam_81 (zs_iald X (fun _ => rfl) dX4_beam_82 (zs_iret X rfl dX4_beam_83))))) (zm_tk_cons (by decide) (by decide) (zs_aload_n X rfl dX4_beam_84 (zs_gf X (ci := 4) rfl (by decide) zm_in4 kw_X4_55 dX4_beam_85 (zs_iload_n X rfl dX4_beam_88 (zs_iald X (fun _ => rfl) dX4_beam_89 (zs_iret X rfl dX4_beam_90))))) (zm_tk_cons (by decide) (by decide) (zs_aload_n X rfl dX4_beam_91 (zs_gf X (ci := 4) rfl (by decide) zm_in4 kw_X4_58 dX4_beam_92 (zs_iload_n X rfl dX4_beam_95 (zs_iald X (fun _ => rfl) dX4_beam_96 (zs_iret X rfl dX4_beam_97))))) (zm_tk_cons (by decide) (by decide) (zs_aload_n X rfl dX4_beam_98 (zs_gf X (ci := 4) rfl (by decide) zm_in4 kw_X4_61 dX4_beam_99 (zs_iload_n X rfl dX4_beam_102 (zs_iald X (fun _ => rfl) dX4_beam_103 (zs_iret X rfl dX4_beam_104))))) (zm_tk_cons (by decide) (by decide) (zs_aload_n X rfl dX4_beam_105 (zs_gf X (ci := 4) rfl (by decide) zm_in4 kw_X4_64 dX4_beam_106 (zs_iload_n X rfl dX4_beam_109 (zs_iald X (fun _ => rfl) dX4_beam_110 (zs_iret X rfl dX4_beam_111))))) (zm_tk_cons (by decide) (by decide) (zs_aload_n X rfl dX4_beam_112 (zs_gf X (ci := 4) rfl (by decide) zm_in4 kw_X4_67 dX4_beam_113 (zs_iload_n X rfl dX4_beam_116 (zs_iald X (fun _ => rfl) dX4_beam_117 (zs_iret X rfl dX4_beam_118))))) zm_tk_nil)))))))) (by decide) (zs_sipush X (by decide) dX4_beam_119 (zs_iret X rfl dX4_beam_122)))) (zs_sipush X (by decide) dX4_beam_13 (zs_iret X rfl dX4_beam_16)))))))))
set_option maxRecDepth 20000 in
theorem bkX4_member_0 {w : zW} {Γ : zC} {N S : Nat} {Rt : zR} (X : zm_X w Γ mX4_member N S Rt) : ∀ lv st h, (zi_lda 0 (zi_push (.int 0) (zi_pf 4 0 .int (zi_lda 0 (zi_ldi 1 (zi_cv w mX4_isBeam 4 2 N S (zi_if (fun x => x = 0) (zi_push (.int (-1002)) (zi_iret Rt)) (zi_ldi 2 (zi_i2l (zi_push (.long 0) (zi_lda 0 (zi_gf 4 20 (zi_ldi 1 (zi_ia 0 (zi_push (.int 1) (zi_b (fun x y => x - y) (zi_i2l (zi_cs w mX4_in 3 N S (zi_if (fun x => x = 0) (zi_push (.int (-1001)) (zi_iret Rt)) (zi_lda 0 (zi_ldi 1 (zi_ldi 2 (zi_cv w mX4_noteAt 4 3 N S (zi_iret Rt)))))))))))))))))))))))) lv st h → zm_V w Γ 0 lv st h := (zs_aload_n X rfl dX4_member_0 (zs_iconst X (by decide) dX4_member_1 (zs_pf X (ci := 4) rfl (by decide) zm_in4 kw_X4_77 tyX4 tyX4_ok nmX4 rfl rfl dX4_member_2 (zs_aload_n X rfl dX4_member_5 (zs_iload_n X rfl dX4_member_6 (zs_cv X (M' := mX4_isBeam) (n := 1) kd_X4_isBeam ki_X4 (by decide +kernel) (by decide) kw_X4_215 rfl ks_X4_isBeam kl_X4_isBeam dX4_member_7 (zs_if_ne X dX4_member_10 (by decide) (zs_iload_n X rfl dX4_member_19 (zs_i2l X dX4_member_20 (zs_lconst X (by decide) dX4_member_21 (zs_aload_n X rfl dX4_member_22 (zs_gf X (ci := 4) rfl (by decide) zm_in4 kw_X4_46 dX4_member_23 (zs_iload_n X rfl dX4_member_26 (zs_iald X (fun _ => rfl) dX4_member_27 (zs_iconst X (by decide) dX4_member_28 (zs_isub X dX4_member_29 (zs_i2l X dX4_member_30 (zs_cs X (M' := mX4_in) (n := 3) kd_X4_in ki_X4 (by decide +kernel) (by decide) kw_X4_109 ks_X4_in dX4_member_31 (zs_if_eq X dX4_member_34 (by decide) (zs_sipush X (by decide) dX4_member_46 (zs_iret X rfl dX4_member_49)) (zs_aload_n X rfl dX4_member_37 (zs_iload_n X rfl dX4_member_38 (zs_iload_n X rfl dX4_member_39 (zs_cv X (M' := mX4_noteAt) (n := 2) kd_X4_noteAt ki_X4 (by decide +kernel) (by decide) kw_X4_177 rfl ks_X4_noteAt kl_X4_noteAt dX4_member_40 (zs_goto X dX4_member_43 (by decide) (zs_iret X rfl dX4_member_49)))))))))))))))))) (zs_sipush X (by decide) dX4_member_13 (zs_goto X dX4_member_16 (by decide) (zs_iret X rfl dX4_member_49))))))))))
set_option maxRecDepth 20000 in
theorem bkX4_badness_0 {w : zW} {Γ : zC} {N S : Nat} {Rt : zR} (X : zm_X w Γ mX4_badness N S Rt) : ∀ lv st h, (zi_lda 0 (zi_push (.int 0) (zi_pf 4 0 .int (zi_lda 0 (zi_ldi 1 (zi_cv w mX4_isBeam 4 2 N S (zi_if (fun x => x = 0) (zi_push (.long (-1)) (zi_lret Rt)) (zi_lda 0 (zi_gf 4 28 (zi_ldi 1 (zi_la 1 (zi_lret Rt)))))))))))) lv st h → zm_V w Γ 0 lv st h := (zs_aload_n X rfl dX4_badness_0 (zs_iconst X (by decide) dX4_badness_1 (zs_pf X (ci := 4) rfl (by decide) zm_in4 kw_X4_77 tyX4 tyX4_ok nmX4 rfl rfl dX4_badness_2 (zs_aload_n X rfl dX4_badness_5 (zs_iload_n X rfl dX4_badness_6 (zs_cv X (M' := mX4_isBeam) (n := 1) kd_X4_isBeam ki_X4 (by decide +kernel) (by decide) kw_X4_215 rfl ks_X4_isBeam kl_X4_isBeam dX4_badness_7 (zs_if_eq X dX4_badness_10 (by decide) (zs_ldc2 X kw_X4_200 dX4_badness_22 (zs_lret X rfl dX4_badness_25)) (zs_aload_n X rfl dX4_badness_13 (zs_gf X (ci := 4) rfl (by decide) zm_in4 kw_X4_70 dX4_badness_14 (zs_iload_n X rfl dX4_badness_17 (zs_lald X (fun _ => rfl) dX4_badness_18 (zs_goto X dX4_badness_19 (by decide) (zs_lret X rfl dX4_badness_25)))))))))))))
set_option maxRecDepth 20000 in
theorem bkX4_other_0 {w : zW} {Γ : zC} {N S : Nat} {Rt : zR} (X : zm_X w Γ mX4_other N S Rt) : ∀ lv st h, (zi_lda 0 (zi_push (.int 0) (zi_pf 4 0 .int (zi_lda 0 (zi_ldi 1 (zi_cv w mX4_isBeam 4 2 N S (zi_if (fun x => x = 0) (zi_push (.long (-1)) (zi_lret Rt)) (zi_ldi 2 (zi_i2l (zi_push (.long (-200)) (zi_push (.long (200)) (zi_cs w mX4_in 3 N S (zi_if (fun x => x = 0) (zi_push (.long (-1)) (zi_lret Rt)) (zi_ldi 3 (zi_i2l (zi_push (.long (-6)) (zi_push (.long (6)) (zi_cs w mX4_in 3 N S (zi_if (fun x => x = 0) (zi_push (.long (-1)) (zi_lret Rt)) (zi_lda 0 (zi_ldi 1 (zi_ldi 2 (zi_ldi 3 (zi_cv w mX4_badnessOf 4 4 N S (zi_lret Rt))))))))))))))))))))))))) lv st h → zm_V w Γ 0 lv st h := (zs_aload_n X rfl dX4_other_0 (zs_iconst X (by decide) dX4_other_1 (zs_pf X (ci := 4) rfl (by decide) zm_in4 kw_X4_77 tyX4 tyX4_ok nmX4 rfl rfl dX4_other_2 (zs_aload_n X rfl dX4_other_5 (zs_iload_n X rfl dX4_other_6 (zs_cv X (M' := mX4_isBeam) (n := 1) kd_X4_isBeam ki_X4 (by decide +kernel) (by decide) kw_X4_215 rfl ks_X4_isBeam kl_X4_isBeam dX4_other_7 (zs_if_eq X dX4_other_10 (by decide) (zs_ldc2 X kw_X4_200 dX4_other_41 (zs_goto X dX4_other_44 (by decide) (zs_lret X rfl dX4_other_54))) (zs_iload_n X rfl dX4_other_13 (zs_i2l X dX4_other_14 (zs_ldc2 X kw_X4_221 dX4_other_15 (zs_ldc2 X kw_X4_223 dX4_other_18 (zs_cs X (M' := mX4_in) (n := 3) kd_X4_in ki_X4 (by decide +kernel) (by decide) kw_X4_109 ks_X4_in dX4_other_21 (zs_if_eq X dX4_other_24 (by decide) (zs_ldc2 X kw_X4_200 dX4_other_41 (zs_goto X dX4_other_44 (by decide) (zs_lret X rfl dX4_other_54))) (zs_iload_n X rfl dX4_other_27 (zs_i2l X dX4_other_28 (zs_ldc2 X kw_X4_225 dX4_other_29 (zs_ldc2 X kw_X4_117 dX4_other_32 (zs_cs X (M' := mX4_in) (n := 3) kd_X4_in ki_X4 (by decide +kernel) (by decide) kw_X4_109 ks_X4_in dX4_other_35 (zs_if_ne X dX4_other_38 (by decide) (zs_aload_n X rfl dX4_other_47 (zs_iload_n X rfl dX4_other_48 (zs_iload_n X rfl dX4_other_49 (zs_iload_n X rfl dX4_other_50 (zs_cv X (M' := mX4_badnessOf) (n := 3) kd_X4_badnessOf ki_X4 (by decide +kernel) (by decide) kw_X4_211 rfl ks_X4_badnessOf kl_X4_badnessOf dX4_other_51 (zs_lret X rfl dX4_other_54)))))) (zs_ldc2 X kw_X4_200 dX4_other_41 (zs_goto X dX4_other_44 (by decide) (zs_lret X rfl dX4_other_54))))))))))))))))))))))
set_option maxRecDepth 20000 in
theorem bkX4_beamOf_0 {w : zW} {Γ : zC} {N S : Nat} {Rt : zR} (X : zm_X w Γ mX4_beamOf N S Rt) : ∀ lv st h, (zi_push (.int (-1001)) (zi_sti 2 (zi_push (.int 0) (zi_sti 3 (zm_V w Γ 6))))) lv st h → zm_V w Γ 0 lv st h := (zs_sipush X (by decide) dX4_beamOf_0 (zs_istore_n X rfl (by decide) dX4_beamOf_3 (zs_iconst X (by decide) dX4_beamOf_4 (zs_istore_n X rfl (by decide) dX4_beamOf_5 (fun _ _ _ h => h)))))
set_option maxRecDepth 20000 in
theorem bkX4_beamOf_6 {w : zW} {Γ : zC} {N S : Nat} {Rt : zR} (X : zm_X w Γ mX4_beamOf N S Rt) : ∀ lv st h, (zi_ldi 3 (zi_lda 0 (zi_gf 4 18 (zi_ic (fun x y => y ≤ x) (zi_ldi 2 (zi_iret Rt)) (zi_push (.int 0) (zi_sti 4 (zm_V w Γ 17))))))) lv st h → zm_V w Γ 6 lv st h := (zs_iload_n X rfl dX4_beamOf_6 (zs_aload_n X rfl dX4_beamOf_7 (zs_gf X (ci := 4) rfl (by decide) zm_in4 kw_X4_88 dX4_beamOf_8 (zs_icmp_ge X dX4_beamOf_11 (by decide) (zs_iload_n X rfl dX4_beamOf_57 (zs_iret X rfl dX4_beamOf_58)) (zs_iconst X (by decide) dX4_beamOf_14 (zs_istore X (by decide) dX4_beamOf_15 (fun _ _ _ h => h)))))))
set_option maxRecDepth 20000 in
theorem bkX4_beamOf_17 {w : zW} {Γ : zC} {N S : Nat} {Rt : zR} (X : zm_X w Γ mX4_beamOf N S Rt) : ∀ lv st h, (zi_ldi 4 (zi_lda 0 (zi_gf 4 20 (zi_ldi 3 (zi_ia 0 (zi_ic (fun x y => y ≤ x) (zi_inc 3 1 (zm_V w Γ 6)) (zi_lda 0 (zi_ldi 3 (zi_ldi 4 (zi_cv w mX4_noteAt 4 3 N S (zi_ldi 1 (zi_ic (fun x y => x = y) (zi_ldi 3 (zi_sti 2 (zi_inc 4 1 (zm_V w Γ 17)))) (zi_ldi 2 (zi_sti 2 (zi_inc 4 1 (zm_V w Γ 17)))))))))))))))) lv st h → zm_V w Γ 17 lv st h := (zs_iload X dX4_beamOf_17 (zs_aload_n X rfl dX4_beamOf_19 (zs_gf X (ci := 4) rfl (by decide) zm_in4 kw_X4_46 dX4_beamOf_20 (zs_iload_n X rfl dX4_beamOf_23 (zs_iald X (fun _ => rfl) dX4_beamOf_24 (zs_icmp_ge X dX4_beamOf_25 (by decide) (zs_iinc X (by decide) (by decide) dX4_beamOf_51 (zs_goto X dX4_beamOf_54 (by decide) (fun _ _ _ h => h))) (zs_aload_n X rfl dX4_beamOf_28 (zs_iload_n X rfl dX4_beamOf_29 (zs_iload X dX4_beamOf_30 (zs_cv X (M' := mX4_noteAt) (n := 2) kd_X4_noteAt ki_X4 (by decide +kernel) (by decide) kw_X4_177 rfl ks_X4_noteAt kl_X4_noteAt dX4_beamOf_32 (zs_iload_n X rfl dX4_beamOf_35 (zs_icmp_ne X dX4_beamOf_36 (by decide) (zs_iload_n X rfl dX4_beamOf_43 (zs_istore_n X rfl (by decide) dX4_beamOf_44 (zs_iinc X (by decide) (by decide) dX4_beamOf_45 (zs_goto X dX4_beamOf_48 (by decide) (fun _ _ _ h => h))))) (zs_iload_n X rfl dX4_beamOf_39 (zs_goto X dX4_beamOf_40 (by decide) (zs_istore_n X rfl (by decide) dX4_beamOf_44 (zs_iinc X (by decide) (by decide) dX4_beamOf_45 (zs_goto X dX4_beamOf_48 (by decide) (fun _ _ _ h => h))))))))))))))))))
set_option maxRecDepth 20000 in
theorem bkX4_placeIn_0 {w : zW} {Γ : zC} {N S : Nat} {Rt : zR} (X : zm_X w Γ mX4_placeIn N S Rt) : ∀ lv st h, (zi_push (.int 0) (zi_sti 3 (zi_push (.int 0) (zi_sti 4 (zm_V w Γ 5))))) lv st h → zm_V w Γ 0 lv st h := (zs_iconst X (by decide) dX4_placeIn_0 (zs_istore_n X rfl (by decide) dX4_placeIn_1 (zs_iconst X (by decide) dX4_placeIn_2 (zs_istore X (by decide) dX4_placeIn_3 (fun _ _ _ h => h)))))
set_option maxRecDepth 20000 in
theorem bkX4_placeIn_5 {w : zW} {Γ : zC} {N S : Nat} {Rt : zR} (X : zm_X w Γ mX4_placeIn N S Rt) : ∀ lv st h, (zi_ldi 4 (zi_lda 0 (zi_gf 4 20 (zi_ldi 1 (zi_ia 0 (zi_ic (fun x y => y ≤ x) (zi_ldi 3 (zi_iret Rt)) (zi_lda 0 (zi_ldi 1 (zi_ldi 4 (zi_cv w mX4_noteAt 4 3 N S (zi_ldi 2 (zi_ic (fun x y => x = y) (zi_ldi 4 (zi_sti 3 (zi_inc 4 1 (zm_V w Γ 5)))) (zi_ldi 3 (zi_sti 3 (zi_inc 4 1 (zm_V w Γ 5)))))))))))))))) lv st h → zm_V w Γ 5 lv st h := (zs_iload X dX4_placeIn_5 (zs_aload_n X rfl dX4_placeIn_7 (zs_gf X (ci := 4) rfl (by decide) zm_in4 kw_X4_46 dX4_placeIn_8 (zs_iload_n X rfl dX4_placeIn_11 (zs_iald X (fun _ => rfl) dX4_placeIn_12 (zs_icmp_ge X dX4_placeIn_13 (by decide) (zs_iload_n X rfl dX4_placeIn_40 (zs_iret X rfl dX4_placeIn_41)) (zs_aload_n X rfl dX4_placeIn_16 (zs_iload_n X rfl dX4_placeIn_17 (zs_iload X dX4_placeIn_18 (zs_cv X (M' := mX4_noteAt) (n := 2) kd_X4_noteAt ki_X4 (by decide +kernel) (by decide) kw_X4_177 rfl ks_X4_noteAt kl_X4_noteAt dX4_placeIn_20 (zs_iload_n X rfl dX4_placeIn_23 (zs_icmp_ne X dX4_placeIn_24 (by decide) (zs_iload_n X rfl dX4_placeIn_32 (zs_istore_n X rfl (by decide) dX4_placeIn_33 (zs_iinc X (by decide) (by decide) dX4_placeIn_34 (zs_goto X dX4_placeIn_37 (by decide) (fun _ _ _ h => h))))) (zs_iload X dX4_placeIn_27 (zs_goto X dX4_placeIn_29 (by decide) (zs_istore_n X rfl (by decide) dX4_placeIn_33 (zs_iinc X (by decide) (by decide) dX4_placeIn_34 (zs_goto X dX4_placeIn_37 (by decide) (fun _ _ _ h => h))))))))))))))))))
set_option maxRecDepth 20000 in
theorem bkX4_stem_0 {w : zW} {Γ : zC} {N S : Nat} {Rt : zR} (X : zm_X w Γ mX4_stem N S Rt) : ∀ lv st h, (zi_lda 0 (zi_push (.int 0) (zi_pf 4 0 .int (zi_lda 0 (zi_ldi 1 (zi_cv w mX4_isEvent 4 2 N S (zi_if (fun x => x = 0) (zi_push (.int (-1002)) (zi_iret Rt)) (zi_ldi 2 (zi_i2l (zi_push (.long 0) (zi_push (.long (4)) (zi_cs w mX4_in 3 N S (zi_if (fun x => x = 0) (zi_push (.int (-1003)) (zi_iret Rt)) (zi_lda 0 (zi_gf 4 6 (zi_ldi 1 (zi_ia 0 (zi_push (.int 1) (zi_ic (fun x y => x = y) (zi_push (.int (-1004)) (zi_iret Rt)) (zi_lda 0 (zi_ldi 1 (zi_cv w mX4_beamOf 4 2 N S (zi_sti 3 (zi_ldi 2 (zi_push (.int 4) (zi_ic (fun x y => x = y) (zi_ldi 3 (zi_iret Rt)) (zi_lda 0 (zi_gf 4 8 (zi_ldi 1 (zi_ia 0 (zi_if (fun x => x = 0) (zi_push (.int (-1001)) (zi_iret Rt)) (zi_lda 0 (zi_ldi 1 (zi_cv w mX4_alone 4 2 N S (zi_sti 4 (zi_ldi 3 (zi_push (.int (-1001)) (zi_ic (fun x y => x = y) (zi_lda 0 (zi_ldi 1 (zi_ldi 4 (zi_push (.int 0) (zi_cv w mX4_want 4 4 N S (zi_sti 5 (zi_ldi 2 (zi_if (fun x => x = 0) (zi_ldi 4 (zi_iret Rt)) (zi_ldi 2 (zi_push (.int 1) (zi_ic (fun x y => x = y) (zi_lda 0 (zi_ldi 1 (zi_ldi 4 (zi_cv w mX4_near 4 3 N S (zi_ldi 4 (zi_ldi 5 (zi_b (fun x y => x * y) (zi_b (fun x y => x + y) (zi_iret Rt))))))))) (zi_ldi 2 (zi_push (.int 2) (zi_ic (fun x y => x = y) (zi_ldi 5 (zi_iret Rt)) (zi_lda 0 (zi_ldi 1 (zi_cv w mX4_levels 4 2 N S (zi_iret Rt)))))))))))))))))) (zi_lda 0 (zi_ldi 3 (zi_ldi 1 (zi_cv w mX4_placeIn 4 3 N S (zi_sti 5 (zi_ldi 2 (zi_if (fun x => x = 0) (zi_lda 0 (zi_ldi 3 (zi_ldi 5 (zi_cv w mX4_upAt 4 3 N S (zi_iret Rt))))) (zi_ldi 2 (zi_push (.int 1) (zi_ic (fun x y => x = y) (zi_lda 0 (zi_ldi 3 (zi_lda 0 (zi_gf 4 23 (zi_ldi 3 (zi_ia 0 (zi_lda 0 (zi_gf 4 24 (zi_ldi 3 (zi_ia 0 (zi_ldi 5 (zi_cv w mX4_heightAt 4 5 N S (zi_iret Rt))))))))))))) (zi_ldi 2 (zi_push (.int 2) (zi_ic (fun x y => x = y) (zi_lda 0 (zi_ldi 3 (zi_lda 0 (zi_gf 4 23 (zi_ldi 3 (zi_ia 0 (zi_lda 0 (zi_gf 4 24 (zi_ldi 3 (zi_ia 0 (zi_ldi 5 (zi_cv w mX4_lengthAt 4 5 N S (zi_iret Rt))))))))))))) (zi_push (.int 0) (zi_iret Rt))))))))))))))))))))))))))))))))))))))))))))))))))))) lv st h → zm_V w Γ 0 lv st h := (zs_aload_n X rfl dX4_stem_0 (zs_iconst X (by decide) dX4_stem_1 (zs_pf X (ci := 4) rfl (by decide) zm_in4 kw_X4_77 tyX4 tyX4_ok nmX4 rfl rfl dX4_stem_2 (zs_aload_n X rfl dX4_stem_5 (zs_iload_n X rfl dX4_stem_6 (zs_cv X (M' := mX4_isEvent) (n := 1) kd_X4_isEvent ki_X4 (by decide +kernel) (by decide) kw_X4_129 rfl ks_X4_isEvent kl_X4_isEvent dX4_stem_7 (zs_if_ne X dX4_stem_10 (by decide) (zs_iload_n X rfl dX4_stem_17 (zs_i2l X dX4_stem_18 (zs_lconst X (by decide) dX4_stem_19 (zs_ldc2 X kw_X4_133 dX4_stem_20 (zs_cs X (M' := mX4_in) (n := 3) kd_X4_in ki_X4 (by decide +kernel) (by decide) kw_X4_109 ks_X4_in dX4_stem_23 (zs_if_ne X dX4_stem_26 (by decide) (zs_aload_n X rfl dX4_stem_33 (zs_gf X (ci := 4) rfl (by decide) zm_in4 kw_X4_13 dX4_stem_34 (zs_iload_n X rfl dX4_stem_37 (zs_iald X (fun _ => rfl) dX4_stem_38 (zs_iconst X (by decide) dX4_stem_39 (zs_icmp_ne X dX4_stem_40 (by decide) (zs_aload_n X rfl dX4_stem_47 (zs_iload_n X rfl dX4_stem_48 (zs_cv X (M' := mX4_beamOf) (n := 1) kd_X4_beamOf ki_X4 (by decide +kernel) (by decide) kw_X4_227 rfl ks_X4_beamOf kl_X4_beamOf dX4_stem_49 (zs_istore_n X rfl (by decide) dX4_stem_52 (zs_iload_n X rfl dX4_stem_53 (zs_iconst X (by decide) dX4_stem_54 (zs_icmp_ne X dX4_stem_55 (by decide) (zs_aload_n X rfl dX4_stem_60 (zs_gf X (ci := 4) rfl (by decide) zm_in4 kw_X4_19 dX4_stem_61 (zs_iload_n X rfl dX4_stem_64 (zs_iald X (fun _ => rfl) dX4_stem_65 (zs_if_ne X dX4_stem_66 (by decide) (zs_aload_n X rfl dX4_stem_73 (zs_iload_n X rfl dX4_stem_74 (zs_cv X (M' := mX4_alone) (n := 1) kd_X4_alone ki_X4 (by decide +kernel) (by decide) kw_X4_180 rfl ks_X4_alone kl_X4_alone dX4_stem_75 (zs_istore X (by decide) dX4_stem_78 (zs_iload_n X rfl dX4_stem_80 (zs_sipush X (by decide) dX4_stem_81 (zs_icmp_ne X dX4_stem_84 (by decide) (zs_aload_n X rfl dX4_stem_143 (zs_iload_n X rfl dX4_stem_144 (zs_iload_n X rfl dX4_stem_145 (zs_cv X (M' := mX4_placeIn) (n := 2) kd_X4_placeIn ki_X4 (by decide +kernel) (by decide) kw_X4_230 rfl ks_X4_placeIn kl_X4_placeIn dX4_stem_146 (zs_istore X (by decide) dX4_stem_149 (zs_iload_n X rfl dX4_stem_151 (zs_if_ne X dX4_stem_152 (by decide) (zs_iload_n X rfl dX4_stem_165 (zs_iconst X (by decide) dX4_stem_166 (zs_icmp_ne X dX4_stem_167 (by decide) (zs_iload_n X rfl dX4_stem_192 (zs_iconst X (by decide) dX4_stem_193 (zs_icmp_ne X dX4_stem_194 (by decide) (zs_iconst X (by decide) dX4_stem_219 (zs_iret X rfl dX4_stem_220)) (zs_aload_n X rfl dX4_stem_197 (zs_iload_n X rfl dX4_stem_198 (zs_aload_n X rfl dX4_stem_199 (zs_gf X (ci := 4) rfl (by decide) zm_in4 kw_X4_55 dX4_stem_200 (zs_iload_n X rfl dX4_stem_203 (zs_iald X (fun _ => rfl) dX4_stem_204 (zs_aload_n X rfl dX4_stem_205 (zs_gf X (ci := 4) rfl (by decide) zm_in4 kw_X4_58 dX4_stem_206 (zs_iload_n X rfl dX4_stem_209 (zs_iald X (fun _ => rfl) dX4_stem_210 (zs_iload X dX4_stem_211 (zs_cv X (M' := mX4_lengthAt) (n := 4) kd_X4_lengthAt ki_X4 (by decide +kernel) (by decide) kw_X4_197 rfl ks_X4_lengthAt kl_X4_lengthAt dX4_stem_213 (zs_goto X dX4_stem_216 (by decide) (zs_iret X rfl dX4_stem_220))))))))))))))))) (zs_aload_n X rfl dX4_stem_170 (zs_iload_n X rfl dX4_stem_171 (zs_aload_n X rfl dX4_stem_172 (zs_gf X (ci := 4) rfl (by decide) zm_in4 kw_X4_55 dX4_stem_173 (zs_iload_n X rfl dX4_stem_176 (zs_iald X (fun _ => rfl) dX4_stem_177 (zs_aload_n X rfl dX4_stem_178 (zs_gf X (ci := 4) rfl (by decide) zm_in4 kw_X4_58 dX4_stem_179 (zs_iload_n X rfl dX4_stem_182 (zs_iald X (fun _ => rfl) dX4_stem_183 (zs_iload X dX4_stem_184 (zs_cv X (M' := mX4_heightAt) (n := 4) kd_X4_heightAt ki_X4 (by decide +kernel) (by decide) kw_X4_189 rfl ks_X4_heightAt kl_X4_heightAt dX4_stem_186 (zs_goto X dX4_stem_189 (by decide) (zs_iret X rfl dX4_stem_220))))))))))))))))) (zs_aload_n X rfl dX4_stem_155 (zs_iload_n X rfl dX4_stem_156 (zs_iload X dX4_stem_157 (zs_cv X (M' := mX4_upAt) (n := 2) kd_X4_upAt ki_X4 (by decide +kernel) (by decide) kw_X4_183 rfl ks_X4_upAt kl_X4_upAt dX4_stem_159 (zs_goto X dX4_stem_162 (by decide) (zs_iret X rfl dX4_stem_220))))))))))))) (zs_aload_n X rfl dX4_stem_87 (zs_iload_n X rfl dX4_stem_88 (zs_iload X dX4_stem_89 (zs_iconst X (by decide) dX4_stem_91 (zs_cv X (M' := mX4_want) (n := 3) kd_X4_want ki_X4 (by decide +kernel) (by decide) kw_X4_202 rfl ks_X4_want kl_X4_want dX4_stem_92 (zs_istore X (by decide) dX4_stem_95 (zs_iload_n X rfl dX4_stem_97 (zs_if_ne X dX4_stem_98 (by decide) (zs_iload_n X rfl dX4_stem_106 (zs_iconst X (by decide) dX4_stem_107 (zs_icmp_ne X dX4_stem_108 (by decide) (zs_iload_n X rfl dX4_stem_127 (zs_iconst X (by decide) dX4_stem_128 (zs_icmp_ne X dX4_stem_129 (by decide) (zs_aload_n X rfl dX4_stem_137 (zs_iload_n X rfl dX4_stem_138 (zs_cv X (M' := mX4_levels) (n := 1) kd_X4_levels ki_X4 (by decide +kernel) (by decide) kw_X4_145 rfl ks_X4_levels kl_X4_levels dX4_stem_139 (zs_iret X rfl dX4_stem_142)))) (zs_iload X dX4_stem_132 (zs_goto X dX4_stem_134 (by decide) (zs_iret X rfl dX4_stem_142)))))) (zs_aload_n X rfl dX4_stem_111 (zs_iload_n X rfl dX4_stem_112 (zs_iload X dX4_stem_113 (zs_cv X (M' := mX4_near) (n := 2) kd_X4_near ki_X4 (by decide +kernel) (by decide) kw_X4_151 rfl ks_X4_near kl_X4_near dX4_stem_115 (zs_iload X dX4_stem_118 (zs_iload X dX4_stem_120 (zs_imul X dX4_stem_122 (zs_iadd X dX4_stem_123 (zs_goto X dX4_stem_124 (by decide) (zs_iret X rfl dX4_stem_142))))))))))))) (zs_iload X dX4_stem_101 (zs_goto X dX4_stem_103 (by decide) (zs_iret X rfl dX4_stem_142)))))))))))))))))) (zs_sipush X (by decide) dX4_stem_69 (zs_iret X rfl dX4_stem_72))))))) (zs_iload_n X rfl dX4_stem_58 (zs_iret X rfl dX4_stem_59))))))))) (zs_sipush X (by decide) dX4_stem_43 (zs_iret X rfl dX4_stem_46)))))))) (zs_sipush X (by decide) dX4_stem_29 (zs_iret X rfl dX4_stem_32)))))))) (zs_sipush X (by decide) dX4_stem_13 (zs_iret X rfl dX4_stem_16)))))))))
