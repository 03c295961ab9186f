theorem dX4_init_0 : decode cX4_init 0 = .ok (.aload_n 0, 1) := by decide +kernel
theorem dX4_init_1 : decode cX4_init 1 = .ok (.invokespecial 1, 3) := by decide +kernel
theorem dX4_init_4 : decode cX4_init 4 = .ok (.aload_n 0, 1) := by decide +kernel
theorem dX4_init_5 : decode cX4_init 5 = .ok (.bipush 17, 2) := by decide +kernel
theorem dX4_init_7 : decode cX4_init 7 = .ok (.newarray .int, 2) := by decide +kernel
theorem dX4_init_9 : decode cX4_init 9 = .ok (.putfield 7, 3) := by decide +kernel
theorem dX4_init_12 : decode cX4_init 12 = .ok (.aload_n 0, 1) := by decide +kernel
theorem dX4_init_13 : decode cX4_init 13 = .ok (.bipush 64, 2) := by decide +kernel
theorem dX4_init_15 : decode cX4_init 15 = .ok (.newarray .int, 2) := by decide +kernel
theorem dX4_init_17 : decode cX4_init 17 = .ok (.putfield 13, 3) := by decide +kernel
theorem dX4_init_20 : decode cX4_init 20 = .ok (.aload_n 0, 1) := by decide +kernel
theorem dX4_init_21 : decode cX4_init 21 = .ok (.bipush 64, 2) := by decide +kernel
theorem dX4_init_23 : decode cX4_init 23 = .ok (.newarray .int, 2) := by decide +kernel
theorem dX4_init_25 : decode cX4_init 25 = .ok (.putfield 16, 3) := by decide +kernel
theorem dX4_init_28 : decode cX4_init 28 = .ok (.aload_n 0, 1) := by decide +kernel
theorem dX4_init_29 : decode cX4_init 29 = .ok (.bipush 64, 2) := by decide +kernel
theorem dX4_init_31 : decode cX4_init 31 = .ok (.newarray .int, 2) := by decide +kernel
theorem dX4_init_33 : decode cX4_init 33 = .ok (.putfield 19, 3) := by decide +kernel
theorem dX4_init_36 : decode cX4_init 36 = .ok (.aload_n 0, 1) := by decide +kernel
theorem dX4_init_37 : decode cX4_init 37 = .ok (.bipush 64, 2) := by decide +kernel
theorem dX4_init_39 : decode cX4_init 39 = .ok (.newarray .int, 2) := by decide +kernel
theorem dX4_init_41 : decode cX4_init 41 = .ok (.putfield 22, 3) := by decide +kernel
theorem dX4_init_44 : decode cX4_init 44 = .ok (.aload_n 0, 1) := by decide +kernel
theorem dX4_init_45 : decode cX4_init 45 = .ok (.bipush 64, 2) := by decide +kernel
theorem dX4_init_47 : decode cX4_init 47 = .ok (.newarray .int, 2) := by decide +kernel
theorem dX4_init_49 : decode cX4_init 49 = .ok (.putfield 25, 3) := by decide +kernel
theorem dX4_init_52 : decode cX4_init 52 = .ok (.aload_n 0, 1) := by decide +kernel
theorem dX4_init_53 : decode cX4_init 53 = .ok (.bipush 64, 2) := by decide +kernel
theorem dX4_init_55 : decode cX4_init 55 = .ok (.newarray .int, 2) := by decide +kernel
theorem dX4_init_57 : decode cX4_init 57 = .ok (.putfield 28, 3) := by decide +kernel
theorem dX4_init_60 : decode cX4_init 60 = .ok (.aload_n 0, 1) := by decide +kernel
theorem dX4_init_61 : decode cX4_init 61 = .ok (.bipush 64, 2) := by decide +kernel
theorem dX4_init_63 : decode cX4_init 63 = .ok (.newarray .int, 2) := by decide +kernel
theorem dX4_init_65 : decode cX4_init 65 = .ok (.putfield 31, 3) := by decide +kernel
theorem dX4_init_68 : decode cX4_init 68 = .ok (.aload_n 0, 1) := by decide +kernel
theorem dX4_init_69 : decode cX4_init 69 = .ok (.bipush 64, 2) := by decide +kernel
theorem dX4_init_71 : decode cX4_init 71 = .ok (.newarray .int, 2) := by decide +kernel
theorem dX4_init_73 : decode cX4_init 73 = .ok (.putfield 34, 3) := by decide +kernel
theorem dX4_init_76 : decode cX4_init 76 = .ok (.aload_n 0, 1) := by decide +kernel
theorem dX4_init_77 : decode cX4_init 77 = .ok (.sipush 256, 3) := by decide +kernel
theorem dX4_init_80 : decode cX4_init 80 = .ok (.newarray .int, 2) := by decide +kernel
theorem dX4_init_82 : decode cX4_init 82 = .ok (.putfield 37, 3) := by decide +kernel
theorem dX4_init_85 : decode cX4_init 85 = .ok (.aload_n 0, 1) := by decide +kernel
theorem dX4_init_86 : decode cX4_init 86 = .ok (.bipush 64, 2) := by decide +kernel
theorem dX4_init_88 : decode cX4_init 88 = .ok (.newarray .int, 2) := by decide +kernel
theorem dX4_init_90 : decode cX4_init 90 = .ok (.putfield 40, 3) := by decide +kernel
theorem dX4_init_93 : decode cX4_init 93 = .ok (.aload_n 0, 1) := by decide +kernel
theorem dX4_init_94 : decode cX4_init 94 = .ok (.iconst 2, 1) := by decide +kernel
theorem dX4_init_95 : decode cX4_init 95 = .ok (.newarray .int, 2) := by decide +kernel
theorem dX4_init_97 : decode cX4_init 97 = .ok (.putfield 43, 3) := by decide +kernel
theorem dX4_init_100 : decode cX4_init 100 = .ok (.aload_n 0, 1) := by decide +kernel
theorem dX4_init_101 : decode cX4_init 101 = .ok (.bipush 64, 2) := by decide +kernel
theorem dX4_init_103 : decode cX4_init 103 = .ok (.newarray .int, 2) := by decide +kernel
theorem dX4_init_105 : decode cX4_init 105 = .ok (.putfield 46, 3) := by decide +kernel
theorem dX4_init_108 : decode cX4_init 108 = .ok (.aload_n 0, 1) := by decide +kernel
theorem dX4_init_109 : decode cX4_init 109 = .ok (.sipush 1024, 3) := by decide +kernel
theorem dX4_init_112 : decode cX4_init 112 = .ok (.newarray .int, 2) := by decide +kernel
theorem dX4_init_114 : decode cX4_init 114 = .ok (.putfield 49, 3) := by decide +kernel
theorem dX4_init_117 : decode cX4_init 117 = .ok (.aload_n 0, 1) := by decide +kernel
theorem dX4_init_118 : decode cX4_init 118 = .ok (.bipush 64, 2) := by decide +kernel
theorem dX4_init_120 : decode cX4_init 120 = .ok (.newarray .int, 2) := by decide +kernel
theorem dX4_init_122 : decode cX4_init 122 = .ok (.putfield 52, 3) := by decide +kernel
theorem dX4_init_125 : decode cX4_init 125 = .ok (.aload_n 0, 1) := by decide +kernel
theorem dX4_init_126 : decode cX4_init 126 = .ok (.bipush 64, 2) := by decide +kernel
theorem dX4_init_128 : decode cX4_init 128 = .ok (.newarray .int, 2) := by decide +kernel
theorem dX4_init_130 : decode cX4_init 130 = .ok (.putfield 55, 3) := by decide +kernel
theorem dX4_init_133 : decode cX4_init 133 = .ok (.aload_n 0, 1) := by decide +kernel
theorem dX4_init_134 : decode cX4_init 134 = .ok (.bipush 64, 2) := by decide +kernel
theorem dX4_init_136 : decode cX4_init 136 = .ok (.newarray .int, 2) := by decide +kernel
theorem dX4_init_138 : decode cX4_init 138 = .ok (.putfield 58, 3) := by decide +kernel
theorem dX4_init_141 : decode cX4_init 141 = .ok (.aload_n 0, 1) := by decide +kernel
theorem dX4_init_142 : decode cX4_init 142 = .ok (.bipush 64, 2) := by decide +kernel
theorem dX4_init_144 : decode cX4_init 144 = .ok (.newarray .int, 2) := by decide +kernel
theorem dX4_init_146 : decode cX4_init 146 = .ok (.putfield 61, 3) := by decide +kernel
theorem dX4_init_149 : decode cX4_init 149 = .ok (.aload_n 0, 1) := by decide +kernel
theorem dX4_init_150 : decode cX4_init 150 = .ok (.bipush 64, 2) := by decide +kernel
theorem dX4_init_152 : decode cX4_init 152 = .ok (.newarray .int, 2) := by decide +kernel
theorem dX4_init_154 : decode cX4_init 154 = .ok (.putfield 64, 3) := by decide +kernel
theorem dX4_init_157 : decode cX4_init 157 = .ok (.aload_n 0, 1) := by decide +kernel
theorem dX4_init_158 : decode cX4_init 158 = .ok (.bipush 64, 2) := by decide +kernel
theorem dX4_init_160 : decode cX4_init 160 = .ok (.newarray .int, 2) := by decide +kernel
theorem dX4_init_162 : decode cX4_init 162 = .ok (.putfield 67, 3) := by decide +kernel
theorem dX4_init_165 : decode cX4_init 165 = .ok (.aload_n 0, 1) := by decide +kernel
theorem dX4_init_166 : decode cX4_init 166 = .ok (.bipush 64, 2) := by decide +kernel
theorem dX4_init_168 : decode cX4_init 168 = .ok (.newarray .long, 2) := by decide +kernel
theorem dX4_init_170 : decode cX4_init 170 = .ok (.putfield 70, 3) := by decide +kernel
theorem dX4_init_173 : decode cX4_init 173 = .ok (.aload_n 0, 1) := by decide +kernel
theorem dX4_init_174 : decode cX4_init 174 = .ok (.invokevirtual 74, 3) := by decide +kernel
theorem dX4_init_177 : decode cX4_init 177 = .ok (.return_, 1) := by decide +kernel
theorem dX4_thrown_0 : decode cX4_thrown 0 = .ok (.aload_n 0, 1) := by decide +kernel
theorem dX4_thrown_1 : decode cX4_thrown 1 = .ok (.getfield 77, 3) := by decide +kernel
theorem dX4_thrown_4 : decode cX4_thrown 4 = .ok (.ireturn, 1) := by decide +kernel
theorem dX4_in_0 : decode cX4_in 0 = .ok (.lload_n 0, 1) := by decide +kernel
theorem dX4_in_1 : decode cX4_in 1 = .ok (.lload_n 2, 1) := by decide +kernel
theorem dX4_in_2 : decode cX4_in 2 = .ok (.lcmp, 1) := by decide +kernel
theorem dX4_in_3 : decode cX4_in 3 = .ok (.ifCond .lt 14, 3) := by decide +kernel
theorem dX4_in_6 : decode cX4_in 6 = .ok (.lload_n 0, 1) := by decide +kernel
theorem dX4_in_7 : decode cX4_in 7 = .ok (.lload 4, 2) := by decide +kernel
theorem dX4_in_9 : decode cX4_in 9 = .ok (.lcmp, 1) := by decide +kernel
theorem dX4_in_10 : decode cX4_in 10 = .ok (.ifCond .gt 7, 3) := by decide +kernel
theorem dX4_in_13 : decode cX4_in 13 = .ok (.iconst 1, 1) := by decide +kernel
theorem dX4_in_14 : decode cX4_in 14 = .ok (.goto 4, 3) := by decide +kernel
theorem dX4_in_17 : decode cX4_in 17 = .ok (.iconst 0, 1) := by decide +kernel
theorem dX4_in_18 : decode cX4_in 18 = .ok (.ireturn, 1) := by decide +kernel
theorem dX4_rounded_0 : decode cX4_rounded 0 = .ok (.iload_n 0, 1) := by decide +kernel
theorem dX4_rounded_1 : decode cX4_rounded 1 = .ok (.ifCond .ge 8, 3) := by decide +kernel
theorem dX4_rounded_4 : decode cX4_rounded 4 = .ok (.iload_n 0, 1) := by decide +kernel
theorem dX4_rounded_5 : decode cX4_rounded 5 = .ok (.ineg, 1) := by decide +kernel
theorem dX4_rounded_6 : decode cX4_rounded 6 = .ok (.goto 4, 3) := by decide +kernel
theorem dX4_rounded_9 : decode cX4_rounded 9 = .ok (.iload_n 0, 1) := by decide +kernel
theorem dX4_rounded_10 : decode cX4_rounded 10 = .ok (.istore_n 2, 1) := by decide +kernel
theorem dX4_rounded_11 : decode cX4_rounded 11 = .ok (.iconst 2, 1) := by decide +kernel
theorem dX4_rounded_12 : decode cX4_rounded 12 = .ok (.iload_n 2, 1) := by decide +kernel
theorem dX4_rounded_13 : decode cX4_rounded 13 = .ok (.imul, 1) := by decide +kernel
theorem dX4_rounded_14 : decode cX4_rounded 14 = .ok (.iload_n 1, 1) := by decide +kernel
theorem dX4_rounded_15 : decode cX4_rounded 15 = .ok (.iadd, 1) := by decide +kernel
theorem dX4_rounded_16 : decode cX4_rounded 16 = .ok (.iconst 2, 1) := by decide +kernel
theorem dX4_rounded_17 : decode cX4_rounded 17 = .ok (.iload_n 1, 1) := by decide +kernel
theorem dX4_rounded_18 : decode cX4_rounded 18 = .ok (.imul, 1) := by decide +kernel
theorem dX4_rounded_19 : decode cX4_rounded 19 = .ok (.idiv, 1) := by decide +kernel
theorem dX4_rounded_20 : decode cX4_rounded 20 = .ok (.istore_n 3, 1) := by decide +kernel
theorem dX4_rounded_21 : decode cX4_rounded 21 = .ok (.iload_n 0, 1) := by decide +kernel
theorem dX4_rounded_22 : decode cX4_rounded 22 = .ok (.ifCond .ge 8, 3) := by decide +kernel
theorem dX4_rounded_25 : decode cX4_rounded 25 = .ok (.iload_n 3, 1) := by decide +kernel
theorem dX4_rounded_26 : decode cX4_rounded 26 = .ok (.ineg, 1) := by decide +kernel
theorem dX4_rounded_27 : decode cX4_rounded 27 = .ok (.goto 4, 3) := by decide +kernel
theorem dX4_rounded_30 : decode cX4_rounded 30 = .ok (.iload_n 3, 1) := by decide +kernel
theorem dX4_rounded_31 : decode cX4_rounded 31 = .ok (.ireturn, 1) := by decide +kernel
theorem dX4_begin_0 : decode cX4_begin 0 = .ok (.aload_n 0, 1) := by decide +kernel
theorem dX4_begin_1 : decode cX4_begin 1 = .ok (.iconst 0, 1) := by decide +kernel
theorem dX4_begin_2 : decode cX4_begin 2 = .ok (.putfield 81, 3) := by decide +kernel
theorem dX4_begin_5 : decode cX4_begin 5 = .ok (.aload_n 0, 1) := by decide +kernel
theorem dX4_begin_6 : decode cX4_begin 6 = .ok (.getfield 43, 3) := by decide +kernel
theorem dX4_begin_9 : decode cX4_begin 9 = .ok (.iconst 0, 1) := by decide +kernel
theorem dX4_begin_10 : decode cX4_begin 10 = .ok (.iconst 0, 1) := by decide +kernel
theorem dX4_begin_11 : decode cX4_begin 11 = .ok (.iastore, 1) := by decide +kernel
theorem dX4_begin_12 : decode cX4_begin 12 = .ok (.aload_n 0, 1) := by decide +kernel
theorem dX4_begin_13 : decode cX4_begin 13 = .ok (.getfield 43, 3) := by decide +kernel
theorem dX4_begin_16 : decode cX4_begin 16 = .ok (.iconst 1, 1) := by decide +kernel
theorem dX4_begin_17 : decode cX4_begin 17 = .ok (.iconst 0, 1) := by decide +kernel
theorem dX4_begin_18 : decode cX4_begin 18 = .ok (.iastore, 1) := by decide +kernel
theorem dX4_begin_19 : decode cX4_begin 19 = .ok (.aload_n 0, 1) := by decide +kernel
theorem dX4_begin_20 : decode cX4_begin 20 = .ok (.iconst 0, 1) := by decide +kernel
theorem dX4_begin_21 : decode cX4_begin 21 = .ok (.putfield 84, 3) := by decide +kernel
theorem dX4_begin_24 : decode cX4_begin 24 = .ok (.aload_n 0, 1) := by decide +kernel
theorem dX4_begin_25 : decode cX4_begin 25 = .ok (.iconst 0, 1) := by decide +kernel
theorem dX4_begin_26 : decode cX4_begin 26 = .ok (.putfield 88, 3) := by decide +kernel
theorem dX4_begin_29 : decode cX4_begin 29 = .ok (.aload_n 0, 1) := by decide +kernel
theorem dX4_begin_30 : decode cX4_begin 30 = .ok (.iconst 0, 1) := by decide +kernel
theorem dX4_begin_31 : decode cX4_begin 31 = .ok (.putfield 91, 3) := by decide +kernel
theorem dX4_begin_34 : decode cX4_begin 34 = .ok (.aload_n 0, 1) := by decide +kernel
theorem dX4_begin_35 : decode cX4_begin 35 = .ok (.iconst 4, 1) := by decide +kernel
theorem dX4_begin_36 : decode cX4_begin 36 = .ok (.iconst 4, 1) := by decide +kernel
theorem dX4_begin_37 : decode cX4_begin 37 = .ok (.iconst 0, 1) := by decide +kernel
theorem dX4_begin_38 : decode cX4_begin 38 = .ok (.invokevirtual 94, 3) := by decide +kernel
theorem dX4_begin_41 : decode cX4_begin 41 = .ok (.pop, 1) := by decide +kernel
theorem dX4_begin_42 : decode cX4_begin 42 = .ok (.return_, 1) := by decide +kernel
theorem dX4_measure_0 : decode cX4_measure 0 = .ok (.iconst 0, 1) := by decide +kernel
theorem dX4_measure_1 : decode cX4_measure 1 = .ok (.istore 4, 2) := by decide +kernel
theorem dX4_measure_3 : decode cX4_measure 3 = .ok (.iload_n 3, 1) := by decide +kernel
theorem dX4_measure_4 : decode cX4_measure 4 = .ok (.istore 5, 2) := by decide +kernel
theorem dX4_measure_6 : decode cX4_measure 6 = .ok (.iconst 0, 1) := by decide +kernel
theorem dX4_measure_7 : decode cX4_measure 7 = .ok (.istore 6, 2) := by decide +kernel
theorem dX4_measure_9 : decode cX4_measure 9 = .ok (.iload 5, 2) := by decide +kernel
theorem dX4_measure_11 : decode cX4_measure 11 = .ok (.ifCond .le 42, 3) := by decide +kernel
theorem dX4_measure_14 : decode cX4_measure 14 = .ok (.iload 6, 2) := by decide +kernel
theorem dX4_measure_16 : decode cX4_measure 16 = .ok (.iload 5, 2) := by decide +kernel
theorem dX4_measure_18 : decode cX4_measure 18 = .ok (.bipush 10, 2) := by decide +kernel
theorem dX4_measure_20 : decode cX4_measure 20 = .ok (.irem, 1) := by decide +kernel
theorem dX4_measure_21 : decode cX4_measure 21 = .ok (.iadd, 1) := by decide +kernel
theorem dX4_measure_22 : decode cX4_measure 22 = .ok (.istore 6, 2) := by decide +kernel
theorem dX4_measure_24 : decode cX4_measure 24 = .ok (.iload 5, 2) := by decide +kernel
theorem dX4_measure_26 : decode cX4_measure 26 = .ok (.bipush 10, 2) := by decide +kernel
theorem dX4_measure_28 : decode cX4_measure 28 = .ok (.irem, 1) := by decide +kernel
theorem dX4_measure_29 : decode cX4_measure 29 = .ok (.ifCond .ne 8, 3) := by decide +kernel
theorem dX4_measure_32 : decode cX4_measure 32 = .ok (.bipush (-100), 2) := by decide +kernel
theorem dX4_measure_34 : decode cX4_measure 34 = .ok (.goto 7, 3) := by decide +kernel
theorem dX4_measure_37 : decode cX4_measure 37 = .ok (.iload 4, 2) := by decide +kernel
theorem dX4_measure_39 : decode cX4_measure 39 = .ok (.iconst 1, 1) := by decide +kernel
theorem dX4_measure_40 : decode cX4_measure 40 = .ok (.iadd, 1) := by decide +kernel
theorem dX4_measure_41 : decode cX4_measure 41 = .ok (.istore 4, 2) := by decide +kernel
theorem dX4_measure_43 : decode cX4_measure 43 = .ok (.iload 5, 2) := by decide +kernel
theorem dX4_measure_45 : decode cX4_measure 45 = .ok (.bipush 10, 2) := by decide +kernel
theorem dX4_measure_47 : decode cX4_measure 47 = .ok (.idiv, 1) := by decide +kernel
theorem dX4_measure_48 : decode cX4_measure 48 = .ok (.istore 5, 2) := by decide +kernel
theorem dX4_measure_50 : decode cX4_measure 50 = .ok (.goto (-41), 3) := by decide +kernel
theorem dX4_measure_53 : decode cX4_measure 53 = .ok (.iload_n 3, 1) := by decide +kernel
theorem dX4_measure_54 : decode cX4_measure 54 = .ok (.ifCond .lt 18, 3) := by decide +kernel
theorem dX4_measure_57 : decode cX4_measure 57 = .ok (.iload_n 3, 1) := by decide +kernel
theorem dX4_measure_58 : decode cX4_measure 58 = .ok (.ifCond .le 16, 3) := by decide +kernel
theorem dX4_measure_61 : decode cX4_measure 61 = .ok (.iload 4, 2) := by decide +kernel
theorem dX4_measure_63 : decode cX4_measure 63 = .ok (.ifCond .lt 9, 3) := by decide +kernel
theorem dX4_measure_66 : decode cX4_measure 66 = .ok (.iload 6, 2) := by decide +kernel
theorem dX4_measure_68 : decode cX4_measure 68 = .ok (.iload_n 1, 1) := by decide +kernel
theorem dX4_measure_69 : decode cX4_measure 69 = .ok (.if_icmp .eq 5, 3) := by decide +kernel
theorem dX4_measure_72 : decode cX4_measure 72 = .ok (.iconst 0, 1) := by decide +kernel
theorem dX4_measure_73 : decode cX4_measure 73 = .ok (.ireturn, 1) := by decide +kernel
theorem dX4_measure_74 : decode cX4_measure 74 = .ok (.aload_n 0, 1) := by decide +kernel
theorem dX4_measure_75 : decode cX4_measure 75 = .ok (.sipush 256, 3) := by decide +kernel
theorem dX4_measure_78 : decode cX4_measure 78 = .ok (.iload_n 2, 1) := by decide +kernel
theorem dX4_measure_79 : decode cX4_measure 79 = .ok (.idiv, 1) := by decide +kernel
theorem dX4_measure_80 : decode cX4_measure 80 = .ok (.putfield 98, 3) := by decide +kernel
theorem dX4_measure_83 : decode cX4_measure 83 = .ok (.aload_n 0, 1) := by decide +kernel
theorem dX4_measure_84 : decode cX4_measure 84 = .ok (.iload_n 1, 1) := by decide +kernel
theorem dX4_measure_85 : decode cX4_measure 85 = .ok (.aload_n 0, 1) := by decide +kernel
theorem dX4_measure_86 : decode cX4_measure 86 = .ok (.getfield 98, 3) := by decide +kernel
theorem dX4_measure_89 : decode cX4_measure 89 = .ok (.imul, 1) := by decide +kernel
theorem dX4_measure_90 : decode cX4_measure 90 = .ok (.putfield 101, 3) := by decide +kernel
theorem dX4_measure_93 : decode cX4_measure 93 = .ok (.aload_n 0, 1) := by decide +kernel
theorem dX4_measure_94 : decode cX4_measure 94 = .ok (.iconst 0, 1) := by decide +kernel
theorem dX4_measure_95 : decode cX4_measure 95 = .ok (.putfield 104, 3) := by decide +kernel
theorem dX4_measure_98 : decode cX4_measure 98 = .ok (.iconst 0, 1) := by decide +kernel
theorem dX4_measure_99 : decode cX4_measure 99 = .ok (.istore 7, 2) := by decide +kernel
theorem dX4_measure_101 : decode cX4_measure 101 = .ok (.iload_n 3, 1) := by decide +kernel
theorem dX4_measure_102 : decode cX4_measure 102 = .ok (.istore 5, 2) := by decide +kernel
theorem dX4_measure_104 : decode cX4_measure 104 = .ok (.iconst 1, 1) := by decide +kernel
theorem dX4_measure_105 : decode cX4_measure 105 = .ok (.istore 8, 2) := by decide +kernel
theorem dX4_measure_107 : decode cX4_measure 107 = .ok (.iconst 1, 1) := by decide +kernel
theorem dX4_measure_108 : decode cX4_measure 108 = .ok (.istore 9, 2) := by decide +kernel
theorem dX4_measure_110 : decode cX4_measure 110 = .ok (.iload 9, 2) := by decide +kernel
theorem dX4_measure_112 : decode cX4_measure 112 = .ok (.iload 4, 2) := by decide +kernel
theorem dX4_measure_114 : decode cX4_measure 114 = .ok (.if_icmp .ge 16, 3) := by decide +kernel
theorem dX4_measure_117 : decode cX4_measure 117 = .ok (.bipush 10, 2) := by decide +kernel
theorem dX4_measure_119 : decode cX4_measure 119 = .ok (.iload 8, 2) := by decide +kernel
theorem dX4_measure_121 : decode cX4_measure 121 = .ok (.imul, 1) := by decide +kernel
theorem dX4_measure_122 : decode cX4_measure 122 = .ok (.istore 8, 2) := by decide +kernel
theorem dX4_measure_124 : decode cX4_measure 124 = .ok (.iinc 9 1, 3) := by decide +kernel
theorem dX4_measure_127 : decode cX4_measure 127 = .ok (.goto (-17), 3) := by decide +kernel
theorem dX4_measure_130 : decode cX4_measure 130 = .ok (.iload 7, 2) := by decide +kernel
theorem dX4_measure_132 : decode cX4_measure 132 = .ok (.iload_n 1, 1) := by decide +kernel
theorem dX4_measure_133 : decode cX4_measure 133 = .ok (.if_icmp .ge 124, 3) := by decide +kernel
theorem dX4_measure_136 : decode cX4_measure 136 = .ok (.iload_n 3, 1) := by decide +kernel
theorem dX4_measure_137 : decode cX4_measure 137 = .ok (.ifCond .le 27, 3) := by decide +kernel
theorem dX4_measure_140 : decode cX4_measure 140 = .ok (.iload 5, 2) := by decide +kernel
theorem dX4_measure_142 : decode cX4_measure 142 = .ok (.iload 8, 2) := by decide +kernel
theorem dX4_measure_144 : decode cX4_measure 144 = .ok (.idiv, 1) := by decide +kernel
theorem dX4_measure_145 : decode cX4_measure 145 = .ok (.istore 9, 2) := by decide +kernel
theorem dX4_measure_147 : decode cX4_measure 147 = .ok (.iload 5, 2) := by decide +kernel
theorem dX4_measure_149 : decode cX4_measure 149 = .ok (.iload 8, 2) := by decide +kernel
theorem dX4_measure_151 : decode cX4_measure 151 = .ok (.irem, 1) := by decide +kernel
theorem dX4_measure_152 : decode cX4_measure 152 = .ok (.istore 5, 2) := by decide +kernel
theorem dX4_measure_154 : decode cX4_measure 154 = .ok (.iload 8, 2) := by decide +kernel
theorem dX4_measure_156 : decode cX4_measure 156 = .ok (.bipush 10, 2) := by decide +kernel
theorem dX4_measure_158 : decode cX4_measure 158 = .ok (.idiv, 1) := by decide +kernel
theorem dX4_measure_159 : decode cX4_measure 159 = .ok (.istore 8, 2) := by decide +kernel
theorem dX4_measure_161 : decode cX4_measure 161 = .ok (.goto 60, 3) := by decide +kernel
theorem dX4_measure_164 : decode cX4_measure 164 = .ok (.iload_n 2, 1) := by decide +kernel
theorem dX4_measure_165 : decode cX4_measure 165 = .ok (.bipush 8, 2) := by decide +kernel
theorem dX4_measure_167 : decode cX4_measure 167 = .ok (.if_icmp .lt 15, 3) := by decide +kernel
theorem dX4_measure_170 : decode cX4_measure 170 = .ok (.iload_n 1, 1) := by decide +kernel
theorem dX4_measure_171 : decode cX4_measure 171 = .ok (.iconst 3, 1) := by decide +kernel
theorem dX4_measure_172 : decode cX4_measure 172 = .ok (.irem, 1) := by decide +kernel
theorem dX4_measure_173 : decode cX4_measure 173 = .ok (.ifCond .ne 9, 3) := by decide +kernel
theorem dX4_measure_176 : decode cX4_measure 176 = .ok (.iconst 3, 1) := by decide +kernel
theorem dX4_measure_177 : decode cX4_measure 177 = .ok (.istore 9, 2) := by decide +kernel
theorem dX4_measure_179 : decode cX4_measure 179 = .ok (.goto 42, 3) := by decide +kernel
theorem dX4_measure_182 : decode cX4_measure 182 = .ok (.iload_n 2, 1) := by decide +kernel
theorem dX4_measure_183 : decode cX4_measure 183 = .ok (.bipush 8, 2) := by decide +kernel
theorem dX4_measure_185 : decode cX4_measure 185 = .ok (.if_icmp .lt 33, 3) := by decide +kernel
theorem dX4_measure_188 : decode cX4_measure 188 = .ok (.iload_n 1, 1) := by decide +kernel
theorem dX4_measure_189 : decode cX4_measure 189 = .ok (.iload 7, 2) := by decide +kernel
theorem dX4_measure_191 : decode cX4_measure 191 = .ok (.isub, 1) := by decide +kernel
theorem dX4_measure_192 : decode cX4_measure 192 = .ok (.iconst 3, 1) := by decide +kernel
theorem dX4_measure_193 : decode cX4_measure 193 = .ok (.if_icmp .ne 7, 3) := by decide +kernel
theorem dX4_measure_196 : decode cX4_measure 196 = .ok (.iconst 3, 1) := by decide +kernel
theorem dX4_measure_197 : decode cX4_measure 197 = .ok (.goto 16, 3) := by decide +kernel
theorem dX4_measure_200 : decode cX4_measure 200 = .ok (.iload_n 1, 1) := by decide +kernel
theorem dX4_measure_201 : decode cX4_measure 201 = .ok (.iload 7, 2) := by decide +kernel
theorem dX4_measure_203 : decode cX4_measure 203 = .ok (.isub, 1) := by decide +kernel
theorem dX4_measure_204 : decode cX4_measure 204 = .ok (.iconst 1, 1) := by decide +kernel
theorem dX4_measure_205 : decode cX4_measure 205 = .ok (.if_icmp .ne 7, 3) := by decide +kernel
theorem dX4_measure_208 : decode cX4_measure 208 = .ok (.iconst 1, 1) := by decide +kernel
theorem dX4_measure_209 : decode cX4_measure 209 = .ok (.goto 4, 3) := by decide +kernel
theorem dX4_measure_212 : decode cX4_measure 212 = .ok (.iconst 2, 1) := by decide +kernel
theorem dX4_measure_213 : decode cX4_measure 213 = .ok (.istore 9, 2) := by decide +kernel
theorem dX4_measure_215 : decode cX4_measure 215 = .ok (.goto 6, 3) := by decide +kernel
theorem dX4_measure_218 : decode cX4_measure 218 = .ok (.iconst 1, 1) := by decide +kernel
theorem dX4_measure_219 : decode cX4_measure 219 = .ok (.istore 9, 2) := by decide +kernel
theorem dX4_measure_221 : decode cX4_measure 221 = .ok (.aload_n 0, 1) := by decide +kernel
theorem dX4_measure_222 : decode cX4_measure 222 = .ok (.getfield 7, 3) := by decide +kernel
theorem dX4_measure_225 : decode cX4_measure 225 = .ok (.aload_n 0, 1) := by decide +kernel
theorem dX4_measure_226 : decode cX4_measure 226 = .ok (.getfield 104, 3) := by decide +kernel
theorem dX4_measure_229 : decode cX4_measure 229 = .ok (.iload 7, 2) := by decide +kernel
theorem dX4_measure_231 : decode cX4_measure 231 = .ok (.aload_n 0, 1) := by decide +kernel
theorem dX4_measure_232 : decode cX4_measure 232 = .ok (.getfield 98, 3) := by decide +kernel
theorem dX4_measure_235 : decode cX4_measure 235 = .ok (.imul, 1) := by decide +kernel
theorem dX4_measure_236 : decode cX4_measure 236 = .ok (.iastore, 1) := by decide +kernel
theorem dX4_measure_237 : decode cX4_measure 237 = .ok (.aload_n 0, 1) := by decide +kernel
theorem dX4_measure_238 : decode cX4_measure 238 = .ok (.dup, 1) := by decide +kernel
theorem dX4_measure_239 : decode cX4_measure 239 = .ok (.getfield 104, 3) := by decide +kernel
theorem dX4_measure_242 : decode cX4_measure 242 = .ok (.iconst 1, 1) := by decide +kernel
theorem dX4_measure_243 : decode cX4_measure 243 = .ok (.iadd, 1) := by decide +kernel
theorem dX4_measure_244 : decode cX4_measure 244 = .ok (.putfield 104, 3) := by decide +kernel
theorem dX4_measure_247 : decode cX4_measure 247 = .ok (.iload 7, 2) := by decide +kernel
theorem dX4_measure_249 : decode cX4_measure 249 = .ok (.iload 9, 2) := by decide +kernel
theorem dX4_measure_251 : decode cX4_measure 251 = .ok (.iadd, 1) := by decide +kernel
theorem dX4_measure_252 : decode cX4_measure 252 = .ok (.istore 7, 2) := by decide +kernel
theorem dX4_measure_254 : decode cX4_measure 254 = .ok (.goto (-124), 3) := by decide +kernel
theorem dX4_measure_257 : decode cX4_measure 257 = .ok (.iconst 1, 1) := by decide +kernel
theorem dX4_measure_258 : decode cX4_measure 258 = .ok (.ireturn, 1) := by decide +kernel
theorem dX4_meter_0 : decode cX4_meter 0 = .ok (.aload_n 0, 1) := by decide +kernel
theorem dX4_meter_1 : decode cX4_meter 1 = .ok (.iconst 0, 1) := by decide +kernel
theorem dX4_meter_2 : decode cX4_meter 2 = .ok (.putfield 77, 3) := by decide +kernel
theorem dX4_meter_5 : decode cX4_meter 5 = .ok (.iload_n 1, 1) := by decide +kernel
theorem dX4_meter_6 : decode cX4_meter 6 = .ok (.i2l, 1) := by decide +kernel
theorem dX4_meter_7 : decode cX4_meter 7 = .ok (.lconst 1, 1) := by decide +kernel
theorem dX4_meter_8 : decode cX4_meter 8 = .ok (.ldc2_w 107, 3) := by decide +kernel
theorem dX4_meter_11 : decode cX4_meter 11 = .ok (.invokestatic 109, 3) := by decide +kernel
theorem dX4_meter_14 : decode cX4_meter 14 = .ok (.ifCond .eq 25, 3) := by decide +kernel
theorem dX4_meter_17 : decode cX4_meter 17 = .ok (.iload_n 2, 1) := by decide +kernel
theorem dX4_meter_18 : decode cX4_meter 18 = .ok (.iconst 2, 1) := by decide +kernel
theorem dX4_meter_19 : decode cX4_meter 19 = .ok (.if_icmp .eq 24, 3) := by decide +kernel
theorem dX4_meter_22 : decode cX4_meter 22 = .ok (.iload_n 2, 1) := by decide +kernel
theorem dX4_meter_23 : decode cX4_meter 23 = .ok (.iconst 4, 1) := by decide +kernel
theorem dX4_meter_24 : decode cX4_meter 24 = .ok (.if_icmp .eq 19, 3) := by decide +kernel
theorem dX4_meter_27 : decode cX4_meter 27 = .ok (.iload_n 2, 1) := by decide +kernel
theorem dX4_meter_28 : decode cX4_meter 28 = .ok (.bipush 8, 2) := by decide +kernel
theorem dX4_meter_30 : decode cX4_meter 30 = .ok (.if_icmp .eq 13, 3) := by decide +kernel
theorem dX4_meter_33 : decode cX4_meter 33 = .ok (.iload_n 2, 1) := by decide +kernel
theorem dX4_meter_34 : decode cX4_meter 34 = .ok (.bipush 16, 2) := by decide +kernel
theorem dX4_meter_36 : decode cX4_meter 36 = .ok (.if_icmp .eq 7, 3) := by decide +kernel
theorem dX4_meter_39 : decode cX4_meter 39 = .ok (.sipush (-1003), 3) := by decide +kernel
theorem dX4_meter_42 : decode cX4_meter 42 = .ok (.ireturn, 1) := by decide +kernel
theorem dX4_meter_43 : decode cX4_meter 43 = .ok (.aload_n 0, 1) := by decide +kernel
theorem dX4_meter_44 : decode cX4_meter 44 = .ok (.getfield 81, 3) := by decide +kernel
theorem dX4_meter_47 : decode cX4_meter 47 = .ok (.ifCond .le 29, 3) := by decide +kernel
theorem dX4_meter_50 : decode cX4_meter 50 = .ok (.iload_n 3, 1) := by decide +kernel
theorem dX4_meter_51 : decode cX4_meter 51 = .ok (.ifCond .lt 15, 3) := by decide +kernel
theorem dX4_meter_54 : decode cX4_meter 54 = .ok (.iload_n 3, 1) := by decide +kernel
theorem dX4_meter_55 : decode cX4_meter 55 = .ok (.ifCond .le 17, 3) := by decide +kernel
theorem dX4_meter_58 : decode cX4_meter 58 = .ok (.iload_n 1, 1) := by decide +kernel
theorem dX4_meter_59 : decode cX4_meter 59 = .ok (.iload_n 3, 1) := by decide +kernel
theorem dX4_meter_60 : decode cX4_meter 60 = .ok (.invokestatic 113, 3) := by decide +kernel
theorem dX4_meter_63 : decode cX4_meter 63 = .ok (.ifCond .ne 9, 3) := by decide +kernel
theorem dX4_meter_66 : decode cX4_meter 66 = .ok (.sipush (-1003), 3) := by decide +kernel
theorem dX4_meter_69 : decode cX4_meter 69 = .ok (.goto 6, 3) := by decide +kernel
theorem dX4_meter_72 : decode cX4_meter 72 = .ok (.sipush (-1004), 3) := by decide +kernel
theorem dX4_meter_75 : decode cX4_meter 75 = .ok (.ireturn, 1) := by decide +kernel
theorem dX4_meter_76 : decode cX4_meter 76 = .ok (.aload_n 0, 1) := by decide +kernel
theorem dX4_meter_77 : decode cX4_meter 77 = .ok (.iload_n 1, 1) := by decide +kernel
theorem dX4_meter_78 : decode cX4_meter 78 = .ok (.iload_n 2, 1) := by decide +kernel
theorem dX4_meter_79 : decode cX4_meter 79 = .ok (.iload_n 3, 1) := by decide +kernel
theorem dX4_meter_80 : decode cX4_meter 80 = .ok (.invokevirtual 94, 3) := by decide +kernel
theorem dX4_meter_83 : decode cX4_meter 83 = .ok (.ifCond .ne 7, 3) := by decide +kernel
theorem dX4_meter_86 : decode cX4_meter 86 = .ok (.sipush (-1003), 3) := by decide +kernel
theorem dX4_meter_89 : decode cX4_meter 89 = .ok (.ireturn, 1) := by decide +kernel
theorem dX4_meter_90 : decode cX4_meter 90 = .ok (.aload_n 0, 1) := by decide +kernel
theorem dX4_meter_91 : decode cX4_meter 91 = .ok (.iconst 0, 1) := by decide +kernel
theorem dX4_meter_92 : decode cX4_meter 92 = .ok (.putfield 88, 3) := by decide +kernel
theorem dX4_meter_95 : decode cX4_meter 95 = .ok (.aload_n 0, 1) := by decide +kernel
theorem dX4_meter_96 : decode cX4_meter 96 = .ok (.getfield 104, 3) := by decide +kernel
theorem dX4_meter_99 : decode cX4_meter 99 = .ok (.ireturn, 1) := by decide +kernel
theorem dX4_isSo_0 : decode cX4_isSo 0 = .ok (.iload_n 1, 1) := by decide +kernel
theorem dX4_isSo_1 : decode cX4_isSo 1 = .ok (.istore_n 2, 1) := by decide +kernel
theorem dX4_isSo_2 : decode cX4_isSo 2 = .ok (.iconst 0, 1) := by decide +kernel
theorem dX4_isSo_3 : decode cX4_isSo 3 = .ok (.istore_n 3, 1) := by decide +kernel
theorem dX4_isSo_4 : decode cX4_isSo 4 = .ok (.iconst 1, 1) := by decide +kernel
theorem dX4_isSo_5 : decode cX4_isSo 5 = .ok (.istore 4, 2) := by decide +kernel
theorem dX4_isSo_7 : decode cX4_isSo 7 = .ok (.iload_n 2, 1) := by decide +kernel
theorem dX4_isSo_8 : decode cX4_isSo 8 = .ok (.ifCond .le 37, 3) := by decide +kernel
theorem dX4_isSo_11 : decode cX4_isSo 11 = .ok (.iload_n 3, 1) := by decide +kernel
theorem dX4_isSo_12 : decode cX4_isSo 12 = .ok (.iload_n 2, 1) := by decide +kernel
theorem dX4_isSo_13 : decode cX4_isSo 13 = .ok (.bipush 10, 2) := by decide +kernel
theorem dX4_isSo_15 : decode cX4_isSo 15 = .ok (.irem, 1) := by decide +kernel
theorem dX4_isSo_16 : decode cX4_isSo 16 = .ok (.iadd, 1) := by decide +kernel
theorem dX4_isSo_17 : decode cX4_isSo 17 = .ok (.istore_n 3, 1) := by decide +kernel
theorem dX4_isSo_18 : decode cX4_isSo 18 = .ok (.iload 4, 2) := by decide +kernel
theorem dX4_isSo_20 : decode cX4_isSo 20 = .ok (.ifCond .eq 14, 3) := by decide +kernel
theorem dX4_isSo_23 : decode cX4_isSo 23 = .ok (.iload_n 2, 1) := by decide +kernel
theorem dX4_isSo_24 : decode cX4_isSo 24 = .ok (.bipush 10, 2) := by decide +kernel
theorem dX4_isSo_26 : decode cX4_isSo 26 = .ok (.irem, 1) := by decide +kernel
theorem dX4_isSo_27 : decode cX4_isSo 27 = .ok (.ifCond .le 7, 3) := by decide +kernel
theorem dX4_isSo_30 : decode cX4_isSo 30 = .ok (.iconst 1, 1) := by decide +kernel
theorem dX4_isSo_31 : decode cX4_isSo 31 = .ok (.goto 4, 3) := by decide +kernel
theorem dX4_isSo_34 : decode cX4_isSo 34 = .ok (.iconst 0, 1) := by decide +kernel
theorem dX4_isSo_35 : decode cX4_isSo 35 = .ok (.istore 4, 2) := by decide +kernel
theorem dX4_isSo_37 : decode cX4_isSo 37 = .ok (.iload_n 2, 1) := by decide +kernel
theorem dX4_isSo_38 : decode cX4_isSo 38 = .ok (.bipush 10, 2) := by decide +kernel
theorem dX4_isSo_40 : decode cX4_isSo 40 = .ok (.idiv, 1) := by decide +kernel
theorem dX4_isSo_41 : decode cX4_isSo 41 = .ok (.istore_n 2, 1) := by decide +kernel
theorem dX4_isSo_42 : decode cX4_isSo 42 = .ok (.goto (-35), 3) := by decide +kernel
theorem dX4_isSo_45 : decode cX4_isSo 45 = .ok (.iload 4, 2) := by decide +kernel
theorem dX4_isSo_47 : decode cX4_isSo 47 = .ok (.ifCond .eq 12, 3) := by decide +kernel
theorem dX4_isSo_50 : decode cX4_isSo 50 = .ok (.iload_n 3, 1) := by decide +kernel
theorem dX4_isSo_51 : decode cX4_isSo 51 = .ok (.iload_n 0, 1) := by decide +kernel
theorem dX4_isSo_52 : decode cX4_isSo 52 = .ok (.if_icmp .ne 7, 3) := by decide +kernel
theorem dX4_isSo_55 : decode cX4_isSo 55 = .ok (.iconst 1, 1) := by decide +kernel
theorem dX4_isSo_56 : decode cX4_isSo 56 = .ok (.goto 4, 3) := by decide +kernel
theorem dX4_isSo_59 : decode cX4_isSo 59 = .ok (.iconst 0, 1) := by decide +kernel
theorem dX4_isSo_60 : decode cX4_isSo 60 = .ok (.ireturn, 1) := by decide +kernel
theorem dX4_comes_0 : decode cX4_comes 0 = .ok (.iload_n 3, 1) := by decide +kernel
theorem dX4_comes_1 : decode cX4_comes 1 = .ok (.i2l, 1) := by decide +kernel
theorem dX4_comes_2 : decode cX4_comes 2 = .ok (.lconst 0, 1) := by decide +kernel
theorem dX4_comes_3 : decode cX4_comes 3 = .ok (.lconst 1, 1) := by decide +kernel
theorem dX4_comes_4 : decode cX4_comes 4 = .ok (.invokestatic 109, 3) := by decide +kernel
theorem dX4_comes_7 : decode cX4_comes 7 = .ok (.ifCond .eq 43, 3) := by decide +kernel
theorem dX4_comes_10 : decode cX4_comes 10 = .ok (.iload 4, 2) := by decide +kernel
theorem dX4_comes_12 : decode cX4_comes 12 = .ok (.i2l, 1) := by decide +kernel
theorem dX4_comes_13 : decode cX4_comes 13 = .ok (.lconst 0, 1) := by decide +kernel
theorem dX4_comes_14 : decode cX4_comes 14 = .ok (.ldc2_w 117, 3) := by decide +kernel
theorem dX4_comes_17 : decode cX4_comes 17 = .ok (.invokestatic 109, 3) := by decide +kernel
theorem dX4_comes_20 : decode cX4_comes 20 = .ok (.ifCond .eq 30, 3) := by decide +kernel
theorem dX4_comes_23 : decode cX4_comes 23 = .ok (.iload 5, 2) := by decide +kernel
theorem dX4_comes_25 : decode cX4_comes 25 = .ok (.i2l, 1) := by decide +kernel
theorem dX4_comes_26 : decode cX4_comes 26 = .ok (.lconst 0, 1) := by decide +kernel
theorem dX4_comes_27 : decode cX4_comes 27 = .ok (.ldc2_w 119, 3) := by decide +kernel
theorem dX4_comes_30 : decode cX4_comes 30 = .ok (.invokestatic 109, 3) := by decide +kernel
theorem dX4_comes_33 : decode cX4_comes 33 = .ok (.ifCond .eq 17, 3) := by decide +kernel
theorem dX4_comes_36 : decode cX4_comes 36 = .ok (.iload_n 2, 1) := by decide +kernel
theorem dX4_comes_37 : decode cX4_comes 37 = .ok (.i2l, 1) := by decide +kernel
theorem dX4_comes_38 : decode cX4_comes 38 = .ok (.ldc2_w 121, 3) := by decide +kernel
theorem dX4_comes_41 : decode cX4_comes 41 = .ok (.ldc2_w 123, 3) := by decide +kernel
theorem dX4_comes_44 : decode cX4_comes 44 = .ok (.invokestatic 109, 3) := by decide +kernel
theorem dX4_comes_47 : decode cX4_comes 47 = .ok (.ifCond .ne 7, 3) := by decide +kernel
theorem dX4_comes_50 : decode cX4_comes 50 = .ok (.sipush (-1003), 3) := by decide +kernel
theorem dX4_comes_53 : decode cX4_comes 53 = .ok (.ireturn, 1) := by decide +kernel
theorem dX4_comes_54 : decode cX4_comes 54 = .ok (.sipush 256, 3) := by decide +kernel
theorem dX4_comes_57 : decode cX4_comes 57 = .ok (.iload 4, 2) := by decide +kernel
theorem dX4_comes_59 : decode cX4_comes 59 = .ok (.ishr, 1) := by decide +kernel
theorem dX4_comes_60 : decode cX4_comes 60 = .ok (.istore 6, 2) := by decide +kernel
theorem dX4_comes_62 : decode cX4_comes 62 = .ok (.iload 5, 2) := by decide +kernel
theorem dX4_comes_64 : decode cX4_comes 64 = .ok (.ifCond .ne 8, 3) := by decide +kernel
theorem dX4_comes_67 : decode cX4_comes 67 = .ok (.iload 6, 2) := by decide +kernel
theorem dX4_comes_69 : decode cX4_comes 69 = .ok (.goto 28, 3) := by decide +kernel
theorem dX4_comes_72 : decode cX4_comes 72 = .ok (.iload 5, 2) := by decide +kernel
theorem dX4_comes_74 : decode cX4_comes 74 = .ok (.iconst 1, 1) := by decide +kernel
theorem dX4_comes_75 : decode cX4_comes 75 = .ok (.if_icmp .ne 13, 3) := by decide +kernel
theorem dX4_comes_78 : decode cX4_comes 78 = .ok (.iload 6, 2) := by decide +kernel
theorem dX4_comes_80 : decode cX4_comes 80 = .ok (.iload 6, 2) := by decide +kernel
theorem dX4_comes_82 : decode cX4_comes 82 = .ok (.iconst 2, 1) := by decide +kernel
theorem dX4_comes_83 : decode cX4_comes 83 = .ok (.idiv, 1) := by decide +kernel
theorem dX4_comes_84 : decode cX4_comes 84 = .ok (.iadd, 1) := by decide +kernel
theorem dX4_comes_85 : decode cX4_comes 85 = .ok (.goto 12, 3) := by decide +kernel
theorem dX4_comes_88 : decode cX4_comes 88 = .ok (.iload 6, 2) := by decide +kernel
theorem dX4_comes_90 : decode cX4_comes 90 = .ok (.iconst 3, 1) := by decide +kernel
theorem dX4_comes_91 : decode cX4_comes 91 = .ok (.iload 6, 2) := by decide +kernel
theorem dX4_comes_93 : decode cX4_comes 93 = .ok (.imul, 1) := by decide +kernel
theorem dX4_comes_94 : decode cX4_comes 94 = .ok (.iconst 4, 1) := by decide +kernel
theorem dX4_comes_95 : decode cX4_comes 95 = .ok (.idiv, 1) := by decide +kernel
theorem dX4_comes_96 : decode cX4_comes 96 = .ok (.iadd, 1) := by decide +kernel
theorem dX4_comes_97 : decode cX4_comes 97 = .ok (.istore 7, 2) := by decide +kernel
theorem dX4_comes_99 : decode cX4_comes 99 = .ok (.aload_n 0, 1) := by decide +kernel
theorem dX4_comes_100 : decode cX4_comes 100 = .ok (.getfield 43, 3) := by decide +kernel
theorem dX4_comes_103 : decode cX4_comes 103 = .ok (.iload_n 3, 1) := by decide +kernel
theorem dX4_comes_104 : decode cX4_comes 104 = .ok (.iaload, 1) := by decide +kernel
theorem dX4_comes_105 : decode cX4_comes 105 = .ok (.aload_n 0, 1) := by decide +kernel
theorem dX4_comes_106 : decode cX4_comes 106 = .ok (.getfield 101, 3) := by decide +kernel
theorem dX4_comes_109 : decode cX4_comes 109 = .ok (.irem, 1) := by decide +kernel
theorem dX4_comes_110 : decode cX4_comes 110 = .ok (.iload 7, 2) := by decide +kernel
theorem dX4_comes_112 : decode cX4_comes 112 = .ok (.iadd, 1) := by decide +kernel
theorem dX4_comes_113 : decode cX4_comes 113 = .ok (.aload_n 0, 1) := by decide +kernel
theorem dX4_comes_114 : decode cX4_comes 114 = .ok (.getfield 101, 3) := by decide +kernel
theorem dX4_comes_117 : decode cX4_comes 117 = .ok (.if_icmp .le 7, 3) := by decide +kernel
theorem dX4_comes_120 : decode cX4_comes 120 = .ok (.sipush (-1004), 3) := by decide +kernel
theorem dX4_comes_123 : decode cX4_comes 123 = .ok (.ireturn, 1) := by decide +kernel
theorem dX4_comes_124 : decode cX4_comes 124 = .ok (.aload_n 0, 1) := by decide +kernel
theorem dX4_comes_125 : decode cX4_comes 125 = .ok (.getfield 81, 3) := by decide +kernel
theorem dX4_comes_128 : decode cX4_comes 128 = .ok (.bipush 64, 2) := by decide +kernel
theorem dX4_comes_130 : decode cX4_comes 130 = .ok (.if_icmp .ne 7, 3) := by decide +kernel
theorem dX4_comes_133 : decode cX4_comes 133 = .ok (.sipush (-1005), 3) := by decide +kernel
theorem dX4_comes_136 : decode cX4_comes 136 = .ok (.ireturn, 1) := by decide +kernel
theorem dX4_comes_137 : decode cX4_comes 137 = .ok (.aload_n 0, 1) := by decide +kernel
theorem dX4_comes_138 : decode cX4_comes 138 = .ok (.getfield 81, 3) := by decide +kernel
theorem dX4_comes_141 : decode cX4_comes 141 = .ok (.istore 8, 2) := by decide +kernel
theorem dX4_comes_143 : decode cX4_comes 143 = .ok (.aload_n 0, 1) := by decide +kernel
theorem dX4_comes_144 : decode cX4_comes 144 = .ok (.getfield 13, 3) := by decide +kernel
theorem dX4_comes_147 : decode cX4_comes 147 = .ok (.iload 8, 2) := by decide +kernel
theorem dX4_comes_149 : decode cX4_comes 149 = .ok (.iload_n 1, 1) := by decide +kernel
theorem dX4_comes_150 : decode cX4_comes 150 = .ok (.iastore, 1) := by decide +kernel
theorem dX4_comes_151 : decode cX4_comes 151 = .ok (.aload_n 0, 1) := by decide +kernel
theorem dX4_comes_152 : decode cX4_comes 152 = .ok (.getfield 16, 3) := by decide +kernel
theorem dX4_comes_155 : decode cX4_comes 155 = .ok (.iload 8, 2) := by decide +kernel
theorem dX4_comes_157 : decode cX4_comes 157 = .ok (.iload_n 3, 1) := by decide +kernel
theorem dX4_comes_158 : decode cX4_comes 158 = .ok (.iastore, 1) := by decide +kernel
theorem dX4_comes_159 : decode cX4_comes 159 = .ok (.aload_n 0, 1) := by decide +kernel
theorem dX4_comes_160 : decode cX4_comes 160 = .ok (.getfield 19, 3) := by decide +kernel
theorem dX4_comes_163 : decode cX4_comes 163 = .ok (.iload 8, 2) := by decide +kernel
theorem dX4_comes_165 : decode cX4_comes 165 = .ok (.iload 4, 2) := by decide +kernel
theorem dX4_comes_167 : decode cX4_comes 167 = .ok (.iastore, 1) := by decide +kernel
theorem dX4_comes_168 : decode cX4_comes 168 = .ok (.aload_n 0, 1) := by decide +kernel
theorem dX4_comes_169 : decode cX4_comes 169 = .ok (.getfield 22, 3) := by decide +kernel
theorem dX4_comes_172 : decode cX4_comes 172 = .ok (.iload 8, 2) := by decide +kernel
theorem dX4_comes_174 : decode cX4_comes 174 = .ok (.aload_n 0, 1) := by decide +kernel
theorem dX4_comes_175 : decode cX4_comes 175 = .ok (.getfield 43, 3) := by decide +kernel
theorem dX4_comes_178 : decode cX4_comes 178 = .ok (.iload_n 3, 1) := by decide +kernel
theorem dX4_comes_179 : decode cX4_comes 179 = .ok (.iaload, 1) := by decide +kernel
theorem dX4_comes_180 : decode cX4_comes 180 = .ok (.iastore, 1) := by decide +kernel
theorem dX4_comes_181 : decode cX4_comes 181 = .ok (.aload_n 0, 1) := by decide +kernel
theorem dX4_comes_182 : decode cX4_comes 182 = .ok (.getfield 25, 3) := by decide +kernel
theorem dX4_comes_185 : decode cX4_comes 185 = .ok (.iload 8, 2) := by decide +kernel
theorem dX4_comes_187 : decode cX4_comes 187 = .ok (.iload 7, 2) := by decide +kernel
theorem dX4_comes_189 : decode cX4_comes 189 = .ok (.iastore, 1) := by decide +kernel
theorem dX4_comes_190 : decode cX4_comes 190 = .ok (.aload_n 0, 1) := by decide +kernel
theorem dX4_comes_191 : decode cX4_comes 191 = .ok (.getfield 28, 3) := by decide +kernel
theorem dX4_comes_194 : decode cX4_comes 194 = .ok (.iload 8, 2) := by decide +kernel
theorem dX4_comes_196 : decode cX4_comes 196 = .ok (.iconst 0, 1) := by decide +kernel
theorem dX4_comes_197 : decode cX4_comes 197 = .ok (.iastore, 1) := by decide +kernel
theorem dX4_comes_198 : decode cX4_comes 198 = .ok (.aload_n 0, 1) := by decide +kernel
theorem dX4_comes_199 : decode cX4_comes 199 = .ok (.getfield 31, 3) := by decide +kernel
theorem dX4_comes_202 : decode cX4_comes 202 = .ok (.iload 8, 2) := by decide +kernel
theorem dX4_comes_204 : decode cX4_comes 204 = .ok (.iconst 0, 1) := by decide +kernel
theorem dX4_comes_205 : decode cX4_comes 205 = .ok (.iastore, 1) := by decide +kernel
theorem dX4_comes_206 : decode cX4_comes 206 = .ok (.aload_n 0, 1) := by decide +kernel
theorem dX4_comes_207 : decode cX4_comes 207 = .ok (.getfield 34, 3) := by decide +kernel
theorem dX4_comes_210 : decode cX4_comes 210 = .ok (.iload 8, 2) := by decide +kernel
theorem dX4_comes_212 : decode cX4_comes 212 = .ok (.iconst 0, 1) := by decide +kernel
theorem dX4_comes_213 : decode cX4_comes 213 = .ok (.iastore, 1) := by decide +kernel
theorem dX4_comes_214 : decode cX4_comes 214 = .ok (.aload_n 0, 1) := by decide +kernel
theorem dX4_comes_215 : decode cX4_comes 215 = .ok (.getfield 40, 3) := by decide +kernel
theorem dX4_comes_218 : decode cX4_comes 218 = .ok (.iload 8, 2) := by decide +kernel
theorem dX4_comes_220 : decode cX4_comes 220 = .ok (.iconst 1, 1) := by decide +kernel
theorem dX4_comes_221 : decode cX4_comes 221 = .ok (.iload_n 1, 1) := by decide +kernel
theorem dX4_comes_222 : decode cX4_comes 222 = .ok (.isub, 1) := by decide +kernel
theorem dX4_comes_223 : decode cX4_comes 223 = .ok (.iastore, 1) := by decide +kernel
theorem dX4_comes_224 : decode cX4_comes 224 = .ok (.aload_n 0, 1) := by decide +kernel
theorem dX4_comes_225 : decode cX4_comes 225 = .ok (.getfield 37, 3) := by decide +kernel
theorem dX4_comes_228 : decode cX4_comes 228 = .ok (.iconst 4, 1) := by decide +kernel
theorem dX4_comes_229 : decode cX4_comes 229 = .ok (.iload 8, 2) := by decide +kernel
theorem dX4_comes_231 : decode cX4_comes 231 = .ok (.imul, 1) := by decide +kernel
theorem dX4_comes_232 : decode cX4_comes 232 = .ok (.iload_n 2, 1) := by decide +kernel
theorem dX4_comes_233 : decode cX4_comes 233 = .ok (.iastore, 1) := by decide +kernel
theorem dX4_comes_234 : decode cX4_comes 234 = .ok (.aload_n 0, 1) := by decide +kernel
theorem dX4_comes_235 : decode cX4_comes 235 = .ok (.getfield 43, 3) := by decide +kernel
theorem dX4_comes_238 : decode cX4_comes 238 = .ok (.iload_n 3, 1) := by decide +kernel
theorem dX4_comes_239 : decode cX4_comes 239 = .ok (.dup2, 1) := by decide +kernel
theorem dX4_comes_240 : decode cX4_comes 240 = .ok (.iaload, 1) := by decide +kernel
theorem dX4_comes_241 : decode cX4_comes 241 = .ok (.iload 7, 2) := by decide +kernel
theorem dX4_comes_243 : decode cX4_comes 243 = .ok (.iadd, 1) := by decide +kernel
theorem dX4_comes_244 : decode cX4_comes 244 = .ok (.iastore, 1) := by decide +kernel
theorem dX4_comes_245 : decode cX4_comes 245 = .ok (.aload_n 0, 1) := by decide +kernel
theorem dX4_comes_246 : decode cX4_comes 246 = .ok (.dup, 1) := by decide +kernel
theorem dX4_comes_247 : decode cX4_comes 247 = .ok (.getfield 81, 3) := by decide +kernel
theorem dX4_comes_250 : decode cX4_comes 250 = .ok (.iconst 1, 1) := by decide +kernel
theorem dX4_comes_251 : decode cX4_comes 251 = .ok (.iadd, 1) := by decide +kernel
theorem dX4_comes_252 : decode cX4_comes 252 = .ok (.putfield 81, 3) := by decide +kernel
theorem dX4_comes_255 : decode cX4_comes 255 = .ok (.aload_n 0, 1) := by decide +kernel
theorem dX4_comes_256 : decode cX4_comes 256 = .ok (.iconst 0, 1) := by decide +kernel
theorem dX4_comes_257 : decode cX4_comes 257 = .ok (.putfield 88, 3) := by decide +kernel
theorem dX4_comes_260 : decode cX4_comes 260 = .ok (.iload 8, 2) := by decide +kernel
theorem dX4_comes_262 : decode cX4_comes 262 = .ok (.ireturn, 1) := by decide +kernel
theorem dX4_note_0 : decode cX4_note 0 = .ok (.aload_n 0, 1) := by decide +kernel
theorem dX4_note_1 : decode cX4_note 1 = .ok (.iconst 0, 1) := by decide +kernel
theorem dX4_note_2 : decode cX4_note 2 = .ok (.putfield 77, 3) := by decide +kernel
theorem dX4_note_5 : decode cX4_note 5 = .ok (.aload_n 0, 1) := by decide +kernel
theorem dX4_note_6 : decode cX4_note 6 = .ok (.iconst 0, 1) := by decide +kernel
theorem dX4_note_7 : decode cX4_note 7 = .ok (.iload_n 1, 1) := by decide +kernel
theorem dX4_note_8 : decode cX4_note 8 = .ok (.iload_n 2, 1) := by decide +kernel
theorem dX4_note_9 : decode cX4_note 9 = .ok (.iload_n 3, 1) := by decide +kernel
theorem dX4_note_10 : decode cX4_note 10 = .ok (.iload 4, 2) := by decide +kernel
theorem dX4_note_12 : decode cX4_note 12 = .ok (.invokevirtual 125, 3) := by decide +kernel
theorem dX4_note_15 : decode cX4_note 15 = .ok (.ireturn, 1) := by decide +kernel
theorem dX4_pause_0 : decode cX4_pause 0 = .ok (.aload_n 0, 1) := by decide +kernel
theorem dX4_pause_1 : decode cX4_pause 1 = .ok (.iconst 0, 1) := by decide +kernel
theorem dX4_pause_2 : decode cX4_pause 2 = .ok (.putfield 77, 3) := by decide +kernel
theorem dX4_pause_5 : decode cX4_pause 5 = .ok (.aload_n 0, 1) := by decide +kernel
theorem dX4_pause_6 : decode cX4_pause 6 = .ok (.iconst 1, 1) := by decide +kernel
theorem dX4_pause_7 : decode cX4_pause 7 = .ok (.iconst 0, 1) := by decide +kernel
theorem dX4_pause_8 : decode cX4_pause 8 = .ok (.iload_n 1, 1) := by decide +kernel
theorem dX4_pause_9 : decode cX4_pause 9 = .ok (.iload_n 2, 1) := by decide +kernel
theorem dX4_pause_10 : decode cX4_pause 10 = .ok (.iload_n 3, 1) := by decide +kernel
theorem dX4_pause_11 : decode cX4_pause 11 = .ok (.invokevirtual 125, 3) := by decide +kernel
theorem dX4_pause_14 : decode cX4_pause 14 = .ok (.ireturn, 1) := by decide +kernel
theorem dX4_isEvent_0 : decode cX4_isEvent 0 = .ok (.iload_n 1, 1) := by decide +kernel
theorem dX4_isEvent_1 : decode cX4_isEvent 1 = .ok (.i2l, 1) := by decide +kernel
theorem dX4_isEvent_2 : decode cX4_isEvent 2 = .ok (.lconst 0, 1) := by decide +kernel
theorem dX4_isEvent_3 : decode cX4_isEvent 3 = .ok (.aload_n 0, 1) := by decide +kernel
theorem dX4_isEvent_4 : decode cX4_isEvent 4 = .ok (.getfield 81, 3) := by decide +kernel
theorem dX4_isEvent_7 : decode cX4_isEvent 7 = .ok (.iconst 1, 1) := by decide +kernel
theorem dX4_isEvent_8 : decode cX4_isEvent 8 = .ok (.isub, 1) := by decide +kernel
theorem dX4_isEvent_9 : decode cX4_isEvent 9 = .ok (.i2l, 1) := by decide +kernel
theorem dX4_isEvent_10 : decode cX4_isEvent 10 = .ok (.invokestatic 109, 3) := by decide +kernel
theorem dX4_isEvent_13 : decode cX4_isEvent 13 = .ok (.ireturn, 1) := by decide +kernel
set_option maxRecDepth 20000 in
theorem bkX4_init_0 {w : zW} {Γ : zC} {N S : Nat} {Rt : zR} (X : zm_X w Γ mX4_init N S Rt) : ∀ lv st h, (zi_lda 0 (zi_obj (zi_lda 0 (zi_push (.int 17) (zi_na N S 0 (.inl (fun _ => 0)) (zi_pf 4 4 (.array .int) (zi_lda 0 (zi_push (.int 64) (zi_na N S 0 (.inl (fun _ => 0)) (zi_pf 4 6 (.array .int) (zi_lda 0 (zi_push (.int 64) (zi_na N S 0 (.inl (fun _ => 0)) (zi_pf 4 7 (.array .int) (zi_lda 0 (zi_push (.int 64) (zi_na N S 0 (.inl (fun _ => 0)) (zi_pf 4 8 (.array .int) (zi_lda 0 (zi_push (.int 64) (zi_na N S 0 (.inl (fun _ => 0)) (zi_pf 4 9 (.array .int) (zi_lda 0 (zi_push (.int 64) (zi_na N S 0 (.inl (fun _ => 0)) (zi_pf 4 10 (.array .int) (zi_lda 0 (zi_push (.int 64) (zi_na N S 0 (.inl (fun _ => 0)) (zi_pf 4 11 (.array .int) (zi_lda 0 (zi_push (.int 64) (zi_na N S 0 (.inl (fun _ => 0)) (zi_pf 4 12 (.array .int) (zi_lda 0 (zi_push (.int 64) (zi_na N S 0 (.inl (fun _ => 0)) (zi_pf 4 13 (.array .int) (zi_lda 0 (zi_push (.int 256) (zi_na N S 0 (.inl (fun _ => 0)) (zi_pf 4 14 (.array .int) (zi_lda 0 (zi_push (.int 64) (zi_na N S 0 (.inl (fun _ => 0)) (zi_pf 4 15 (.array .int) (zi_lda 0 (zi_push (.int 2) (zi_na N S 0 (.inl (fun _ => 0)) (zi_pf 4 16 (.array .int) (zi_lda 0 (zi_push (.int 64) (zi_na N S 0 (.inl (fun _ => 0)) (zi_pf 4 20 (.array .int) (zi_lda 0 (zi_push (.int 1024) (zi_na N S 0 (.inl (fun _ => 0)) (zi_pf 4 21 (.array .int) (zi_lda 0 (zi_push (.int 64) (zi_na N S 0 (.inl (fun _ => 0)) (zi_pf 4 22 (.array .int) (zi_lda 0 (zi_push (.int 64) (zi_na N S 0 (.inl (fun _ => 0)) (zi_pf 4 23 (.array .int) (zi_lda 0 (zi_push (.int 64) (zi_na N S 0 (.inl (fun _ => 0)) (zi_pf 4 24 (.array .int) (zi_lda 0 (zi_push (.int 64) (zi_na N S 0 (.inl (fun _ => 0)) (zi_pf 4 25 (.array .int) (zi_lda 0 (zi_push (.int 64) (zi_na N S 0 (.inl (fun _ => 0)) (zi_pf 4 26 (.array .int) (zi_lda 0 (zi_push (.int 64) (zi_na N S 0 (.inl (fun _ => 0)) (zi_pf 4 27 (.array .int) (zi_lda 0 (zi_push (.int 64) (zi_na N S 1 (.inr (.inl (fun _ => 0))) (zi_pf 4 28 (.array .long) (zi_lda 0 (zi_cv w mX4_begin 4 1 N S (zi_vret Rt))))))))))))))))))))))))))))))))))))))))))))))))))))))))))))))))))))))))))))))))))))))))) lv st h → zm_V w Γ 0 lv st h := (zs_aload_n X rfl dX4_init_0 (zs_obj X (by decide) kw_X4_1 ko_1 ko_2 dX4_init_1 (zs_aload_n X rfl dX4_init_4 (zs_bipush X (by decide) dX4_init_5 (zs_newa X (atype := .int) (fun _ => rfl) (fun _ _ => rfl) (by decide) (fun _ h => by cases h) ka_int dX4_init_7 (zs_pfF X (ci := 4) rfl (by decide) zm_in4 kw_X4_7 tyX4 tyX4_ok nmX4 rfl rfl rfl rfl dX4_init_9 (zs_aload_n X rfl dX4_init_12 (zs_bipush X (by decide) dX4_init_13 (zs_newa X (atype := .int) (fun _ => rfl) (fun _ _ => rfl) (by decide) (fun _ h => by cases h) ka_int dX4_init_15 (zs_pfF X (ci := 4) rfl (by decide) zm_in4 kw_X4_13 tyX4 tyX4_ok nmX4 rfl rfl rfl rfl dX4_init_17 (zs_aload_n X rfl dX4_init_20 (zs_bipush X (by decide) dX4_init_21 (zs_newa X (atype := .int) (fun _ => rfl) (fun _ _ => rfl) (by decide) (fun _ h => by cases h) ka_int dX4_init_23 (zs_pfF X (ci := 4) rfl (by decide) zm_in4 kw_X4_16 tyX4 tyX4_ok nmX4 rfl rfl rfl rfl dX4_init_25 (zs_aload_n X rfl dX4_init_28 (zs_bipush X (by decide) dX4_init_29 (zs_newa X (atype := .int) (fun _ => rfl) (fun _ _ => rfl) (by decide) (fun _ h => by cases h) ka_int dX4_init_31 (zs_pfF X (ci := 4) rfl (by decide) zm_in4 kw_X4_19 tyX4 tyX4_ok nmX4 rfl rfl rfl rfl dX4_init_33 (zs_aload_n X rfl dX4_init_36 (zs_bipush X (by decide) dX4_init_37 (zs_newa X (atype := .int) (fun _ => rfl) (fun _ _ => rfl) (by decide) (fun _ h => by cases h) ka_int dX4_init_39 (zs_pfF X (ci := 4) rfl (by decide) zm_in4 kw_X4_22 tyX4 tyX4_ok nmX4 rfl rfl rfl rfl dX4_init_41 (zs_aload_n X rfl dX4_init_44 (zs_bipush X (by decide) dX4_init_45 (zs_newa X (atype := .int) (fun _ => rfl) (fun _ _ => rfl) (by decide) (fun _ h => by cases h) ka_int dX4_init_47 (zs_pfF X (ci := 4) rfl (by decide) zm_in4 kw_X4_25 tyX4 tyX4_ok nmX4 rfl rfl rfl rfl dX4_init_49 (zs_aload_n X rfl dX4_init_52 (zs_bipush X (by decide) dX4_init_53 (zs_newa X (atype := .int) (fun _ => rfl) (fun _ _ => rfl) (by decide) (fun _ h => by cases h) ka_int dX4_init_55 (zs_pfF X (ci := 4) rfl (by decide) zm_in4 kw_X4_28 tyX4 tyX4_ok nmX4 rfl rfl rfl rfl dX4_init_57 (zs_aload_n X rfl dX4_init_60 (zs_bipush X (by decide) dX4_init_61 (zs_newa X (atype := .int) (fun _ => rfl) (fun _ _ => rfl) (by decide) (fun _ h => by cases h) ka_int dX4_init_63 (zs_pfF X (ci := 4) rfl (by decide) zm_in4 kw_X4_31 tyX4 tyX4_ok nmX4 rfl rfl rfl rfl dX4_init_65 (zs_aload_n X rfl dX4_init_68 (zs_bipush X (by decide) dX4_init_69 (zs_newa X (atype := .int) (fun _ => rfl) (fun _ _ => rfl) (by decide) (fun _ h => by cases h) ka_int dX4_init_71 (zs_pfF X (ci := 4) rfl (by decide) zm_in4 kw_X4_34 tyX4 tyX4_ok nmX4 rfl rfl rfl rfl dX4_init_73 (zs_aload_n X rfl dX4_init_76 (zs_sipush X (by decide) dX4_init_77 (zs_newa X (atype := .int) (fun _ => rfl) (fun _ _ => rfl) (by decide) (fun _ h => by cases h) ka_int dX4_init_80 (zs_pfF X (ci := 4) rfl (by decide) zm_in4 kw_X4_37 tyX4 tyX4_ok nmX4 rfl rfl rfl rfl dX4_init_82 (zs_aload_n X rfl dX4_init_85 (zs_bipush X (by decide) dX4_init_86 (zs_newa X (atype := .int) (fun _ => rfl) (fun _ _ => rfl) (by decide) (fun _ h => by cases h) ka_int dX4_init_88 (zs_pfF X (ci := 4) rfl (by decide) zm_in4 kw_X4_40 tyX4 tyX4_ok nmX4 rfl rfl rfl rfl dX4_init_90 (zs_aload_n X rfl dX4_init_93 (zs_iconst X (by decide) dX4_init_94 (zs_newa X (atype := .int) (fun _ => rfl) (fun _ _ => rfl) (by decide) (fun _ h => by cases h) ka_int dX4_init_95 (zs_pfF X (ci := 4) rfl (by decide) zm_in4 kw_X4_43 tyX4 tyX4_ok nmX4 rfl rfl rfl rfl dX4_init_97 (zs_aload_n X rfl dX4_init_100 (zs_bipush X (by decide) dX4_init_101 (zs_newa X (atype := .int) (fun _ => rfl) (fun _ _ => rfl) (by decide) (fun _ h => by cases h) ka_int dX4_init_103 (zs_pfF X (ci := 4) rfl (by decide) zm_in4 kw_X4_46 tyX4 tyX4_ok nmX4 rfl rfl rfl rfl dX4_init_105 (zs_aload_n X rfl dX4_init_108 (zs_sipush X (by decide) dX4_init_109 (zs_newa X (atype := .int) (fun _ => rfl) (fun _ _ => rfl) (by decide) (fun _ h => by cases h) ka_int dX4_init_112 (zs_pfF X (ci := 4) rfl (by decide) zm_in4 kw_X4_49 tyX4 tyX4_ok nmX4 rfl rfl rfl rfl dX4_init_114 (zs_aload_n X rfl dX4_init_117 (zs_bipush X (by decide) dX4_init_118 (zs_newa X (atype := .int) (fun _ => rfl) (fun _ _ => rfl) (by decide) (fun _ h => by cases h) ka_int dX4_init_120 (zs_pfF X (ci := 4) rfl (by decide) zm_in4 kw_X4_52 tyX4 tyX4_ok nmX4 rfl rfl rfl rfl dX4_init_122 (zs_aload_n X rfl dX4_init_125 (zs_bipush X (by decide) dX4_init_126 (zs_newa X (atype := .int) (fun _ => rfl) (fun _ _ => rfl) (by decide) (fun _ h => by cases h) ka_int dX4_init_128 (zs_pfF X (ci := 4) rfl (by decide) zm_in4 kw_X4_55 tyX4 tyX4_ok nmX4 rfl rfl rfl rfl dX4_init_130 (zs_aload_n X rfl dX4_init_133 (zs_bipush X (by decide) dX4_init_134 (zs_newa X (atype := .int) (fun _ => rfl) (fun _ _ => rfl) (by decide) (fun _ h => by cases h) ka_int dX4_init_136 (zs_pfF X (ci := 4) rfl (by decide) zm_in4 kw_X4_58 tyX4 tyX4_ok nmX4 rfl rfl rfl rfl dX4_init_138 (zs_aload_n X rfl dX4_init_141 (zs_bipush X (by decide) dX4_init_142 (zs_newa X (atype := .int) (fun _ => rfl) (fun _ _ => rfl) (by decide) (fun _ h => by cases h) ka_int dX4_init_144 (zs_pfF X (ci := 4) rfl (by decide) zm_in4 kw_X4_61 tyX4 tyX4_ok nmX4 rfl rfl rfl rfl dX4_init_146 (zs_aload_n X rfl dX4_init_149 (zs_bipush X (by decide) dX4_init_150 (zs_newa X (atype := .int) (fun _ => rfl) (fun _ _ => rfl) (by decide) (fun _ h => by cases h) ka_int dX4_init_152 (zs_pfF X (ci := 4) rfl (by decide) zm_in4 kw_X4_64 tyX4 tyX4_ok nmX4 rfl rfl rfl rfl dX4_init_154 (zs_aload_n X rfl dX4_init_157 (zs_bipush X (by decide) dX4_init_158 (zs_newa X (atype := .int) (fun _ => rfl) (fun _ _ => rfl) (by decide) (fun _ h => by cases h) ka_int dX4_init_160 (zs_pfF X (ci := 4) rfl (by decide) zm_in4 kw_X4_67 tyX4 tyX4_ok nmX4 rfl rfl rfl rfl dX4_init_162 (zs_aload_n X rfl dX4_init_165 (zs_bipush X (by decide) dX4_init_166 (zs_newa X (atype := .long) (fun _ => rfl) (fun _ _ => rfl) (by decide) (fun _ h => by cases h) ka_long dX4_init_168 (zs_pfF X (ci := 4) rfl (by decide) zm_in4 kw_X4_70 tyX4 tyX4_ok nmX4 rfl rfl rfl rfl dX4_init_170 (zs_aload_n X rfl dX4_init_173 (zs_cv X (M' := mX4_begin) (n := 0) kd_X4_begin ki_X4 (by decide +kernel) (by decide) kw_X4_74 rfl ks_X4_begin kl_X4_begin dX4_init_174 (zs_vret X rfl dX4_init_177)))))))))))))))))))))))))))))))))))))))))))))))))))))))))))))))))))))))))))))))))))))))))
set_option maxRecDepth 20000 in
theorem bkX4_thrown_0 {w : zW} {Γ : zC} {N S : Nat} {Rt : zR} (X : zm_X w Γ mX4_thrown N S Rt) : ∀ lv st h, (zi_lda 0 (zi_gf 4 0 (zi_iret Rt))) lv st h → zm_V w Γ 0 lv st h := (zs_aload_n X rfl dX4_thrown_0 (zs_gf X (ci := 4) rfl (by decide) zm_in4 kw_X4_77 dX4_thrown_1 (zs_iret X rfl dX4_thrown_4)))
set_option maxRecDepth 20000 in
theorem bkX4_in_0 {w : zW} {Γ : zC} {N S : Nat} {Rt : zR} (X : zm_X w Γ mX4_in N S Rt) : ∀ lv st h, (zi_ldl 0 (zi_ldl 2 (zi_lcmp (zi_if (fun x => x < 0) (zi_push (.int 0) (zi_zret Rt)) (zi_ldl 0 (zi_ldl 4 (zi_lcmp (zi_if (fun x => 0 < x) (zi_push (.int 0) (zi_zret Rt)) (zi_push (.int 1) (zi_zret Rt)))))))))) lv st h → zm_V w Γ 0 lv st h := (zs_lload_n X rfl dX4_in_0 (zs_lload_n X rfl dX4_in_1 (zs_lcmp X dX4_in_2 (zs_if_lt X dX4_in_3 (by decide) (zs_iconst X (by decide) dX4_in_17 (zs_zret X rfl dX4_in_18)) (zs_lload_n X rfl dX4_in_6 (zs_lload X dX4_in_7 (zs_lcmp X dX4_in_9 (zs_if_gt X dX4_in_10 (by decide) (zs_iconst X (by decide) dX4_in_17 (zs_zret X rfl dX4_in_18)) (zs_iconst X (by decide) dX4_in_13 (zs_goto X dX4_in_14 (by decide) (zs_zret X rfl dX4_in_18)))))))))))
set_option maxRecDepth 20000 in
theorem bkX4_rounded_0 {w : zW} {Γ : zC} {N S : Nat} {Rt : zR} (X : zm_X w Γ mX4_rounded N S Rt) : ∀ lv st h, (zi_ldi 0 (zi_if (fun x => 0 ≤ x) (zi_ldi 0 (zm_V w Γ 10)) (zi_ldi 0 (zi_u (fun x => -x) (zm_V w Γ 10))))) lv st h → zm_V w Γ 0 lv st h := (zs_iload_n X rfl dX4_rounded_0 (zs_if_ge X dX4_rounded_1 (by decide) (zs_iload_n X rfl dX4_rounded_9 (fun _ _ _ h => h)) (zs_iload_n X rfl dX4_rounded_4 (zs_ineg X dX4_rounded_5 (zs_goto X dX4_rounded_6 (by decide) (fun _ _ _ h => h))))))
set_option maxRecDepth 20000 in
theorem bkX4_rounded_10 {w : zW} {Γ : zC} {N S : Nat} {Rt : zR} (X : zm_X w Γ mX4_rounded N S Rt) : ∀ lv st h, (zi_sti 2 (zi_push (.int 2) (zi_ldi 2 (zi_b (fun x y => x * y) (zi_ldi 1 (zi_b (fun x y => x + y) (zi_push (.int 2) (zi_ldi 1 (zi_b (fun x y => x * y) (zi_d (fun x y => x / y) (zi_sti 3 (zi_ldi 0 (zi_if (fun x => 0 ≤ x) (zi_ldi 3 (zi_iret Rt)) (zi_ldi 3 (zi_u (fun x => -x) (zi_iret Rt)))))))))))))))) lv st h → zm_V w Γ 10 lv st h := (zs_istore_n X rfl (by decide) dX4_rounded_10 (zs_iconst X (by decide) dX4_rounded_11 (zs_iload_n X rfl dX4_rounded_12 (zs_imul X dX4_rounded_13 (zs_iload_n X rfl dX4_rounded_14 (zs_iadd X dX4_rounded_15 (zs_iconst X (by decide) dX4_rounded_16 (zs_iload_n X rfl dX4_rounded_17 (zs_imul X dX4_rounded_18 (zs_idiv X dX4_rounded_19 (zs_istore_n X rfl (by decide) dX4_rounded_20 (zs_iload_n X rfl dX4_rounded_21 (zs_if_ge X dX4_rounded_22 (by decide) (zs_iload_n X rfl dX4_rounded_30 (zs_iret X rfl dX4_rounded_31)) (zs_iload_n X rfl dX4_rounded_25 (zs_ineg X dX4_rounded_26 (zs_goto X dX4_rounded_27 (by decide) (zs_iret X rfl dX4_rounded_31)))))))))))))))))
set_option maxRecDepth 20000 in
theorem bkX4_begin_0 {w : zW} {Γ : zC} {N S : Nat} {Rt : zR} (X : zm_X w Γ mX4_begin N S Rt) : ∀ lv st h, (zi_lda 0 (zi_push (.int 0) (zi_pf 4 5 .int (zi_lda 0 (zi_gf 4 16 (zi_push (.int 0) (zi_push (.int 0) (zi_is 0 (zi_lda 0 (zi_gf 4 16 (zi_push (.int 1) (zi_push (.int 0) (zi_is 0 (zi_lda 0 (zi_push (.int 0) (zi_pf 4 17 .boolean (zi_lda 0 (zi_push (.int 0) (zi_pf 4 18 .int (zi_lda 0 (zi_push (.int 0) (zi_pf 4 19 .int (zi_lda 0 (zi_push (.int 4) (zi_push (.int 4) (zi_push (.int 0) (zi_cv w mX4_measure 4 4 N S (zi_pop (zi_vret Rt))))))))))))))))))))))))))))) lv st h → zm_V w Γ 0 lv st h := (zs_aload_n X rfl dX4_begin_0 (zs_iconst X (by decide) dX4_begin_1 (zs_pf X (ci := 4) rfl (by decide) zm_in4 kw_X4_81 tyX4 tyX4_ok nmX4 rfl rfl dX4_begin_2 (zs_aload_n X rfl dX4_begin_5 (zs_gf X (ci := 4) rfl (by decide) zm_in4 kw_X4_43 dX4_begin_6 (zs_iconst X (by decide) dX4_begin_9 (zs_iconst X (by decide) dX4_begin_10 (zs_iast X (fun _ => rfl) dX4_begin_11 (zs_aload_n X rfl dX4_begin_12 (zs_gf X (ci := 4) rfl (by decide) zm_in4 kw_X4_43 dX4_begin_13 (zs_iconst X (by decide) dX4_begin_16 (zs_iconst X (by decide) dX4_begin_17 (zs_iast X (fun _ => rfl) dX4_begin_18 (zs_aload_n X rfl dX4_begin_19 (zs_iconst X (by decide) dX4_begin_20 (zs_pf X (ci := 4) rfl (by decide) zm_in4 kw_X4_84 tyX4 tyX4_ok nmX4 rfl rfl dX4_begin_21 (zs_aload_n X rfl dX4_begin_24 (zs_iconst X (by decide) dX4_begin_25 (zs_pf X (ci := 4) rfl (by decide) zm_in4 kw_X4_88 tyX4 tyX4_ok nmX4 rfl rfl dX4_begin_26 (zs_aload_n X rfl dX4_begin_29 (zs_iconst X (by decide) dX4_begin_30 (zs_pf X (ci := 4) rfl (by decide) zm_in4 kw_X4_91 tyX4 tyX4_ok nmX4 rfl rfl dX4_begin_31 (zs_aload_n X rfl dX4_begin_34 (zs_iconst X (by decide) dX4_begin_35 (zs_iconst X (by decide) dX4_begin_36 (zs_iconst X (by decide) dX4_begin_37 (zs_cv X (M' := mX4_measure) (n := 3) kd_X4_measure ki_X4 (by decide +kernel) (by decide) kw_X4_94 rfl ks_X4_measure kl_X4_measure dX4_begin_38 (zs_pop X dX4_begin_41 (zs_vret X rfl dX4_begin_42)))))))))))))))))))))))))))))
set_option maxRecDepth 20000 in
theorem bkX4_measure_0 {w : zW} {Γ : zC} {N S : Nat} {Rt : zR} (X : zm_X w Γ mX4_measure N S Rt) : ∀ lv st h, (zi_push (.int 0) (zi_sti 4 (zi_ldi 3 (zi_sti 5 (zi_push (.int 0) (zi_sti 6 (zm_V w Γ 9))))))) lv st h → zm_V w Γ 0 lv st h := (zs_iconst X (by decide) dX4_measure_0 (zs_istore X (by decide) dX4_measure_1 (zs_iload_n X rfl dX4_measure_3 (zs_istore X (by decide) dX4_measure_4 (zs_iconst X (by decide) dX4_measure_6 (zs_istore X (by decide) dX4_measure_7 (fun _ _ _ h => h)))))))
set_option maxRecDepth 20000 in
theorem bkX4_measure_9 {w : zW} {Γ : zC} {N S : Nat} {Rt : zR} (X : zm_X w Γ mX4_measure N S Rt) : ∀ lv st h, (zi_ldi 5 (zi_if (fun x => x ≤ 0) (zi_ldi 3 (zi_if (fun x => x < 0) (zi_push (.int 0) (zi_zret Rt)) (zi_ldi 3 (zi_if (fun x => x ≤ 0) (zm_V w Γ 74) (zi_ldi 4 (zi_if (fun x => x < 0) (zi_push (.int 0) (zi_zret Rt)) (zi_ldi 6 (zi_ldi 1 (zi_ic (fun x y => x = y) (zm_V w Γ 74) (zi_push (.int 0) (zi_zret Rt))))))))))) (zi_ldi 6 (zi_ldi 5 (zi_push (.int 10) (zi_d (fun x y => x - x / y * y) (zi_b (fun x y => x + y) (zi_sti 6 (zi_ldi 5 (zi_push (.int 10) (zi_d (fun x y => x - x / y * y) (zi_if (fun x => x = 0) (zi_push (.int (-100)) (zi_sti 4 (zi_ldi 5 (zi_push (.int 10) (zi_d (fun x y => x / y) (zi_sti 5 (zm_V w Γ 9))))))) (zi_ldi 4 (zi_push (.int 1) (zi_b (fun x y => x + y) (zi_sti 4 (zi_ldi 5 (zi_push (.int 10) (zi_d (fun x y => x / y) (zi_sti 5 (zm_V w Γ 9))))))))))))))))))))) lv st h → zm_V w Γ 9 lv st h := (zs_iload X dX4_measure_9 (zs_if_le X dX4_measure_11 (by decide) (zs_iload_n X rfl dX4_measure_53 (zs_if_lt X dX4_measure_54 (by decide) (zs_iconst X (by decide) dX4_measure_72 (zs_zret X rfl dX4_measure_73)) (zs_iload_n X rfl dX4_measure_57 (zs_if_le X dX4_measure_58 (by decide) (fun _ _ _ h => h) (zs_iload X dX4_measure_61 (zs_if_lt X dX4_measure_63 (by decide) (zs_iconst X (by decide) dX4_measure_72 (zs_zret X rfl dX4_measure_73)) (zs_iload X dX4_measure_66 (zs_iload_n X rfl dX4_measure_68 (zs_icmp_eq X dX4_measure_69 (by decide) (fun _ _ _ h => h) (zs_iconst X (by decide) dX4_measure_72 (zs_zret X rfl dX4_measure_73))))))))))) (zs_iload X dX4_measure_14 (zs_iload X dX4_measure_16 (zs_bipush X (by decide) dX4_measure_18 (zs_irem X dX4_measure_20 (zs_iadd X dX4_measure_21 (zs_istore X (by decide) dX4_measure_22 (zs_iload X dX4_measure_24 (zs_bipush X (by decide) dX4_measure_26 (zs_irem X dX4_measure_28 (zs_if_ne X dX4_measure_29 (by decide) (zs_iload X dX4_measure_37 (zs_iconst X (by decide) dX4_measure_39 (zs_iadd X dX4_measure_40 (zs_istore X (by decide) dX4_measure_41 (zs_iload X dX4_measure_43 (zs_bipush X (by decide) dX4_measure_45 (zs_idiv X dX4_measure_47 (zs_istore X (by decide) dX4_measure_48 (zs_goto X dX4_measure_50 (by decide) (fun _ _ _ h => h)))))))))) (zs_bipush X (by decide) dX4_measure_32 (zs_goto X dX4_measure_34 (by decide) (zs_istore X (by decide) dX4_measure_41 (zs_iload X dX4_measure_43 (zs_bipush X (by decide) dX4_measure_45 (zs_idiv X dX4_measure_47 (zs_istore X (by decide) dX4_measure_48 (zs_goto X dX4_measure_50 (by decide) (fun _ _ _ h => h)))))))))))))))))))))
set_option maxRecDepth 20000 in
theorem bkX4_measure_74 {w : zW} {Γ : zC} {N S : Nat} {Rt : zR} (X : zm_X w Γ mX4_measure N S Rt) : ∀ lv st h, (zi_lda 0 (zi_push (.int 256) (zi_ldi 2 (zi_d (fun x y => x / y) (zi_pf 4 1 .int (zi_lda 0 (zi_ldi 1 (zi_lda 0 (zi_gf 4 1 (zi_b (fun x y => x * y) (zi_pf 4 2 .int (zi_lda 0 (zi_push (.int 0) (zi_pf 4 3 .int (zi_push (.int 0) (zi_sti 7 (zi_ldi 3 (zi_sti 5 (zi_push (.int 1) (zi_sti 8 (zi_push (.int 1) (zi_sti 9 (zm_V w Γ 110))))))))))))))))))))))) lv st h → zm_V w Γ 74 lv st h := (zs_aload_n X rfl dX4_measure_74 (zs_sipush X (by decide) dX4_measure_75 (zs_iload_n X rfl dX4_measure_78 (zs_idiv X dX4_measure_79 (zs_pf X (ci := 4) rfl (by decide) zm_in4 kw_X4_98 tyX4 tyX4_ok nmX4 rfl rfl dX4_measure_80 (zs_aload_n X rfl dX4_measure_83 (zs_iload_n X rfl dX4_measure_84 (zs_aload_n X rfl dX4_measure_85 (zs_gf X (ci := 4) rfl (by decide) zm_in4 kw_X4_98 dX4_measure_86 (zs_imul X dX4_measure_89 (zs_pf X (ci := 4) rfl (by decide) zm_in4 kw_X4_101 tyX4 tyX4_ok nmX4 rfl rfl dX4_measure_90 (zs_aload_n X rfl dX4_measure_93 (zs_iconst X (by decide) dX4_measure_94 (zs_pf X (ci := 4) rfl (by decide) zm_in4 kw_X4_104 tyX4 tyX4_ok nmX4 rfl rfl dX4_measure_95 (zs_iconst X (by decide) dX4_measure_98 (zs_istore X (by decide) dX4_measure_99 (zs_iload_n X rfl dX4_measure_101 (zs_istore X (by decide) dX4_measure_102 (zs_iconst X (by decide) dX4_measure_104 (zs_istore X (by decide) dX4_measure_105 (zs_iconst X (by decide) dX4_measure_107 (zs_istore X (by decide) dX4_measure_108 (fun _ _ _ h => h)))))))))))))))))))))))
set_option maxRecDepth 20000 in
theorem bkX4_measure_110 {w : zW} {Γ : zC} {N S : Nat} {Rt : zR} (X : zm_X w Γ mX4_measure N S Rt) : ∀ lv st h, (zi_ldi 9 (zi_ldi 4 (zi_ic (fun x y => y ≤ x) (zm_V w Γ 130) (zi_push (.int 10) (zi_ldi 8 (zi_b (fun x y => x * y) (zi_sti 8 (zi_inc 9 1 (zm_V w Γ 110))))))))) lv st h → zm_V w Γ 110 lv st h := (zs_iload X dX4_measure_110 (zs_iload X dX4_measure_112 (zs_icmp_ge X dX4_measure_114 (by decide) (fun _ _ _ h => h) (zs_bipush X (by decide) dX4_measure_117 (zs_iload X dX4_measure_119 (zs_imul X dX4_measure_121 (zs_istore X (by decide) dX4_measure_122 (zs_iinc X (by decide) (by decide) dX4_measure_124 (zs_goto X dX4_measure_127 (by decide) (fun _ _ _ h => h))))))))))
set_option maxRecDepth 20000 in
theorem bkX4_measure_130 {w : zW} {Γ : zC} {N S : Nat} {Rt : zR} (X : zm_X w Γ mX4_measure N S Rt) : ∀ lv st h, (zi_ldi 7 (zi_ldi 1 (zi_ic (fun x y => y ≤ x) (zi_push (.int 1) (zi_zret Rt)) (zi_ldi 3 (zi_if (fun x => x ≤ 0) (zi_ldi 2 (zi_push (.int 8) (zi_ic (fun x y => x < y) (zm_V w Γ 182) (zi_ldi 1 (zi_push (.int 3) (zi_d (fun x y => x - x / y * y) (zi_if (fun x => x = 0) (zi_push (.int 3) (zi_sti 9 (zm_V w Γ 221))) (zm_V w Γ 182)))))))) (zi_ldi 5 (zi_ldi 8 (zi_d (fun x y => x / y) (zi_sti 9 (zi_ldi 5 (zi_ldi 8 (zi_d (fun x y => x - x / y * y) (zi_sti 5 (zi_ldi 8 (zi_push (.int 10) (zi_d (fun x y => x / y) (zi_sti 8 (zm_V w Γ 221)))))))))))))))))) lv st h → zm_V w Γ 130 lv st h := (zs_iload X dX4_measure_130 (zs_iload_n X rfl dX4_measure_132 (zs_icmp_ge X dX4_measure_133 (by decide) (zs_iconst X (by decide) dX4_measure_257 (zs_zret X rfl dX4_measure_258)) (zs_iload_n X rfl dX4_measure_136 (zs_if_le X dX4_measure_137 (by decide) (zs_iload_n X rfl dX4_measure_164 (zs_bipush X (by decide) dX4_measure_165 (zs_icmp_lt X dX4_measure_167 (by decide) (fun _ _ _ h => h) (zs_iload_n X rfl dX4_measure_170 (zs_iconst X (by decide) dX4_measure_171 (zs_irem X dX4_measure_172 (zs_if_ne X dX4_measure_173 (by decide) (fun _ _ _ h => h) (zs_iconst X (by decide) dX4_measure_176 (zs_istore X (by decide) dX4_measure_177 (zs_goto X dX4_measure_179 (by decide) (fun _ _ _ h => h))))))))))) (zs_iload X dX4_measure_140 (zs_iload X dX4_measure_142 (zs_idiv X dX4_measure_144 (zs_istore X (by decide) dX4_measure_145 (zs_iload X dX4_measure_147 (zs_iload X dX4_measure_149 (zs_irem X dX4_measure_151 (zs_istore X (by decide) dX4_measure_152 (zs_iload X dX4_measure_154 (zs_bipush X (by decide) dX4_measure_156 (zs_idiv X dX4_measure_158 (zs_istore X (by decide) dX4_measure_159 (zs_goto X dX4_measure_161 (by decide) (fun _ _ _ h => h)))))))))))))))))))
set_option maxRecDepth 20000 in
theorem bkX4_measure_182 {w : zW} {Γ : zC} {N S : Nat} {Rt : zR} (X : zm_X w Γ mX4_measure N S Rt) : ∀ lv st h, (zi_ldi 2 (zi_push (.int 8) (zi_ic (fun x y => x < y) (zi_push (.int 1) (zi_sti 9 (zm_V w Γ 221))) (zi_ldi 1 (zi_ldi 7 (zi_b (fun x y => x - y) (zi_push (.int 3) (zi_ic (fun x y => x = y) (zi_push (.int 3) (zm_V w Γ 213)) (zi_ldi 1 (zi_ldi 7 (zi_b (fun x y => x - y) (zi_push (.int 1) (zi_ic (fun x y => x = y) (zi_push (.int 1) (zm_V w Γ 213)) (zi_push (.int 2) (zm_V w Γ 213))))))))))))))) lv st h → zm_V w Γ 182 lv st h := (zs_iload_n X rfl dX4_measure_182 (zs_bipush X (by decide) dX4_measure_183 (zs_icmp_lt X dX4_measure_185 (by decide) (zs_iconst X (by decide) dX4_measure_218 (zs_istore X (by decide) dX4_measure_219 (fun _ _ _ h => h))) (zs_iload_n X rfl dX4_measure_188 (zs_iload X dX4_measure_189 (zs_isub X dX4_measure_191 (zs_iconst X (by decide) dX4_measure_192 (zs_icmp_ne X dX4_measure_193 (by decide) (zs_iload_n X rfl dX4_measure_200 (zs_iload X dX4_measure_201 (zs_isub X dX4_measure_203 (zs_iconst X (by decide) dX4_measure_204 (zs_icmp_ne X dX4_measure_205 (by decide) (zs_iconst X (by decide) dX4_measure_212 (fun _ _ _ h => h)) (zs_iconst X (by decide) dX4_measure_208 (zs_goto X dX4_measure_209 (by decide) (fun _ _ _ h => h)))))))) (zs_iconst X (by decide) dX4_measure_196 (zs_goto X dX4_measure_197 (by decide) (fun _ _ _ h => h)))))))))))
set_option maxRecDepth 20000 in
theorem bkX4_measure_213 {w : zW} {Γ : zC} {N S : Nat} {Rt : zR} (X : zm_X w Γ mX4_measure N S Rt) : ∀ lv st h, (zi_sti 9 (zm_V w Γ 221)) lv st h → zm_V w Γ 213 lv st h := (zs_istore X (by decide) dX4_measure_213 (zs_goto X dX4_measure_215 (by decide) (fun _ _ _ h => h)))
set_option maxRecDepth 20000 in
theorem bkX4_measure_221 {w : zW} {Γ : zC} {N S : Nat} {Rt : zR} (X : zm_X w Γ mX4_measure N S Rt) : ∀ lv st h, (zi_lda 0 (zi_gf 4 4 (zi_lda 0 (zi_gf 4 3 (zi_ldi 7 (zi_lda 0 (zi_gf 4 1 (zi_b (fun x y => x * y) (zi_is 0 (zi_lda 0 (zi_dup (zi_gf 4 3 (zi_push (.int 1) (zi_b (fun x y => x + y) (zi_pf 4 3 .int (zi_ldi 7 (zi_ldi 9 (zi_b (fun x y => x + y) (zi_sti 7 (zm_V w Γ 130)))))))))))))))))))) lv st h → zm_V w Γ 221 lv st h := (zs_aload_n X rfl dX4_measure_221 (zs_gf X (ci := 4) rfl (by decide) zm_in4 kw_X4_7 dX4_measure_222 (zs_aload_n X rfl dX4_measure_225 (zs_gf X (ci := 4) rfl (by decide) zm_in4 kw_X4_104 dX4_measure_226 (zs_iload X dX4_measure_229 (zs_aload_n X rfl dX4_measure_231 (zs_gf X (ci := 4) rfl (by decide) zm_in4 kw_X4_98 dX4_measure_232 (zs_imul X dX4_measure_235 (zs_iast X (fun _ => rfl) dX4_measure_236 (zs_aload_n X rfl dX4_measure_237 (zs_dup X dX4_measure_238 (zs_gf X (ci := 4) rfl (by decide) zm_in4 kw_X4_104 dX4_measure_239 (zs_iconst X (by decide) dX4_measure_242 (zs_iadd X dX4_measure_243 (zs_pf X (ci := 4) rfl (by decide) zm_in4 kw_X4_104 tyX4 tyX4_ok nmX4 rfl rfl dX4_measure_244 (zs_iload X dX4_measure_247 (zs_iload X dX4_measure_249 (zs_iadd X dX4_measure_251 (zs_istore X (by decide) dX4_measure_252 (zs_goto X dX4_measure_254 (by decide) (fun _ _ _ h => h)))))))))))))))))))))
set_option maxRecDepth 20000 in
theorem bkX4_meter_0 {w : zW} {Γ : zC} {N S : Nat} {Rt : zR} (X : zm_X w Γ mX4_meter N S Rt) : ∀ lv st h, (zi_lda 0 (zi_push (.int 0) (zi_pf 4 0 .int (zi_ldi 1 (zi_i2l (zi_push (.long 1) (zi_push (.long (16)) (zi_cs w mX4_in 3 N S (zi_if (fun x => x = 0) (zi_push (.int (-1003)) (zi_iret Rt)) (zi_ldi 2 (zi_push (.int 2) (zi_ic (fun x y => x = y) (zm_V w Γ 43) (zi_ldi 2 (zi_push (.int 4) (zi_ic (fun x y => x = y) (zm_V w Γ 43) (zi_ldi 2 (zi_push (.int 8) (zi_ic (fun x y => x = y) (zm_V w Γ 43) (zi_ldi 2 (zi_push (.int 16) (zi_ic (fun x y => x = y) (zm_V w Γ 43) (zi_push (.int (-1003)) (zi_iret Rt))))))))))))))))))))))) lv st h → zm_V w Γ 0 lv st h := (zs_aload_n X rfl dX4_meter_0 (zs_iconst X (by decide) dX4_meter_1 (zs_pf X (ci := 4) rfl (by decide) zm_in4 kw_X4_77 tyX4 tyX4_ok nmX4 rfl rfl dX4_meter_2 (zs_iload_n X rfl dX4_meter_5 (zs_i2l X dX4_meter_6 (zs_lconst X (by decide) dX4_meter_7 (zs_ldc2 X kw_X4_107 dX4_meter_8 (zs_cs X (M' := mX4_in) (n := 3) kd_X4_in ki_X4 (by decide +kernel) (by decide) kw_X4_109 ks_X4_in dX4_meter_11 (zs_if_eq X dX4_meter_14 (by decide) (zs_sipush X (by decide) dX4_meter_39 (zs_iret X rfl dX4_meter_42)) (zs_iload_n X rfl dX4_meter_17 (zs_iconst X (by decide) dX4_meter_18 (zs_icmp_eq X dX4_meter_19 (by decide) (fun _ _ _ h => h) (zs_iload_n X rfl dX4_meter_22 (zs_iconst X (by decide) dX4_meter_23 (zs_icmp_eq X dX4_meter_24 (by decide) (fun _ _ _ h => h) (zs_iload_n X rfl dX4_meter_27 (zs_bipush X (by decide) dX4_meter_28 (zs_icmp_eq X dX4_meter_30 (by decide) (fun _ _ _ h => h) (zs_iload_n X rfl dX4_meter_33 (zs_bipush X (by decide) dX4_meter_34 (zs_icmp_eq X dX4_meter_36 (by decide) (fun _ _ _ h => h) (zs_sipush X (by decide) dX4_meter_39 (zs_iret X rfl dX4_meter_42)))))))))))))))))))))))
set_option maxRecDepth 20000 in
theorem bkX4_meter_43 {w : zW} {Γ : zC} {N S : Nat} {Rt : zR} (X : zm_X w Γ mX4_meter N S Rt) : ∀ lv st h, (zi_lda 0 (zi_gf 4 5 (zi_if (fun x => x ≤ 0) (zi_lda 0 (zi_ldi 1 (zi_ldi 2 (zi_ldi 3 (zi_cv w mX4_measure 4 4 N S (zi_if (fun x => x = 0) (zi_push (.int (-1003)) (zi_iret Rt)) (zi_lda 0 (zi_push (.int 0) (zi_pf 4 18 .int (zi_lda 0 (zi_gf 4 3 (zi_iret Rt)))))))))))) (zi_ldi 3 (zi_if (fun x => x < 0) (zi_push (.int (-1003)) (zi_iret Rt)) (zi_ldi 3 (zi_if (fun x => x ≤ 0) (zi_push (.int (-1004)) (zi_iret Rt)) (zi_ldi 1 (zi_ldi 3 (zi_cs w mX4_isSo 2 N S (zi_if (fun x => x = 0) (zi_push (.int (-1003)) (zi_iret Rt)) (zi_push (.int (-1004)) (zi_iret Rt))))))))))))) lv st h → zm_V w Γ 43 lv st h := (zs_aload_n X rfl dX4_meter_43 (zs_gf X (ci := 4) rfl (by decide) zm_in4 kw_X4_81 dX4_meter_44 (zs_if_le X dX4_meter_47 (by decide) (zs_aload_n X rfl dX4_meter_76 (zs_iload_n X rfl dX4_meter_77 (zs_iload_n X rfl dX4_meter_78 (zs_iload_n X rfl dX4_meter_79 (zs_cv X (M' := mX4_measure) (n := 3) kd_X4_measure ki_X4 (by decide +kernel) (by decide) kw_X4_94 rfl ks_X4_measure kl_X4_measure dX4_meter_80 (zs_if_ne X dX4_meter_83 (by decide) (zs_aload_n X rfl dX4_meter_90 (zs_iconst X (by decide) dX4_meter_91 (zs_pf X (ci := 4) rfl (by decide) zm_in4 kw_X4_88 tyX4 tyX4_ok nmX4 rfl rfl dX4_meter_92 (zs_aload_n X rfl dX4_meter_95 (zs_gf X (ci := 4) rfl (by decide) zm_in4 kw_X4_104 dX4_meter_96 (zs_iret X rfl dX4_meter_99)))))) (zs_sipush X (by decide) dX4_meter_86 (zs_iret X rfl dX4_meter_89)))))))) (zs_iload_n X rfl dX4_meter_50 (zs_if_lt X dX4_meter_51 (by decide) (zs_sipush X (by decide) dX4_meter_66 (zs_goto X dX4_meter_69 (by decide) (zs_iret X rfl dX4_meter_75))) (zs_iload_n X rfl dX4_meter_54 (zs_if_le X dX4_meter_55 (by decide) (zs_sipush X (by decide) dX4_meter_72 (zs_iret X rfl dX4_meter_75)) (zs_iload_n X rfl dX4_meter_58 (zs_iload_n X rfl dX4_meter_59 (zs_cs X (M' := mX4_isSo) (n := 2) kd_X4_isSo ki_X4 (by decide +kernel) (by decide) kw_X4_113 ks_X4_isSo dX4_meter_60 (zs_if_ne X dX4_meter_63 (by decide) (zs_sipush X (by decide) dX4_meter_72 (zs_iret X rfl dX4_meter_75)) (zs_sipush X (by decide) dX4_meter_66 (zs_goto X dX4_meter_69 (by decide) (zs_iret X rfl dX4_meter_75))))))))))))))
set_option maxRecDepth 20000 in
theorem bkX4_isSo_0 {w : zW} {Γ : zC} {N S : Nat} {Rt : zR} (X : zm_X w Γ mX4_isSo N S Rt) : ∀ lv st h, (zi_ldi 1 (zi_sti 2 (zi_push (.int 0) (zi_sti 3 (zi_push (.int 1) (zi_sti 4 (zm_V w Γ 7))))))) lv st h → zm_V w Γ 0 lv st h := (zs_iload_n X rfl dX4_isSo_0 (zs_istore_n X rfl (by decide) dX4_isSo_1 (zs_iconst X (by decide) dX4_isSo_2 (zs_istore_n X rfl (by decide) dX4_isSo_3 (zs_iconst X (by decide) dX4_isSo_4 (zs_istore X (by decide) dX4_isSo_5 (fun _ _ _ h => h)))))))
set_option maxRecDepth 20000 in
theorem bkX4_isSo_7 {w : zW} {Γ : zC} {N S : Nat} {Rt : zR} (X : zm_X w Γ mX4_isSo N S Rt) : ∀ lv st h, (zi_ldi 2 (zi_if (fun x => x ≤ 0) (zi_ldi 4 (zi_if (fun x => x = 0) (zi_push (.int 0) (zi_zret Rt)) (zi_ldi 3 (zi_ldi 0 (zi_ic (fun x y => x = y) (zi_push (.int 1) (zi_zret Rt)) (zi_push (.int 0) (zi_zret Rt))))))) (zi_ldi 3 (zi_ldi 2 (zi_push (.int 10) (zi_d (fun x y => x - x / y * y) (zi_b (fun x y => x + y) (zi_sti 3 (zi_ldi 4 (zi_if (fun x => x = 0) (zi_push (.int 0) (zi_sti 4 (zi_ldi 2 (zi_push (.int 10) (zi_d (fun x y => x / y) (zi_sti 2 (zm_V w Γ 7))))))) (zi_ldi 2 (zi_push (.int 10) (zi_d (fun x y => x - x / y * y) (zi_if (fun x => x ≤ 0) (zi_push (.int 0) (zi_sti 4 (zi_ldi 2 (zi_push (.int 10) (zi_d (fun x y => x / y) (zi_sti 2 (zm_V w Γ 7))))))) (zi_push (.int 1) (zi_sti 4 (zi_ldi 2 (zi_push (.int 10) (zi_d (fun x y => x / y) (zi_sti 2 (zm_V w Γ 7))))))))))))))))))))) lv st h → zm_V w Γ 7 lv st h := (zs_iload_n X rfl dX4_isSo_7 (zs_if_le X dX4_isSo_8 (by decide) (zs_iload X dX4_isSo_45 (zs_if_eq X dX4_isSo_47 (by decide) (zs_iconst X (by decide) dX4_isSo_59 (zs_zret X rfl dX4_isSo_60)) (zs_iload_n X rfl dX4_isSo_50 (zs_iload_n X rfl dX4_isSo_51 (zs_icmp_ne X dX4_isSo_52 (by decide) (zs_iconst X (by decide) dX4_isSo_59 (zs_zret X rfl dX4_isSo_60)) (zs_iconst X (by decide) dX4_isSo_55 (zs_goto X dX4_isSo_56 (by decide) (zs_zret X rfl dX4_isSo_60)))))))) (zs_iload_n X rfl dX4_isSo_11 (zs_iload_n X rfl dX4_isSo_12 (zs_bipush X (by decide) dX4_isSo_13 (zs_irem X dX4_isSo_15 (zs_iadd X dX4_isSo_16 (zs_istore_n X rfl (by decide) dX4_isSo_17 (zs_iload X dX4_isSo_18 (zs_if_eq X dX4_isSo_20 (by decide) (zs_iconst X (by decide) dX4_isSo_34 (zs_istore X (by decide) dX4_isSo_35 (zs_iload_n X rfl dX4_isSo_37 (zs_bipush X (by decide) dX4_isSo_38 (zs_idiv X dX4_isSo_40 (zs_istore_n X rfl (by decide) dX4_isSo_41 (zs_goto X dX4_isSo_42 (by decide) (fun _ _ _ h => h)))))))) (zs_iload_n X rfl dX4_isSo_23 (zs_bipush X (by decide) dX4_isSo_24 (zs_irem X dX4_isSo_26 (zs_if_le X dX4_isSo_27 (by decide) (zs_iconst X (by decide) dX4_isSo_34 (zs_istore X (by decide) dX4_isSo_35 (zs_iload_n X rfl dX4_isSo_37 (zs_bipush X (by decide) dX4_isSo_38 (zs_idiv X dX4_isSo_40 (zs_istore_n X rfl (by decide) dX4_isSo_41 (zs_goto X dX4_isSo_42 (by decide) (fun _ _ _ h => h)))))))) (zs_iconst X (by decide) dX4_isSo_30 (zs_goto X dX4_isSo_31 (by decide) (zs_istore X (by decide) dX4_isSo_35 (zs_iload_n X rfl dX4_isSo_37 (zs_bipush X (by decide) dX4_isSo_38 (zs_idiv X dX4_isSo_40 (zs_istore_n X rfl (by decide) dX4_isSo_41 (zs_goto X dX4_isSo_42 (by decide) (fun _ _ _ h => h)))))))))))))))))))))))
set_option maxRecDepth 20000 in
theorem bkX4_comes_0 {w : zW} {Γ : zC} {N S : Nat} {Rt : zR} (X : zm_X w Γ mX4_comes N S Rt) : ∀ lv st h, (zi_ldi 3 (zi_i2l (zi_push (.long 0) (zi_push (.long 1) (zi_cs w mX4_in 3 N S (zi_if (fun x => x = 0) (zi_push (.int (-1003)) (zi_iret Rt)) (zi_ldi 4 (zi_i2l (zi_push (.long 0) (zi_push (.long (6)) (zi_cs w mX4_in 3 N S (zi_if (fun x => x = 0) (zi_push (.int (-1003)) (zi_iret Rt)) (zi_ldi 5 (zi_i2l (zi_push (.long 0) (zi_push (.long (2)) (zi_cs w mX4_in 3 N S (zi_if (fun x => x = 0) (zi_push (.int (-1003)) (zi_iret Rt)) (zi_ldi 2 (zi_i2l (zi_push (.long (-12)) (zi_push (.long (12)) (zi_cs w mX4_in 3 N S (zi_if (fun x => x = 0) (zi_push (.int (-1003)) (zi_iret Rt)) (zi_push (.int 256) (zi_ldi 4 (zi_b (fun x y => x >>> (y &&& 31)) (zi_sti 6 (zi_ldi 5 (zi_if (fun x => x = 0) (zi_ldi 6 (zm_V w Γ 97)) (zi_ldi 5 (zi_push (.int 1) (zi_ic (fun x y => x = y) (zi_ldi 6 (zi_ldi 6 (zi_push (.int 2) (zi_d (fun x y => x / y) (zi_b (fun x y => x + y) (zm_V w Γ 97)))))) (zi_ldi 6 (zi_push (.int 3) (zi_ldi 6 (zi_b (fun x y => x * y) (zi_push (.int 4) (zi_d (fun x y => x / y) (zi_b (fun x y => x + y) (zm_V w Γ 97))))))))))))))))))))))))))))))))))))))))) lv st h → zm_V w Γ 0 lv st h := (zs_iload_n X rfl dX4_comes_0 (zs_i2l X dX4_comes_1 (zs_lconst X (by decide) dX4_comes_2 (zs_lconst X (by decide) dX4_comes_3 (zs_cs X (M' := mX4_in) (n := 3) kd_X4_in ki_X4 (by decide +kernel) (by decide) kw_X4_109 ks_X4_in dX4_comes_4 (zs_if_eq X dX4_comes_7 (by decide) (zs_sipush X (by decide) dX4_comes_50 (zs_iret X rfl dX4_comes_53)) (zs_iload X dX4_comes_10 (zs_i2l X dX4_comes_12 (zs_lconst X (by decide) dX4_comes_13 (zs_ldc2 X kw_X4_117 dX4_comes_14 (zs_cs X (M' := mX4_in) (n := 3) kd_X4_in ki_X4 (by decide +kernel) (by decide) kw_X4_109 ks_X4_in dX4_comes_17 (zs_if_eq X dX4_comes_20 (by decide) (zs_sipush X (by decide) dX4_comes_50 (zs_iret X rfl dX4_comes_53)) (zs_iload X dX4_comes_23 (zs_i2l X dX4_comes_25 (zs_lconst X (by decide) dX4_comes_26 (zs_ldc2 X kw_X4_119 dX4_comes_27 (zs_cs X (M' := mX4_in) (n := 3) kd_X4_in ki_X4 (by decide +kernel) (by decide) kw_X4_109 ks_X4_in dX4_comes_30 (zs_if_eq X dX4_comes_33 (by decide) (zs_sipush X (by decide) dX4_comes_50 (zs_iret X rfl dX4_comes_53)) (zs_iload_n X rfl dX4_comes_36 (zs_i2l X dX4_comes_37 (zs_ldc2 X kw_X4_121 dX4_comes_38 (zs_ldc2 X kw_X4_123 dX4_comes_41 (zs_cs X (M' := mX4_in) (n := 3) kd_X4_in ki_X4 (by decide +kernel) (by decide) kw_X4_109 ks_X4_in dX4_comes_44 (zs_if_ne X dX4_comes_47 (by decide) (zs_sipush X (by decide) dX4_comes_54 (zs_iload X dX4_comes_57 (zs_ishr X dX4_comes_59 (zs_istore X (by decide) dX4_comes_60 (zs_iload X dX4_comes_62 (zs_if_ne X dX4_comes_64 (by decide) (zs_iload X dX4_comes_72 (zs_iconst X (by decide) dX4_comes_74 (zs_icmp_ne X dX4_comes_75 (by decide) (zs_iload X dX4_comes_88 (zs_iconst X (by decide) dX4_comes_90 (zs_iload X dX4_comes_91 (zs_imul X dX4_comes_93 (zs_iconst X (by decide) dX4_comes_94 (zs_idiv X dX4_comes_95 (zs_iadd X dX4_comes_96 (fun _ _ _ h => h)))))))) (zs_iload X dX4_comes_78 (zs_iload X dX4_comes_80 (zs_iconst X (by decide) dX4_comes_82 (zs_idiv X dX4_comes_83 (zs_iadd X dX4_comes_84 (zs_goto X dX4_comes_85 (by decide) (fun _ _ _ h => h)))))))))) (zs_iload X dX4_comes_67 (zs_goto X dX4_comes_69 (by decide) (fun _ _ _ h => h))))))))) (zs_sipush X (by decide) dX4_comes_50 (zs_iret X rfl dX4_comes_53))))))))))))))))))))))))))
set_option maxRecDepth 20000 in
theorem bkX4_comes_97 {w : zW} {Γ : zC} {N S : Nat} {Rt : zR} (X : zm_X w Γ mX4_comes N S Rt) : ∀ lv st h, (zi_sti 7 (zi_lda 0 (zi_gf 4 16 (zi_ldi 3 (zi_ia 0 (zi_lda 0 (zi_gf 4 2 (zi_d (fun x y => x - x / y * y) (zi_ldi 7 (zi_b (fun x y => x + y) (zi_lda 0 (zi_gf 4 2 (zi_ic (fun x y => x ≤ y) (zi_lda 0 (zi_gf 4 5 (zi_push (.int 64) (zi_ic (fun x y => x = y) (zi_push (.int (-1005)) (zi_iret Rt)) (zi_lda 0 (zi_gf 4 5 (zi_sti 8 (zi_lda 0 (zi_gf 4 6 (zi_ldi 8 (zi_ldi 1 (zi_is 0 (zi_lda 0 (zi_gf 4 7 (zi_ldi 8 (zi_ldi 3 (zi_is 0 (zi_lda 0 (zi_gf 4 8 (zi_ldi 8 (zi_ldi 4 (zi_is 0 (zi_lda 0 (zi_gf 4 9 (zi_ldi 8 (zi_lda 0 (zi_gf 4 16 (zi_ldi 3 (zi_ia 0 (zi_is 0 (zi_lda 0 (zi_gf 4 10 (zi_ldi 8 (zi_ldi 7 (zi_is 0 (zi_lda 0 (zi_gf 4 11 (zi_ldi 8 (zi_push (.int 0) (zi_is 0 (zi_lda 0 (zi_gf 4 12 (zi_ldi 8 (zi_push (.int 0) (zi_is 0 (zi_lda 0 (zi_gf 4 13 (zi_ldi 8 (zi_push (.int 0) (zi_is 0 (zi_lda 0 (zi_gf 4 15 (zi_ldi 8 (zi_push (.int 1) (zi_ldi 1 (zi_b (fun x y => x - y) (zi_is 0 (zi_lda 0 (zi_gf 4 14 (zi_push (.int 4) (zi_ldi 8 (zi_b (fun x y => x * y) (zi_ldi 2 (zi_is 0 (zi_lda 0 (zi_gf 4 16 (zi_ldi 3 (zi_dup2 (zi_ia 0 (zi_ldi 7 (zi_b (fun x y => x + y) (zi_is 0 (zi_lda 0 (zi_dup (zi_gf 4 5 (zi_push (.int 1) (zi_b (fun x y => x + y) (zi_pf 4 5 .int (zi_lda 0 (zi_push (.int 0) (zi_pf 4 18 .int (zi_ldi 8 (zi_iret Rt))))))))))))))))))))))))))))))))))))))))))))))))))))))))))))))))))))))))))))))))))) (zi_push (.int (-1004)) (zi_iret Rt))))))))))))))) lv st h → zm_V w Γ 97 lv st h := (zs_istore X (by decide) dX4_comes_97 (zs_aload_n X rfl dX4_comes_99 (zs_gf X (ci := 4) rfl (by decide) zm_in4 kw_X4_43 dX4_comes_100 (zs_iload_n X rfl dX4_comes_103 (zs_iald X (fun _ => rfl) dX4_comes_104 (zs_aload_n X rfl dX4_comes_105 (zs_gf X (ci := 4) rfl (by decide) zm_in4 kw_X4_101 dX4_comes_106 (zs_irem X dX4_comes_109 (zs_iload X dX4_comes_110 (zs_iadd X dX4_comes_112 (zs_aload_n X rfl dX4_comes_113 (zs_gf X (ci := 4) rfl (by decide) zm_in4 kw_X4_101 dX4_comes_114 (zs_icmp_le X dX4_comes_117 (by decide) (zs_aload_n X rfl dX4_comes_124 (zs_gf X (ci := 4) rfl (by decide) zm_in4 kw_X4_81 dX4_comes_125 (zs_bipush X (by decide) dX4_comes_128 (zs_icmp_ne X dX4_comes_130 (by decide) (zs_aload_n X rfl dX4_comes_137 (zs_gf X (ci := 4) rfl (by decide) zm_in4 kw_X4_81 dX4_comes_138 (zs_istore X (by decide) dX4_comes_141 (zs_aload_n X rfl dX4_comes_143 (zs_gf X (ci := 4) rfl (by decide) zm_in4 kw_X4_13 dX4_comes_144 (zs_iload X dX4_comes_147 (zs_iload_n X rfl dX4_comes_149 (zs_iast X (fun _ => rfl) dX4_comes_150 (zs_aload_n X rfl dX4_comes_151 (zs_gf X (ci := 4) rfl (by decide) zm_in4 kw_X4_16 dX4_comes_152 (zs_iload X dX4_comes_155 (zs_iload_n X rfl dX4_comes_157 (zs_iast X (fun _ => rfl) dX4_comes_158 (zs_aload_n X rfl dX4_comes_159 (zs_gf X (ci := 4) rfl (by decide) zm_in4 kw_X4_19 dX4_comes_160 (zs_iload X dX4_comes_163 (zs_iload X dX4_comes_165 (zs_iast X (fun _ => rfl) dX4_comes_167 (zs_aload_n X rfl dX4_comes_168 (zs_gf X (ci := 4) rfl (by decide) zm_in4 kw_X4_22 dX4_comes_169 (zs_iload X dX4_comes_172 (zs_aload_n X rfl dX4_comes_174 (zs_gf X (ci := 4) rfl (by decide) zm_in4 kw_X4_43 dX4_comes_175 (zs_iload_n X rfl dX4_comes_178 (zs_iald X (fun _ => rfl) dX4_comes_179 (zs_iast X (fun _ => rfl) dX4_comes_180 (zs_aload_n X rfl dX4_comes_181 (zs_gf X (ci := 4) rfl (by decide) zm_in4 kw_X4_25 dX4_comes_182 (zs_iload X dX4_comes_185 (zs_iload X dX4_comes_187 (zs_iast X (fun _ => rfl) dX4_comes_189 (zs_aload_n X rfl dX4_comes_190 (zs_gf X (ci := 4) rfl (by decide) zm_in4 kw_X4_28 dX4_comes_191 (zs_iload X dX4_comes_194 (zs_iconst X (by decide) dX4_comes_196 (zs_iast X (fun _ => rfl) dX4_comes_197 (zs_aload_n X rfl dX4_comes_198 (zs_gf X (ci := 4) rfl (by decide) zm_in4 kw_X4_31 dX4_comes_199 (zs_iload X dX4_comes_202 (zs_iconst X (by decide) dX4_comes_204 (zs_iast X (fun _ => rfl) dX4_comes_205 (zs_aload_n X rfl dX4_comes_206 (zs_gf X (ci := 4) rfl (by decide) zm_in4 kw_X4_34 dX4_comes_207 (zs_iload X dX4_comes_210 (zs_iconst X (by decide) dX4_comes_212 (zs_iast X (fun _ => rfl) dX4_comes_213 (zs_aload_n X rfl dX4_comes_214 (zs_gf X (ci := 4) rfl (by decide) zm_in4 kw_X4_40 dX4_comes_215 (zs_iload X dX4_comes_218 (zs_iconst X (by decide) dX4_comes_220 (zs_iload_n X rfl dX4_comes_221 (zs_isub X dX4_comes_222 (zs_iast X (fun _ => rfl) dX4_comes_223 (zs_aload_n X rfl dX4_comes_224 (zs_gf X (ci := 4) rfl (by decide) zm_in4 kw_X4_37 dX4_comes_225 (zs_iconst X (by decide) dX4_comes_228 (zs_iload X dX4_comes_229 (zs_imul X dX4_comes_231 (zs_iload_n X rfl dX4_comes_232 (zs_iast X (fun _ => rfl) dX4_comes_233 (zs_aload_n X rfl dX4_comes_234 (zs_gf X (ci := 4) rfl (by decide) zm_in4 kw_X4_43 dX4_comes_235 (zs_iload_n X rfl dX4_comes_238 (zs_dup2 X dX4_comes_239 (zs_iald X (fun _ => rfl) dX4_comes_240 (zs_iload X dX4_comes_241 (zs_iadd X dX4_comes_243 (zs_iast X (fun _ => rfl) dX4_comes_244 (zs_aload_n X rfl dX4_comes_245 (zs_dup X dX4_comes_246 (zs_gf X (ci := 4) rfl (by decide) zm_in4 kw_X4_81 dX4_comes_247 (zs_iconst X (by decide) dX4_comes_250 (zs_iadd X dX4_comes_251 (zs_pf X (ci := 4) rfl (by decide) zm_in4 kw_X4_81 tyX4 tyX4_ok nmX4 rfl rfl dX4_comes_252 (zs_aload_n X rfl dX4_comes_255 (zs_iconst X (by decide) dX4_comes_256 (zs_pf X (ci := 4) rfl (by decide) zm_in4 kw_X4_88 tyX4 tyX4_ok nmX4 rfl rfl dX4_comes_257 (zs_iload X dX4_comes_260 (zs_iret X rfl dX4_comes_262))))))))))))))))))))))))))))))))))))))))))))))))))))))))))))))))))))))))))))))) (zs_sipush X (by decide) dX4_comes_133 (zs_iret X rfl dX4_comes_136)))))) (zs_sipush X (by decide) dX4_comes_120 (zs_iret X rfl dX4_comes_123)))))))))))))))
set_option maxRecDepth 20000 in
theorem bkX4_note_0 {w : zW} {Γ : zC} {N S : Nat} {Rt : zR} (X : zm_X w Γ mX4_note N S Rt) : ∀ lv st h, (zi_lda 0 (zi_push (.int 0) (zi_pf 4 0 .int (zi_lda 0 (zi_push (.int 0) (zi_ldi 1 (zi_ldi 2 (zi_ldi 3 (zi_ldi 4 (zi_cv w mX4_comes 4 6 N S (zi_iret Rt))))))))))) lv st h → zm_V w Γ 0 lv st h := (zs_aload_n X rfl dX4_note_0 (zs_iconst X (by decide) dX4_note_1 (zs_pf X (ci := 4) rfl (by decide) zm_in4 kw_X4_77 tyX4 tyX4_ok nmX4 rfl rfl dX4_note_2 (zs_aload_n X rfl dX4_note_5 (zs_iconst X (by decide) dX4_note_6 (zs_iload_n X rfl dX4_note_7 (zs_iload_n X rfl dX4_note_8 (zs_iload_n X rfl dX4_note_9 (zs_iload X dX4_note_10 (zs_cv X (M' := mX4_comes) (n := 5) kd_X4_comes ki_X4 (by decide +kernel) (by decide) kw_X4_125 rfl ks_X4_comes kl_X4_comes dX4_note_12 (zs_iret X rfl dX4_note_15)))))))))))
set_option maxRecDepth 20000 in
theorem bkX4_pause_0 {w : zW} {Γ : zC} {N S : Nat} {Rt : zR} (X : zm_X w Γ mX4_pause N S Rt) : ∀ lv st h, (zi_lda 0 (zi_push (.int 0) (zi_pf 4 0 .int (zi_lda 0 (zi_push (.int 1) (zi_push (.int 0) (zi_ldi 1 (zi_ldi 2 (zi_ldi 3 (zi_cv w mX4_comes 4 6 N S (zi_iret Rt))))))))))) lv st h → zm_V w Γ 0 lv st h := (zs_aload_n X rfl dX4_pause_0 (zs_iconst X (by decide) dX4_pause_1 (zs_pf X (ci := 4) rfl (by decide) zm_in4 kw_X4_77 tyX4 tyX4_ok nmX4 rfl rfl dX4_pause_2 (zs_aload_n X rfl dX4_pause_5 (zs_iconst X (by decide) dX4_pause_6 (zs_iconst X (by decide) dX4_pause_7 (zs_iload_n X rfl dX4_pause_8 (zs_iload_n X rfl dX4_pause_9 (zs_iload_n X rfl dX4_pause_10 (zs_cv X (M' := mX4_comes) (n := 5) kd_X4_comes ki_X4 (by decide +kernel) (by decide) kw_X4_125 rfl ks_X4_comes kl_X4_comes dX4_pause_11 (zs_iret X rfl dX4_pause_14)))))))))))
set_option maxRecDepth 20000 in
theorem bkX4_isEvent_0 {w : zW} {Γ : zC} {N S : Nat} {Rt : zR} (X : zm_X w Γ mX4_isEvent N S Rt) : ∀ lv st h, (zi_ldi 1 (zi_i2l (zi_push (.long 0) (zi_lda 0 (zi_gf 4 5 (zi_push (.int 1) (zi_b (fun x y => x - y) (zi_i2l (zi_cs w mX4_in 3 N S (zi_zret Rt)))))))))) lv st h → zm_V w Γ 0 lv st h := (zs_iload_n X rfl dX4_isEvent_0 (zs_i2l X dX4_isEvent_1 (zs_lconst X (by decide) dX4_isEvent_2 (zs_aload_n X rfl dX4_isEvent_3 (zs_gf X (ci := 4) rfl (by decide) zm_in4 kw_X4_81 dX4_isEvent_4 (zs_iconst X (by decide) dX4_isEvent_7 (zs_isub X dX4_isEvent_8 (zs_i2l X dX4_isEvent_9 (zs_cs X (M' := mX4_in) (n := 3) kd_X4_in ki_X4 (by decide +kernel) (by decide) kw_X4_109 ks_X4_in dX4_isEvent_10 (zs_zret X rfl dX4_isEvent_13))))))))))
