theorem dX4_also_0 : decode cX4_also 0 = .ok (.aload_n 0, 1) := by decide +kernel
theorem dX4_also_1 : decode cX4_also 1 = .ok (.iconst 0, 1) := by decide +kernel
theorem dX4_also_2 : decode cX4_also 2 = .ok (.putfield 77, 3) := by decide +kernel
theorem dX4_also_5 : decode cX4_also 5 = .ok (.aload_n 0, 1) := by decide +kernel
theorem dX4_also_6 : decode cX4_also 6 = .ok (.iload_n 1, 1) := by decide +kernel
theorem dX4_also_7 : decode cX4_also 7 = .ok (.invokevirtual 129, 3) := by decide +kernel
theorem dX4_also_10 : decode cX4_also 10 = .ok (.ifCond .ne 7, 3) := by decide +kernel
theorem dX4_also_13 : decode cX4_also 13 = .ok (.sipush (-1002), 3) := by decide +kernel
theorem dX4_also_16 : decode cX4_also 16 = .ok (.ireturn, 1) := by decide +kernel
theorem dX4_also_17 : decode cX4_also 17 = .ok (.iload_n 2, 1) := by decide +kernel
theorem dX4_also_18 : decode cX4_also 18 = .ok (.i2l, 1) := by decide +kernel
theorem dX4_also_19 : decode cX4_also 19 = .ok (.ldc2_w 121, 3) := by decide +kernel
theorem dX4_also_22 : decode cX4_also 22 = .ok (.ldc2_w 123, 3) := by decide +kernel
theorem dX4_also_25 : decode cX4_also 25 = .ok (.invokestatic 109, 3) := by decide +kernel
theorem dX4_also_28 : decode cX4_also 28 = .ok (.ifCond .ne 7, 3) := by decide +kernel
theorem dX4_also_31 : decode cX4_also 31 = .ok (.sipush (-1003), 3) := by decide +kernel
theorem dX4_also_34 : decode cX4_also 34 = .ok (.ireturn, 1) := by decide +kernel
theorem dX4_also_35 : decode cX4_also 35 = .ok (.aload_n 0, 1) := by decide +kernel
theorem dX4_also_36 : decode cX4_also 36 = .ok (.getfield 13, 3) := by decide +kernel
theorem dX4_also_39 : decode cX4_also 39 = .ok (.iload_n 1, 1) := by decide +kernel
theorem dX4_also_40 : decode cX4_also 40 = .ok (.iaload, 1) := by decide +kernel
theorem dX4_also_41 : decode cX4_also 41 = .ok (.iconst 1, 1) := by decide +kernel
theorem dX4_also_42 : decode cX4_also 42 = .ok (.if_icmp .ne 7, 3) := by decide +kernel
theorem dX4_also_45 : decode cX4_also 45 = .ok (.iconst 1, 1) := by decide +kernel
theorem dX4_also_46 : decode cX4_also 46 = .ok (.goto 4, 3) := by decide +kernel
theorem dX4_also_49 : decode cX4_also 49 = .ok (.iconst 0, 1) := by decide +kernel
theorem dX4_also_50 : decode cX4_also 50 = .ok (.istore_n 3, 1) := by decide +kernel
theorem dX4_also_51 : decode cX4_also 51 = .ok (.iconst 0, 1) := by decide +kernel
theorem dX4_also_52 : decode cX4_also 52 = .ok (.istore 4, 2) := by decide +kernel
theorem dX4_also_54 : decode cX4_also 54 = .ok (.iload 4, 2) := by decide +kernel
theorem dX4_also_56 : decode cX4_also 56 = .ok (.aload_n 0, 1) := by decide +kernel
theorem dX4_also_57 : decode cX4_also 57 = .ok (.getfield 40, 3) := by decide +kernel
theorem dX4_also_60 : decode cX4_also 60 = .ok (.iload_n 1, 1) := by decide +kernel
theorem dX4_also_61 : decode cX4_also 61 = .ok (.iaload, 1) := by decide +kernel
theorem dX4_also_62 : decode cX4_also 62 = .ok (.if_icmp .ge 34, 3) := by decide +kernel
theorem dX4_also_65 : decode cX4_also 65 = .ok (.iload_n 3, 1) := by decide +kernel
theorem dX4_also_66 : decode cX4_also 66 = .ok (.ifCond .ne 18, 3) := by decide +kernel
theorem dX4_also_69 : decode cX4_also 69 = .ok (.aload_n 0, 1) := by decide +kernel
theorem dX4_also_70 : decode cX4_also 70 = .ok (.getfield 37, 3) := by decide +kernel
theorem dX4_also_73 : decode cX4_also 73 = .ok (.iconst 4, 1) := by decide +kernel
theorem dX4_also_74 : decode cX4_also 74 = .ok (.iload_n 1, 1) := by decide +kernel
theorem dX4_also_75 : decode cX4_also 75 = .ok (.imul, 1) := by decide +kernel
theorem dX4_also_76 : decode cX4_also 76 = .ok (.iload 4, 2) := by decide +kernel
theorem dX4_also_78 : decode cX4_also 78 = .ok (.iadd, 1) := by decide +kernel
theorem dX4_also_79 : decode cX4_also 79 = .ok (.iaload, 1) := by decide +kernel
theorem dX4_also_80 : decode cX4_also 80 = .ok (.iload_n 2, 1) := by decide +kernel
theorem dX4_also_81 : decode cX4_also 81 = .ok (.if_icmp .ne 7, 3) := by decide +kernel
theorem dX4_also_84 : decode cX4_also 84 = .ok (.iconst 1, 1) := by decide +kernel
theorem dX4_also_85 : decode cX4_also 85 = .ok (.goto 4, 3) := by decide +kernel
theorem dX4_also_88 : decode cX4_also 88 = .ok (.iconst 0, 1) := by decide +kernel
theorem dX4_also_89 : decode cX4_also 89 = .ok (.istore_n 3, 1) := by decide +kernel
theorem dX4_also_90 : decode cX4_also 90 = .ok (.iinc 4 1, 3) := by decide +kernel
theorem dX4_also_93 : decode cX4_also 93 = .ok (.goto (-39), 3) := by decide +kernel
theorem dX4_also_96 : decode cX4_also 96 = .ok (.iload_n 3, 1) := by decide +kernel
theorem dX4_also_97 : decode cX4_also 97 = .ok (.ifCond .eq 7, 3) := by decide +kernel
theorem dX4_also_100 : decode cX4_also 100 = .ok (.sipush (-1004), 3) := by decide +kernel
theorem dX4_also_103 : decode cX4_also 103 = .ok (.ireturn, 1) := by decide +kernel
theorem dX4_also_104 : decode cX4_also 104 = .ok (.aload_n 0, 1) := by decide +kernel
theorem dX4_also_105 : decode cX4_also 105 = .ok (.getfield 40, 3) := by decide +kernel
theorem dX4_also_108 : decode cX4_also 108 = .ok (.iload_n 1, 1) := by decide +kernel
theorem dX4_also_109 : decode cX4_also 109 = .ok (.iaload, 1) := by decide +kernel
theorem dX4_also_110 : decode cX4_also 110 = .ok (.iconst 4, 1) := by decide +kernel
theorem dX4_also_111 : decode cX4_also 111 = .ok (.if_icmp .ne 7, 3) := by decide +kernel
theorem dX4_also_114 : decode cX4_also 114 = .ok (.sipush (-1005), 3) := by decide +kernel
theorem dX4_also_117 : decode cX4_also 117 = .ok (.ireturn, 1) := by decide +kernel
theorem dX4_also_118 : decode cX4_also 118 = .ok (.aload_n 0, 1) := by decide +kernel
theorem dX4_also_119 : decode cX4_also 119 = .ok (.getfield 37, 3) := by decide +kernel
theorem dX4_also_122 : decode cX4_also 122 = .ok (.iconst 4, 1) := by decide +kernel
theorem dX4_also_123 : decode cX4_also 123 = .ok (.iload_n 1, 1) := by decide +kernel
theorem dX4_also_124 : decode cX4_also 124 = .ok (.imul, 1) := by decide +kernel
theorem dX4_also_125 : decode cX4_also 125 = .ok (.aload_n 0, 1) := by decide +kernel
theorem dX4_also_126 : decode cX4_also 126 = .ok (.getfield 40, 3) := by decide +kernel
theorem dX4_also_129 : decode cX4_also 129 = .ok (.iload_n 1, 1) := by decide +kernel
theorem dX4_also_130 : decode cX4_also 130 = .ok (.iaload, 1) := by decide +kernel
theorem dX4_also_131 : decode cX4_also 131 = .ok (.iadd, 1) := by decide +kernel
theorem dX4_also_132 : decode cX4_also 132 = .ok (.iload_n 2, 1) := by decide +kernel
theorem dX4_also_133 : decode cX4_also 133 = .ok (.iastore, 1) := by decide +kernel
theorem dX4_also_134 : decode cX4_also 134 = .ok (.aload_n 0, 1) := by decide +kernel
theorem dX4_also_135 : decode cX4_also 135 = .ok (.getfield 40, 3) := by decide +kernel
theorem dX4_also_138 : decode cX4_also 138 = .ok (.iload_n 1, 1) := by decide +kernel
theorem dX4_also_139 : decode cX4_also 139 = .ok (.dup2, 1) := by decide +kernel
theorem dX4_also_140 : decode cX4_also 140 = .ok (.iaload, 1) := by decide +kernel
theorem dX4_also_141 : decode cX4_also 141 = .ok (.iconst 1, 1) := by decide +kernel
theorem dX4_also_142 : decode cX4_also 142 = .ok (.iadd, 1) := by decide +kernel
theorem dX4_also_143 : decode cX4_also 143 = .ok (.iastore, 1) := by decide +kernel
theorem dX4_also_144 : decode cX4_also 144 = .ok (.aload_n 0, 1) := by decide +kernel
theorem dX4_also_145 : decode cX4_also 145 = .ok (.iconst 0, 1) := by decide +kernel
theorem dX4_also_146 : decode cX4_also 146 = .ok (.putfield 88, 3) := by decide +kernel
theorem dX4_also_149 : decode cX4_also 149 = .ok (.aload_n 0, 1) := by decide +kernel
theorem dX4_also_150 : decode cX4_also 150 = .ok (.getfield 40, 3) := by decide +kernel
theorem dX4_also_153 : decode cX4_also 153 = .ok (.iload_n 1, 1) := by decide +kernel
theorem dX4_also_154 : decode cX4_also 154 = .ok (.iaload, 1) := by decide +kernel
theorem dX4_also_155 : decode cX4_also 155 = .ok (.ireturn, 1) := by decide +kernel
theorem dX4_staff_0 : decode cX4_staff 0 = .ok (.aload_n 0, 1) := by decide +kernel
theorem dX4_staff_1 : decode cX4_staff 1 = .ok (.iconst 0, 1) := by decide +kernel
theorem dX4_staff_2 : decode cX4_staff 2 = .ok (.putfield 77, 3) := by decide +kernel
theorem dX4_staff_5 : decode cX4_staff 5 = .ok (.aload_n 0, 1) := by decide +kernel
theorem dX4_staff_6 : decode cX4_staff 6 = .ok (.iload_n 1, 1) := by decide +kernel
theorem dX4_staff_7 : decode cX4_staff 7 = .ok (.invokevirtual 129, 3) := by decide +kernel
theorem dX4_staff_10 : decode cX4_staff 10 = .ok (.ifCond .ne 7, 3) := by decide +kernel
theorem dX4_staff_13 : decode cX4_staff 13 = .ok (.sipush (-1002), 3) := by decide +kernel
theorem dX4_staff_16 : decode cX4_staff 16 = .ok (.ireturn, 1) := by decide +kernel
theorem dX4_staff_17 : decode cX4_staff 17 = .ok (.iload_n 2, 1) := by decide +kernel
theorem dX4_staff_18 : decode cX4_staff 18 = .ok (.i2l, 1) := by decide +kernel
theorem dX4_staff_19 : decode cX4_staff 19 = .ok (.lconst 0, 1) := by decide +kernel
theorem dX4_staff_20 : decode cX4_staff 20 = .ok (.lconst 1, 1) := by decide +kernel
theorem dX4_staff_21 : decode cX4_staff 21 = .ok (.invokestatic 109, 3) := by decide +kernel
theorem dX4_staff_24 : decode cX4_staff 24 = .ok (.ifCond .ne 7, 3) := by decide +kernel
theorem dX4_staff_27 : decode cX4_staff 27 = .ok (.sipush (-1003), 3) := by decide +kernel
theorem dX4_staff_30 : decode cX4_staff 30 = .ok (.ireturn, 1) := by decide +kernel
theorem dX4_staff_31 : decode cX4_staff 31 = .ok (.aload_n 0, 1) := by decide +kernel
theorem dX4_staff_32 : decode cX4_staff 32 = .ok (.getfield 13, 3) := by decide +kernel
theorem dX4_staff_35 : decode cX4_staff 35 = .ok (.iload_n 1, 1) := by decide +kernel
theorem dX4_staff_36 : decode cX4_staff 36 = .ok (.iaload, 1) := by decide +kernel
theorem dX4_staff_37 : decode cX4_staff 37 = .ok (.iconst 1, 1) := by decide +kernel
theorem dX4_staff_38 : decode cX4_staff 38 = .ok (.if_icmp .ne 7, 3) := by decide +kernel
theorem dX4_staff_41 : decode cX4_staff 41 = .ok (.sipush (-1004), 3) := by decide +kernel
theorem dX4_staff_44 : decode cX4_staff 44 = .ok (.ireturn, 1) := by decide +kernel
theorem dX4_staff_45 : decode cX4_staff 45 = .ok (.aload_n 0, 1) := by decide +kernel
theorem dX4_staff_46 : decode cX4_staff 46 = .ok (.getfield 28, 3) := by decide +kernel
theorem dX4_staff_49 : decode cX4_staff 49 = .ok (.iload_n 1, 1) := by decide +kernel
theorem dX4_staff_50 : decode cX4_staff 50 = .ok (.iaload, 1) := by decide +kernel
theorem dX4_staff_51 : decode cX4_staff 51 = .ok (.istore_n 3, 1) := by decide +kernel
theorem dX4_staff_52 : decode cX4_staff 52 = .ok (.aload_n 0, 1) := by decide +kernel
theorem dX4_staff_53 : decode cX4_staff 53 = .ok (.getfield 28, 3) := by decide +kernel
theorem dX4_staff_56 : decode cX4_staff 56 = .ok (.iload_n 1, 1) := by decide +kernel
theorem dX4_staff_57 : decode cX4_staff 57 = .ok (.iload_n 2, 1) := by decide +kernel
theorem dX4_staff_58 : decode cX4_staff 58 = .ok (.iastore, 1) := by decide +kernel
theorem dX4_staff_59 : decode cX4_staff 59 = .ok (.aload_n 0, 1) := by decide +kernel
theorem dX4_staff_60 : decode cX4_staff 60 = .ok (.iconst 0, 1) := by decide +kernel
theorem dX4_staff_61 : decode cX4_staff 61 = .ok (.putfield 88, 3) := by decide +kernel
theorem dX4_staff_64 : decode cX4_staff 64 = .ok (.iload_n 3, 1) := by decide +kernel
theorem dX4_staff_65 : decode cX4_staff 65 = .ok (.ireturn, 1) := by decide +kernel
theorem dX4_mark_0 : decode cX4_mark 0 = .ok (.aload_n 0, 1) := by decide +kernel
theorem dX4_mark_1 : decode cX4_mark 1 = .ok (.iconst 0, 1) := by decide +kernel
theorem dX4_mark_2 : decode cX4_mark 2 = .ok (.putfield 77, 3) := by decide +kernel
theorem dX4_mark_5 : decode cX4_mark 5 = .ok (.aload_n 0, 1) := by decide +kernel
theorem dX4_mark_6 : decode cX4_mark 6 = .ok (.iload_n 1, 1) := by decide +kernel
theorem dX4_mark_7 : decode cX4_mark 7 = .ok (.invokevirtual 129, 3) := by decide +kernel
theorem dX4_mark_10 : decode cX4_mark 10 = .ok (.ifCond .ne 7, 3) := by decide +kernel
theorem dX4_mark_13 : decode cX4_mark 13 = .ok (.sipush (-1002), 3) := by decide +kernel
theorem dX4_mark_16 : decode cX4_mark 16 = .ok (.ireturn, 1) := by decide +kernel
theorem dX4_mark_17 : decode cX4_mark 17 = .ok (.iload_n 2, 1) := by decide +kernel
theorem dX4_mark_18 : decode cX4_mark 18 = .ok (.i2l, 1) := by decide +kernel
theorem dX4_mark_19 : decode cX4_mark 19 = .ok (.lconst 0, 1) := by decide +kernel
theorem dX4_mark_20 : decode cX4_mark 20 = .ok (.ldc2_w 119, 3) := by decide +kernel
theorem dX4_mark_23 : decode cX4_mark 23 = .ok (.invokestatic 109, 3) := by decide +kernel
theorem dX4_mark_26 : decode cX4_mark 26 = .ok (.ifCond .ne 7, 3) := by decide +kernel
theorem dX4_mark_29 : decode cX4_mark 29 = .ok (.sipush (-1003), 3) := by decide +kernel
theorem dX4_mark_32 : decode cX4_mark 32 = .ok (.ireturn, 1) := by decide +kernel
theorem dX4_mark_33 : decode cX4_mark 33 = .ok (.aload_n 0, 1) := by decide +kernel
theorem dX4_mark_34 : decode cX4_mark 34 = .ok (.getfield 13, 3) := by decide +kernel
theorem dX4_mark_37 : decode cX4_mark 37 = .ok (.iload_n 1, 1) := by decide +kernel
theorem dX4_mark_38 : decode cX4_mark 38 = .ok (.iaload, 1) := by decide +kernel
theorem dX4_mark_39 : decode cX4_mark 39 = .ok (.iconst 1, 1) := by decide +kernel
theorem dX4_mark_40 : decode cX4_mark 40 = .ok (.if_icmp .ne 7, 3) := by decide +kernel
theorem dX4_mark_43 : decode cX4_mark 43 = .ok (.sipush (-1004), 3) := by decide +kernel
theorem dX4_mark_46 : decode cX4_mark 46 = .ok (.ireturn, 1) := by decide +kernel
theorem dX4_mark_47 : decode cX4_mark 47 = .ok (.aload_n 0, 1) := by decide +kernel
theorem dX4_mark_48 : decode cX4_mark 48 = .ok (.getfield 31, 3) := by decide +kernel
theorem dX4_mark_51 : decode cX4_mark 51 = .ok (.iload_n 1, 1) := by decide +kernel
theorem dX4_mark_52 : decode cX4_mark 52 = .ok (.iaload, 1) := by decide +kernel
theorem dX4_mark_53 : decode cX4_mark 53 = .ok (.istore_n 3, 1) := by decide +kernel
theorem dX4_mark_54 : decode cX4_mark 54 = .ok (.aload_n 0, 1) := by decide +kernel
theorem dX4_mark_55 : decode cX4_mark 55 = .ok (.getfield 31, 3) := by decide +kernel
theorem dX4_mark_58 : decode cX4_mark 58 = .ok (.iload_n 1, 1) := by decide +kernel
theorem dX4_mark_59 : decode cX4_mark 59 = .ok (.iload_n 2, 1) := by decide +kernel
theorem dX4_mark_60 : decode cX4_mark 60 = .ok (.iastore, 1) := by decide +kernel
theorem dX4_mark_61 : decode cX4_mark 61 = .ok (.aload_n 0, 1) := by decide +kernel
theorem dX4_mark_62 : decode cX4_mark 62 = .ok (.iconst 0, 1) := by decide +kernel
theorem dX4_mark_63 : decode cX4_mark 63 = .ok (.putfield 88, 3) := by decide +kernel
theorem dX4_mark_66 : decode cX4_mark 66 = .ok (.iload_n 3, 1) := by decide +kernel
theorem dX4_mark_67 : decode cX4_mark 67 = .ok (.ireturn, 1) := by decide +kernel
theorem dX4_broken_0 : decode cX4_broken 0 = .ok (.aload_n 0, 1) := by decide +kernel
theorem dX4_broken_1 : decode cX4_broken 1 = .ok (.iconst 0, 1) := by decide +kernel
theorem dX4_broken_2 : decode cX4_broken 2 = .ok (.putfield 77, 3) := by decide +kernel
theorem dX4_broken_5 : decode cX4_broken 5 = .ok (.aload_n 0, 1) := by decide +kernel
theorem dX4_broken_6 : decode cX4_broken 6 = .ok (.iload_n 1, 1) := by decide +kernel
theorem dX4_broken_7 : decode cX4_broken 7 = .ok (.invokevirtual 129, 3) := by decide +kernel
theorem dX4_broken_10 : decode cX4_broken 10 = .ok (.ifCond .ne 7, 3) := by decide +kernel
theorem dX4_broken_13 : decode cX4_broken 13 = .ok (.sipush (-1002), 3) := by decide +kernel
theorem dX4_broken_16 : decode cX4_broken 16 = .ok (.ireturn, 1) := by decide +kernel
theorem dX4_broken_17 : decode cX4_broken 17 = .ok (.iload_n 2, 1) := by decide +kernel
theorem dX4_broken_18 : decode cX4_broken 18 = .ok (.i2l, 1) := by decide +kernel
theorem dX4_broken_19 : decode cX4_broken 19 = .ok (.ldc2_w 119, 3) := by decide +kernel
theorem dX4_broken_22 : decode cX4_broken 22 = .ok (.ldc2_w 133, 3) := by decide +kernel
theorem dX4_broken_25 : decode cX4_broken 25 = .ok (.invokestatic 109, 3) := by decide +kernel
theorem dX4_broken_28 : decode cX4_broken 28 = .ok (.ifCond .ne 7, 3) := by decide +kernel
theorem dX4_broken_31 : decode cX4_broken 31 = .ok (.sipush (-1003), 3) := by decide +kernel
theorem dX4_broken_34 : decode cX4_broken 34 = .ok (.ireturn, 1) := by decide +kernel
theorem dX4_broken_35 : decode cX4_broken 35 = .ok (.aload_n 0, 1) := by decide +kernel
theorem dX4_broken_36 : decode cX4_broken 36 = .ok (.getfield 13, 3) := by decide +kernel
theorem dX4_broken_39 : decode cX4_broken 39 = .ok (.iload_n 1, 1) := by decide +kernel
theorem dX4_broken_40 : decode cX4_broken 40 = .ok (.iaload, 1) := by decide +kernel
theorem dX4_broken_41 : decode cX4_broken 41 = .ok (.iconst 1, 1) := by decide +kernel
theorem dX4_broken_42 : decode cX4_broken 42 = .ok (.if_icmp .ne 7, 3) := by decide +kernel
theorem dX4_broken_45 : decode cX4_broken 45 = .ok (.sipush (-1004), 3) := by decide +kernel
theorem dX4_broken_48 : decode cX4_broken 48 = .ok (.ireturn, 1) := by decide +kernel
theorem dX4_broken_49 : decode cX4_broken 49 = .ok (.aload_n 0, 1) := by decide +kernel
theorem dX4_broken_50 : decode cX4_broken 50 = .ok (.getfield 34, 3) := by decide +kernel
theorem dX4_broken_53 : decode cX4_broken 53 = .ok (.iload_n 1, 1) := by decide +kernel
theorem dX4_broken_54 : decode cX4_broken 54 = .ok (.iaload, 1) := by decide +kernel
theorem dX4_broken_55 : decode cX4_broken 55 = .ok (.iload_n 2, 1) := by decide +kernel
theorem dX4_broken_56 : decode cX4_broken 56 = .ok (.ishr, 1) := by decide +kernel
theorem dX4_broken_57 : decode cX4_broken 57 = .ok (.iconst 1, 1) := by decide +kernel
theorem dX4_broken_58 : decode cX4_broken 58 = .ok (.iand, 1) := by decide +kernel
theorem dX4_broken_59 : decode cX4_broken 59 = .ok (.istore 4, 2) := by decide +kernel
theorem dX4_broken_61 : decode cX4_broken 61 = .ok (.aload_n 0, 1) := by decide +kernel
theorem dX4_broken_62 : decode cX4_broken 62 = .ok (.getfield 34, 3) := by decide +kernel
theorem dX4_broken_65 : decode cX4_broken 65 = .ok (.iload_n 1, 1) := by decide +kernel
theorem dX4_broken_66 : decode cX4_broken 66 = .ok (.iload_n 3, 1) := by decide +kernel
theorem dX4_broken_67 : decode cX4_broken 67 = .ok (.ifCond .eq 16, 3) := by decide +kernel
theorem dX4_broken_70 : decode cX4_broken 70 = .ok (.aload_n 0, 1) := by decide +kernel
theorem dX4_broken_71 : decode cX4_broken 71 = .ok (.getfield 34, 3) := by decide +kernel
theorem dX4_broken_74 : decode cX4_broken 74 = .ok (.iload_n 1, 1) := by decide +kernel
theorem dX4_broken_75 : decode cX4_broken 75 = .ok (.iaload, 1) := by decide +kernel
theorem dX4_broken_76 : decode cX4_broken 76 = .ok (.iconst 1, 1) := by decide +kernel
theorem dX4_broken_77 : decode cX4_broken 77 = .ok (.iload_n 2, 1) := by decide +kernel
theorem dX4_broken_78 : decode cX4_broken 78 = .ok (.ishl, 1) := by decide +kernel
theorem dX4_broken_79 : decode cX4_broken 79 = .ok (.ior, 1) := by decide +kernel
theorem dX4_broken_80 : decode cX4_broken 80 = .ok (.goto 15, 3) := by decide +kernel
theorem dX4_broken_83 : decode cX4_broken 83 = .ok (.aload_n 0, 1) := by decide +kernel
theorem dX4_broken_84 : decode cX4_broken 84 = .ok (.getfield 34, 3) := by decide +kernel
theorem dX4_broken_87 : decode cX4_broken 87 = .ok (.iload_n 1, 1) := by decide +kernel
theorem dX4_broken_88 : decode cX4_broken 88 = .ok (.iaload, 1) := by decide +kernel
theorem dX4_broken_89 : decode cX4_broken 89 = .ok (.iconst 1, 1) := by decide +kernel
theorem dX4_broken_90 : decode cX4_broken 90 = .ok (.iload_n 2, 1) := by decide +kernel
theorem dX4_broken_91 : decode cX4_broken 91 = .ok (.ishl, 1) := by decide +kernel
theorem dX4_broken_92 : decode cX4_broken 92 = .ok (.iconst (-1), 1) := by decide +kernel
theorem dX4_broken_93 : decode cX4_broken 93 = .ok (.ixor, 1) := by decide +kernel
theorem dX4_broken_94 : decode cX4_broken 94 = .ok (.iand, 1) := by decide +kernel
theorem dX4_broken_95 : decode cX4_broken 95 = .ok (.iastore, 1) := by decide +kernel
theorem dX4_broken_96 : decode cX4_broken 96 = .ok (.aload_n 0, 1) := by decide +kernel
theorem dX4_broken_97 : decode cX4_broken 97 = .ok (.iconst 0, 1) := by decide +kernel
theorem dX4_broken_98 : decode cX4_broken 98 = .ok (.putfield 88, 3) := by decide +kernel
theorem dX4_broken_101 : decode cX4_broken 101 = .ok (.iload 4, 2) := by decide +kernel
theorem dX4_broken_103 : decode cX4_broken 103 = .ok (.ireturn, 1) := by decide +kernel
theorem dX4_over_0 : decode cX4_over 0 = .ok (.aload_n 0, 1) := by decide +kernel
theorem dX4_over_1 : decode cX4_over 1 = .ok (.iconst 0, 1) := by decide +kernel
theorem dX4_over_2 : decode cX4_over 2 = .ok (.putfield 77, 3) := by decide +kernel
theorem dX4_over_5 : decode cX4_over 5 = .ok (.aload_n 0, 1) := by decide +kernel
theorem dX4_over_6 : decode cX4_over 6 = .ok (.getfield 84, 3) := by decide +kernel
theorem dX4_over_9 : decode cX4_over 9 = .ok (.ifCond .eq 7, 3) := by decide +kernel
theorem dX4_over_12 : decode cX4_over 12 = .ok (.iconst 1, 1) := by decide +kernel
theorem dX4_over_13 : decode cX4_over 13 = .ok (.goto 4, 3) := by decide +kernel
theorem dX4_over_16 : decode cX4_over 16 = .ok (.iconst 0, 1) := by decide +kernel
theorem dX4_over_17 : decode cX4_over 17 = .ok (.istore_n 2, 1) := by decide +kernel
theorem dX4_over_18 : decode cX4_over 18 = .ok (.aload_n 0, 1) := by decide +kernel
theorem dX4_over_19 : decode cX4_over 19 = .ok (.iload_n 1, 1) := by decide +kernel
theorem dX4_over_20 : decode cX4_over 20 = .ok (.putfield 84, 3) := by decide +kernel
theorem dX4_over_23 : decode cX4_over 23 = .ok (.aload_n 0, 1) := by decide +kernel
theorem dX4_over_24 : decode cX4_over 24 = .ok (.iconst 0, 1) := by decide +kernel
theorem dX4_over_25 : decode cX4_over 25 = .ok (.putfield 88, 3) := by decide +kernel
theorem dX4_over_28 : decode cX4_over 28 = .ok (.iload_n 2, 1) := by decide +kernel
theorem dX4_over_29 : decode cX4_over 29 = .ok (.ireturn, 1) := by decide +kernel
theorem dX4_groupOf_0 : decode cX4_groupOf 0 = .ok (.aload_n 0, 1) := by decide +kernel
theorem dX4_groupOf_1 : decode cX4_groupOf 1 = .ok (.getfield 22, 3) := by decide +kernel
theorem dX4_groupOf_4 : decode cX4_groupOf 4 = .ok (.iload_n 1, 1) := by decide +kernel
theorem dX4_groupOf_5 : decode cX4_groupOf 5 = .ok (.iaload, 1) := by decide +kernel
theorem dX4_groupOf_6 : decode cX4_groupOf 6 = .ok (.aload_n 0, 1) := by decide +kernel
theorem dX4_groupOf_7 : decode cX4_groupOf 7 = .ok (.getfield 101, 3) := by decide +kernel
theorem dX4_groupOf_10 : decode cX4_groupOf 10 = .ok (.irem, 1) := by decide +kernel
theorem dX4_groupOf_11 : decode cX4_groupOf 11 = .ok (.istore_n 2, 1) := by decide +kernel
theorem dX4_groupOf_12 : decode cX4_groupOf 12 = .ok (.iconst 0, 1) := by decide +kernel
theorem dX4_groupOf_13 : decode cX4_groupOf 13 = .ok (.istore_n 3, 1) := by decide +kernel
theorem dX4_groupOf_14 : decode cX4_groupOf 14 = .ok (.iconst 0, 1) := by decide +kernel
theorem dX4_groupOf_15 : decode cX4_groupOf 15 = .ok (.istore 4, 2) := by decide +kernel
theorem dX4_groupOf_17 : decode cX4_groupOf 17 = .ok (.iload 4, 2) := by decide +kernel
theorem dX4_groupOf_19 : decode cX4_groupOf 19 = .ok (.aload_n 0, 1) := by decide +kernel
theorem dX4_groupOf_20 : decode cX4_groupOf 20 = .ok (.getfield 104, 3) := by decide +kernel
theorem dX4_groupOf_23 : decode cX4_groupOf 23 = .ok (.if_icmp .ge 27, 3) := by decide +kernel
theorem dX4_groupOf_26 : decode cX4_groupOf 26 = .ok (.aload_n 0, 1) := by decide +kernel
theorem dX4_groupOf_27 : decode cX4_groupOf 27 = .ok (.getfield 7, 3) := by decide +kernel
theorem dX4_groupOf_30 : decode cX4_groupOf 30 = .ok (.iload 4, 2) := by decide +kernel
theorem dX4_groupOf_32 : decode cX4_groupOf 32 = .ok (.iaload, 1) := by decide +kernel
theorem dX4_groupOf_33 : decode cX4_groupOf 33 = .ok (.iload_n 2, 1) := by decide +kernel
theorem dX4_groupOf_34 : decode cX4_groupOf 34 = .ok (.if_icmp .gt 8, 3) := by decide +kernel
theorem dX4_groupOf_37 : decode cX4_groupOf 37 = .ok (.iload 4, 2) := by decide +kernel
theorem dX4_groupOf_39 : decode cX4_groupOf 39 = .ok (.goto 4, 3) := by decide +kernel
theorem dX4_groupOf_42 : decode cX4_groupOf 42 = .ok (.iload_n 3, 1) := by decide +kernel
theorem dX4_groupOf_43 : decode cX4_groupOf 43 = .ok (.istore_n 3, 1) := by decide +kernel
theorem dX4_groupOf_44 : decode cX4_groupOf 44 = .ok (.iinc 4 1, 3) := by decide +kernel
theorem dX4_groupOf_47 : decode cX4_groupOf 47 = .ok (.goto (-30), 3) := by decide +kernel
theorem dX4_groupOf_50 : decode cX4_groupOf 50 = .ok (.iload_n 3, 1) := by decide +kernel
theorem dX4_groupOf_51 : decode cX4_groupOf 51 = .ok (.ireturn, 1) := by decide +kernel
theorem dX4_middle_0 : decode cX4_middle 0 = .ok (.bipush (-48), 2) := by decide +kernel
theorem dX4_middle_2 : decode cX4_middle 2 = .ok (.iload_n 0, 1) := by decide +kernel
theorem dX4_middle_3 : decode cX4_middle 3 = .ok (.imul, 1) := by decide +kernel
theorem dX4_middle_4 : decode cX4_middle 4 = .ok (.ireturn, 1) := by decide +kernel
theorem dX4_highest_0 : decode cX4_highest 0 = .ok (.aload_n 0, 1) := by decide +kernel
theorem dX4_highest_1 : decode cX4_highest 1 = .ok (.getfield 37, 3) := by decide +kernel
theorem dX4_highest_4 : decode cX4_highest 4 = .ok (.iconst 4, 1) := by decide +kernel
theorem dX4_highest_5 : decode cX4_highest 5 = .ok (.iload_n 1, 1) := by decide +kernel
theorem dX4_highest_6 : decode cX4_highest 6 = .ok (.imul, 1) := by decide +kernel
theorem dX4_highest_7 : decode cX4_highest 7 = .ok (.iaload, 1) := by decide +kernel
theorem dX4_highest_8 : decode cX4_highest 8 = .ok (.istore_n 2, 1) := by decide +kernel
theorem dX4_highest_9 : decode cX4_highest 9 = .ok (.iconst 1, 1) := by decide +kernel
theorem dX4_highest_10 : decode cX4_highest 10 = .ok (.istore_n 3, 1) := by decide +kernel
theorem dX4_highest_11 : decode cX4_highest 11 = .ok (.iload_n 3, 1) := by decide +kernel
theorem dX4_highest_12 : decode cX4_highest 12 = .ok (.aload_n 0, 1) := by decide +kernel
theorem dX4_highest_13 : decode cX4_highest 13 = .ok (.getfield 40, 3) := by decide +kernel
theorem dX4_highest_16 : decode cX4_highest 16 = .ok (.iload_n 1, 1) := by decide +kernel
theorem dX4_highest_17 : decode cX4_highest 17 = .ok (.iaload, 1) := by decide +kernel
theorem dX4_highest_18 : decode cX4_highest 18 = .ok (.if_icmp .ge 38, 3) := by decide +kernel
theorem dX4_highest_21 : decode cX4_highest 21 = .ok (.aload_n 0, 1) := by decide +kernel
theorem dX4_highest_22 : decode cX4_highest 22 = .ok (.getfield 37, 3) := by decide +kernel
theorem dX4_highest_25 : decode cX4_highest 25 = .ok (.iconst 4, 1) := by decide +kernel
theorem dX4_highest_26 : decode cX4_highest 26 = .ok (.iload_n 1, 1) := by decide +kernel
theorem dX4_highest_27 : decode cX4_highest 27 = .ok (.imul, 1) := by decide +kernel
theorem dX4_highest_28 : decode cX4_highest 28 = .ok (.iload_n 3, 1) := by decide +kernel
theorem dX4_highest_29 : decode cX4_highest 29 = .ok (.iadd, 1) := by decide +kernel
theorem dX4_highest_30 : decode cX4_highest 30 = .ok (.iaload, 1) := by decide +kernel
theorem dX4_highest_31 : decode cX4_highest 31 = .ok (.iload_n 2, 1) := by decide +kernel
theorem dX4_highest_32 : decode cX4_highest 32 = .ok (.if_icmp .le 16, 3) := by decide +kernel
theorem dX4_highest_35 : decode cX4_highest 35 = .ok (.aload_n 0, 1) := by decide +kernel
theorem dX4_highest_36 : decode cX4_highest 36 = .ok (.getfield 37, 3) := by decide +kernel
theorem dX4_highest_39 : decode cX4_highest 39 = .ok (.iconst 4, 1) := by decide +kernel
theorem dX4_highest_40 : decode cX4_highest 40 = .ok (.iload_n 1, 1) := by decide +kernel
theorem dX4_highest_41 : decode cX4_highest 41 = .ok (.imul, 1) := by decide +kernel
theorem dX4_highest_42 : decode cX4_highest 42 = .ok (.iload_n 3, 1) := by decide +kernel
theorem dX4_highest_43 : decode cX4_highest 43 = .ok (.iadd, 1) := by decide +kernel
theorem dX4_highest_44 : decode cX4_highest 44 = .ok (.iaload, 1) := by decide +kernel
theorem dX4_highest_45 : decode cX4_highest 45 = .ok (.goto 4, 3) := by decide +kernel
theorem dX4_highest_48 : decode cX4_highest 48 = .ok (.iload_n 2, 1) := by decide +kernel
theorem dX4_highest_49 : decode cX4_highest 49 = .ok (.istore_n 2, 1) := by decide +kernel
theorem dX4_highest_50 : decode cX4_highest 50 = .ok (.iinc 3 1, 3) := by decide +kernel
theorem dX4_highest_53 : decode cX4_highest 53 = .ok (.goto (-42), 3) := by decide +kernel
theorem dX4_highest_56 : decode cX4_highest 56 = .ok (.iconst 2, 1) := by decide +kernel
theorem dX4_highest_57 : decode cX4_highest 57 = .ok (.iload_n 2, 1) := by decide +kernel
theorem dX4_highest_58 : decode cX4_highest 58 = .ok (.imul, 1) := by decide +kernel
theorem dX4_highest_59 : decode cX4_highest 59 = .ok (.ireturn, 1) := by decide +kernel
theorem dX4_lowest_0 : decode cX4_lowest 0 = .ok (.aload_n 0, 1) := by decide +kernel
theorem dX4_lowest_1 : decode cX4_lowest 1 = .ok (.getfield 37, 3) := by decide +kernel
theorem dX4_lowest_4 : decode cX4_lowest 4 = .ok (.iconst 4, 1) := by decide +kernel
theorem dX4_lowest_5 : decode cX4_lowest 5 = .ok (.iload_n 1, 1) := by decide +kernel
theorem dX4_lowest_6 : decode cX4_lowest 6 = .ok (.imul, 1) := by decide +kernel
theorem dX4_lowest_7 : decode cX4_lowest 7 = .ok (.iaload, 1) := by decide +kernel
theorem dX4_lowest_8 : decode cX4_lowest 8 = .ok (.istore_n 2, 1) := by decide +kernel
theorem dX4_lowest_9 : decode cX4_lowest 9 = .ok (.iconst 1, 1) := by decide +kernel
theorem dX4_lowest_10 : decode cX4_lowest 10 = .ok (.istore_n 3, 1) := by decide +kernel
theorem dX4_lowest_11 : decode cX4_lowest 11 = .ok (.iload_n 3, 1) := by decide +kernel
theorem dX4_lowest_12 : decode cX4_lowest 12 = .ok (.aload_n 0, 1) := by decide +kernel
theorem dX4_lowest_13 : decode cX4_lowest 13 = .ok (.getfield 40, 3) := by decide +kernel
theorem dX4_lowest_16 : decode cX4_lowest 16 = .ok (.iload_n 1, 1) := by decide +kernel
theorem dX4_lowest_17 : decode cX4_lowest 17 = .ok (.iaload, 1) := by decide +kernel
theorem dX4_lowest_18 : decode cX4_lowest 18 = .ok (.if_icmp .ge 38, 3) := by decide +kernel
theorem dX4_lowest_21 : decode cX4_lowest 21 = .ok (.aload_n 0, 1) := by decide +kernel
theorem dX4_lowest_22 : decode cX4_lowest 22 = .ok (.getfield 37, 3) := by decide +kernel
theorem dX4_lowest_25 : decode cX4_lowest 25 = .ok (.iconst 4, 1) := by decide +kernel
theorem dX4_lowest_26 : decode cX4_lowest 26 = .ok (.iload_n 1, 1) := by decide +kernel
theorem dX4_lowest_27 : decode cX4_lowest 27 = .ok (.imul, 1) := by decide +kernel
theorem dX4_lowest_28 : decode cX4_lowest 28 = .ok (.iload_n 3, 1) := by decide +kernel
theorem dX4_lowest_29 : decode cX4_lowest 29 = .ok (.iadd, 1) := by decide +kernel
theorem dX4_lowest_30 : decode cX4_lowest 30 = .ok (.iaload, 1) := by decide +kernel
theorem dX4_lowest_31 : decode cX4_lowest 31 = .ok (.iload_n 2, 1) := by decide +kernel
theorem dX4_lowest_32 : decode cX4_lowest 32 = .ok (.if_icmp .ge 16, 3) := by decide +kernel
theorem dX4_lowest_35 : decode cX4_lowest 35 = .ok (.aload_n 0, 1) := by decide +kernel
theorem dX4_lowest_36 : decode cX4_lowest 36 = .ok (.getfield 37, 3) := by decide +kernel
theorem dX4_lowest_39 : decode cX4_lowest 39 = .ok (.iconst 4, 1) := by decide +kernel
theorem dX4_lowest_40 : decode cX4_lowest 40 = .ok (.iload_n 1, 1) := by decide +kernel
theorem dX4_lowest_41 : decode cX4_lowest 41 = .ok (.imul, 1) := by decide +kernel
theorem dX4_lowest_42 : decode cX4_lowest 42 = .ok (.iload_n 3, 1) := by decide +kernel
theorem dX4_lowest_43 : decode cX4_lowest 43 = .ok (.iadd, 1) := by decide +kernel
theorem dX4_lowest_44 : decode cX4_lowest 44 = .ok (.iaload, 1) := by decide +kernel
theorem dX4_lowest_45 : decode cX4_lowest 45 = .ok (.goto 4, 3) := by decide +kernel
theorem dX4_lowest_48 : decode cX4_lowest 48 = .ok (.iload_n 2, 1) := by decide +kernel
theorem dX4_lowest_49 : decode cX4_lowest 49 = .ok (.istore_n 2, 1) := by decide +kernel
theorem dX4_lowest_50 : decode cX4_lowest 50 = .ok (.iinc 3 1, 3) := by decide +kernel
theorem dX4_lowest_53 : decode cX4_lowest 53 = .ok (.goto (-42), 3) := by decide +kernel
theorem dX4_lowest_56 : decode cX4_lowest 56 = .ok (.iconst 2, 1) := by decide +kernel
theorem dX4_lowest_57 : decode cX4_lowest 57 = .ok (.iload_n 2, 1) := by decide +kernel
theorem dX4_lowest_58 : decode cX4_lowest 58 = .ok (.imul, 1) := by decide +kernel
theorem dX4_lowest_59 : decode cX4_lowest 59 = .ok (.ireturn, 1) := by decide +kernel
theorem dX4_near_0 : decode cX4_near 0 = .ok (.aload_n 0, 1) := by decide +kernel
theorem dX4_near_1 : decode cX4_near 1 = .ok (.getfield 28, 3) := by decide +kernel
theorem dX4_near_4 : decode cX4_near 4 = .ok (.iload_n 1, 1) := by decide +kernel
theorem dX4_near_5 : decode cX4_near 5 = .ok (.iaload, 1) := by decide +kernel
theorem dX4_near_6 : decode cX4_near 6 = .ok (.invokestatic 135, 3) := by decide +kernel
theorem dX4_near_9 : decode cX4_near 9 = .ok (.iload_n 2, 1) := by decide +kernel
theorem dX4_near_10 : decode cX4_near 10 = .ok (.ifCond .le 11, 3) := by decide +kernel
theorem dX4_near_13 : decode cX4_near 13 = .ok (.aload_n 0, 1) := by decide +kernel
theorem dX4_near_14 : decode cX4_near 14 = .ok (.iload_n 1, 1) := by decide +kernel
theorem dX4_near_15 : decode cX4_near 15 = .ok (.invokevirtual 139, 3) := by decide +kernel
theorem dX4_near_18 : decode cX4_near 18 = .ok (.goto 8, 3) := by decide +kernel
theorem dX4_near_21 : decode cX4_near 21 = .ok (.aload_n 0, 1) := by decide +kernel
theorem dX4_near_22 : decode cX4_near 22 = .ok (.iload_n 1, 1) := by decide +kernel
theorem dX4_near_23 : decode cX4_near 23 = .ok (.invokevirtual 142, 3) := by decide +kernel
theorem dX4_near_26 : decode cX4_near 26 = .ok (.iadd, 1) := by decide +kernel
theorem dX4_near_27 : decode cX4_near 27 = .ok (.ireturn, 1) := by decide +kernel
theorem dX4_levels_0 : decode cX4_levels 0 = .ok (.aload_n 0, 1) := by decide +kernel
theorem dX4_levels_1 : decode cX4_levels 1 = .ok (.getfield 19, 3) := by decide +kernel
theorem dX4_levels_4 : decode cX4_levels 4 = .ok (.iload_n 1, 1) := by decide +kernel
theorem dX4_levels_5 : decode cX4_levels 5 = .ok (.iaload, 1) := by decide +kernel
theorem dX4_levels_6 : decode cX4_levels 6 = .ok (.iconst 3, 1) := by decide +kernel
theorem dX4_levels_7 : decode cX4_levels 7 = .ok (.if_icmp .ge 7, 3) := by decide +kernel
theorem dX4_levels_10 : decode cX4_levels 10 = .ok (.iconst 0, 1) := by decide +kernel
theorem dX4_levels_11 : decode cX4_levels 11 = .ok (.goto 11, 3) := by decide +kernel
theorem dX4_levels_14 : decode cX4_levels 14 = .ok (.aload_n 0, 1) := by decide +kernel
theorem dX4_levels_15 : decode cX4_levels 15 = .ok (.getfield 19, 3) := by decide +kernel
theorem dX4_levels_18 : decode cX4_levels 18 = .ok (.iload_n 1, 1) := by decide +kernel
theorem dX4_levels_19 : decode cX4_levels 19 = .ok (.iaload, 1) := by decide +kernel
theorem dX4_levels_20 : decode cX4_levels 20 = .ok (.iconst 2, 1) := by decide +kernel
theorem dX4_levels_21 : decode cX4_levels 21 = .ok (.isub, 1) := by decide +kernel
theorem dX4_levels_22 : decode cX4_levels 22 = .ok (.ireturn, 1) := by decide +kernel
theorem dX4_more_0 : decode cX4_more 0 = .ok (.aload_n 0, 1) := by decide +kernel
theorem dX4_more_1 : decode cX4_more 1 = .ok (.iload_n 1, 1) := by decide +kernel
theorem dX4_more_2 : decode cX4_more 2 = .ok (.invokevirtual 145, 3) := by decide +kernel
theorem dX4_more_5 : decode cX4_more 5 = .ok (.iconst 2, 1) := by decide +kernel
theorem dX4_more_6 : decode cX4_more 6 = .ok (.if_icmp .le 15, 3) := by decide +kernel
theorem dX4_more_9 : decode cX4_more 9 = .ok (.iconst 3, 1) := by decide +kernel
theorem dX4_more_10 : decode cX4_more 10 = .ok (.aload_n 0, 1) := by decide +kernel
theorem dX4_more_11 : decode cX4_more 11 = .ok (.iload_n 1, 1) := by decide +kernel
theorem dX4_more_12 : decode cX4_more 12 = .ok (.invokevirtual 145, 3) := by decide +kernel
theorem dX4_more_15 : decode cX4_more 15 = .ok (.iconst 2, 1) := by decide +kernel
theorem dX4_more_16 : decode cX4_more 16 = .ok (.isub, 1) := by decide +kernel
theorem dX4_more_17 : decode cX4_more 17 = .ok (.imul, 1) := by decide +kernel
theorem dX4_more_18 : decode cX4_more 18 = .ok (.goto 4, 3) := by decide +kernel
theorem dX4_more_21 : decode cX4_more 21 = .ok (.iconst 0, 1) := by decide +kernel
theorem dX4_more_22 : decode cX4_more 22 = .ok (.ireturn, 1) := by decide +kernel
set_option maxRecDepth 20000 in
theorem bkX4_also_0 {w : zW} {Γ : zC} {N S : Nat} {Rt : zR} (X : zm_X w Γ mX4_also N S Rt) : ∀ lv st h, (zi_lda 0 (zi_push (.int 0) (zi_pf 4 0 .int (zi_lda 0 (zi_ldi 1 (zi_cv w mX4_isEvent 4 2 N S (zi_if (fun x => x = 0) (zi_push (.int (-1002)) (zi_iret Rt)) (zi_ldi 2 (zi_i2l (zi_push (.long (-12)) (zi_push (.long (12)) (zi_cs w mX4_in 3 N S (zi_if (fun x => x = 0) (zi_push (.int (-1003)) (zi_iret Rt)) (zi_lda 0 (zi_gf 4 6 (zi_ldi 1 (zi_ia 0 (zi_push (.int 1) (zi_ic (fun x y => x = y) (zi_push (.int 1) (zi_sti 3 (zi_push (.int 0) (zi_sti 4 (zm_V w Γ 54))))) (zi_push (.int 0) (zi_sti 3 (zi_push (.int 0) (zi_sti 4 (zm_V w Γ 54)))))))))))))))))))))))) lv st h → zm_V w Γ 0 lv st h := (zs_aload_n X rfl dX4_also_0 (zs_iconst X (by decide) dX4_also_1 (zs_pf X (ci := 4) rfl (by decide) zm_in4 kw_X4_77 tyX4 tyX4_ok nmX4 rfl rfl dX4_also_2 (zs_aload_n X rfl dX4_also_5 (zs_iload_n X rfl dX4_also_6 (zs_cv X (M' := mX4_isEvent) (n := 1) kd_X4_isEvent ki_X4 (by decide +kernel) (by decide) kw_X4_129 rfl ks_X4_isEvent kl_X4_isEvent dX4_also_7 (zs_if_ne X dX4_also_10 (by decide) (zs_iload_n X rfl dX4_also_17 (zs_i2l X dX4_also_18 (zs_ldc2 X kw_X4_121 dX4_also_19 (zs_ldc2 X kw_X4_123 dX4_also_22 (zs_cs X (M' := mX4_in) (n := 3) kd_X4_in ki_X4 (by decide +kernel) (by decide) kw_X4_109 ks_X4_in dX4_also_25 (zs_if_ne X dX4_also_28 (by decide) (zs_aload_n X rfl dX4_also_35 (zs_gf X (ci := 4) rfl (by decide) zm_in4 kw_X4_13 dX4_also_36 (zs_iload_n X rfl dX4_also_39 (zs_iald X (fun _ => rfl) dX4_also_40 (zs_iconst X (by decide) dX4_also_41 (zs_icmp_ne X dX4_also_42 (by decide) (zs_iconst X (by decide) dX4_also_49 (zs_istore_n X rfl (by decide) dX4_also_50 (zs_iconst X (by decide) dX4_also_51 (zs_istore X (by decide) dX4_also_52 (fun _ _ _ h => h))))) (zs_iconst X (by decide) dX4_also_45 (zs_goto X dX4_also_46 (by decide) (zs_istore_n X rfl (by decide) dX4_also_50 (zs_iconst X (by decide) dX4_also_51 (zs_istore X (by decide) dX4_also_52 (fun _ _ _ h => h)))))))))))) (zs_sipush X (by decide) dX4_also_31 (zs_iret X rfl dX4_also_34)))))))) (zs_sipush X (by decide) dX4_also_13 (zs_iret X rfl dX4_also_16)))))))))
set_option maxRecDepth 20000 in
theorem bkX4_also_54 {w : zW} {Γ : zC} {N S : Nat} {Rt : zR} (X : zm_X w Γ mX4_also N S Rt) : ∀ lv st h, (zi_ldi 4 (zi_lda 0 (zi_gf 4 15 (zi_ldi 1 (zi_ia 0 (zi_ic (fun x y => y ≤ x) (zi_ldi 3 (zi_if (fun x => x = 0) (zi_lda 0 (zi_gf 4 15 (zi_ldi 1 (zi_ia 0 (zi_push (.int 4) (zi_ic (fun x y => x = y) (zi_push (.int (-1005)) (zi_iret Rt)) (zi_lda 0 (zi_gf 4 14 (zi_push (.int 4) (zi_ldi 1 (zi_b (fun x y => x * y) (zi_lda 0 (zi_gf 4 15 (zi_ldi 1 (zi_ia 0 (zi_b (fun x y => x + y) (zi_ldi 2 (zi_is 0 (zi_lda 0 (zi_gf 4 15 (zi_ldi 1 (zi_dup2 (zi_ia 0 (zi_push (.int 1) (zi_b (fun x y => x + y) (zi_is 0 (zi_lda 0 (zi_push (.int 0) (zi_pf 4 18 .int (zi_lda 0 (zi_gf 4 15 (zi_ldi 1 (zi_ia 0 (zi_iret Rt)))))))))))))))))))))))))))))))))) (zi_push (.int (-1004)) (zi_iret Rt)))) (zi_ldi 3 (zi_if (fun x => x = 0) (zi_lda 0 (zi_gf 4 14 (zi_push (.int 4) (zi_ldi 1 (zi_b (fun x y => x * y) (zi_ldi 4 (zi_b (fun x y => x + y) (zi_ia 0 (zi_ldi 2 (zi_ic (fun x y => x = y) (zi_push (.int 1) (zi_sti 3 (zi_inc 4 1 (zm_V w Γ 54)))) (zi_push (.int 0) (zi_sti 3 (zi_inc 4 1 (zm_V w Γ 54)))))))))))))) (zi_push (.int 1) (zi_sti 3 (zi_inc 4 1 (zm_V w Γ 54)))))))))))) lv st h → zm_V w Γ 54 lv st h := (zs_iload X dX4_also_54 (zs_aload_n X rfl dX4_also_56 (zs_gf X (ci := 4) rfl (by decide) zm_in4 kw_X4_40 dX4_also_57 (zs_iload_n X rfl dX4_also_60 (zs_iald X (fun _ => rfl) dX4_also_61 (zs_icmp_ge X dX4_also_62 (by decide) (zs_iload_n X rfl dX4_also_96 (zs_if_eq X dX4_also_97 (by decide) (zs_aload_n X rfl dX4_also_104 (zs_gf X (ci := 4) rfl (by decide) zm_in4 kw_X4_40 dX4_also_105 (zs_iload_n X rfl dX4_also_108 (zs_iald X (fun _ => rfl) dX4_also_109 (zs_iconst X (by decide) dX4_also_110 (zs_icmp_ne X dX4_also_111 (by decide) (zs_aload_n X rfl dX4_also_118 (zs_gf X (ci := 4) rfl (by decide) zm_in4 kw_X4_37 dX4_also_119 (zs_iconst X (by decide) dX4_also_122 (zs_iload_n X rfl dX4_also_123 (zs_imul X dX4_also_124 (zs_aload_n X rfl dX4_also_125 (zs_gf X (ci := 4) rfl (by decide) zm_in4 kw_X4_40 dX4_also_126 (zs_iload_n X rfl dX4_also_129 (zs_iald X (fun _ => rfl) dX4_also_130 (zs_iadd X dX4_also_131 (zs_iload_n X rfl dX4_also_132 (zs_iast X (fun _ => rfl) dX4_also_133 (zs_aload_n X rfl dX4_also_134 (zs_gf X (ci := 4) rfl (by decide) zm_in4 kw_X4_40 dX4_also_135 (zs_iload_n X rfl dX4_also_138 (zs_dup2 X dX4_also_139 (zs_iald X (fun _ => rfl) dX4_also_140 (zs_iconst X (by decide) dX4_also_141 (zs_iadd X dX4_also_142 (zs_iast X (fun _ => rfl) dX4_also_143 (zs_aload_n X rfl dX4_also_144 (zs_iconst X (by decide) dX4_also_145 (zs_pf X (ci := 4) rfl (by decide) zm_in4 kw_X4_88 tyX4 tyX4_ok nmX4 rfl rfl dX4_also_146 (zs_aload_n X rfl dX4_also_149 (zs_gf X (ci := 4) rfl (by decide) zm_in4 kw_X4_40 dX4_also_150 (zs_iload_n X rfl dX4_also_153 (zs_iald X (fun _ => rfl) dX4_also_154 (zs_iret X rfl dX4_also_155)))))))))))))))))))))))))))) (zs_sipush X (by decide) dX4_also_114 (zs_iret X rfl dX4_also_117)))))))) (zs_sipush X (by decide) dX4_also_100 (zs_iret X rfl dX4_also_103)))) (zs_iload_n X rfl dX4_also_65 (zs_if_ne X dX4_also_66 (by decide) (zs_iconst X (by decide) dX4_also_84 (zs_goto X dX4_also_85 (by decide) (zs_istore_n X rfl (by decide) dX4_also_89 (zs_iinc X (by decide) (by decide) dX4_also_90 (zs_goto X dX4_also_93 (by decide) (fun _ _ _ h => h)))))) (zs_aload_n X rfl dX4_also_69 (zs_gf X (ci := 4) rfl (by decide) zm_in4 kw_X4_37 dX4_also_70 (zs_iconst X (by decide) dX4_also_73 (zs_iload_n X rfl dX4_also_74 (zs_imul X dX4_also_75 (zs_iload X dX4_also_76 (zs_iadd X dX4_also_78 (zs_iald X (fun _ => rfl) dX4_also_79 (zs_iload_n X rfl dX4_also_80 (zs_icmp_ne X dX4_also_81 (by decide) (zs_iconst X (by decide) dX4_also_88 (zs_istore_n X rfl (by decide) dX4_also_89 (zs_iinc X (by decide) (by decide) dX4_also_90 (zs_goto X dX4_also_93 (by decide) (fun _ _ _ h => h))))) (zs_iconst X (by decide) dX4_also_84 (zs_goto X dX4_also_85 (by decide) (zs_istore_n X rfl (by decide) dX4_also_89 (zs_iinc X (by decide) (by decide) dX4_also_90 (zs_goto X dX4_also_93 (by decide) (fun _ _ _ h => h))))))))))))))))))))))))
set_option maxRecDepth 20000 in
theorem bkX4_staff_0 {w : zW} {Γ : zC} {N S : Nat} {Rt : zR} (X : zm_X w Γ mX4_staff N S Rt) : ∀ lv st h, (zi_lda 0 (zi_push (.int 0) (zi_pf 4 0 .int (zi_lda 0 (zi_ldi 1 (zi_cv w mX4_isEvent 4 2 N S (zi_if (fun x => x = 0) (zi_push (.int (-1002)) (zi_iret Rt)) (zi_ldi 2 (zi_i2l (zi_push (.long 0) (zi_push (.long 1) (zi_cs w mX4_in 3 N S (zi_if (fun x => x = 0) (zi_push (.int (-1003)) (zi_iret Rt)) (zi_lda 0 (zi_gf 4 6 (zi_ldi 1 (zi_ia 0 (zi_push (.int 1) (zi_ic (fun x y => x = y) (zi_push (.int (-1004)) (zi_iret Rt)) (zi_lda 0 (zi_gf 4 11 (zi_ldi 1 (zi_ia 0 (zi_sti 3 (zi_lda 0 (zi_gf 4 11 (zi_ldi 1 (zi_ldi 2 (zi_is 0 (zi_lda 0 (zi_push (.int 0) (zi_pf 4 18 .int (zi_ldi 3 (zi_iret Rt)))))))))))))))))))))))))))))))))) lv st h → zm_V w Γ 0 lv st h := (zs_aload_n X rfl dX4_staff_0 (zs_iconst X (by decide) dX4_staff_1 (zs_pf X (ci := 4) rfl (by decide) zm_in4 kw_X4_77 tyX4 tyX4_ok nmX4 rfl rfl dX4_staff_2 (zs_aload_n X rfl dX4_staff_5 (zs_iload_n X rfl dX4_staff_6 (zs_cv X (M' := mX4_isEvent) (n := 1) kd_X4_isEvent ki_X4 (by decide +kernel) (by decide) kw_X4_129 rfl ks_X4_isEvent kl_X4_isEvent dX4_staff_7 (zs_if_ne X dX4_staff_10 (by decide) (zs_iload_n X rfl dX4_staff_17 (zs_i2l X dX4_staff_18 (zs_lconst X (by decide) dX4_staff_19 (zs_lconst X (by decide) dX4_staff_20 (zs_cs X (M' := mX4_in) (n := 3) kd_X4_in ki_X4 (by decide +kernel) (by decide) kw_X4_109 ks_X4_in dX4_staff_21 (zs_if_ne X dX4_staff_24 (by decide) (zs_aload_n X rfl dX4_staff_31 (zs_gf X (ci := 4) rfl (by decide) zm_in4 kw_X4_13 dX4_staff_32 (zs_iload_n X rfl dX4_staff_35 (zs_iald X (fun _ => rfl) dX4_staff_36 (zs_iconst X (by decide) dX4_staff_37 (zs_icmp_ne X dX4_staff_38 (by decide) (zs_aload_n X rfl dX4_staff_45 (zs_gf X (ci := 4) rfl (by decide) zm_in4 kw_X4_28 dX4_staff_46 (zs_iload_n X rfl dX4_staff_49 (zs_iald X (fun _ => rfl) dX4_staff_50 (zs_istore_n X rfl (by decide) dX4_staff_51 (zs_aload_n X rfl dX4_staff_52 (zs_gf X (ci := 4) rfl (by decide) zm_in4 kw_X4_28 dX4_staff_53 (zs_iload_n X rfl dX4_staff_56 (zs_iload_n X rfl dX4_staff_57 (zs_iast X (fun _ => rfl) dX4_staff_58 (zs_aload_n X rfl dX4_staff_59 (zs_iconst X (by decide) dX4_staff_60 (zs_pf X (ci := 4) rfl (by decide) zm_in4 kw_X4_88 tyX4 tyX4_ok nmX4 rfl rfl dX4_staff_61 (zs_iload_n X rfl dX4_staff_64 (zs_iret X rfl dX4_staff_65))))))))))))))) (zs_sipush X (by decide) dX4_staff_41 (zs_iret X rfl dX4_staff_44)))))))) (zs_sipush X (by decide) dX4_staff_27 (zs_iret X rfl dX4_staff_30)))))))) (zs_sipush X (by decide) dX4_staff_13 (zs_iret X rfl dX4_staff_16)))))))))
set_option maxRecDepth 20000 in
theorem bkX4_mark_0 {w : zW} {Γ : zC} {N S : Nat} {Rt : zR} (X : zm_X w Γ mX4_mark N S Rt) : ∀ lv st h, (zi_lda 0 (zi_push (.int 0) (zi_pf 4 0 .int (zi_lda 0 (zi_ldi 1 (zi_cv w mX4_isEvent 4 2 N S (zi_if (fun x => x = 0) (zi_push (.int (-1002)) (zi_iret Rt)) (zi_ldi 2 (zi_i2l (zi_push (.long 0) (zi_push (.long (2)) (zi_cs w mX4_in 3 N S (zi_if (fun x => x = 0) (zi_push (.int (-1003)) (zi_iret Rt)) (zi_lda 0 (zi_gf 4 6 (zi_ldi 1 (zi_ia 0 (zi_push (.int 1) (zi_ic (fun x y => x = y) (zi_push (.int (-1004)) (zi_iret Rt)) (zi_lda 0 (zi_gf 4 12 (zi_ldi 1 (zi_ia 0 (zi_sti 3 (zi_lda 0 (zi_gf 4 12 (zi_ldi 1 (zi_ldi 2 (zi_is 0 (zi_lda 0 (zi_push (.int 0) (zi_pf 4 18 .int (zi_ldi 3 (zi_iret Rt)))))))))))))))))))))))))))))))))) lv st h → zm_V w Γ 0 lv st h := (zs_aload_n X rfl dX4_mark_0 (zs_iconst X (by decide) dX4_mark_1 (zs_pf X (ci := 4) rfl (by decide) zm_in4 kw_X4_77 tyX4 tyX4_ok nmX4 rfl rfl dX4_mark_2 (zs_aload_n X rfl dX4_mark_5 (zs_iload_n X rfl dX4_mark_6 (zs_cv X (M' := mX4_isEvent) (n := 1) kd_X4_isEvent ki_X4 (by decide +kernel) (by decide) kw_X4_129 rfl ks_X4_isEvent kl_X4_isEvent dX4_mark_7 (zs_if_ne X dX4_mark_10 (by decide) (zs_iload_n X rfl dX4_mark_17 (zs_i2l X dX4_mark_18 (zs_lconst X (by decide) dX4_mark_19 (zs_ldc2 X kw_X4_119 dX4_mark_20 (zs_cs X (M' := mX4_in) (n := 3) kd_X4_in ki_X4 (by decide +kernel) (by decide) kw_X4_109 ks_X4_in dX4_mark_23 (zs_if_ne X dX4_mark_26 (by decide) (zs_aload_n X rfl dX4_mark_33 (zs_gf X (ci := 4) rfl (by decide) zm_in4 kw_X4_13 dX4_mark_34 (zs_iload_n X rfl dX4_mark_37 (zs_iald X (fun _ => rfl) dX4_mark_38 (zs_iconst X (by decide) dX4_mark_39 (zs_icmp_ne X dX4_mark_40 (by decide) (zs_aload_n X rfl dX4_mark_47 (zs_gf X (ci := 4) rfl (by decide) zm_in4 kw_X4_31 dX4_mark_48 (zs_iload_n X rfl dX4_mark_51 (zs_iald X (fun _ => rfl) dX4_mark_52 (zs_istore_n X rfl (by decide) dX4_mark_53 (zs_aload_n X rfl dX4_mark_54 (zs_gf X (ci := 4) rfl (by decide) zm_in4 kw_X4_31 dX4_mark_55 (zs_iload_n X rfl dX4_mark_58 (zs_iload_n X rfl dX4_mark_59 (zs_iast X (fun _ => rfl) dX4_mark_60 (zs_aload_n X rfl dX4_mark_61 (zs_iconst X (by decide) dX4_mark_62 (zs_pf X (ci := 4) rfl (by decide) zm_in4 kw_X4_88 tyX4 tyX4_ok nmX4 rfl rfl dX4_mark_63 (zs_iload_n X rfl dX4_mark_66 (zs_iret X rfl dX4_mark_67))))))))))))))) (zs_sipush X (by decide) dX4_mark_43 (zs_iret X rfl dX4_mark_46)))))))) (zs_sipush X (by decide) dX4_mark_29 (zs_iret X rfl dX4_mark_32)))))))) (zs_sipush X (by decide) dX4_mark_13 (zs_iret X rfl dX4_mark_16)))))))))
set_option maxRecDepth 20000 in
theorem bkX4_broken_0 {w : zW} {Γ : zC} {N S : Nat} {Rt : zR} (X : zm_X w Γ mX4_broken N S Rt) : ∀ lv st h, (zi_lda 0 (zi_push (.int 0) (zi_pf 4 0 .int (zi_lda 0 (zi_ldi 1 (zi_cv w mX4_isEvent 4 2 N S (zi_if (fun x => x = 0) (zi_push (.int (-1002)) (zi_iret Rt)) (zi_ldi 2 (zi_i2l (zi_push (.long (2)) (zi_push (.long (4)) (zi_cs w mX4_in 3 N S (zi_if (fun x => x = 0) (zi_push (.int (-1003)) (zi_iret Rt)) (zi_lda 0 (zi_gf 4 6 (zi_ldi 1 (zi_ia 0 (zi_push (.int 1) (zi_ic (fun x y => x = y) (zi_push (.int (-1004)) (zi_iret Rt)) (zi_lda 0 (zi_gf 4 13 (zi_ldi 1 (zi_ia 0 (zi_ldi 2 (zi_b (fun x y => x >>> (y &&& 31)) (zi_push (.int 1) (zi_b (fun x y => x &&& y) (zi_sti 4 (zi_lda 0 (zi_gf 4 13 (zi_ldi 1 (zi_ldi 3 (zi_if (fun x => x = 0) (zi_lda 0 (zi_gf 4 13 (zi_ldi 1 (zi_ia 0 (zi_push (.int 1) (zi_ldi 2 (zi_b (fun x y => x <<< (y &&& 31)) (zi_push (.int (-1)) (zi_b (fun x y => x ^^^ y) (zi_b (fun x y => x &&& y) (zi_is 0 (zi_lda 0 (zi_push (.int 0) (zi_pf 4 18 .int (zi_ldi 4 (zi_iret Rt)))))))))))))))) (zi_lda 0 (zi_gf 4 13 (zi_ldi 1 (zi_ia 0 (zi_push (.int 1) (zi_ldi 2 (zi_b (fun x y => x <<< (y &&& 31)) (zi_b (fun x y => x ||| y) (zi_is 0 (zi_lda 0 (zi_push (.int 0) (zi_pf 4 18 .int (zi_ldi 4 (zi_iret Rt))))))))))))))))))))))))))))))))))))))))))))))) lv st h → zm_V w Γ 0 lv st h := (zs_aload_n X rfl dX4_broken_0 (zs_iconst X (by decide) dX4_broken_1 (zs_pf X (ci := 4) rfl (by decide) zm_in4 kw_X4_77 tyX4 tyX4_ok nmX4 rfl rfl dX4_broken_2 (zs_aload_n X rfl dX4_broken_5 (zs_iload_n X rfl dX4_broken_6 (zs_cv X (M' := mX4_isEvent) (n := 1) kd_X4_isEvent ki_X4 (by decide +kernel) (by decide) kw_X4_129 rfl ks_X4_isEvent kl_X4_isEvent dX4_broken_7 (zs_if_ne X dX4_broken_10 (by decide) (zs_iload_n X rfl dX4_broken_17 (zs_i2l X dX4_broken_18 (zs_ldc2 X kw_X4_119 dX4_broken_19 (zs_ldc2 X kw_X4_133 dX4_broken_22 (zs_cs X (M' := mX4_in) (n := 3) kd_X4_in ki_X4 (by decide +kernel) (by decide) kw_X4_109 ks_X4_in dX4_broken_25 (zs_if_ne X dX4_broken_28 (by decide) (zs_aload_n X rfl dX4_broken_35 (zs_gf X (ci := 4) rfl (by decide) zm_in4 kw_X4_13 dX4_broken_36 (zs_iload_n X rfl dX4_broken_39 (zs_iald X (fun _ => rfl) dX4_broken_40 (zs_iconst X (by decide) dX4_broken_41 (zs_icmp_ne X dX4_broken_42 (by decide) (zs_aload_n X rfl dX4_broken_49 (zs_gf X (ci := 4) rfl (by decide) zm_in4 kw_X4_34 dX4_broken_50 (zs_iload_n X rfl dX4_broken_53 (zs_iald X (fun _ => rfl) dX4_broken_54 (zs_iload_n X rfl dX4_broken_55 (zs_ishr X dX4_broken_56 (zs_iconst X (by decide) dX4_broken_57 (zs_iand X dX4_broken_58 (zs_istore X (by decide) dX4_broken_59 (zs_aload_n X rfl dX4_broken_61 (zs_gf X (ci := 4) rfl (by decide) zm_in4 kw_X4_34 dX4_broken_62 (zs_iload_n X rfl dX4_broken_65 (zs_iload_n X rfl dX4_broken_66 (zs_if_eq X dX4_broken_67 (by decide) (zs_aload_n X rfl dX4_broken_83 (zs_gf X (ci := 4) rfl (by decide) zm_in4 kw_X4_34 dX4_broken_84 (zs_iload_n X rfl dX4_broken_87 (zs_iald X (fun _ => rfl) dX4_broken_88 (zs_iconst X (by decide) dX4_broken_89 (zs_iload_n X rfl dX4_broken_90 (zs_ishl X dX4_broken_91 (zs_iconst X (by decide) dX4_broken_92 (zs_ixor X dX4_broken_93 (zs_iand X dX4_broken_94 (zs_iast X (fun _ => rfl) dX4_broken_95 (zs_aload_n X rfl dX4_broken_96 (zs_iconst X (by decide) dX4_broken_97 (zs_pf X (ci := 4) rfl (by decide) zm_in4 kw_X4_88 tyX4 tyX4_ok nmX4 rfl rfl dX4_broken_98 (zs_iload X dX4_broken_101 (zs_iret X rfl dX4_broken_103)))))))))))))))) (zs_aload_n X rfl dX4_broken_70 (zs_gf X (ci := 4) rfl (by decide) zm_in4 kw_X4_34 dX4_broken_71 (zs_iload_n X rfl dX4_broken_74 (zs_iald X (fun _ => rfl) dX4_broken_75 (zs_iconst X (by decide) dX4_broken_76 (zs_iload_n X rfl dX4_broken_77 (zs_ishl X dX4_broken_78 (zs_ior X dX4_broken_79 (zs_goto X dX4_broken_80 (by decide) (zs_iast X (fun _ => rfl) dX4_broken_95 (zs_aload_n X rfl dX4_broken_96 (zs_iconst X (by decide) dX4_broken_97 (zs_pf X (ci := 4) rfl (by decide) zm_in4 kw_X4_88 tyX4 tyX4_ok nmX4 rfl rfl dX4_broken_98 (zs_iload X dX4_broken_101 (zs_iret X rfl dX4_broken_103))))))))))))))))))))))))))))) (zs_sipush X (by decide) dX4_broken_45 (zs_iret X rfl dX4_broken_48)))))))) (zs_sipush X (by decide) dX4_broken_31 (zs_iret X rfl dX4_broken_34)))))))) (zs_sipush X (by decide) dX4_broken_13 (zs_iret X rfl dX4_broken_16)))))))))
set_option maxRecDepth 20000 in
theorem bkX4_over_0 {w : zW} {Γ : zC} {N S : Nat} {Rt : zR} (X : zm_X w Γ mX4_over N S Rt) : ∀ lv st h, (zi_lda 0 (zi_push (.int 0) (zi_pf 4 0 .int (zi_lda 0 (zi_gf 4 17 (zi_if (fun x => x = 0) (zi_push (.int 0) (zm_V w Γ 17)) (zi_push (.int 1) (zm_V w Γ 17)))))))) lv st h → zm_V w Γ 0 lv st h := (zs_aload_n X rfl dX4_over_0 (zs_iconst X (by decide) dX4_over_1 (zs_pf X (ci := 4) rfl (by decide) zm_in4 kw_X4_77 tyX4 tyX4_ok nmX4 rfl rfl dX4_over_2 (zs_aload_n X rfl dX4_over_5 (zs_gf X (ci := 4) rfl (by decide) zm_in4 kw_X4_84 dX4_over_6 (zs_if_eq X dX4_over_9 (by decide) (zs_iconst X (by decide) dX4_over_16 (fun _ _ _ h => h)) (zs_iconst X (by decide) dX4_over_12 (zs_goto X dX4_over_13 (by decide) (fun _ _ _ h => h)))))))))
set_option maxRecDepth 20000 in
theorem bkX4_over_17 {w : zW} {Γ : zC} {N S : Nat} {Rt : zR} (X : zm_X w Γ mX4_over N S Rt) : ∀ lv st h, (zi_sti 2 (zi_lda 0 (zi_ldi 1 (zi_pf 4 17 .boolean (zi_lda 0 (zi_push (.int 0) (zi_pf 4 18 .int (zi_ldi 2 (zi_iret Rt))))))))) lv st h → zm_V w Γ 17 lv st h := (zs_istore_n X rfl (by decide) dX4_over_17 (zs_aload_n X rfl dX4_over_18 (zs_iload_n X rfl dX4_over_19 (zs_pf X (ci := 4) rfl (by decide) zm_in4 kw_X4_84 tyX4 tyX4_ok nmX4 rfl rfl dX4_over_20 (zs_aload_n X rfl dX4_over_23 (zs_iconst X (by decide) dX4_over_24 (zs_pf X (ci := 4) rfl (by decide) zm_in4 kw_X4_88 tyX4 tyX4_ok nmX4 rfl rfl dX4_over_25 (zs_iload_n X rfl dX4_over_28 (zs_iret X rfl dX4_over_29)))))))))
set_option maxRecDepth 20000 in
theorem bkX4_groupOf_0 {w : zW} {Γ : zC} {N S : Nat} {Rt : zR} (X : zm_X w Γ mX4_groupOf N S Rt) : ∀ lv st h, (zi_lda 0 (zi_gf 4 9 (zi_ldi 1 (zi_ia 0 (zi_lda 0 (zi_gf 4 2 (zi_d (fun x y => x - x / y * y) (zi_sti 2 (zi_push (.int 0) (zi_sti 3 (zi_push (.int 0) (zi_sti 4 (zm_V w Γ 17))))))))))))) lv st h → zm_V w Γ 0 lv st h := (zs_aload_n X rfl dX4_groupOf_0 (zs_gf X (ci := 4) rfl (by decide) zm_in4 kw_X4_22 dX4_groupOf_1 (zs_iload_n X rfl dX4_groupOf_4 (zs_iald X (fun _ => rfl) dX4_groupOf_5 (zs_aload_n X rfl dX4_groupOf_6 (zs_gf X (ci := 4) rfl (by decide) zm_in4 kw_X4_101 dX4_groupOf_7 (zs_irem X dX4_groupOf_10 (zs_istore_n X rfl (by decide) dX4_groupOf_11 (zs_iconst X (by decide) dX4_groupOf_12 (zs_istore_n X rfl (by decide) dX4_groupOf_13 (zs_iconst X (by decide) dX4_groupOf_14 (zs_istore X (by decide) dX4_groupOf_15 (fun _ _ _ h => h)))))))))))))
set_option maxRecDepth 20000 in
theorem bkX4_groupOf_17 {w : zW} {Γ : zC} {N S : Nat} {Rt : zR} (X : zm_X w Γ mX4_groupOf N S Rt) : ∀ lv st h, (zi_ldi 4 (zi_lda 0 (zi_gf 4 3 (zi_ic (fun x y => y ≤ x) (zi_ldi 3 (zi_iret Rt)) (zi_lda 0 (zi_gf 4 4 (zi_ldi 4 (zi_ia 0 (zi_ldi 2 (zi_ic (fun x y => y < x) (zi_ldi 3 (zi_sti 3 (zi_inc 4 1 (zm_V w Γ 17)))) (zi_ldi 4 (zi_sti 3 (zi_inc 4 1 (zm_V w Γ 17)))))))))))))) lv st h → zm_V w Γ 17 lv st h := (zs_iload X dX4_groupOf_17 (zs_aload_n X rfl dX4_groupOf_19 (zs_gf X (ci := 4) rfl (by decide) zm_in4 kw_X4_104 dX4_groupOf_20 (zs_icmp_ge X dX4_groupOf_23 (by decide) (zs_iload_n X rfl dX4_groupOf_50 (zs_iret X rfl dX4_groupOf_51)) (zs_aload_n X rfl dX4_groupOf_26 (zs_gf X (ci := 4) rfl (by decide) zm_in4 kw_X4_7 dX4_groupOf_27 (zs_iload X dX4_groupOf_30 (zs_iald X (fun _ => rfl) dX4_groupOf_32 (zs_iload_n X rfl dX4_groupOf_33 (zs_icmp_gt X dX4_groupOf_34 (by decide) (zs_iload_n X rfl dX4_groupOf_42 (zs_istore_n X rfl (by decide) dX4_groupOf_43 (zs_iinc X (by decide) (by decide) dX4_groupOf_44 (zs_goto X dX4_groupOf_47 (by decide) (fun _ _ _ h => h))))) (zs_iload X dX4_groupOf_37 (zs_goto X dX4_groupOf_39 (by decide) (zs_istore_n X rfl (by decide) dX4_groupOf_43 (zs_iinc X (by decide) (by decide) dX4_groupOf_44 (zs_goto X dX4_groupOf_47 (by decide) (fun _ _ _ h => h))))))))))))))))
set_option maxRecDepth 20000 in
theorem bkX4_middle_0 {w : zW} {Γ : zC} {N S : Nat} {Rt : zR} (X : zm_X w Γ mX4_middle N S Rt) : ∀ lv st h, (zi_push (.int (-48)) (zi_ldi 0 (zi_b (fun x y => x * y) (zi_iret Rt)))) lv st h → zm_V w Γ 0 lv st h := (zs_bipush X (by decide) dX4_middle_0 (zs_iload_n X rfl dX4_middle_2 (zs_imul X dX4_middle_3 (zs_iret X rfl dX4_middle_4))))
set_option maxRecDepth 20000 in
theorem bkX4_highest_0 {w : zW} {Γ : zC} {N S : Nat} {Rt : zR} (X : zm_X w Γ mX4_highest N S Rt) : ∀ lv st h, (zi_lda 0 (zi_gf 4 14 (zi_push (.int 4) (zi_ldi 1 (zi_b (fun x y => x * y) (zi_ia 0 (zi_sti 2 (zi_push (.int 1) (zi_sti 3 (zm_V w Γ 11)))))))))) lv st h → zm_V w Γ 0 lv st h := (zs_aload_n X rfl dX4_highest_0 (zs_gf X (ci := 4) rfl (by decide) zm_in4 kw_X4_37 dX4_highest_1 (zs_iconst X (by decide) dX4_highest_4 (zs_iload_n X rfl dX4_highest_5 (zs_imul X dX4_highest_6 (zs_iald X (fun _ => rfl) dX4_highest_7 (zs_istore_n X rfl (by decide) dX4_highest_8 (zs_iconst X (by decide) dX4_highest_9 (zs_istore_n X rfl (by decide) dX4_highest_10 (fun _ _ _ h => h))))))))))
set_option maxRecDepth 20000 in
theorem bkX4_highest_11 {w : zW} {Γ : zC} {N S : Nat} {Rt : zR} (X : zm_X w Γ mX4_highest N S Rt) : ∀ lv st h, (zi_ldi 3 (zi_lda 0 (zi_gf 4 15 (zi_ldi 1 (zi_ia 0 (zi_ic (fun x y => y ≤ x) (zi_push (.int 2) (zi_ldi 2 (zi_b (fun x y => x * y) (zi_iret Rt)))) (zi_lda 0 (zi_gf 4 14 (zi_push (.int 4) (zi_ldi 1 (zi_b (fun x y => x * y) (zi_ldi 3 (zi_b (fun x y => x + y) (zi_ia 0 (zi_ldi 2 (zi_ic (fun x y => x ≤ y) (zi_ldi 2 (zi_sti 2 (zi_inc 3 1 (zm_V w Γ 11)))) (zi_lda 0 (zi_gf 4 14 (zi_push (.int 4) (zi_ldi 1 (zi_b (fun x y => x * y) (zi_ldi 3 (zi_b (fun x y => x + y) (zi_ia 0 (zi_sti 2 (zi_inc 3 1 (zm_V w Γ 11))))))))))))))))))))))))))) lv st h → zm_V w Γ 11 lv st h := (zs_iload_n X rfl dX4_highest_11 (zs_aload_n X rfl dX4_highest_12 (zs_gf X (ci := 4) rfl (by decide) zm_in4 kw_X4_40 dX4_highest_13 (zs_iload_n X rfl dX4_highest_16 (zs_iald X (fun _ => rfl) dX4_highest_17 (zs_icmp_ge X dX4_highest_18 (by decide) (zs_iconst X (by decide) dX4_highest_56 (zs_iload_n X rfl dX4_highest_57 (zs_imul X dX4_highest_58 (zs_iret X rfl dX4_highest_59)))) (zs_aload_n X rfl dX4_highest_21 (zs_gf X (ci := 4) rfl (by decide) zm_in4 kw_X4_37 dX4_highest_22 (zs_iconst X (by decide) dX4_highest_25 (zs_iload_n X rfl dX4_highest_26 (zs_imul X dX4_highest_27 (zs_iload_n X rfl dX4_highest_28 (zs_iadd X dX4_highest_29 (zs_iald X (fun _ => rfl) dX4_highest_30 (zs_iload_n X rfl dX4_highest_31 (zs_icmp_le X dX4_highest_32 (by decide) (zs_iload_n X rfl dX4_highest_48 (zs_istore_n X rfl (by decide) dX4_highest_49 (zs_iinc X (by decide) (by decide) dX4_highest_50 (zs_goto X dX4_highest_53 (by decide) (fun _ _ _ h => h))))) (zs_aload_n X rfl dX4_highest_35 (zs_gf X (ci := 4) rfl (by decide) zm_in4 kw_X4_37 dX4_highest_36 (zs_iconst X (by decide) dX4_highest_39 (zs_iload_n X rfl dX4_highest_40 (zs_imul X dX4_highest_41 (zs_iload_n X rfl dX4_highest_42 (zs_iadd X dX4_highest_43 (zs_iald X (fun _ => rfl) dX4_highest_44 (zs_goto X dX4_highest_45 (by decide) (zs_istore_n X rfl (by decide) dX4_highest_49 (zs_iinc X (by decide) (by decide) dX4_highest_50 (zs_goto X dX4_highest_53 (by decide) (fun _ _ _ h => h)))))))))))))))))))))))))))))
set_option maxRecDepth 20000 in
theorem bkX4_lowest_0 {w : zW} {Γ : zC} {N S : Nat} {Rt : zR} (X : zm_X w Γ mX4_lowest N S Rt) : ∀ lv st h, (zi_lda 0 (zi_gf 4 14 (zi_push (.int 4) (zi_ldi 1 (zi_b (fun x y => x * y) (zi_ia 0 (zi_sti 2 (zi_push (.int 1) (zi_sti 3 (zm_V w Γ 11)))))))))) lv st h → zm_V w Γ 0 lv st h := (zs_aload_n X rfl dX4_lowest_0 (zs_gf X (ci := 4) rfl (by decide) zm_in4 kw_X4_37 dX4_lowest_1 (zs_iconst X (by decide) dX4_lowest_4 (zs_iload_n X rfl dX4_lowest_5 (zs_imul X dX4_lowest_6 (zs_iald X (fun _ => rfl) dX4_lowest_7 (zs_istore_n X rfl (by decide) dX4_lowest_8 (zs_iconst X (by decide) dX4_lowest_9 (zs_istore_n X rfl (by decide) dX4_lowest_10 (fun _ _ _ h => h))))))))))
set_option maxRecDepth 20000 in
theorem bkX4_lowest_11 {w : zW} {Γ : zC} {N S : Nat} {Rt : zR} (X : zm_X w Γ mX4_lowest N S Rt) : ∀ lv st h, (zi_ldi 3 (zi_lda 0 (zi_gf 4 15 (zi_ldi 1 (zi_ia 0 (zi_ic (fun x y => y ≤ x) (zi_push (.int 2) (zi_ldi 2 (zi_b (fun x y => x * y) (zi_iret Rt)))) (zi_lda 0 (zi_gf 4 14 (zi_push (.int 4) (zi_ldi 1 (zi_b (fun x y => x * y) (zi_ldi 3 (zi_b (fun x y => x + y) (zi_ia 0 (zi_ldi 2 (zi_ic (fun x y => y ≤ x) (zi_ldi 2 (zi_sti 2 (zi_inc 3 1 (zm_V w Γ 11)))) (zi_lda 0 (zi_gf 4 14 (zi_push (.int 4) (zi_ldi 1 (zi_b (fun x y => x * y) (zi_ldi 3 (zi_b (fun x y => x + y) (zi_ia 0 (zi_sti 2 (zi_inc 3 1 (zm_V w Γ 11))))))))))))))))))))))))))) lv st h → zm_V w Γ 11 lv st h := (zs_iload_n X rfl dX4_lowest_11 (zs_aload_n X rfl dX4_lowest_12 (zs_gf X (ci := 4) rfl (by decide) zm_in4 kw_X4_40 dX4_lowest_13 (zs_iload_n X rfl dX4_lowest_16 (zs_iald X (fun _ => rfl) dX4_lowest_17 (zs_icmp_ge X dX4_lowest_18 (by decide) (zs_iconst X (by decide) dX4_lowest_56 (zs_iload_n X rfl dX4_lowest_57 (zs_imul X dX4_lowest_58 (zs_iret X rfl dX4_lowest_59)))) (zs_aload_n X rfl dX4_lowest_21 (zs_gf X (ci := 4) rfl (by decide) zm_in4 kw_X4_37 dX4_lowest_22 (zs_iconst X (by decide) dX4_lowest_25 (zs_iload_n X rfl dX4_lowest_26 (zs_imul X dX4_lowest_27 (zs_iload_n X rfl dX4_lowest_28 (zs_iadd X dX4_lowest_29 (zs_iald X (fun _ => rfl) dX4_lowest_30 (zs_iload_n X rfl dX4_lowest_31 (zs_icmp_ge X dX4_lowest_32 (by decide) (zs_iload_n X rfl dX4_lowest_48 (zs_istore_n X rfl (by decide) dX4_lowest_49 (zs_iinc X (by decide) (by decide) dX4_lowest_50 (zs_goto X dX4_lowest_53 (by decide) (fun _ _ _ h => h))))) (zs_aload_n X rfl dX4_lowest_35 (zs_gf X (ci := 4) rfl (by decide) zm_in4 kw_X4_37 dX4_lowest_36 (zs_iconst X (by decide) dX4_lowest_39 (zs_iload_n X rfl dX4_lowest_40 (zs_imul X dX4_lowest_41 (zs_iload_n X rfl dX4_lowest_42 (zs_iadd X dX4_lowest_43 (zs_iald X (fun _ => rfl) dX4_lowest_44 (zs_goto X dX4_lowest_45 (by decide) (zs_istore_n X rfl (by decide) dX4_lowest_49 (zs_iinc X (by decide) (by decide) dX4_lowest_50 (zs_goto X dX4_lowest_53 (by decide) (fun _ _ _ h => h)))))))))))))))))))))))))))))
set_option maxRecDepth 20000 in
theorem bkX4_near_0 {w : zW} {Γ : zC} {N S : Nat} {Rt : zR} (X : zm_X w Γ mX4_near N S Rt) : ∀ lv st h, (zi_lda 0 (zi_gf 4 11 (zi_ldi 1 (zi_ia 0 (zi_cs w mX4_middle 1 N S (zi_ldi 2 (zi_if (fun x => x ≤ 0) (zi_lda 0 (zi_ldi 1 (zi_cv w mX4_lowest 4 2 N S (zi_b (fun x y => x + y) (zi_iret Rt))))) (zi_lda 0 (zi_ldi 1 (zi_cv w mX4_highest 4 2 N S (zi_b (fun x y => x + y) (zi_iret Rt)))))))))))) lv st h → zm_V w Γ 0 lv st h := (zs_aload_n X rfl dX4_near_0 (zs_gf X (ci := 4) rfl (by decide) zm_in4 kw_X4_28 dX4_near_1 (zs_iload_n X rfl dX4_near_4 (zs_iald X (fun _ => rfl) dX4_near_5 (zs_cs X (M' := mX4_middle) (n := 1) kd_X4_middle ki_X4 (by decide +kernel) (by decide) kw_X4_135 ks_X4_middle dX4_near_6 (zs_iload_n X rfl dX4_near_9 (zs_if_le X dX4_near_10 (by decide) (zs_aload_n X rfl dX4_near_21 (zs_iload_n X rfl dX4_near_22 (zs_cv X (M' := mX4_lowest) (n := 1) kd_X4_lowest ki_X4 (by decide +kernel) (by decide) kw_X4_142 rfl ks_X4_lowest kl_X4_lowest dX4_near_23 (zs_iadd X dX4_near_26 (zs_iret X rfl dX4_near_27))))) (zs_aload_n X rfl dX4_near_13 (zs_iload_n X rfl dX4_near_14 (zs_cv X (M' := mX4_highest) (n := 1) kd_X4_highest ki_X4 (by decide +kernel) (by decide) kw_X4_139 rfl ks_X4_highest kl_X4_highest dX4_near_15 (zs_goto X dX4_near_18 (by decide) (zs_iadd X dX4_near_26 (zs_iret X rfl dX4_near_27)))))))))))))
set_option maxRecDepth 20000 in
theorem bkX4_levels_0 {w : zW} {Γ : zC} {N S : Nat} {Rt : zR} (X : zm_X w Γ mX4_levels N S Rt) : ∀ lv st h, (zi_lda 0 (zi_gf 4 8 (zi_ldi 1 (zi_ia 0 (zi_push (.int 3) (zi_ic (fun x y => y ≤ x) (zi_lda 0 (zi_gf 4 8 (zi_ldi 1 (zi_ia 0 (zi_push (.int 2) (zi_b (fun x y => x - y) (zi_iret Rt))))))) (zi_push (.int 0) (zi_iret Rt)))))))) lv st h → zm_V w Γ 0 lv st h := (zs_aload_n X rfl dX4_levels_0 (zs_gf X (ci := 4) rfl (by decide) zm_in4 kw_X4_19 dX4_levels_1 (zs_iload_n X rfl dX4_levels_4 (zs_iald X (fun _ => rfl) dX4_levels_5 (zs_iconst X (by decide) dX4_levels_6 (zs_icmp_ge X dX4_levels_7 (by decide) (zs_aload_n X rfl dX4_levels_14 (zs_gf X (ci := 4) rfl (by decide) zm_in4 kw_X4_19 dX4_levels_15 (zs_iload_n X rfl dX4_levels_18 (zs_iald X (fun _ => rfl) dX4_levels_19 (zs_iconst X (by decide) dX4_levels_20 (zs_isub X dX4_levels_21 (zs_iret X rfl dX4_levels_22))))))) (zs_iconst X (by decide) dX4_levels_10 (zs_goto X dX4_levels_11 (by decide) (zs_iret X rfl dX4_levels_22)))))))))
set_option maxRecDepth 20000 in
theorem bkX4_more_0 {w : zW} {Γ : zC} {N S : Nat} {Rt : zR} (X : zm_X w Γ mX4_more N S Rt) : ∀ lv st h, (zi_lda 0 (zi_ldi 1 (zi_cv w mX4_levels 4 2 N S (zi_push (.int 2) (zi_ic (fun x y => x ≤ y) (zi_push (.int 0) (zi_iret Rt)) (zi_push (.int 3) (zi_lda 0 (zi_ldi 1 (zi_cv w mX4_levels 4 2 N S (zi_push (.int 2) (zi_b (fun x y => x - y) (zi_b (fun x y => x * y) (zi_iret Rt))))))))))))) lv st h → zm_V w Γ 0 lv st h := (zs_aload_n X rfl dX4_more_0 (zs_iload_n X rfl dX4_more_1 (zs_cv X (M' := mX4_levels) (n := 1) kd_X4_levels ki_X4 (by decide +kernel) (by decide) kw_X4_145 rfl ks_X4_levels kl_X4_levels dX4_more_2 (zs_iconst X (by decide) dX4_more_5 (zs_icmp_le X dX4_more_6 (by decide) (zs_iconst X (by decide) dX4_more_21 (zs_iret X rfl dX4_more_22)) (zs_iconst X (by decide) dX4_more_9 (zs_aload_n X rfl dX4_more_10 (zs_iload_n X rfl dX4_more_11 (zs_cv X (M' := mX4_levels) (n := 1) kd_X4_levels ki_X4 (by decide +kernel) (by decide) kw_X4_145 rfl ks_X4_levels kl_X4_levels dX4_more_12 (zs_iconst X (by decide) dX4_more_15 (zs_isub X dX4_more_16 (zs_imul X dX4_more_17 (zs_goto X dX4_more_18 (by decide) (zs_iret X rfl dX4_more_22))))))))))))))
