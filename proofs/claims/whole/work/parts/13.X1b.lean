theorem dX1_tryHeights_0 : decode cX1_tryHeights 0 = .ok (.aload_n 0, 1) := by decide +kernel
theorem dX1_tryHeights_1 : decode cX1_tryHeights 1 = .ok (.getfield 51, 3) := by decide +kernel
theorem dX1_tryHeights_4 : decode cX1_tryHeights 4 = .ok (.ifCond .ne 8, 3) := by decide +kernel
theorem dX1_tryHeights_7 : decode cX1_tryHeights 7 = .ok (.bipush 48, 2) := by decide +kernel
theorem dX1_tryHeights_9 : decode cX1_tryHeights 9 = .ok (.goto 5, 3) := by decide +kernel
theorem dX1_tryHeights_12 : decode cX1_tryHeights 12 = .ok (.bipush 36, 2) := by decide +kernel
theorem dX1_tryHeights_14 : decode cX1_tryHeights 14 = .ok (.istore_n 3, 1) := by decide +kernel
theorem dX1_tryHeights_15 : decode cX1_tryHeights 15 = .ok (.aload_n 0, 1) := by decide +kernel
theorem dX1_tryHeights_16 : decode cX1_tryHeights 16 = .ok (.getfield 51, 3) := by decide +kernel
theorem dX1_tryHeights_19 : decode cX1_tryHeights 19 = .ok (.ifCond .ne 7, 3) := by decide +kernel
theorem dX1_tryHeights_22 : decode cX1_tryHeights 22 = .ok (.iconst 1, 1) := by decide +kernel
theorem dX1_tryHeights_23 : decode cX1_tryHeights 23 = .ok (.goto 7, 3) := by decide +kernel
theorem dX1_tryHeights_26 : decode cX1_tryHeights 26 = .ok (.aload_n 0, 1) := by decide +kernel
theorem dX1_tryHeights_27 : decode cX1_tryHeights 27 = .ok (.getfield 51, 3) := by decide +kernel
theorem dX1_tryHeights_30 : decode cX1_tryHeights 30 = .ok (.istore 4, 2) := by decide +kernel
theorem dX1_tryHeights_32 : decode cX1_tryHeights 32 = .ok (.iconst 0, 1) := by decide +kernel
theorem dX1_tryHeights_33 : decode cX1_tryHeights 33 = .ok (.istore 5, 2) := by decide +kernel
theorem dX1_tryHeights_35 : decode cX1_tryHeights 35 = .ok (.iload 5, 2) := by decide +kernel
theorem dX1_tryHeights_37 : decode cX1_tryHeights 37 = .ok (.iload_n 3, 1) := by decide +kernel
theorem dX1_tryHeights_38 : decode cX1_tryHeights 38 = .ok (.if_icmp .gt 70, 3) := by decide +kernel
theorem dX1_tryHeights_41 : decode cX1_tryHeights 41 = .ok (.iload_n 1, 1) := by decide +kernel
theorem dX1_tryHeights_42 : decode cX1_tryHeights 42 = .ok (.iload 4, 2) := by decide +kernel
theorem dX1_tryHeights_44 : decode cX1_tryHeights 44 = .ok (.iload 5, 2) := by decide +kernel
theorem dX1_tryHeights_46 : decode cX1_tryHeights 46 = .ok (.imul, 1) := by decide +kernel
theorem dX1_tryHeights_47 : decode cX1_tryHeights 47 = .ok (.iadd, 1) := by decide +kernel
theorem dX1_tryHeights_48 : decode cX1_tryHeights 48 = .ok (.istore 6, 2) := by decide +kernel
theorem dX1_tryHeights_50 : decode cX1_tryHeights 50 = .ok (.aload_n 0, 1) := by decide +kernel
theorem dX1_tryHeights_51 : decode cX1_tryHeights 51 = .ok (.iload 6, 2) := by decide +kernel
theorem dX1_tryHeights_53 : decode cX1_tryHeights 53 = .ok (.iload_n 2, 1) := by decide +kernel
theorem dX1_tryHeights_54 : decode cX1_tryHeights 54 = .ok (.invokevirtual 105, 3) := by decide +kernel
theorem dX1_tryHeights_57 : decode cX1_tryHeights 57 = .ok (.lstore 7, 2) := by decide +kernel
theorem dX1_tryHeights_59 : decode cX1_tryHeights 59 = .ok (.lload 7, 2) := by decide +kernel
theorem dX1_tryHeights_61 : decode cX1_tryHeights 61 = .ok (.lconst 0, 1) := by decide +kernel
theorem dX1_tryHeights_62 : decode cX1_tryHeights 62 = .ok (.lcmp, 1) := by decide +kernel
theorem dX1_tryHeights_63 : decode cX1_tryHeights 63 = .ok (.ifCond .lt 39, 3) := by decide +kernel
theorem dX1_tryHeights_66 : decode cX1_tryHeights 66 = .ok (.aload_n 0, 1) := by decide +kernel
theorem dX1_tryHeights_67 : decode cX1_tryHeights 67 = .ok (.getfield 93, 3) := by decide +kernel
theorem dX1_tryHeights_70 : decode cX1_tryHeights 70 = .ok (.lconst 0, 1) := by decide +kernel
theorem dX1_tryHeights_71 : decode cX1_tryHeights 71 = .ok (.lcmp, 1) := by decide +kernel
theorem dX1_tryHeights_72 : decode cX1_tryHeights 72 = .ok (.ifCond .lt 13, 3) := by decide +kernel
theorem dX1_tryHeights_75 : decode cX1_tryHeights 75 = .ok (.lload 7, 2) := by decide +kernel
theorem dX1_tryHeights_77 : decode cX1_tryHeights 77 = .ok (.aload_n 0, 1) := by decide +kernel
theorem dX1_tryHeights_78 : decode cX1_tryHeights 78 = .ok (.getfield 93, 3) := by decide +kernel
theorem dX1_tryHeights_81 : decode cX1_tryHeights 81 = .ok (.lcmp, 1) := by decide +kernel
theorem dX1_tryHeights_82 : decode cX1_tryHeights 82 = .ok (.ifCond .ge 20, 3) := by decide +kernel
theorem dX1_tryHeights_85 : decode cX1_tryHeights 85 = .ok (.aload_n 0, 1) := by decide +kernel
theorem dX1_tryHeights_86 : decode cX1_tryHeights 86 = .ok (.lload 7, 2) := by decide +kernel
theorem dX1_tryHeights_88 : decode cX1_tryHeights 88 = .ok (.putfield 93, 3) := by decide +kernel
theorem dX1_tryHeights_91 : decode cX1_tryHeights 91 = .ok (.aload_n 0, 1) := by decide +kernel
theorem dX1_tryHeights_92 : decode cX1_tryHeights 92 = .ok (.iload 6, 2) := by decide +kernel
theorem dX1_tryHeights_94 : decode cX1_tryHeights 94 = .ok (.putfield 109, 3) := by decide +kernel
theorem dX1_tryHeights_97 : decode cX1_tryHeights 97 = .ok (.aload_n 0, 1) := by decide +kernel
theorem dX1_tryHeights_98 : decode cX1_tryHeights 98 = .ok (.iload_n 2, 1) := by decide +kernel
theorem dX1_tryHeights_99 : decode cX1_tryHeights 99 = .ok (.putfield 112, 3) := by decide +kernel
theorem dX1_tryHeights_102 : decode cX1_tryHeights 102 = .ok (.iinc 5 1, 3) := by decide +kernel
theorem dX1_tryHeights_105 : decode cX1_tryHeights 105 = .ok (.goto (-70), 3) := by decide +kernel
theorem dX1_tryHeights_108 : decode cX1_tryHeights 108 = .ok (.return_, 1) := by decide +kernel
theorem dX1_levelHeight_0 : decode cX1_levelHeight 0 = .ok (.aload_n 0, 1) := by decide +kernel
theorem dX1_levelHeight_1 : decode cX1_levelHeight 1 = .ok (.getfield 11, 3) := by decide +kernel
theorem dX1_levelHeight_4 : decode cX1_levelHeight 4 = .ok (.iconst 0, 1) := by decide +kernel
theorem dX1_levelHeight_5 : decode cX1_levelHeight 5 = .ok (.aaload, 1) := by decide +kernel
theorem dX1_levelHeight_6 : decode cX1_levelHeight 6 = .ok (.getfield 70, 3) := by decide +kernel
theorem dX1_levelHeight_9 : decode cX1_levelHeight 9 = .ok (.aload_n 0, 1) := by decide +kernel
theorem dX1_levelHeight_10 : decode cX1_levelHeight 10 = .ok (.getfield 51, 3) := by decide +kernel
theorem dX1_levelHeight_13 : decode cX1_levelHeight 13 = .ok (.aload_n 0, 1) := by decide +kernel
theorem dX1_levelHeight_14 : decode cX1_levelHeight 14 = .ok (.getfield 11, 3) := by decide +kernel
theorem dX1_levelHeight_17 : decode cX1_levelHeight 17 = .ok (.iconst 0, 1) := by decide +kernel
theorem dX1_levelHeight_18 : decode cX1_levelHeight 18 = .ok (.aaload, 1) := by decide +kernel
theorem dX1_levelHeight_19 : decode cX1_levelHeight 19 = .ok (.getfield 115, 3) := by decide +kernel
theorem dX1_levelHeight_22 : decode cX1_levelHeight 22 = .ok (.imul, 1) := by decide +kernel
theorem dX1_levelHeight_23 : decode cX1_levelHeight 23 = .ok (.iadd, 1) := by decide +kernel
theorem dX1_levelHeight_24 : decode cX1_levelHeight 24 = .ok (.istore_n 1, 1) := by decide +kernel
theorem dX1_levelHeight_25 : decode cX1_levelHeight 25 = .ok (.iconst 1, 1) := by decide +kernel
theorem dX1_levelHeight_26 : decode cX1_levelHeight 26 = .ok (.istore_n 2, 1) := by decide +kernel
theorem dX1_levelHeight_27 : decode cX1_levelHeight 27 = .ok (.iload_n 2, 1) := by decide +kernel
theorem dX1_levelHeight_28 : decode cX1_levelHeight 28 = .ok (.aload_n 0, 1) := by decide +kernel
theorem dX1_levelHeight_29 : decode cX1_levelHeight 29 = .ok (.getfield 17, 3) := by decide +kernel
theorem dX1_levelHeight_32 : decode cX1_levelHeight 32 = .ok (.if_icmp .ge 56, 3) := by decide +kernel
theorem dX1_levelHeight_35 : decode cX1_levelHeight 35 = .ok (.aload_n 0, 1) := by decide +kernel
theorem dX1_levelHeight_36 : decode cX1_levelHeight 36 = .ok (.getfield 11, 3) := by decide +kernel
theorem dX1_levelHeight_39 : decode cX1_levelHeight 39 = .ok (.iload_n 2, 1) := by decide +kernel
theorem dX1_levelHeight_40 : decode cX1_levelHeight 40 = .ok (.aaload, 1) := by decide +kernel
theorem dX1_levelHeight_41 : decode cX1_levelHeight 41 = .ok (.getfield 70, 3) := by decide +kernel
theorem dX1_levelHeight_44 : decode cX1_levelHeight 44 = .ok (.aload_n 0, 1) := by decide +kernel
theorem dX1_levelHeight_45 : decode cX1_levelHeight 45 = .ok (.getfield 51, 3) := by decide +kernel
theorem dX1_levelHeight_48 : decode cX1_levelHeight 48 = .ok (.aload_n 0, 1) := by decide +kernel
theorem dX1_levelHeight_49 : decode cX1_levelHeight 49 = .ok (.getfield 11, 3) := by decide +kernel
theorem dX1_levelHeight_52 : decode cX1_levelHeight 52 = .ok (.iload_n 2, 1) := by decide +kernel
theorem dX1_levelHeight_53 : decode cX1_levelHeight 53 = .ok (.aaload, 1) := by decide +kernel
theorem dX1_levelHeight_54 : decode cX1_levelHeight 54 = .ok (.getfield 115, 3) := by decide +kernel
theorem dX1_levelHeight_57 : decode cX1_levelHeight 57 = .ok (.imul, 1) := by decide +kernel
theorem dX1_levelHeight_58 : decode cX1_levelHeight 58 = .ok (.iadd, 1) := by decide +kernel
theorem dX1_levelHeight_59 : decode cX1_levelHeight 59 = .ok (.istore_n 3, 1) := by decide +kernel
theorem dX1_levelHeight_60 : decode cX1_levelHeight 60 = .ok (.aload_n 0, 1) := by decide +kernel
theorem dX1_levelHeight_61 : decode cX1_levelHeight 61 = .ok (.getfield 51, 3) := by decide +kernel
theorem dX1_levelHeight_64 : decode cX1_levelHeight 64 = .ok (.iconst 1, 1) := by decide +kernel
theorem dX1_levelHeight_65 : decode cX1_levelHeight 65 = .ok (.if_icmp .ne 11, 3) := by decide +kernel
theorem dX1_levelHeight_68 : decode cX1_levelHeight 68 = .ok (.iload_n 1, 1) := by decide +kernel
theorem dX1_levelHeight_69 : decode cX1_levelHeight 69 = .ok (.iload_n 3, 1) := by decide +kernel
theorem dX1_levelHeight_70 : decode cX1_levelHeight 70 = .ok (.invokestatic 34, 3) := by decide +kernel
theorem dX1_levelHeight_73 : decode cX1_levelHeight 73 = .ok (.goto 8, 3) := by decide +kernel
theorem dX1_levelHeight_76 : decode cX1_levelHeight 76 = .ok (.iload_n 1, 1) := by decide +kernel
theorem dX1_levelHeight_77 : decode cX1_levelHeight 77 = .ok (.iload_n 3, 1) := by decide +kernel
theorem dX1_levelHeight_78 : decode cX1_levelHeight 78 = .ok (.invokestatic 67, 3) := by decide +kernel
theorem dX1_levelHeight_81 : decode cX1_levelHeight 81 = .ok (.istore_n 1, 1) := by decide +kernel
theorem dX1_levelHeight_82 : decode cX1_levelHeight 82 = .ok (.iinc 2 1, 3) := by decide +kernel
theorem dX1_levelHeight_85 : decode cX1_levelHeight 85 = .ok (.goto (-58), 3) := by decide +kernel
theorem dX1_levelHeight_88 : decode cX1_levelHeight 88 = .ok (.iload_n 1, 1) := by decide +kernel
theorem dX1_levelHeight_89 : decode cX1_levelHeight 89 = .ok (.ireturn, 1) := by decide +kernel
theorem dX1_slantBadness_0 : decode cX1_slantBadness 0 = .ok (.iload_n 1, 1) := by decide +kernel
theorem dX1_slantBadness_1 : decode cX1_slantBadness 1 = .ok (.aload_n 0, 1) := by decide +kernel
theorem dX1_slantBadness_2 : decode cX1_slantBadness 2 = .ok (.getfield 85, 3) := by decide +kernel
theorem dX1_slantBadness_5 : decode cX1_slantBadness 5 = .ok (.isub, 1) := by decide +kernel
theorem dX1_slantBadness_6 : decode cX1_slantBadness 6 = .ok (.i2l, 1) := by decide +kernel
theorem dX1_slantBadness_7 : decode cX1_slantBadness 7 = .ok (.lstore_n 2, 1) := by decide +kernel
theorem dX1_slantBadness_8 : decode cX1_slantBadness 8 = .ok (.ldc2_w 118, 3) := by decide +kernel
theorem dX1_slantBadness_11 : decode cX1_slantBadness 11 = .ok (.lload_n 2, 1) := by decide +kernel
theorem dX1_slantBadness_12 : decode cX1_slantBadness 12 = .ok (.lmul, 1) := by decide +kernel
theorem dX1_slantBadness_13 : decode cX1_slantBadness 13 = .ok (.lload_n 2, 1) := by decide +kernel
theorem dX1_slantBadness_14 : decode cX1_slantBadness 14 = .ok (.lmul, 1) := by decide +kernel
theorem dX1_slantBadness_15 : decode cX1_slantBadness 15 = .ok (.lreturn, 1) := by decide +kernel
theorem dX1_badnessAt_0 : decode cX1_badnessAt 0 = .ok (.aload_n 0, 1) := by decide +kernel
theorem dX1_badnessAt_1 : decode cX1_badnessAt 1 = .ok (.iload_n 2, 1) := by decide +kernel
theorem dX1_badnessAt_2 : decode cX1_badnessAt 2 = .ok (.invokevirtual 97, 3) := by decide +kernel
theorem dX1_badnessAt_5 : decode cX1_badnessAt 5 = .ok (.aload_n 0, 1) := by decide +kernel
theorem dX1_badnessAt_6 : decode cX1_badnessAt 6 = .ok (.iload_n 1, 1) := by decide +kernel
theorem dX1_badnessAt_7 : decode cX1_badnessAt 7 = .ok (.invokevirtual 120, 3) := by decide +kernel
theorem dX1_badnessAt_10 : decode cX1_badnessAt 10 = .ok (.i2l, 1) := by decide +kernel
theorem dX1_badnessAt_11 : decode cX1_badnessAt 11 = .ok (.ladd, 1) := by decide +kernel
theorem dX1_badnessAt_12 : decode cX1_badnessAt 12 = .ok (.aload_n 0, 1) := by decide +kernel
theorem dX1_badnessAt_13 : decode cX1_badnessAt 13 = .ok (.iload_n 1, 1) := by decide +kernel
theorem dX1_badnessAt_14 : decode cX1_badnessAt 14 = .ok (.iload_n 2, 1) := by decide +kernel
theorem dX1_badnessAt_15 : decode cX1_badnessAt 15 = .ok (.iadd, 1) := by decide +kernel
theorem dX1_badnessAt_16 : decode cX1_badnessAt 16 = .ok (.invokevirtual 120, 3) := by decide +kernel
theorem dX1_badnessAt_19 : decode cX1_badnessAt 19 = .ok (.i2l, 1) := by decide +kernel
theorem dX1_badnessAt_20 : decode cX1_badnessAt 20 = .ok (.ladd, 1) := by decide +kernel
theorem dX1_badnessAt_21 : decode cX1_badnessAt 21 = .ok (.lstore_n 3, 1) := by decide +kernel
theorem dX1_badnessAt_22 : decode cX1_badnessAt 22 = .ok (.iconst 0, 1) := by decide +kernel
theorem dX1_badnessAt_23 : decode cX1_badnessAt 23 = .ok (.istore 5, 2) := by decide +kernel
theorem dX1_badnessAt_25 : decode cX1_badnessAt 25 = .ok (.iload 5, 2) := by decide +kernel
theorem dX1_badnessAt_27 : decode cX1_badnessAt 27 = .ok (.aload_n 0, 1) := by decide +kernel
theorem dX1_badnessAt_28 : decode cX1_badnessAt 28 = .ok (.getfield 17, 3) := by decide +kernel
theorem dX1_badnessAt_31 : decode cX1_badnessAt 31 = .ok (.if_icmp .ge 79, 3) := by decide +kernel
theorem dX1_badnessAt_34 : decode cX1_badnessAt 34 = .ok (.aload_n 0, 1) := by decide +kernel
theorem dX1_badnessAt_35 : decode cX1_badnessAt 35 = .ok (.getfield 11, 3) := by decide +kernel
theorem dX1_badnessAt_38 : decode cX1_badnessAt 38 = .ok (.iload 5, 2) := by decide +kernel
theorem dX1_badnessAt_40 : decode cX1_badnessAt 40 = .ok (.aaload, 1) := by decide +kernel
theorem dX1_badnessAt_41 : decode cX1_badnessAt 41 = .ok (.iload_n 1, 1) := by decide +kernel
theorem dX1_badnessAt_42 : decode cX1_badnessAt 42 = .ok (.iload_n 2, 1) := by decide +kernel
theorem dX1_badnessAt_43 : decode cX1_badnessAt 43 = .ok (.iload 5, 2) := by decide +kernel
theorem dX1_badnessAt_45 : decode cX1_badnessAt 45 = .ok (.imul, 1) := by decide +kernel
theorem dX1_badnessAt_46 : decode cX1_badnessAt 46 = .ok (.aload_n 0, 1) := by decide +kernel
theorem dX1_badnessAt_47 : decode cX1_badnessAt 47 = .ok (.getfield 17, 3) := by decide +kernel
theorem dX1_badnessAt_50 : decode cX1_badnessAt 50 = .ok (.iconst 1, 1) := by decide +kernel
theorem dX1_badnessAt_51 : decode cX1_badnessAt 51 = .ok (.isub, 1) := by decide +kernel
theorem dX1_badnessAt_52 : decode cX1_badnessAt 52 = .ok (.invokestatic 124, 3) := by decide +kernel
theorem dX1_badnessAt_55 : decode cX1_badnessAt 55 = .ok (.iadd, 1) := by decide +kernel
theorem dX1_badnessAt_56 : decode cX1_badnessAt 56 = .ok (.invokevirtual 127, 3) := by decide +kernel
theorem dX1_badnessAt_59 : decode cX1_badnessAt 59 = .ok (.istore 6, 2) := by decide +kernel
theorem dX1_badnessAt_61 : decode cX1_badnessAt 61 = .ok (.iload 6, 2) := by decide +kernel
theorem dX1_badnessAt_63 : decode cX1_badnessAt 63 = .ok (.aload_n 0, 1) := by decide +kernel
theorem dX1_badnessAt_64 : decode cX1_badnessAt 64 = .ok (.getfield 11, 3) := by decide +kernel
theorem dX1_badnessAt_67 : decode cX1_badnessAt 67 = .ok (.iload 5, 2) := by decide +kernel
theorem dX1_badnessAt_69 : decode cX1_badnessAt 69 = .ok (.aaload, 1) := by decide +kernel
theorem dX1_badnessAt_70 : decode cX1_badnessAt 70 = .ok (.getfield 115, 3) := by decide +kernel
theorem dX1_badnessAt_73 : decode cX1_badnessAt 73 = .ok (.if_icmp .ge 7, 3) := by decide +kernel
theorem dX1_badnessAt_76 : decode cX1_badnessAt 76 = .ok (.ldc2_w 91, 3) := by decide +kernel
theorem dX1_badnessAt_79 : decode cX1_badnessAt 79 = .ok (.lreturn, 1) := by decide +kernel
theorem dX1_badnessAt_80 : decode cX1_badnessAt 80 = .ok (.iload 6, 2) := by decide +kernel
theorem dX1_badnessAt_82 : decode cX1_badnessAt 82 = .ok (.aload_n 0, 1) := by decide +kernel
theorem dX1_badnessAt_83 : decode cX1_badnessAt 83 = .ok (.getfield 11, 3) := by decide +kernel
theorem dX1_badnessAt_86 : decode cX1_badnessAt 86 = .ok (.iload 5, 2) := by decide +kernel
theorem dX1_badnessAt_88 : decode cX1_badnessAt 88 = .ok (.aaload, 1) := by decide +kernel
theorem dX1_badnessAt_89 : decode cX1_badnessAt 89 = .ok (.getfield 130, 3) := by decide +kernel
theorem dX1_badnessAt_92 : decode cX1_badnessAt 92 = .ok (.isub, 1) := by decide +kernel
theorem dX1_badnessAt_93 : decode cX1_badnessAt 93 = .ok (.i2l, 1) := by decide +kernel
theorem dX1_badnessAt_94 : decode cX1_badnessAt 94 = .ok (.lstore 7, 2) := by decide +kernel
theorem dX1_badnessAt_96 : decode cX1_badnessAt 96 = .ok (.lload_n 3, 1) := by decide +kernel
theorem dX1_badnessAt_97 : decode cX1_badnessAt 97 = .ok (.lload 7, 2) := by decide +kernel
theorem dX1_badnessAt_99 : decode cX1_badnessAt 99 = .ok (.lload 7, 2) := by decide +kernel
theorem dX1_badnessAt_101 : decode cX1_badnessAt 101 = .ok (.lmul, 1) := by decide +kernel
theorem dX1_badnessAt_102 : decode cX1_badnessAt 102 = .ok (.ladd, 1) := by decide +kernel
theorem dX1_badnessAt_103 : decode cX1_badnessAt 103 = .ok (.lstore_n 3, 1) := by decide +kernel
theorem dX1_badnessAt_104 : decode cX1_badnessAt 104 = .ok (.iinc 5 1, 3) := by decide +kernel
theorem dX1_badnessAt_107 : decode cX1_badnessAt 107 = .ok (.goto (-82), 3) := by decide +kernel
theorem dX1_badnessAt_110 : decode cX1_badnessAt 110 = .ok (.lload_n 3, 1) := by decide +kernel
theorem dX1_badnessAt_111 : decode cX1_badnessAt 111 = .ok (.lreturn, 1) := by decide +kernel
theorem dX1_wedgeBadness_0 : decode cX1_wedgeBadness 0 = .ok (.iload_n 1, 1) := by decide +kernel
theorem dX1_wedgeBadness_1 : decode cX1_wedgeBadness 1 = .ok (.aload_n 0, 1) := by decide +kernel
theorem dX1_wedgeBadness_2 : decode cX1_wedgeBadness 2 = .ok (.getfield 11, 3) := by decide +kernel
theorem dX1_wedgeBadness_5 : decode cX1_wedgeBadness 5 = .ok (.iconst 0, 1) := by decide +kernel
theorem dX1_wedgeBadness_6 : decode cX1_wedgeBadness 6 = .ok (.aaload, 1) := by decide +kernel
theorem dX1_wedgeBadness_7 : decode cX1_wedgeBadness 7 = .ok (.invokevirtual 133, 3) := by decide +kernel
theorem dX1_wedgeBadness_10 : decode cX1_wedgeBadness 10 = .ok (.isub, 1) := by decide +kernel
theorem dX1_wedgeBadness_11 : decode cX1_wedgeBadness 11 = .ok (.istore_n 2, 1) := by decide +kernel
theorem dX1_wedgeBadness_12 : decode cX1_wedgeBadness 12 = .ok (.aload_n 0, 1) := by decide +kernel
theorem dX1_wedgeBadness_13 : decode cX1_wedgeBadness 13 = .ok (.getfield 51, 3) := by decide +kernel
theorem dX1_wedgeBadness_16 : decode cX1_wedgeBadness 16 = .ok (.ifCond .eq 27, 3) := by decide +kernel
theorem dX1_wedgeBadness_19 : decode cX1_wedgeBadness 19 = .ok (.iload_n 2, 1) := by decide +kernel
theorem dX1_wedgeBadness_20 : decode cX1_wedgeBadness 20 = .ok (.bipush (-8), 2) := by decide +kernel
theorem dX1_wedgeBadness_22 : decode cX1_wedgeBadness 22 = .ok (.if_icmp .lt 21, 3) := by decide +kernel
theorem dX1_wedgeBadness_25 : decode cX1_wedgeBadness 25 = .ok (.iload_n 2, 1) := by decide +kernel
theorem dX1_wedgeBadness_26 : decode cX1_wedgeBadness 26 = .ok (.bipush 8, 2) := by decide +kernel
theorem dX1_wedgeBadness_28 : decode cX1_wedgeBadness 28 = .ok (.if_icmp .gt 15, 3) := by decide +kernel
theorem dX1_wedgeBadness_31 : decode cX1_wedgeBadness 31 = .ok (.iload_n 2, 1) := by decide +kernel
theorem dX1_wedgeBadness_32 : decode cX1_wedgeBadness 32 = .ok (.iconst 3, 1) := by decide +kernel
theorem dX1_wedgeBadness_33 : decode cX1_wedgeBadness 33 = .ok (.iand, 1) := by decide +kernel
theorem dX1_wedgeBadness_34 : decode cX1_wedgeBadness 34 = .ok (.iconst 2, 1) := by decide +kernel
theorem dX1_wedgeBadness_35 : decode cX1_wedgeBadness 35 = .ok (.if_icmp .ne 8, 3) := by decide +kernel
theorem dX1_wedgeBadness_38 : decode cX1_wedgeBadness 38 = .ok (.bipush 25, 2) := by decide +kernel
theorem dX1_wedgeBadness_40 : decode cX1_wedgeBadness 40 = .ok (.goto 4, 3) := by decide +kernel
theorem dX1_wedgeBadness_43 : decode cX1_wedgeBadness 43 = .ok (.iconst 0, 1) := by decide +kernel
theorem dX1_wedgeBadness_44 : decode cX1_wedgeBadness 44 = .ok (.ireturn, 1) := by decide +kernel
theorem dX1_heightAt_0 : decode cX1_heightAt 0 = .ok (.aload_n 0, 1) := by decide +kernel
theorem dX1_heightAt_1 : decode cX1_heightAt 1 = .ok (.getfield 109, 3) := by decide +kernel
theorem dX1_heightAt_4 : decode cX1_heightAt 4 = .ok (.aload_n 0, 1) := by decide +kernel
theorem dX1_heightAt_5 : decode cX1_heightAt 5 = .ok (.getfield 112, 3) := by decide +kernel
theorem dX1_heightAt_8 : decode cX1_heightAt 8 = .ok (.iload_n 1, 1) := by decide +kernel
theorem dX1_heightAt_9 : decode cX1_heightAt 9 = .ok (.imul, 1) := by decide +kernel
theorem dX1_heightAt_10 : decode cX1_heightAt 10 = .ok (.aload_n 0, 1) := by decide +kernel
theorem dX1_heightAt_11 : decode cX1_heightAt 11 = .ok (.getfield 17, 3) := by decide +kernel
theorem dX1_heightAt_14 : decode cX1_heightAt 14 = .ok (.iconst 1, 1) := by decide +kernel
theorem dX1_heightAt_15 : decode cX1_heightAt 15 = .ok (.isub, 1) := by decide +kernel
theorem dX1_heightAt_16 : decode cX1_heightAt 16 = .ok (.invokestatic 124, 3) := by decide +kernel
theorem dX1_heightAt_19 : decode cX1_heightAt 19 = .ok (.iadd, 1) := by decide +kernel
theorem dX1_heightAt_20 : decode cX1_heightAt 20 = .ok (.ireturn, 1) := by decide +kernel
theorem dX1_laneAt_0 : decode cX1_laneAt 0 = .ok (.iconst 3, 1) := by decide +kernel
theorem dX1_laneAt_1 : decode cX1_laneAt 1 = .ok (.iload_n 2, 1) := by decide +kernel
theorem dX1_laneAt_2 : decode cX1_laneAt 2 = .ok (.iconst 1, 1) := by decide +kernel
theorem dX1_laneAt_3 : decode cX1_laneAt 3 = .ok (.isub, 1) := by decide +kernel
theorem dX1_laneAt_4 : decode cX1_laneAt 4 = .ok (.imul, 1) := by decide +kernel
theorem dX1_laneAt_5 : decode cX1_laneAt 5 = .ok (.istore_n 3, 1) := by decide +kernel
theorem dX1_laneAt_6 : decode cX1_laneAt 6 = .ok (.iload_n 3, 1) := by decide +kernel
theorem dX1_laneAt_7 : decode cX1_laneAt 7 = .ok (.istore 4, 2) := by decide +kernel
theorem dX1_laneAt_9 : decode cX1_laneAt 9 = .ok (.aload_n 0, 1) := by decide +kernel
theorem dX1_laneAt_10 : decode cX1_laneAt 10 = .ok (.getfield 21, 3) := by decide +kernel
theorem dX1_laneAt_13 : decode cX1_laneAt 13 = .ok (.iconst 1, 1) := by decide +kernel
theorem dX1_laneAt_14 : decode cX1_laneAt 14 = .ok (.if_icmp .ne 20, 3) := by decide +kernel
theorem dX1_laneAt_17 : decode cX1_laneAt 17 = .ok (.iload_n 3, 1) := by decide +kernel
theorem dX1_laneAt_18 : decode cX1_laneAt 18 = .ok (.iload_n 1, 1) := by decide +kernel
theorem dX1_laneAt_19 : decode cX1_laneAt 19 = .ok (.imul, 1) := by decide +kernel
theorem dX1_laneAt_20 : decode cX1_laneAt 20 = .ok (.aload_n 0, 1) := by decide +kernel
theorem dX1_laneAt_21 : decode cX1_laneAt 21 = .ok (.getfield 17, 3) := by decide +kernel
theorem dX1_laneAt_24 : decode cX1_laneAt 24 = .ok (.iconst 1, 1) := by decide +kernel
theorem dX1_laneAt_25 : decode cX1_laneAt 25 = .ok (.isub, 1) := by decide +kernel
theorem dX1_laneAt_26 : decode cX1_laneAt 26 = .ok (.invokestatic 124, 3) := by decide +kernel
theorem dX1_laneAt_29 : decode cX1_laneAt 29 = .ok (.istore 4, 2) := by decide +kernel
theorem dX1_laneAt_31 : decode cX1_laneAt 31 = .ok (.goto 32, 3) := by decide +kernel
theorem dX1_laneAt_34 : decode cX1_laneAt 34 = .ok (.aload_n 0, 1) := by decide +kernel
theorem dX1_laneAt_35 : decode cX1_laneAt 35 = .ok (.getfield 21, 3) := by decide +kernel
theorem dX1_laneAt_38 : decode cX1_laneAt 38 = .ok (.iconst 2, 1) := by decide +kernel
theorem dX1_laneAt_39 : decode cX1_laneAt 39 = .ok (.if_icmp .ne 24, 3) := by decide +kernel
theorem dX1_laneAt_42 : decode cX1_laneAt 42 = .ok (.iload_n 3, 1) := by decide +kernel
theorem dX1_laneAt_43 : decode cX1_laneAt 43 = .ok (.aload_n 0, 1) := by decide +kernel
theorem dX1_laneAt_44 : decode cX1_laneAt 44 = .ok (.getfield 17, 3) := by decide +kernel
theorem dX1_laneAt_47 : decode cX1_laneAt 47 = .ok (.iconst 1, 1) := by decide +kernel
theorem dX1_laneAt_48 : decode cX1_laneAt 48 = .ok (.isub, 1) := by decide +kernel
theorem dX1_laneAt_49 : decode cX1_laneAt 49 = .ok (.iload_n 1, 1) := by decide +kernel
theorem dX1_laneAt_50 : decode cX1_laneAt 50 = .ok (.isub, 1) := by decide +kernel
theorem dX1_laneAt_51 : decode cX1_laneAt 51 = .ok (.imul, 1) := by decide +kernel
theorem dX1_laneAt_52 : decode cX1_laneAt 52 = .ok (.aload_n 0, 1) := by decide +kernel
theorem dX1_laneAt_53 : decode cX1_laneAt 53 = .ok (.getfield 17, 3) := by decide +kernel
theorem dX1_laneAt_56 : decode cX1_laneAt 56 = .ok (.iconst 1, 1) := by decide +kernel
theorem dX1_laneAt_57 : decode cX1_laneAt 57 = .ok (.isub, 1) := by decide +kernel
theorem dX1_laneAt_58 : decode cX1_laneAt 58 = .ok (.invokestatic 124, 3) := by decide +kernel
theorem dX1_laneAt_61 : decode cX1_laneAt 61 = .ok (.istore 4, 2) := by decide +kernel
theorem dX1_laneAt_63 : decode cX1_laneAt 63 = .ok (.aload_n 0, 1) := by decide +kernel
theorem dX1_laneAt_64 : decode cX1_laneAt 64 = .ok (.iload_n 1, 1) := by decide +kernel
theorem dX1_laneAt_65 : decode cX1_laneAt 65 = .ok (.invokevirtual 136, 3) := by decide +kernel
theorem dX1_laneAt_68 : decode cX1_laneAt 68 = .ok (.aload_n 0, 1) := by decide +kernel
theorem dX1_laneAt_69 : decode cX1_laneAt 69 = .ok (.getfield 51, 3) := by decide +kernel
theorem dX1_laneAt_72 : decode cX1_laneAt 72 = .ok (.iconst (-1), 1) := by decide +kernel
theorem dX1_laneAt_73 : decode cX1_laneAt 73 = .ok (.if_icmp .ne 8, 3) := by decide +kernel
theorem dX1_laneAt_76 : decode cX1_laneAt 76 = .ok (.iload 4, 2) := by decide +kernel
theorem dX1_laneAt_78 : decode cX1_laneAt 78 = .ok (.goto 6, 3) := by decide +kernel
theorem dX1_laneAt_81 : decode cX1_laneAt 81 = .ok (.iload 4, 2) := by decide +kernel
theorem dX1_laneAt_83 : decode cX1_laneAt 83 = .ok (.ineg, 1) := by decide +kernel
theorem dX1_laneAt_84 : decode cX1_laneAt 84 = .ok (.iadd, 1) := by decide +kernel
theorem dX1_laneAt_85 : decode cX1_laneAt 85 = .ok (.ireturn, 1) := by decide +kernel
theorem dX1_clearOf_0 : decode cX1_clearOf 0 = .ok (.aload_n 0, 1) := by decide +kernel
theorem dX1_clearOf_1 : decode cX1_clearOf 1 = .ok (.iload_n 2, 1) := by decide +kernel
theorem dX1_clearOf_2 : decode cX1_clearOf 2 = .ok (.aload_n 0, 1) := by decide +kernel
theorem dX1_clearOf_3 : decode cX1_clearOf 3 = .ok (.invokevirtual 139, 3) := by decide +kernel
theorem dX1_clearOf_6 : decode cX1_clearOf 6 = .ok (.invokevirtual 142, 3) := by decide +kernel
theorem dX1_clearOf_9 : decode cX1_clearOf 9 = .ok (.istore_n 3, 1) := by decide +kernel
theorem dX1_clearOf_10 : decode cX1_clearOf 10 = .ok (.aload_n 0, 1) := by decide +kernel
theorem dX1_clearOf_11 : decode cX1_clearOf 11 = .ok (.getfield 51, 3) := by decide +kernel
theorem dX1_clearOf_14 : decode cX1_clearOf 14 = .ok (.iconst 1, 1) := by decide +kernel
theorem dX1_clearOf_15 : decode cX1_clearOf 15 = .ok (.if_icmp .ne 29, 3) := by decide +kernel
theorem dX1_clearOf_18 : decode cX1_clearOf 18 = .ok (.iload_n 3, 1) := by decide +kernel
theorem dX1_clearOf_19 : decode cX1_clearOf 19 = .ok (.bipush 6, 2) := by decide +kernel
theorem dX1_clearOf_21 : decode cX1_clearOf 21 = .ok (.isub, 1) := by decide +kernel
theorem dX1_clearOf_22 : decode cX1_clearOf 22 = .ok (.istore 4, 2) := by decide +kernel
theorem dX1_clearOf_24 : decode cX1_clearOf 24 = .ok (.iload_n 1, 1) := by decide +kernel
theorem dX1_clearOf_25 : decode cX1_clearOf 25 = .ok (.iload 4, 2) := by decide +kernel
theorem dX1_clearOf_27 : decode cX1_clearOf 27 = .ok (.if_icmp .gt 7, 3) := by decide +kernel
theorem dX1_clearOf_30 : decode cX1_clearOf 30 = .ok (.iload_n 1, 1) := by decide +kernel
theorem dX1_clearOf_31 : decode cX1_clearOf 31 = .ok (.goto 12, 3) := by decide +kernel
theorem dX1_clearOf_34 : decode cX1_clearOf 34 = .ok (.iload 4, 2) := by decide +kernel
theorem dX1_clearOf_36 : decode cX1_clearOf 36 = .ok (.iload 4, 2) := by decide +kernel
theorem dX1_clearOf_38 : decode cX1_clearOf 38 = .ok (.iconst 4, 1) := by decide +kernel
theorem dX1_clearOf_39 : decode cX1_clearOf 39 = .ok (.invokestatic 145, 3) := by decide +kernel
theorem dX1_clearOf_42 : decode cX1_clearOf 42 = .ok (.isub, 1) := by decide +kernel
theorem dX1_clearOf_43 : decode cX1_clearOf 43 = .ok (.ireturn, 1) := by decide +kernel
theorem dX1_clearOf_44 : decode cX1_clearOf 44 = .ok (.aload_n 0, 1) := by decide +kernel
theorem dX1_clearOf_45 : decode cX1_clearOf 45 = .ok (.getfield 51, 3) := by decide +kernel
theorem dX1_clearOf_48 : decode cX1_clearOf 48 = .ok (.iconst (-1), 1) := by decide +kernel
theorem dX1_clearOf_49 : decode cX1_clearOf 49 = .ok (.if_icmp .ne 30, 3) := by decide +kernel
theorem dX1_clearOf_52 : decode cX1_clearOf 52 = .ok (.iload_n 3, 1) := by decide +kernel
theorem dX1_clearOf_53 : decode cX1_clearOf 53 = .ok (.bipush 6, 2) := by decide +kernel
theorem dX1_clearOf_55 : decode cX1_clearOf 55 = .ok (.iadd, 1) := by decide +kernel
theorem dX1_clearOf_56 : decode cX1_clearOf 56 = .ok (.istore 4, 2) := by decide +kernel
theorem dX1_clearOf_58 : decode cX1_clearOf 58 = .ok (.iload_n 1, 1) := by decide +kernel
theorem dX1_clearOf_59 : decode cX1_clearOf 59 = .ok (.iload 4, 2) := by decide +kernel
theorem dX1_clearOf_61 : decode cX1_clearOf 61 = .ok (.if_icmp .lt 7, 3) := by decide +kernel
theorem dX1_clearOf_64 : decode cX1_clearOf 64 = .ok (.iload_n 1, 1) := by decide +kernel
theorem dX1_clearOf_65 : decode cX1_clearOf 65 = .ok (.goto 13, 3) := by decide +kernel
theorem dX1_clearOf_68 : decode cX1_clearOf 68 = .ok (.iload 4, 2) := by decide +kernel
theorem dX1_clearOf_70 : decode cX1_clearOf 70 = .ok (.iload 4, 2) := by decide +kernel
theorem dX1_clearOf_72 : decode cX1_clearOf 72 = .ok (.ineg, 1) := by decide +kernel
theorem dX1_clearOf_73 : decode cX1_clearOf 73 = .ok (.iconst 4, 1) := by decide +kernel
theorem dX1_clearOf_74 : decode cX1_clearOf 74 = .ok (.invokestatic 145, 3) := by decide +kernel
theorem dX1_clearOf_77 : decode cX1_clearOf 77 = .ok (.iadd, 1) := by decide +kernel
theorem dX1_clearOf_78 : decode cX1_clearOf 78 = .ok (.ireturn, 1) := by decide +kernel
theorem dX1_clearOf_79 : decode cX1_clearOf 79 = .ok (.iload_n 1, 1) := by decide +kernel
theorem dX1_clearOf_80 : decode cX1_clearOf 80 = .ok (.ireturn, 1) := by decide +kernel
theorem dX1_sidesAt_0 : decode cX1_sidesAt 0 = .ok (.aload_n 0, 1) := by decide +kernel
theorem dX1_sidesAt_1 : decode cX1_sidesAt 1 = .ok (.iload_n 1, 1) := by decide +kernel
theorem dX1_sidesAt_2 : decode cX1_sidesAt 2 = .ok (.iload_n 2, 1) := by decide +kernel
theorem dX1_sidesAt_3 : decode cX1_sidesAt 3 = .ok (.invokevirtual 148, 3) := by decide +kernel
theorem dX1_sidesAt_6 : decode cX1_sidesAt 6 = .ok (.ifCond .eq 7, 3) := by decide +kernel
theorem dX1_sidesAt_9 : decode cX1_sidesAt 9 = .ok (.iconst 1, 1) := by decide +kernel
theorem dX1_sidesAt_10 : decode cX1_sidesAt 10 = .ok (.goto 4, 3) := by decide +kernel
theorem dX1_sidesAt_13 : decode cX1_sidesAt 13 = .ok (.iconst 0, 1) := by decide +kernel
theorem dX1_sidesAt_14 : decode cX1_sidesAt 14 = .ok (.aload_n 0, 1) := by decide +kernel
theorem dX1_sidesAt_15 : decode cX1_sidesAt 15 = .ok (.iload_n 1, 1) := by decide +kernel
theorem dX1_sidesAt_16 : decode cX1_sidesAt 16 = .ok (.iconst 1, 1) := by decide +kernel
theorem dX1_sidesAt_17 : decode cX1_sidesAt 17 = .ok (.iadd, 1) := by decide +kernel
theorem dX1_sidesAt_18 : decode cX1_sidesAt 18 = .ok (.iload_n 2, 1) := by decide +kernel
theorem dX1_sidesAt_19 : decode cX1_sidesAt 19 = .ok (.invokevirtual 148, 3) := by decide +kernel
theorem dX1_sidesAt_22 : decode cX1_sidesAt 22 = .ok (.ifCond .eq 7, 3) := by decide +kernel
theorem dX1_sidesAt_25 : decode cX1_sidesAt 25 = .ok (.iconst 2, 1) := by decide +kernel
theorem dX1_sidesAt_26 : decode cX1_sidesAt 26 = .ok (.goto 4, 3) := by decide +kernel
theorem dX1_sidesAt_29 : decode cX1_sidesAt 29 = .ok (.iconst 0, 1) := by decide +kernel
theorem dX1_sidesAt_30 : decode cX1_sidesAt 30 = .ok (.iadd, 1) := by decide +kernel
theorem dX1_sidesAt_31 : decode cX1_sidesAt 31 = .ok (.ireturn, 1) := by decide +kernel
theorem dX1_hangsBack_0 : decode cX1_hangsBack 0 = .ok (.aload_n 0, 1) := by decide +kernel
theorem dX1_hangsBack_1 : decode cX1_hangsBack 1 = .ok (.iload_n 1, 1) := by decide +kernel
theorem dX1_hangsBack_2 : decode cX1_hangsBack 2 = .ok (.iconst 1, 1) := by decide +kernel
theorem dX1_hangsBack_3 : decode cX1_hangsBack 3 = .ok (.isub, 1) := by decide +kernel
theorem dX1_hangsBack_4 : decode cX1_hangsBack 4 = .ok (.invokevirtual 73, 3) := by decide +kernel
theorem dX1_hangsBack_7 : decode cX1_hangsBack 7 = .ok (.ifCond .eq 11, 3) := by decide +kernel
theorem dX1_hangsBack_10 : decode cX1_hangsBack 10 = .ok (.aload_n 0, 1) := by decide +kernel
theorem dX1_hangsBack_11 : decode cX1_hangsBack 11 = .ok (.iload_n 1, 1) := by decide +kernel
theorem dX1_hangsBack_12 : decode cX1_hangsBack 12 = .ok (.invokevirtual 73, 3) := by decide +kernel
theorem dX1_hangsBack_15 : decode cX1_hangsBack 15 = .ok (.ifCond .ne 5, 3) := by decide +kernel
theorem dX1_hangsBack_18 : decode cX1_hangsBack 18 = .ok (.iconst 0, 1) := by decide +kernel
theorem dX1_hangsBack_19 : decode cX1_hangsBack 19 = .ok (.ireturn, 1) := by decide +kernel
theorem dX1_hangsBack_20 : decode cX1_hangsBack 20 = .ok (.iload_n 2, 1) := by decide +kernel
theorem dX1_hangsBack_21 : decode cX1_hangsBack 21 = .ok (.iconst 1, 1) := by decide +kernel
theorem dX1_hangsBack_22 : decode cX1_hangsBack 22 = .ok (.if_icmp .eq 44, 3) := by decide +kernel
theorem dX1_hangsBack_25 : decode cX1_hangsBack 25 = .ok (.aload_n 0, 1) := by decide +kernel
theorem dX1_hangsBack_26 : decode cX1_hangsBack 26 = .ok (.getfield 11, 3) := by decide +kernel
theorem dX1_hangsBack_29 : decode cX1_hangsBack 29 = .ok (.iload_n 1, 1) := by decide +kernel
theorem dX1_hangsBack_30 : decode cX1_hangsBack 30 = .ok (.iconst 1, 1) := by decide +kernel
theorem dX1_hangsBack_31 : decode cX1_hangsBack 31 = .ok (.isub, 1) := by decide +kernel
theorem dX1_hangsBack_32 : decode cX1_hangsBack 32 = .ok (.aaload, 1) := by decide +kernel
theorem dX1_hangsBack_33 : decode cX1_hangsBack 33 = .ok (.invokevirtual 30, 3) := by decide +kernel
theorem dX1_hangsBack_36 : decode cX1_hangsBack 36 = .ok (.iload_n 2, 1) := by decide +kernel
theorem dX1_hangsBack_37 : decode cX1_hangsBack 37 = .ok (.if_icmp .lt 33, 3) := by decide +kernel
theorem dX1_hangsBack_40 : decode cX1_hangsBack 40 = .ok (.aload_n 0, 1) := by decide +kernel
theorem dX1_hangsBack_41 : decode cX1_hangsBack 41 = .ok (.getfield 11, 3) := by decide +kernel
theorem dX1_hangsBack_44 : decode cX1_hangsBack 44 = .ok (.iload_n 1, 1) := by decide +kernel
theorem dX1_hangsBack_45 : decode cX1_hangsBack 45 = .ok (.aaload, 1) := by decide +kernel
theorem dX1_hangsBack_46 : decode cX1_hangsBack 46 = .ok (.invokevirtual 30, 3) := by decide +kernel
theorem dX1_hangsBack_49 : decode cX1_hangsBack 49 = .ok (.iload_n 2, 1) := by decide +kernel
theorem dX1_hangsBack_50 : decode cX1_hangsBack 50 = .ok (.if_icmp .lt 20, 3) := by decide +kernel
theorem dX1_hangsBack_53 : decode cX1_hangsBack 53 = .ok (.aload_n 0, 1) := by decide +kernel
theorem dX1_hangsBack_54 : decode cX1_hangsBack 54 = .ok (.getfield 11, 3) := by decide +kernel
theorem dX1_hangsBack_57 : decode cX1_hangsBack 57 = .ok (.iload_n 1, 1) := by decide +kernel
theorem dX1_hangsBack_58 : decode cX1_hangsBack 58 = .ok (.aaload, 1) := by decide +kernel
theorem dX1_hangsBack_59 : decode cX1_hangsBack 59 = .ok (.iload_n 2, 1) := by decide +kernel
theorem dX1_hangsBack_60 : decode cX1_hangsBack 60 = .ok (.invokevirtual 151, 3) := by decide +kernel
theorem dX1_hangsBack_63 : decode cX1_hangsBack 63 = .ok (.ifCond .ne 7, 3) := by decide +kernel
theorem dX1_hangsBack_66 : decode cX1_hangsBack 66 = .ok (.iconst 1, 1) := by decide +kernel
theorem dX1_hangsBack_67 : decode cX1_hangsBack 67 = .ok (.goto 4, 3) := by decide +kernel
theorem dX1_hangsBack_70 : decode cX1_hangsBack 70 = .ok (.iconst 0, 1) := by decide +kernel
theorem dX1_hangsBack_71 : decode cX1_hangsBack 71 = .ok (.ireturn, 1) := by decide +kernel
theorem dX1_countWith_0 : decode cX1_countWith 0 = .ok (.iconst 0, 1) := by decide +kernel
theorem dX1_countWith_1 : decode cX1_countWith 1 = .ok (.istore_n 2, 1) := by decide +kernel
theorem dX1_countWith_2 : decode cX1_countWith 2 = .ok (.iconst 0, 1) := by decide +kernel
theorem dX1_countWith_3 : decode cX1_countWith 3 = .ok (.istore_n 3, 1) := by decide +kernel
theorem dX1_countWith_4 : decode cX1_countWith 4 = .ok (.iload_n 3, 1) := by decide +kernel
theorem dX1_countWith_5 : decode cX1_countWith 5 = .ok (.aload_n 0, 1) := by decide +kernel
theorem dX1_countWith_6 : decode cX1_countWith 6 = .ok (.getfield 17, 3) := by decide +kernel
theorem dX1_countWith_9 : decode cX1_countWith 9 = .ok (.if_icmp .ge 30, 3) := by decide +kernel
theorem dX1_countWith_12 : decode cX1_countWith 12 = .ok (.iload_n 2, 1) := by decide +kernel
theorem dX1_countWith_13 : decode cX1_countWith 13 = .ok (.aload_n 0, 1) := by decide +kernel
theorem dX1_countWith_14 : decode cX1_countWith 14 = .ok (.getfield 11, 3) := by decide +kernel
theorem dX1_countWith_17 : decode cX1_countWith 17 = .ok (.iload_n 3, 1) := by decide +kernel
theorem dX1_countWith_18 : decode cX1_countWith 18 = .ok (.aaload, 1) := by decide +kernel
theorem dX1_countWith_19 : decode cX1_countWith 19 = .ok (.invokevirtual 30, 3) := by decide +kernel
theorem dX1_countWith_22 : decode cX1_countWith 22 = .ok (.iload_n 1, 1) := by decide +kernel
theorem dX1_countWith_23 : decode cX1_countWith 23 = .ok (.if_icmp .lt 7, 3) := by decide +kernel
theorem dX1_countWith_26 : decode cX1_countWith 26 = .ok (.iconst 1, 1) := by decide +kernel
theorem dX1_countWith_27 : decode cX1_countWith 27 = .ok (.goto 4, 3) := by decide +kernel
theorem dX1_countWith_30 : decode cX1_countWith 30 = .ok (.iconst 0, 1) := by decide +kernel
theorem dX1_countWith_31 : decode cX1_countWith 31 = .ok (.iadd, 1) := by decide +kernel
theorem dX1_countWith_32 : decode cX1_countWith 32 = .ok (.istore_n 2, 1) := by decide +kernel
theorem dX1_countWith_33 : decode cX1_countWith 33 = .ok (.iinc 3 1, 3) := by decide +kernel
theorem dX1_countWith_36 : decode cX1_countWith 36 = .ok (.goto (-32), 3) := by decide +kernel
theorem dX1_countWith_39 : decode cX1_countWith 39 = .ok (.iload_n 2, 1) := by decide +kernel
theorem dX1_countWith_40 : decode cX1_countWith 40 = .ok (.ireturn, 1) := by decide +kernel
theorem dX1_lengthsWith_0 : decode cX1_lengthsWith 0 = .ok (.lconst 0, 1) := by decide +kernel
theorem dX1_lengthsWith_1 : decode cX1_lengthsWith 1 = .ok (.lstore_n 2, 1) := by decide +kernel
theorem dX1_lengthsWith_2 : decode cX1_lengthsWith 2 = .ok (.iconst 0, 1) := by decide +kernel
theorem dX1_lengthsWith_3 : decode cX1_lengthsWith 3 = .ok (.istore 4, 2) := by decide +kernel
theorem dX1_lengthsWith_5 : decode cX1_lengthsWith 5 = .ok (.iload 4, 2) := by decide +kernel
theorem dX1_lengthsWith_7 : decode cX1_lengthsWith 7 = .ok (.aload_n 0, 1) := by decide +kernel
theorem dX1_lengthsWith_8 : decode cX1_lengthsWith 8 = .ok (.getfield 17, 3) := by decide +kernel
theorem dX1_lengthsWith_11 : decode cX1_lengthsWith 11 = .ok (.if_icmp .ge 47, 3) := by decide +kernel
theorem dX1_lengthsWith_14 : decode cX1_lengthsWith 14 = .ok (.lload_n 2, 1) := by decide +kernel
theorem dX1_lengthsWith_15 : decode cX1_lengthsWith 15 = .ok (.aload_n 0, 1) := by decide +kernel
theorem dX1_lengthsWith_16 : decode cX1_lengthsWith 16 = .ok (.getfield 11, 3) := by decide +kernel
theorem dX1_lengthsWith_19 : decode cX1_lengthsWith 19 = .ok (.iload 4, 2) := by decide +kernel
theorem dX1_lengthsWith_21 : decode cX1_lengthsWith 21 = .ok (.aaload, 1) := by decide +kernel
theorem dX1_lengthsWith_22 : decode cX1_lengthsWith 22 = .ok (.invokevirtual 30, 3) := by decide +kernel
theorem dX1_lengthsWith_25 : decode cX1_lengthsWith 25 = .ok (.iload_n 1, 1) := by decide +kernel
theorem dX1_lengthsWith_26 : decode cX1_lengthsWith 26 = .ok (.if_icmp .lt 23, 3) := by decide +kernel
theorem dX1_lengthsWith_29 : decode cX1_lengthsWith 29 = .ok (.aload_n 0, 1) := by decide +kernel
theorem dX1_lengthsWith_30 : decode cX1_lengthsWith 30 = .ok (.getfield 11, 3) := by decide +kernel
theorem dX1_lengthsWith_33 : decode cX1_lengthsWith 33 = .ok (.iload 4, 2) := by decide +kernel
theorem dX1_lengthsWith_35 : decode cX1_lengthsWith 35 = .ok (.aaload, 1) := by decide +kernel
theorem dX1_lengthsWith_36 : decode cX1_lengthsWith 36 = .ok (.aload_n 0, 1) := by decide +kernel
theorem dX1_lengthsWith_37 : decode cX1_lengthsWith 37 = .ok (.iload 4, 2) := by decide +kernel
theorem dX1_lengthsWith_39 : decode cX1_lengthsWith 39 = .ok (.invokevirtual 136, 3) := by decide +kernel
theorem dX1_lengthsWith_42 : decode cX1_lengthsWith 42 = .ok (.invokevirtual 127, 3) := by decide +kernel
theorem dX1_lengthsWith_45 : decode cX1_lengthsWith 45 = .ok (.i2l, 1) := by decide +kernel
theorem dX1_lengthsWith_46 : decode cX1_lengthsWith 46 = .ok (.goto 4, 3) := by decide +kernel
theorem dX1_lengthsWith_49 : decode cX1_lengthsWith 49 = .ok (.lconst 0, 1) := by decide +kernel
theorem dX1_lengthsWith_50 : decode cX1_lengthsWith 50 = .ok (.ladd, 1) := by decide +kernel
theorem dX1_lengthsWith_51 : decode cX1_lengthsWith 51 = .ok (.lstore_n 2, 1) := by decide +kernel
theorem dX1_lengthsWith_52 : decode cX1_lengthsWith 52 = .ok (.iinc 4 1, 3) := by decide +kernel
theorem dX1_lengthsWith_55 : decode cX1_lengthsWith 55 = .ok (.goto (-50), 3) := by decide +kernel
theorem dX1_lengthsWith_58 : decode cX1_lengthsWith 58 = .ok (.lload_n 2, 1) := by decide +kernel
theorem dX1_lengthsWith_59 : decode cX1_lengthsWith 59 = .ok (.lreturn, 1) := by decide +kernel
set_option maxRecDepth 20000 in
theorem bkX1_tryHeights_0 {w : zW} {Γ : zC} {N S : Nat} {Rt : zR} (X : zm_X w Γ mX1_tryHeights N S Rt) : ∀ lv st h, (zi_lda 0 (zi_gf 1 2 (zi_if (fun x => x = 0) (zi_push (.int 48) (zm_V w Γ 14)) (zi_push (.int 36) (zm_V w Γ 14))))) lv st h → zm_V w Γ 0 lv st h := (zs_aload_n X rfl dX1_tryHeights_0 (zs_gf X (ci := 1) rfl (by decide) zm_in1 kw_X1_51 dX1_tryHeights_1 (zs_if_ne X dX1_tryHeights_4 (by decide) (zs_bipush X (by decide) dX1_tryHeights_12 (fun _ _ _ h => h)) (zs_bipush X (by decide) dX1_tryHeights_7 (zs_goto X dX1_tryHeights_9 (by decide) (fun _ _ _ h => h))))))
set_option maxRecDepth 20000 in
theorem bkX1_tryHeights_14 {w : zW} {Γ : zC} {N S : Nat} {Rt : zR} (X : zm_X w Γ mX1_tryHeights N S Rt) : ∀ lv st h, (zi_sti 3 (zi_lda 0 (zi_gf 1 2 (zi_if (fun x => x = 0) (zi_push (.int 1) (zi_sti 4 (zi_push (.int 0) (zi_sti 5 (zm_V w Γ 35))))) (zi_lda 0 (zi_gf 1 2 (zi_sti 4 (zi_push (.int 0) (zi_sti 5 (zm_V w Γ 35)))))))))) lv st h → zm_V w Γ 14 lv st h := (zs_istore_n X rfl (by decide) dX1_tryHeights_14 (zs_aload_n X rfl dX1_tryHeights_15 (zs_gf X (ci := 1) rfl (by decide) zm_in1 kw_X1_51 dX1_tryHeights_16 (zs_if_ne X dX1_tryHeights_19 (by decide) (zs_aload_n X rfl dX1_tryHeights_26 (zs_gf X (ci := 1) rfl (by decide) zm_in1 kw_X1_51 dX1_tryHeights_27 (zs_istore X (by decide) dX1_tryHeights_30 (zs_iconst X (by decide) dX1_tryHeights_32 (zs_istore X (by decide) dX1_tryHeights_33 (fun _ _ _ h => h)))))) (zs_iconst X (by decide) dX1_tryHeights_22 (zs_goto X dX1_tryHeights_23 (by decide) (zs_istore X (by decide) dX1_tryHeights_30 (zs_iconst X (by decide) dX1_tryHeights_32 (zs_istore X (by decide) dX1_tryHeights_33 (fun _ _ _ h => h))))))))))
set_option maxRecDepth 20000 in
theorem bkX1_tryHeights_35 {w : zW} {Γ : zC} {N S : Nat} {Rt : zR} (X : zm_X w Γ mX1_tryHeights N S Rt) : ∀ lv st h, (zi_ldi 5 (zi_ldi 3 (zi_ic (fun x y => y < x) (zi_vret Rt) (zi_ldi 1 (zi_ldi 4 (zi_ldi 5 (zi_b (fun x y => x * y) (zi_b (fun x y => x + y) (zi_sti 6 (zi_lda 0 (zi_ldi 6 (zi_ldi 2 (zi_cv w mX1_badnessAt 1 3 N S (zi_stl 7 (zi_ldl 7 (zi_push (.long 0) (zi_lcmp (zi_if (fun x => x < 0) (zi_inc 5 1 (zm_V w Γ 35)) (zi_lda 0 (zi_gf 1 8 (zi_push (.long 0) (zi_lcmp (zi_if (fun x => x < 0) (zm_V w Γ 85) (zi_ldl 7 (zi_lda 0 (zi_gf 1 8 (zi_lcmp (zi_if (fun x => 0 ≤ x) (zi_inc 5 1 (zm_V w Γ 35)) (zm_V w Γ 85))))))))))))))))))))))))))))) lv st h → zm_V w Γ 35 lv st h := (zs_iload X dX1_tryHeights_35 (zs_iload_n X rfl dX1_tryHeights_37 (zs_icmp_gt X dX1_tryHeights_38 (by decide) (zs_vret X rfl dX1_tryHeights_108) (zs_iload_n X rfl dX1_tryHeights_41 (zs_iload X dX1_tryHeights_42 (zs_iload X dX1_tryHeights_44 (zs_imul X dX1_tryHeights_46 (zs_iadd X dX1_tryHeights_47 (zs_istore X (by decide) dX1_tryHeights_48 (zs_aload_n X rfl dX1_tryHeights_50 (zs_iload X dX1_tryHeights_51 (zs_iload_n X rfl dX1_tryHeights_53 (zs_cv X (M' := mX1_badnessAt) (n := 2) kd_X1_badnessAt ki_X1 (by decide +kernel) (by decide) kw_X1_105 rfl ks_X1_badnessAt kl_X1_badnessAt dX1_tryHeights_54 (zs_lstore X (by decide) dX1_tryHeights_57 (zs_lload X dX1_tryHeights_59 (zs_lconst X (by decide) dX1_tryHeights_61 (zs_lcmp X dX1_tryHeights_62 (zs_if_lt X dX1_tryHeights_63 (by decide) (zs_iinc X (by decide) (by decide) dX1_tryHeights_102 (zs_goto X dX1_tryHeights_105 (by decide) (fun _ _ _ h => h))) (zs_aload_n X rfl dX1_tryHeights_66 (zs_gf X (ci := 1) rfl (by decide) zm_in1 kw_X1_93 dX1_tryHeights_67 (zs_lconst X (by decide) dX1_tryHeights_70 (zs_lcmp X dX1_tryHeights_71 (zs_if_lt X dX1_tryHeights_72 (by decide) (fun _ _ _ h => h) (zs_lload X dX1_tryHeights_75 (zs_aload_n X rfl dX1_tryHeights_77 (zs_gf X (ci := 1) rfl (by decide) zm_in1 kw_X1_93 dX1_tryHeights_78 (zs_lcmp X dX1_tryHeights_81 (zs_if_ge X dX1_tryHeights_82 (by decide) (zs_iinc X (by decide) (by decide) dX1_tryHeights_102 (zs_goto X dX1_tryHeights_105 (by decide) (fun _ _ _ h => h))) (fun _ _ _ h => h)))))))))))))))))))))))))))))
set_option maxRecDepth 20000 in
theorem bkX1_tryHeights_85 {w : zW} {Γ : zC} {N S : Nat} {Rt : zR} (X : zm_X w Γ mX1_tryHeights N S Rt) : ∀ lv st h, (zi_lda 0 (zi_ldl 7 (zi_pf 1 8 .long (zi_lda 0 (zi_ldi 6 (zi_pf 1 3 .int (zi_lda 0 (zi_ldi 2 (zi_pf 1 4 .int (zi_inc 5 1 (zm_V w Γ 35))))))))))) lv st h → zm_V w Γ 85 lv st h := (zs_aload_n X rfl dX1_tryHeights_85 (zs_lload X dX1_tryHeights_86 (zs_pf X (ci := 1) rfl (by decide) zm_in1 kw_X1_93 tyX1 tyX1_ok nmX1 rfl rfl dX1_tryHeights_88 (zs_aload_n X rfl dX1_tryHeights_91 (zs_iload X dX1_tryHeights_92 (zs_pf X (ci := 1) rfl (by decide) zm_in1 kw_X1_109 tyX1 tyX1_ok nmX1 rfl rfl dX1_tryHeights_94 (zs_aload_n X rfl dX1_tryHeights_97 (zs_iload_n X rfl dX1_tryHeights_98 (zs_pf X (ci := 1) rfl (by decide) zm_in1 kw_X1_112 tyX1 tyX1_ok nmX1 rfl rfl dX1_tryHeights_99 (zs_iinc X (by decide) (by decide) dX1_tryHeights_102 (zs_goto X dX1_tryHeights_105 (by decide) (fun _ _ _ h => h))))))))))))
set_option maxRecDepth 20000 in
theorem bkX1_levelHeight_0 {w : zW} {Γ : zC} {N S : Nat} {Rt : zR} (X : zm_X w Γ mX1_levelHeight N S Rt) : ∀ lv st h, (zi_lda 0 (zi_gf 1 0 (zi_push (.int 0) (zi_aa 2 (zi_gf 2 13 (zi_lda 0 (zi_gf 1 2 (zi_lda 0 (zi_gf 1 0 (zi_push (.int 0) (zi_aa 2 (zi_gf 2 15 (zi_b (fun x y => x * y) (zi_b (fun x y => x + y) (zi_sti 1 (zi_push (.int 1) (zi_sti 2 (zm_V w Γ 27)))))))))))))))))) lv st h → zm_V w Γ 0 lv st h := (zs_aload_n X rfl dX1_levelHeight_0 (zs_gf X (ci := 1) rfl (by decide) zm_in1 kw_X1_11 dX1_levelHeight_1 (zs_iconst X (by decide) dX1_levelHeight_4 (zs_aald X (fun _ => rfl) dX1_levelHeight_5 (zs_gf X (ci := 2) rfl (by decide) zm_in2 kw_X1_70 dX1_levelHeight_6 (zs_aload_n X rfl dX1_levelHeight_9 (zs_gf X (ci := 1) rfl (by decide) zm_in1 kw_X1_51 dX1_levelHeight_10 (zs_aload_n X rfl dX1_levelHeight_13 (zs_gf X (ci := 1) rfl (by decide) zm_in1 kw_X1_11 dX1_levelHeight_14 (zs_iconst X (by decide) dX1_levelHeight_17 (zs_aald X (fun _ => rfl) dX1_levelHeight_18 (zs_gf X (ci := 2) rfl (by decide) zm_in2 kw_X1_115 dX1_levelHeight_19 (zs_imul X dX1_levelHeight_22 (zs_iadd X dX1_levelHeight_23 (zs_istore_n X rfl (by decide) dX1_levelHeight_24 (zs_iconst X (by decide) dX1_levelHeight_25 (zs_istore_n X rfl (by decide) dX1_levelHeight_26 (fun _ _ _ h => h))))))))))))))))))
set_option maxRecDepth 20000 in
theorem bkX1_levelHeight_27 {w : zW} {Γ : zC} {N S : Nat} {Rt : zR} (X : zm_X w Γ mX1_levelHeight N S Rt) : ∀ lv st h, (zi_ldi 2 (zi_lda 0 (zi_gf 1 1 (zi_ic (fun x y => y ≤ x) (zi_ldi 1 (zi_iret Rt)) (zi_lda 0 (zi_gf 1 0 (zi_ldi 2 (zi_aa 2 (zi_gf 2 13 (zi_lda 0 (zi_gf 1 2 (zi_lda 0 (zi_gf 1 0 (zi_ldi 2 (zi_aa 2 (zi_gf 2 15 (zi_b (fun x y => x * y) (zi_b (fun x y => x + y) (zi_sti 3 (zi_lda 0 (zi_gf 1 2 (zi_push (.int 1) (zi_ic (fun x y => x = y) (zi_ldi 1 (zi_ldi 3 (zi_mx N S (zi_sti 1 (zi_inc 2 1 (zm_V w Γ 27)))))) (zi_ldi 1 (zi_ldi 3 (zi_mn N S (zi_sti 1 (zi_inc 2 1 (zm_V w Γ 27))))))))))))))))))))))))))))) lv st h → zm_V w Γ 27 lv st h := (zs_iload_n X rfl dX1_levelHeight_27 (zs_aload_n X rfl dX1_levelHeight_28 (zs_gf X (ci := 1) rfl (by decide) zm_in1 kw_X1_17 dX1_levelHeight_29 (zs_icmp_ge X dX1_levelHeight_32 (by decide) (zs_iload_n X rfl dX1_levelHeight_88 (zs_iret X rfl dX1_levelHeight_89)) (zs_aload_n X rfl dX1_levelHeight_35 (zs_gf X (ci := 1) rfl (by decide) zm_in1 kw_X1_11 dX1_levelHeight_36 (zs_iload_n X rfl dX1_levelHeight_39 (zs_aald X (fun _ => rfl) dX1_levelHeight_40 (zs_gf X (ci := 2) rfl (by decide) zm_in2 kw_X1_70 dX1_levelHeight_41 (zs_aload_n X rfl dX1_levelHeight_44 (zs_gf X (ci := 1) rfl (by decide) zm_in1 kw_X1_51 dX1_levelHeight_45 (zs_aload_n X rfl dX1_levelHeight_48 (zs_gf X (ci := 1) rfl (by decide) zm_in1 kw_X1_11 dX1_levelHeight_49 (zs_iload_n X rfl dX1_levelHeight_52 (zs_aald X (fun _ => rfl) dX1_levelHeight_53 (zs_gf X (ci := 2) rfl (by decide) zm_in2 kw_X1_115 dX1_levelHeight_54 (zs_imul X dX1_levelHeight_57 (zs_iadd X dX1_levelHeight_58 (zs_istore_n X rfl (by decide) dX1_levelHeight_59 (zs_aload_n X rfl dX1_levelHeight_60 (zs_gf X (ci := 1) rfl (by decide) zm_in1 kw_X1_51 dX1_levelHeight_61 (zs_iconst X (by decide) dX1_levelHeight_64 (zs_icmp_ne X dX1_levelHeight_65 (by decide) (zs_iload_n X rfl dX1_levelHeight_76 (zs_iload_n X rfl dX1_levelHeight_77 (zs_mn X (by decide) trivial kw_X1_67 km_mn1 km_2 km_mn3 dX1_levelHeight_78 (zs_istore_n X rfl (by decide) dX1_levelHeight_81 (zs_iinc X (by decide) (by decide) dX1_levelHeight_82 (zs_goto X dX1_levelHeight_85 (by decide) (fun _ _ _ h => h))))))) (zs_iload_n X rfl dX1_levelHeight_68 (zs_iload_n X rfl dX1_levelHeight_69 (zs_mx X (by decide) trivial kw_X1_34 km_mx1 km_2 km_mx3 dX1_levelHeight_70 (zs_goto X dX1_levelHeight_73 (by decide) (zs_istore_n X rfl (by decide) dX1_levelHeight_81 (zs_iinc X (by decide) (by decide) dX1_levelHeight_82 (zs_goto X dX1_levelHeight_85 (by decide) (fun _ _ _ h => h)))))))))))))))))))))))))))))))
set_option maxRecDepth 20000 in
theorem bkX1_slantBadness_0 {w : zW} {Γ : zC} {N S : Nat} {Rt : zR} (X : zm_X w Γ mX1_slantBadness N S Rt) : ∀ lv st h, (zi_ldi 1 (zi_lda 0 (zi_gf 1 5 (zi_b (fun x y => x - y) (zi_i2l (zi_stl 2 (zi_push (.long (8)) (zi_ldl 2 (zi_bl (fun x y => x * y) (zi_ldl 2 (zi_bl (fun x y => x * y) (zi_lret Rt)))))))))))) lv st h → zm_V w Γ 0 lv st h := (zs_iload_n X rfl dX1_slantBadness_0 (zs_aload_n X rfl dX1_slantBadness_1 (zs_gf X (ci := 1) rfl (by decide) zm_in1 kw_X1_85 dX1_slantBadness_2 (zs_isub X dX1_slantBadness_5 (zs_i2l X dX1_slantBadness_6 (zs_lstore_n X rfl (by decide) dX1_slantBadness_7 (zs_ldc2 X kw_X1_118 dX1_slantBadness_8 (zs_lload_n X rfl dX1_slantBadness_11 (zs_lmul X dX1_slantBadness_12 (zs_lload_n X rfl dX1_slantBadness_13 (zs_lmul X dX1_slantBadness_14 (zs_lret X rfl dX1_slantBadness_15))))))))))))
set_option maxRecDepth 20000 in
theorem bkX1_badnessAt_0 {w : zW} {Γ : zC} {N S : Nat} {Rt : zR} (X : zm_X w Γ mX1_badnessAt N S Rt) : ∀ lv st h, (zi_lda 0 (zi_ldi 2 (zi_cv w mX1_slantBadness 1 2 N S (zi_lda 0 (zi_ldi 1 (zi_cv w mX1_wedgeBadness 1 2 N S (zi_i2l (zi_bl (fun x y => x + y) (zi_lda 0 (zi_ldi 1 (zi_ldi 2 (zi_b (fun x y => x + y) (zi_cv w mX1_wedgeBadness 1 2 N S (zi_i2l (zi_bl (fun x y => x + y) (zi_stl 3 (zi_push (.int 0) (zi_sti 5 (zm_V w Γ 25))))))))))))))))))) lv st h → zm_V w Γ 0 lv st h := (zs_aload_n X rfl dX1_badnessAt_0 (zs_iload_n X rfl dX1_badnessAt_1 (zs_cv X (M' := mX1_slantBadness) (n := 1) kd_X1_slantBadness ki_X1 (by decide +kernel) (by decide) kw_X1_97 rfl ks_X1_slantBadness kl_X1_slantBadness dX1_badnessAt_2 (zs_aload_n X rfl dX1_badnessAt_5 (zs_iload_n X rfl dX1_badnessAt_6 (zs_cv X (M' := mX1_wedgeBadness) (n := 1) kd_X1_wedgeBadness ki_X1 (by decide +kernel) (by decide) kw_X1_120 rfl ks_X1_wedgeBadness kl_X1_wedgeBadness dX1_badnessAt_7 (zs_i2l X dX1_badnessAt_10 (zs_ladd X dX1_badnessAt_11 (zs_aload_n X rfl dX1_badnessAt_12 (zs_iload_n X rfl dX1_badnessAt_13 (zs_iload_n X rfl dX1_badnessAt_14 (zs_iadd X dX1_badnessAt_15 (zs_cv X (M' := mX1_wedgeBadness) (n := 1) kd_X1_wedgeBadness ki_X1 (by decide +kernel) (by decide) kw_X1_120 rfl ks_X1_wedgeBadness kl_X1_wedgeBadness dX1_badnessAt_16 (zs_i2l X dX1_badnessAt_19 (zs_ladd X dX1_badnessAt_20 (zs_lstore_n X rfl (by decide) dX1_badnessAt_21 (zs_iconst X (by decide) dX1_badnessAt_22 (zs_istore X (by decide) dX1_badnessAt_23 (fun _ _ _ h => h)))))))))))))))))))
set_option maxRecDepth 20000 in
theorem bkX1_badnessAt_25 {w : zW} {Γ : zC} {N S : Nat} {Rt : zR} (X : zm_X w Γ mX1_badnessAt N S Rt) : ∀ lv st h, (zi_ldi 5 (zi_lda 0 (zi_gf 1 1 (zi_ic (fun x y => y ≤ x) (zi_ldl 3 (zi_lret Rt)) (zi_lda 0 (zi_gf 1 0 (zi_ldi 5 (zi_aa 2 (zi_ldi 1 (zi_ldi 2 (zi_ldi 5 (zi_b (fun x y => x * y) (zi_lda 0 (zi_gf 1 1 (zi_push (.int 1) (zi_b (fun x y => x - y) (zi_cs w mX3_rounded 2 N S (zi_b (fun x y => x + y) (zi_cv w mX2_lengthTo 2 2 N S (zi_sti 6 (zi_ldi 6 (zi_lda 0 (zi_gf 1 0 (zi_ldi 5 (zi_aa 2 (zi_gf 2 15 (zi_ic (fun x y => y ≤ x) (zi_ldi 6 (zi_lda 0 (zi_gf 1 0 (zi_ldi 5 (zi_aa 2 (zi_gf 2 14 (zi_b (fun x y => x - y) (zi_i2l (zi_stl 7 (zi_ldl 3 (zi_ldl 7 (zi_ldl 7 (zi_bl (fun x y => x * y) (zi_bl (fun x y => x + y) (zi_stl 3 (zi_inc 5 1 (zm_V w Γ 25))))))))))))))))) (zi_push (.long (-1)) (zi_lret Rt))))))))))))))))))))))))))))) lv st h → zm_V w Γ 25 lv st h := (zs_iload X dX1_badnessAt_25 (zs_aload_n X rfl dX1_badnessAt_27 (zs_gf X (ci := 1) rfl (by decide) zm_in1 kw_X1_17 dX1_badnessAt_28 (zs_icmp_ge X dX1_badnessAt_31 (by decide) (zs_lload_n X rfl dX1_badnessAt_110 (zs_lret X rfl dX1_badnessAt_111)) (zs_aload_n X rfl dX1_badnessAt_34 (zs_gf X (ci := 1) rfl (by decide) zm_in1 kw_X1_11 dX1_badnessAt_35 (zs_iload X dX1_badnessAt_38 (zs_aald X (fun _ => rfl) dX1_badnessAt_40 (zs_iload_n X rfl dX1_badnessAt_41 (zs_iload_n X rfl dX1_badnessAt_42 (zs_iload X dX1_badnessAt_43 (zs_imul X dX1_badnessAt_45 (zs_aload_n X rfl dX1_badnessAt_46 (zs_gf X (ci := 1) rfl (by decide) zm_in1 kw_X1_17 dX1_badnessAt_47 (zs_iconst X (by decide) dX1_badnessAt_50 (zs_isub X dX1_badnessAt_51 (zs_csN X (M' := mX3_rounded) (n := 2) kd_X3_rounded ki_X3 (by decide +kernel) (by decide) kz_X1_124 ks_X3_rounded dX1_badnessAt_52 (zs_iadd X dX1_badnessAt_55 (zs_cv X (M' := mX2_lengthTo) (n := 1) kd_X2_lengthTo ki_X2 (by decide +kernel) (by decide) kw_X1_127 rfl ks_X2_lengthTo kl_X2_lengthTo dX1_badnessAt_56 (zs_istore X (by decide) dX1_badnessAt_59 (zs_iload X dX1_badnessAt_61 (zs_aload_n X rfl dX1_badnessAt_63 (zs_gf X (ci := 1) rfl (by decide) zm_in1 kw_X1_11 dX1_badnessAt_64 (zs_iload X dX1_badnessAt_67 (zs_aald X (fun _ => rfl) dX1_badnessAt_69 (zs_gf X (ci := 2) rfl (by decide) zm_in2 kw_X1_115 dX1_badnessAt_70 (zs_icmp_ge X dX1_badnessAt_73 (by decide) (zs_iload X dX1_badnessAt_80 (zs_aload_n X rfl dX1_badnessAt_82 (zs_gf X (ci := 1) rfl (by decide) zm_in1 kw_X1_11 dX1_badnessAt_83 (zs_iload X dX1_badnessAt_86 (zs_aald X (fun _ => rfl) dX1_badnessAt_88 (zs_gf X (ci := 2) rfl (by decide) zm_in2 kw_X1_130 dX1_badnessAt_89 (zs_isub X dX1_badnessAt_92 (zs_i2l X dX1_badnessAt_93 (zs_lstore X (by decide) dX1_badnessAt_94 (zs_lload_n X rfl dX1_badnessAt_96 (zs_lload X dX1_badnessAt_97 (zs_lload X dX1_badnessAt_99 (zs_lmul X dX1_badnessAt_101 (zs_ladd X dX1_badnessAt_102 (zs_lstore_n X rfl (by decide) dX1_badnessAt_103 (zs_iinc X (by decide) (by decide) dX1_badnessAt_104 (zs_goto X dX1_badnessAt_107 (by decide) (fun _ _ _ h => h)))))))))))))))))) (zs_ldc2 X kw_X1_91 dX1_badnessAt_76 (zs_lret X rfl dX1_badnessAt_79)))))))))))))))))))))))))))))
set_option maxRecDepth 20000 in
theorem bkX1_wedgeBadness_0 {w : zW} {Γ : zC} {N S : Nat} {Rt : zR} (X : zm_X w Γ mX1_wedgeBadness N S Rt) : ∀ lv st h, (zi_ldi 1 (zi_lda 0 (zi_gf 1 0 (zi_push (.int 0) (zi_aa 2 (zi_cv w mX2_middle 2 1 N S (zi_b (fun x y => x - y) (zi_sti 2 (zi_lda 0 (zi_gf 1 2 (zi_if (fun x => x = 0) (zi_push (.int 0) (zi_iret Rt)) (zi_ldi 2 (zi_push (.int (-8)) (zi_ic (fun x y => x < y) (zi_push (.int 0) (zi_iret Rt)) (zi_ldi 2 (zi_push (.int 8) (zi_ic (fun x y => y < x) (zi_push (.int 0) (zi_iret Rt)) (zi_ldi 2 (zi_push (.int 3) (zi_b (fun x y => x &&& y) (zi_push (.int 2) (zi_ic (fun x y => x = y) (zi_push (.int 25) (zi_iret Rt)) (zi_push (.int 0) (zi_iret Rt)))))))))))))))))))))))) lv st h → zm_V w Γ 0 lv st h := (zs_iload_n X rfl dX1_wedgeBadness_0 (zs_aload_n X rfl dX1_wedgeBadness_1 (zs_gf X (ci := 1) rfl (by decide) zm_in1 kw_X1_11 dX1_wedgeBadness_2 (zs_iconst X (by decide) dX1_wedgeBadness_5 (zs_aald X (fun _ => rfl) dX1_wedgeBadness_6 (zs_cv X (M' := mX2_middle) (n := 0) kd_X2_middle ki_X2 (by decide +kernel) (by decide) kw_X1_133 rfl ks_X2_middle kl_X2_middle dX1_wedgeBadness_7 (zs_isub X dX1_wedgeBadness_10 (zs_istore_n X rfl (by decide) dX1_wedgeBadness_11 (zs_aload_n X rfl dX1_wedgeBadness_12 (zs_gf X (ci := 1) rfl (by decide) zm_in1 kw_X1_51 dX1_wedgeBadness_13 (zs_if_eq X dX1_wedgeBadness_16 (by decide) (zs_iconst X (by decide) dX1_wedgeBadness_43 (zs_iret X rfl dX1_wedgeBadness_44)) (zs_iload_n X rfl dX1_wedgeBadness_19 (zs_bipush X (by decide) dX1_wedgeBadness_20 (zs_icmp_lt X dX1_wedgeBadness_22 (by decide) (zs_iconst X (by decide) dX1_wedgeBadness_43 (zs_iret X rfl dX1_wedgeBadness_44)) (zs_iload_n X rfl dX1_wedgeBadness_25 (zs_bipush X (by decide) dX1_wedgeBadness_26 (zs_icmp_gt X dX1_wedgeBadness_28 (by decide) (zs_iconst X (by decide) dX1_wedgeBadness_43 (zs_iret X rfl dX1_wedgeBadness_44)) (zs_iload_n X rfl dX1_wedgeBadness_31 (zs_iconst X (by decide) dX1_wedgeBadness_32 (zs_iand X dX1_wedgeBadness_33 (zs_iconst X (by decide) dX1_wedgeBadness_34 (zs_icmp_ne X dX1_wedgeBadness_35 (by decide) (zs_iconst X (by decide) dX1_wedgeBadness_43 (zs_iret X rfl dX1_wedgeBadness_44)) (zs_bipush X (by decide) dX1_wedgeBadness_38 (zs_goto X dX1_wedgeBadness_40 (by decide) (zs_iret X rfl dX1_wedgeBadness_44)))))))))))))))))))))))))
set_option maxRecDepth 20000 in
theorem bkX1_heightAt_0 {w : zW} {Γ : zC} {N S : Nat} {Rt : zR} (X : zm_X w Γ mX1_heightAt N S Rt) : ∀ lv st h, (zi_lda 0 (zi_gf 1 3 (zi_lda 0 (zi_gf 1 4 (zi_ldi 1 (zi_b (fun x y => x * y) (zi_lda 0 (zi_gf 1 1 (zi_push (.int 1) (zi_b (fun x y => x - y) (zi_cs w mX3_rounded 2 N S (zi_b (fun x y => x + y) (zi_iret Rt))))))))))))) lv st h → zm_V w Γ 0 lv st h := (zs_aload_n X rfl dX1_heightAt_0 (zs_gf X (ci := 1) rfl (by decide) zm_in1 kw_X1_109 dX1_heightAt_1 (zs_aload_n X rfl dX1_heightAt_4 (zs_gf X (ci := 1) rfl (by decide) zm_in1 kw_X1_112 dX1_heightAt_5 (zs_iload_n X rfl dX1_heightAt_8 (zs_imul X dX1_heightAt_9 (zs_aload_n X rfl dX1_heightAt_10 (zs_gf X (ci := 1) rfl (by decide) zm_in1 kw_X1_17 dX1_heightAt_11 (zs_iconst X (by decide) dX1_heightAt_14 (zs_isub X dX1_heightAt_15 (zs_csN X (M' := mX3_rounded) (n := 2) kd_X3_rounded ki_X3 (by decide +kernel) (by decide) kz_X1_124 ks_X3_rounded dX1_heightAt_16 (zs_iadd X dX1_heightAt_19 (zs_iret X rfl dX1_heightAt_20)))))))))))))
set_option maxRecDepth 20000 in
theorem bkX1_laneAt_0 {w : zW} {Γ : zC} {N S : Nat} {Rt : zR} (X : zm_X w Γ mX1_laneAt N S Rt) : ∀ lv st h, (zi_push (.int 3) (zi_ldi 2 (zi_push (.int 1) (zi_b (fun x y => x - y) (zi_b (fun x y => x * y) (zi_sti 3 (zi_ldi 3 (zi_sti 4 (zi_lda 0 (zi_gf 1 6 (zi_push (.int 1) (zi_ic (fun x y => x = y) (zi_ldi 3 (zi_ldi 1 (zi_b (fun x y => x * y) (zi_lda 0 (zi_gf 1 1 (zi_push (.int 1) (zi_b (fun x y => x - y) (zi_cs w mX3_rounded 2 N S (zi_sti 4 (zm_V w Γ 63)))))))))) (zi_lda 0 (zi_gf 1 6 (zi_push (.int 2) (zi_ic (fun x y => x = y) (zi_ldi 3 (zi_lda 0 (zi_gf 1 1 (zi_push (.int 1) (zi_b (fun x y => x - y) (zi_ldi 1 (zi_b (fun x y => x - y) (zi_b (fun x y => x * y) (zi_lda 0 (zi_gf 1 1 (zi_push (.int 1) (zi_b (fun x y => x - y) (zi_cs w mX3_rounded 2 N S (zi_sti 4 (zm_V w Γ 63))))))))))))))) (zm_V w Γ 63))))))))))))))))) lv st h → zm_V w Γ 0 lv st h := (zs_iconst X (by decide) dX1_laneAt_0 (zs_iload_n X rfl dX1_laneAt_1 (zs_iconst X (by decide) dX1_laneAt_2 (zs_isub X dX1_laneAt_3 (zs_imul X dX1_laneAt_4 (zs_istore_n X rfl (by decide) dX1_laneAt_5 (zs_iload_n X rfl dX1_laneAt_6 (zs_istore X (by decide) dX1_laneAt_7 (zs_aload_n X rfl dX1_laneAt_9 (zs_gf X (ci := 1) rfl (by decide) zm_in1 kw_X1_21 dX1_laneAt_10 (zs_iconst X (by decide) dX1_laneAt_13 (zs_icmp_ne X dX1_laneAt_14 (by decide) (zs_aload_n X rfl dX1_laneAt_34 (zs_gf X (ci := 1) rfl (by decide) zm_in1 kw_X1_21 dX1_laneAt_35 (zs_iconst X (by decide) dX1_laneAt_38 (zs_icmp_ne X dX1_laneAt_39 (by decide) (fun _ _ _ h => h) (zs_iload_n X rfl dX1_laneAt_42 (zs_aload_n X rfl dX1_laneAt_43 (zs_gf X (ci := 1) rfl (by decide) zm_in1 kw_X1_17 dX1_laneAt_44 (zs_iconst X (by decide) dX1_laneAt_47 (zs_isub X dX1_laneAt_48 (zs_iload_n X rfl dX1_laneAt_49 (zs_isub X dX1_laneAt_50 (zs_imul X dX1_laneAt_51 (zs_aload_n X rfl dX1_laneAt_52 (zs_gf X (ci := 1) rfl (by decide) zm_in1 kw_X1_17 dX1_laneAt_53 (zs_iconst X (by decide) dX1_laneAt_56 (zs_isub X dX1_laneAt_57 (zs_csN X (M' := mX3_rounded) (n := 2) kd_X3_rounded ki_X3 (by decide +kernel) (by decide) kz_X1_124 ks_X3_rounded dX1_laneAt_58 (zs_istore X (by decide) dX1_laneAt_61 (fun _ _ _ h => h))))))))))))))))))) (zs_iload_n X rfl dX1_laneAt_17 (zs_iload_n X rfl dX1_laneAt_18 (zs_imul X dX1_laneAt_19 (zs_aload_n X rfl dX1_laneAt_20 (zs_gf X (ci := 1) rfl (by decide) zm_in1 kw_X1_17 dX1_laneAt_21 (zs_iconst X (by decide) dX1_laneAt_24 (zs_isub X dX1_laneAt_25 (zs_csN X (M' := mX3_rounded) (n := 2) kd_X3_rounded ki_X3 (by decide +kernel) (by decide) kz_X1_124 ks_X3_rounded dX1_laneAt_26 (zs_istore X (by decide) dX1_laneAt_29 (zs_goto X dX1_laneAt_31 (by decide) (fun _ _ _ h => h)))))))))))))))))))))))
set_option maxRecDepth 20000 in
theorem bkX1_laneAt_63 {w : zW} {Γ : zC} {N S : Nat} {Rt : zR} (X : zm_X w Γ mX1_laneAt N S Rt) : ∀ lv st h, (zi_lda 0 (zi_ldi 1 (zi_cv w mX1_heightAt 1 2 N S (zi_lda 0 (zi_gf 1 2 (zi_push (.int (-1)) (zi_ic (fun x y => x = y) (zi_ldi 4 (zi_b (fun x y => x + y) (zi_iret Rt))) (zi_ldi 4 (zi_u (fun x => -x) (zi_b (fun x y => x + y) (zi_iret Rt))))))))))) lv st h → zm_V w Γ 63 lv st h := (zs_aload_n X rfl dX1_laneAt_63 (zs_iload_n X rfl dX1_laneAt_64 (zs_cv X (M' := mX1_heightAt) (n := 1) kd_X1_heightAt ki_X1 (by decide +kernel) (by decide) kw_X1_136 rfl ks_X1_heightAt kl_X1_heightAt dX1_laneAt_65 (zs_aload_n X rfl dX1_laneAt_68 (zs_gf X (ci := 1) rfl (by decide) zm_in1 kw_X1_51 dX1_laneAt_69 (zs_iconst X (by decide) dX1_laneAt_72 (zs_icmp_ne X dX1_laneAt_73 (by decide) (zs_iload X dX1_laneAt_81 (zs_ineg X dX1_laneAt_83 (zs_iadd X dX1_laneAt_84 (zs_iret X rfl dX1_laneAt_85)))) (zs_iload X dX1_laneAt_76 (zs_goto X dX1_laneAt_78 (by decide) (zs_iadd X dX1_laneAt_84 (zs_iret X rfl dX1_laneAt_85)))))))))))
set_option maxRecDepth 20000 in
theorem bkX1_clearOf_0 {w : zW} {Γ : zC} {N S : Nat} {Rt : zR} (X : zm_X w Γ mX1_clearOf N S Rt) : ∀ lv st h, (zi_lda 0 (zi_ldi 2 (zi_lda 0 (zi_cv w mX1_greatestLevel 1 1 N S (zi_cv w mX1_laneAt 1 3 N S (zi_sti 3 (zi_lda 0 (zi_gf 1 2 (zi_push (.int 1) (zi_ic (fun x y => x = y) (zi_ldi 3 (zi_push (.int 6) (zi_b (fun x y => x - y) (zi_sti 4 (zi_ldi 1 (zi_ldi 4 (zi_ic (fun x y => y < x) (zi_ldi 4 (zi_ldi 4 (zi_push (.int 4) (zi_cs w mJ9_floorMod_7cf53 2 N S (zi_b (fun x y => x - y) (zi_iret Rt)))))) (zi_ldi 1 (zi_iret Rt))))))))) (zi_lda 0 (zi_gf 1 2 (zi_push (.int (-1)) (zi_ic (fun x y => x = y) (zi_ldi 3 (zi_push (.int 6) (zi_b (fun x y => x + y) (zi_sti 4 (zi_ldi 1 (zi_ldi 4 (zi_ic (fun x y => x < y) (zi_ldi 4 (zi_ldi 4 (zi_u (fun x => -x) (zi_push (.int 4) (zi_cs w mJ9_floorMod_7cf53 2 N S (zi_b (fun x y => x + y) (zi_iret Rt))))))) (zi_ldi 1 (zi_iret Rt))))))))) (zi_ldi 1 (zi_iret Rt)))))))))))))))) lv st h → zm_V w Γ 0 lv st h := (zs_aload_n X rfl dX1_clearOf_0 (zs_iload_n X rfl dX1_clearOf_1 (zs_aload_n X rfl dX1_clearOf_2 (zs_cv X (M' := mX1_greatestLevel) (n := 0) kd_X1_greatestLevel ki_X1 (by decide +kernel) (by decide) kw_X1_139 rfl ks_X1_greatestLevel kl_X1_greatestLevel dX1_clearOf_3 (zs_cv X (M' := mX1_laneAt) (n := 2) kd_X1_laneAt ki_X1 (by decide +kernel) (by decide) kw_X1_142 rfl ks_X1_laneAt kl_X1_laneAt dX1_clearOf_6 (zs_istore_n X rfl (by decide) dX1_clearOf_9 (zs_aload_n X rfl dX1_clearOf_10 (zs_gf X (ci := 1) rfl (by decide) zm_in1 kw_X1_51 dX1_clearOf_11 (zs_iconst X (by decide) dX1_clearOf_14 (zs_icmp_ne X dX1_clearOf_15 (by decide) (zs_aload_n X rfl dX1_clearOf_44 (zs_gf X (ci := 1) rfl (by decide) zm_in1 kw_X1_51 dX1_clearOf_45 (zs_iconst X (by decide) dX1_clearOf_48 (zs_icmp_ne X dX1_clearOf_49 (by decide) (zs_iload_n X rfl dX1_clearOf_79 (zs_iret X rfl dX1_clearOf_80)) (zs_iload_n X rfl dX1_clearOf_52 (zs_bipush X (by decide) dX1_clearOf_53 (zs_iadd X dX1_clearOf_55 (zs_istore X (by decide) dX1_clearOf_56 (zs_iload_n X rfl dX1_clearOf_58 (zs_iload X dX1_clearOf_59 (zs_icmp_lt X dX1_clearOf_61 (by decide) (zs_iload X dX1_clearOf_68 (zs_iload X dX1_clearOf_70 (zs_ineg X dX1_clearOf_72 (zs_iconst X (by decide) dX1_clearOf_73 (zs_cs X (M' := mJ9_floorMod_7cf53) (n := 2) kd_J9_floorMod_7cf53 ki_J9 (by decide +kernel) (by decide) kw_X1_145 ks_J9_floorMod_7cf53 dX1_clearOf_74 (zs_iadd X dX1_clearOf_77 (zs_iret X rfl dX1_clearOf_78))))))) (zs_iload_n X rfl dX1_clearOf_64 (zs_goto X dX1_clearOf_65 (by decide) (zs_iret X rfl dX1_clearOf_78)))))))))))))) (zs_iload_n X rfl dX1_clearOf_18 (zs_bipush X (by decide) dX1_clearOf_19 (zs_isub X dX1_clearOf_21 (zs_istore X (by decide) dX1_clearOf_22 (zs_iload_n X rfl dX1_clearOf_24 (zs_iload X dX1_clearOf_25 (zs_icmp_gt X dX1_clearOf_27 (by decide) (zs_iload X dX1_clearOf_34 (zs_iload X dX1_clearOf_36 (zs_iconst X (by decide) dX1_clearOf_38 (zs_cs X (M' := mJ9_floorMod_7cf53) (n := 2) kd_J9_floorMod_7cf53 ki_J9 (by decide +kernel) (by decide) kw_X1_145 ks_J9_floorMod_7cf53 dX1_clearOf_39 (zs_isub X dX1_clearOf_42 (zs_iret X rfl dX1_clearOf_43)))))) (zs_iload_n X rfl dX1_clearOf_30 (zs_goto X dX1_clearOf_31 (by decide) (zs_iret X rfl dX1_clearOf_43))))))))))))))))))))
set_option maxRecDepth 20000 in
theorem bkX1_sidesAt_0 {w : zW} {Γ : zC} {N S : Nat} {Rt : zR} (X : zm_X w Γ mX1_sidesAt N S Rt) : ∀ lv st h, (zi_lda 0 (zi_ldi 1 (zi_ldi 2 (zi_cv w mX1_hangsBack 1 3 N S (zi_if (fun x => x = 0) (zi_push (.int 0) (zm_V w Γ 14)) (zi_push (.int 1) (zm_V w Γ 14))))))) lv st h → zm_V w Γ 0 lv st h := (zs_aload_n X rfl dX1_sidesAt_0 (zs_iload_n X rfl dX1_sidesAt_1 (zs_iload_n X rfl dX1_sidesAt_2 (zs_cv X (M' := mX1_hangsBack) (n := 2) kd_X1_hangsBack ki_X1 (by decide +kernel) (by decide) kw_X1_148 rfl ks_X1_hangsBack kl_X1_hangsBack dX1_sidesAt_3 (zs_if_eq X dX1_sidesAt_6 (by decide) (zs_iconst X (by decide) dX1_sidesAt_13 (fun _ _ _ h => h)) (zs_iconst X (by decide) dX1_sidesAt_9 (zs_goto X dX1_sidesAt_10 (by decide) (fun _ _ _ h => h))))))))
set_option maxRecDepth 20000 in
theorem bkX1_sidesAt_14 {w : zW} {Γ : zC} {N S : Nat} {Rt : zR} (X : zm_X w Γ mX1_sidesAt N S Rt) : ∀ lv st h, (zi_lda 0 (zi_ldi 1 (zi_push (.int 1) (zi_b (fun x y => x + y) (zi_ldi 2 (zi_cv w mX1_hangsBack 1 3 N S (zi_if (fun x => x = 0) (zi_push (.int 0) (zi_b (fun x y => x + y) (zi_iret Rt))) (zi_push (.int 2) (zi_b (fun x y => x + y) (zi_iret Rt)))))))))) lv st h → zm_V w Γ 14 lv st h := (zs_aload_n X rfl dX1_sidesAt_14 (zs_iload_n X rfl dX1_sidesAt_15 (zs_iconst X (by decide) dX1_sidesAt_16 (zs_iadd X dX1_sidesAt_17 (zs_iload_n X rfl dX1_sidesAt_18 (zs_cv X (M' := mX1_hangsBack) (n := 2) kd_X1_hangsBack ki_X1 (by decide +kernel) (by decide) kw_X1_148 rfl ks_X1_hangsBack kl_X1_hangsBack dX1_sidesAt_19 (zs_if_eq X dX1_sidesAt_22 (by decide) (zs_iconst X (by decide) dX1_sidesAt_29 (zs_iadd X dX1_sidesAt_30 (zs_iret X rfl dX1_sidesAt_31))) (zs_iconst X (by decide) dX1_sidesAt_25 (zs_goto X dX1_sidesAt_26 (by decide) (zs_iadd X dX1_sidesAt_30 (zs_iret X rfl dX1_sidesAt_31)))))))))))
set_option maxRecDepth 20000 in
theorem bkX1_hangsBack_0 {w : zW} {Γ : zC} {N S : Nat} {Rt : zR} (X : zm_X w Γ mX1_hangsBack N S Rt) : ∀ lv st h, (zi_lda 0 (zi_ldi 1 (zi_push (.int 1) (zi_b (fun x y => x - y) (zi_cv w mX1_has 1 2 N S (zi_if (fun x => x = 0) (zi_push (.int 0) (zi_zret Rt)) (zi_lda 0 (zi_ldi 1 (zi_cv w mX1_has 1 2 N S (zi_if (fun x => x = 0) (zi_push (.int 0) (zi_zret Rt)) (zi_ldi 2 (zi_push (.int 1) (zi_ic (fun x y => x = y) (zi_push (.int 1) (zi_zret Rt)) (zi_lda 0 (zi_gf 1 0 (zi_ldi 1 (zi_push (.int 1) (zi_b (fun x y => x - y) (zi_aa 2 (zi_cv w mX2_levels 2 1 N S (zi_ldi 2 (zi_ic (fun x y => x < y) (zi_push (.int 0) (zi_zret Rt)) (zi_lda 0 (zi_gf 1 0 (zi_ldi 1 (zi_aa 2 (zi_cv w mX2_levels 2 1 N S (zi_ldi 2 (zi_ic (fun x y => x < y) (zi_push (.int 0) (zi_zret Rt)) (zi_lda 0 (zi_gf 1 0 (zi_ldi 1 (zi_aa 2 (zi_ldi 2 (zi_cv w mX2_isBroken 2 2 N S (zi_if (fun x => x = 0) (zi_push (.int 1) (zi_zret Rt)) (zi_push (.int 0) (zi_zret Rt)))))))))))))))))))))))))))))))))))))) lv st h → zm_V w Γ 0 lv st h := (zs_aload_n X rfl dX1_hangsBack_0 (zs_iload_n X rfl dX1_hangsBack_1 (zs_iconst X (by decide) dX1_hangsBack_2 (zs_isub X dX1_hangsBack_3 (zs_cv X (M' := mX1_has) (n := 1) kd_X1_has ki_X1 (by decide +kernel) (by decide) kw_X1_73 rfl ks_X1_has kl_X1_has dX1_hangsBack_4 (zs_if_eq X dX1_hangsBack_7 (by decide) (zs_iconst X (by decide) dX1_hangsBack_18 (zs_zret X rfl dX1_hangsBack_19)) (zs_aload_n X rfl dX1_hangsBack_10 (zs_iload_n X rfl dX1_hangsBack_11 (zs_cv X (M' := mX1_has) (n := 1) kd_X1_has ki_X1 (by decide +kernel) (by decide) kw_X1_73 rfl ks_X1_has kl_X1_has dX1_hangsBack_12 (zs_if_ne X dX1_hangsBack_15 (by decide) (zs_iload_n X rfl dX1_hangsBack_20 (zs_iconst X (by decide) dX1_hangsBack_21 (zs_icmp_eq X dX1_hangsBack_22 (by decide) (zs_iconst X (by decide) dX1_hangsBack_66 (zs_goto X dX1_hangsBack_67 (by decide) (zs_zret X rfl dX1_hangsBack_71))) (zs_aload_n X rfl dX1_hangsBack_25 (zs_gf X (ci := 1) rfl (by decide) zm_in1 kw_X1_11 dX1_hangsBack_26 (zs_iload_n X rfl dX1_hangsBack_29 (zs_iconst X (by decide) dX1_hangsBack_30 (zs_isub X dX1_hangsBack_31 (zs_aald X (fun _ => rfl) dX1_hangsBack_32 (zs_cv X (M' := mX2_levels) (n := 0) kd_X2_levels ki_X2 (by decide +kernel) (by decide) kw_X1_30 rfl ks_X2_levels kl_X2_levels dX1_hangsBack_33 (zs_iload_n X rfl dX1_hangsBack_36 (zs_icmp_lt X dX1_hangsBack_37 (by decide) (zs_iconst X (by decide) dX1_hangsBack_70 (zs_zret X rfl dX1_hangsBack_71)) (zs_aload_n X rfl dX1_hangsBack_40 (zs_gf X (ci := 1) rfl (by decide) zm_in1 kw_X1_11 dX1_hangsBack_41 (zs_iload_n X rfl dX1_hangsBack_44 (zs_aald X (fun _ => rfl) dX1_hangsBack_45 (zs_cv X (M' := mX2_levels) (n := 0) kd_X2_levels ki_X2 (by decide +kernel) (by decide) kw_X1_30 rfl ks_X2_levels kl_X2_levels dX1_hangsBack_46 (zs_iload_n X rfl dX1_hangsBack_49 (zs_icmp_lt X dX1_hangsBack_50 (by decide) (zs_iconst X (by decide) dX1_hangsBack_70 (zs_zret X rfl dX1_hangsBack_71)) (zs_aload_n X rfl dX1_hangsBack_53 (zs_gf X (ci := 1) rfl (by decide) zm_in1 kw_X1_11 dX1_hangsBack_54 (zs_iload_n X rfl dX1_hangsBack_57 (zs_aald X (fun _ => rfl) dX1_hangsBack_58 (zs_iload_n X rfl dX1_hangsBack_59 (zs_cv X (M' := mX2_isBroken) (n := 1) kd_X2_isBroken ki_X2 (by decide +kernel) (by decide) kw_X1_151 rfl ks_X2_isBroken kl_X2_isBroken dX1_hangsBack_60 (zs_if_ne X dX1_hangsBack_63 (by decide) (zs_iconst X (by decide) dX1_hangsBack_70 (zs_zret X rfl dX1_hangsBack_71)) (zs_iconst X (by decide) dX1_hangsBack_66 (zs_goto X dX1_hangsBack_67 (by decide) (zs_zret X rfl dX1_hangsBack_71))))))))))))))))))))))))))))) (zs_iconst X (by decide) dX1_hangsBack_18 (zs_zret X rfl dX1_hangsBack_19))))))))))))
set_option maxRecDepth 20000 in
theorem bkX1_countWith_0 {w : zW} {Γ : zC} {N S : Nat} {Rt : zR} (X : zm_X w Γ mX1_countWith N S Rt) : ∀ lv st h, (zi_push (.int 0) (zi_sti 2 (zi_push (.int 0) (zi_sti 3 (zm_V w Γ 4))))) lv st h → zm_V w Γ 0 lv st h := (zs_iconst X (by decide) dX1_countWith_0 (zs_istore_n X rfl (by decide) dX1_countWith_1 (zs_iconst X (by decide) dX1_countWith_2 (zs_istore_n X rfl (by decide) dX1_countWith_3 (fun _ _ _ h => h)))))
set_option maxRecDepth 20000 in
theorem bkX1_countWith_4 {w : zW} {Γ : zC} {N S : Nat} {Rt : zR} (X : zm_X w Γ mX1_countWith N S Rt) : ∀ lv st h, (zi_ldi 3 (zi_lda 0 (zi_gf 1 1 (zi_ic (fun x y => y ≤ x) (zi_ldi 2 (zi_iret Rt)) (zi_ldi 2 (zi_lda 0 (zi_gf 1 0 (zi_ldi 3 (zi_aa 2 (zi_cv w mX2_levels 2 1 N S (zi_ldi 1 (zi_ic (fun x y => x < y) (zi_push (.int 0) (zi_b (fun x y => x + y) (zi_sti 2 (zi_inc 3 1 (zm_V w Γ 4))))) (zi_push (.int 1) (zi_b (fun x y => x + y) (zi_sti 2 (zi_inc 3 1 (zm_V w Γ 4))))))))))))))))) lv st h → zm_V w Γ 4 lv st h := (zs_iload_n X rfl dX1_countWith_4 (zs_aload_n X rfl dX1_countWith_5 (zs_gf X (ci := 1) rfl (by decide) zm_in1 kw_X1_17 dX1_countWith_6 (zs_icmp_ge X dX1_countWith_9 (by decide) (zs_iload_n X rfl dX1_countWith_39 (zs_iret X rfl dX1_countWith_40)) (zs_iload_n X rfl dX1_countWith_12 (zs_aload_n X rfl dX1_countWith_13 (zs_gf X (ci := 1) rfl (by decide) zm_in1 kw_X1_11 dX1_countWith_14 (zs_iload_n X rfl dX1_countWith_17 (zs_aald X (fun _ => rfl) dX1_countWith_18 (zs_cv X (M' := mX2_levels) (n := 0) kd_X2_levels ki_X2 (by decide +kernel) (by decide) kw_X1_30 rfl ks_X2_levels kl_X2_levels dX1_countWith_19 (zs_iload_n X rfl dX1_countWith_22 (zs_icmp_lt X dX1_countWith_23 (by decide) (zs_iconst X (by decide) dX1_countWith_30 (zs_iadd X dX1_countWith_31 (zs_istore_n X rfl (by decide) dX1_countWith_32 (zs_iinc X (by decide) (by decide) dX1_countWith_33 (zs_goto X dX1_countWith_36 (by decide) (fun _ _ _ h => h)))))) (zs_iconst X (by decide) dX1_countWith_26 (zs_goto X dX1_countWith_27 (by decide) (zs_iadd X dX1_countWith_31 (zs_istore_n X rfl (by decide) dX1_countWith_32 (zs_iinc X (by decide) (by decide) dX1_countWith_33 (zs_goto X dX1_countWith_36 (by decide) (fun _ _ _ h => h)))))))))))))))))))
set_option maxRecDepth 20000 in
theorem bkX1_lengthsWith_0 {w : zW} {Γ : zC} {N S : Nat} {Rt : zR} (X : zm_X w Γ mX1_lengthsWith N S Rt) : ∀ lv st h, (zi_push (.long 0) (zi_stl 2 (zi_push (.int 0) (zi_sti 4 (zm_V w Γ 5))))) lv st h → zm_V w Γ 0 lv st h := (zs_lconst X (by decide) dX1_lengthsWith_0 (zs_lstore_n X rfl (by decide) dX1_lengthsWith_1 (zs_iconst X (by decide) dX1_lengthsWith_2 (zs_istore X (by decide) dX1_lengthsWith_3 (fun _ _ _ h => h)))))
set_option maxRecDepth 20000 in
theorem bkX1_lengthsWith_5 {w : zW} {Γ : zC} {N S : Nat} {Rt : zR} (X : zm_X w Γ mX1_lengthsWith N S Rt) : ∀ lv st h, (zi_ldi 4 (zi_lda 0 (zi_gf 1 1 (zi_ic (fun x y => y ≤ x) (zi_ldl 2 (zi_lret Rt)) (zi_ldl 2 (zi_lda 0 (zi_gf 1 0 (zi_ldi 4 (zi_aa 2 (zi_cv w mX2_levels 2 1 N S (zi_ldi 1 (zi_ic (fun x y => x < y) (zi_push (.long 0) (zi_bl (fun x y => x + y) (zi_stl 2 (zi_inc 4 1 (zm_V w Γ 5))))) (zi_lda 0 (zi_gf 1 0 (zi_ldi 4 (zi_aa 2 (zi_lda 0 (zi_ldi 4 (zi_cv w mX1_heightAt 1 2 N S (zi_cv w mX2_lengthTo 2 2 N S (zi_i2l (zi_bl (fun x y => x + y) (zi_stl 2 (zi_inc 4 1 (zm_V w Γ 5))))))))))))))))))))))))) lv st h → zm_V w Γ 5 lv st h := (zs_iload X dX1_lengthsWith_5 (zs_aload_n X rfl dX1_lengthsWith_7 (zs_gf X (ci := 1) rfl (by decide) zm_in1 kw_X1_17 dX1_lengthsWith_8 (zs_icmp_ge X dX1_lengthsWith_11 (by decide) (zs_lload_n X rfl dX1_lengthsWith_58 (zs_lret X rfl dX1_lengthsWith_59)) (zs_lload_n X rfl dX1_lengthsWith_14 (zs_aload_n X rfl dX1_lengthsWith_15 (zs_gf X (ci := 1) rfl (by decide) zm_in1 kw_X1_11 dX1_lengthsWith_16 (zs_iload X dX1_lengthsWith_19 (zs_aald X (fun _ => rfl) dX1_lengthsWith_21 (zs_cv X (M' := mX2_levels) (n := 0) kd_X2_levels ki_X2 (by decide +kernel) (by decide) kw_X1_30 rfl ks_X2_levels kl_X2_levels dX1_lengthsWith_22 (zs_iload_n X rfl dX1_lengthsWith_25 (zs_icmp_lt X dX1_lengthsWith_26 (by decide) (zs_lconst X (by decide) dX1_lengthsWith_49 (zs_ladd X dX1_lengthsWith_50 (zs_lstore_n X rfl (by decide) dX1_lengthsWith_51 (zs_iinc X (by decide) (by decide) dX1_lengthsWith_52 (zs_goto X dX1_lengthsWith_55 (by decide) (fun _ _ _ h => h)))))) (zs_aload_n X rfl dX1_lengthsWith_29 (zs_gf X (ci := 1) rfl (by decide) zm_in1 kw_X1_11 dX1_lengthsWith_30 (zs_iload X dX1_lengthsWith_33 (zs_aald X (fun _ => rfl) dX1_lengthsWith_35 (zs_aload_n X rfl dX1_lengthsWith_36 (zs_iload X dX1_lengthsWith_37 (zs_cv X (M' := mX1_heightAt) (n := 1) kd_X1_heightAt ki_X1 (by decide +kernel) (by decide) kw_X1_136 rfl ks_X1_heightAt kl_X1_heightAt dX1_lengthsWith_39 (zs_cv X (M' := mX2_lengthTo) (n := 1) kd_X2_lengthTo ki_X2 (by decide +kernel) (by decide) kw_X1_127 rfl ks_X2_lengthTo kl_X2_lengthTo dX1_lengthsWith_42 (zs_i2l X dX1_lengthsWith_45 (zs_goto X dX1_lengthsWith_46 (by decide) (zs_ladd X dX1_lengthsWith_50 (zs_lstore_n X rfl (by decide) dX1_lengthsWith_51 (zs_iinc X (by decide) (by decide) dX1_lengthsWith_52 (zs_goto X dX1_lengthsWith_55 (by decide) (fun _ _ _ h => h)))))))))))))))))))))))))))
