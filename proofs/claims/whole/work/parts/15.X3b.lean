theorem dX3_stem_0 : decode cX3_stem 0 = .ok (.aload_n 0, 1) := by decide +kernel
theorem dX3_stem_1 : decode cX3_stem 1 = .ok (.iload_n 1, 1) := by decide +kernel
theorem dX3_stem_2 : decode cX3_stem 2 = .ok (.invokevirtual 62, 3) := by decide +kernel
theorem dX3_stem_5 : decode cX3_stem 5 = .ok (.astore_n 3, 1) := by decide +kernel
theorem dX3_stem_6 : decode cX3_stem 6 = .ok (.aload_n 3, 1) := by decide +kernel
theorem dX3_stem_7 : decode cX3_stem 7 = .ok (.iload_n 2, 1) := by decide +kernel
theorem dX3_stem_8 : decode cX3_stem 8 = .ok (.ifCond .lt 12, 3) := by decide +kernel
theorem dX3_stem_11 : decode cX3_stem 11 = .ok (.iload_n 2, 1) := by decide +kernel
theorem dX3_stem_12 : decode cX3_stem 12 = .ok (.iconst 4, 1) := by decide +kernel
theorem dX3_stem_13 : decode cX3_stem 13 = .ok (.if_icmp .gt 7, 3) := by decide +kernel
theorem dX3_stem_16 : decode cX3_stem 16 = .ok (.iconst 1, 1) := by decide +kernel
theorem dX3_stem_17 : decode cX3_stem 17 = .ok (.goto 4, 3) := by decide +kernel
theorem dX3_stem_20 : decode cX3_stem 20 = .ok (.iconst 0, 1) := by decide +kernel
theorem dX3_stem_21 : decode cX3_stem 21 = .ok (.invokestatic 70, 3) := by decide +kernel
theorem dX3_stem_24 : decode cX3_stem 24 = .ok (.istore 4, 2) := by decide +kernel
theorem dX3_stem_26 : decode cX3_stem 26 = .ok (.aload_n 3, 1) := by decide +kernel
theorem dX3_stem_27 : decode cX3_stem 27 = .ok (.ifnull 8, 3) := by decide +kernel
theorem dX3_stem_30 : decode cX3_stem 30 = .ok (.iload 4, 2) := by decide +kernel
theorem dX3_stem_32 : decode cX3_stem 32 = .ok (.ifCond .eq 6, 3) := by decide +kernel
theorem dX3_stem_35 : decode cX3_stem 35 = .ok (.iload 4, 2) := by decide +kernel
theorem dX3_stem_37 : decode cX3_stem 37 = .ok (.ireturn, 1) := by decide +kernel
theorem dX3_stem_38 : decode cX3_stem 38 = .ok (.iload_n 2, 1) := by decide +kernel
theorem dX3_stem_39 : decode cX3_stem 39 = .ok (.iconst 4, 1) := by decide +kernel
theorem dX3_stem_40 : decode cX3_stem 40 = .ok (.if_icmp .ne 8, 3) := by decide +kernel
theorem dX3_stem_43 : decode cX3_stem 43 = .ok (.aload_n 3, 1) := by decide +kernel
theorem dX3_stem_44 : decode cX3_stem 44 = .ok (.getfield 157, 3) := by decide +kernel
theorem dX3_stem_47 : decode cX3_stem 47 = .ok (.ireturn, 1) := by decide +kernel
theorem dX3_stem_48 : decode cX3_stem 48 = .ok (.aload_n 3, 1) := by decide +kernel
theorem dX3_stem_49 : decode cX3_stem 49 = .ok (.getfield 160, 3) := by decide +kernel
theorem dX3_stem_52 : decode cX3_stem 52 = .ok (.ifCond .ne 7, 3) := by decide +kernel
theorem dX3_stem_55 : decode cX3_stem 55 = .ok (.sipush (-1001), 3) := by decide +kernel
theorem dX3_stem_58 : decode cX3_stem 58 = .ok (.ireturn, 1) := by decide +kernel
theorem dX3_stem_59 : decode cX3_stem 59 = .ok (.aload_n 0, 1) := by decide +kernel
theorem dX3_stem_60 : decode cX3_stem 60 = .ok (.aload_n 3, 1) := by decide +kernel
theorem dX3_stem_61 : decode cX3_stem 61 = .ok (.getfield 157, 3) := by decide +kernel
theorem dX3_stem_64 : decode cX3_stem 64 = .ok (.invokevirtual 109, 3) := by decide +kernel
theorem dX3_stem_67 : decode cX3_stem 67 = .ok (.astore 5, 2) := by decide +kernel
theorem dX3_stem_69 : decode cX3_stem 69 = .ok (.aload 5, 2) := by decide +kernel
theorem dX3_stem_71 : decode cX3_stem 71 = .ok (.ifnonnull 16, 3) := by decide +kernel
theorem dX3_stem_74 : decode cX3_stem 74 = .ok (.aload_n 3, 1) := by decide +kernel
theorem dX3_stem_75 : decode cX3_stem 75 = .ok (.aload_n 3, 1) := by decide +kernel
theorem dX3_stem_76 : decode cX3_stem 76 = .ok (.aload_n 0, 1) := by decide +kernel
theorem dX3_stem_77 : decode cX3_stem 77 = .ok (.invokevirtual 163, 3) := by decide +kernel
theorem dX3_stem_80 : decode cX3_stem 80 = .ok (.invokevirtual 167, 3) := by decide +kernel
theorem dX3_stem_83 : decode cX3_stem 83 = .ok (.iconst 0, 1) := by decide +kernel
theorem dX3_stem_84 : decode cX3_stem 84 = .ok (.invokevirtual 171, 3) := by decide +kernel
theorem dX3_stem_87 : decode cX3_stem 87 = .ok (.aload 5, 2) := by decide +kernel
theorem dX3_stem_89 : decode cX3_stem 89 = .ok (.ifnonnull 20, 3) := by decide +kernel
theorem dX3_stem_92 : decode cX3_stem 92 = .ok (.aload_n 3, 1) := by decide +kernel
theorem dX3_stem_93 : decode cX3_stem 93 = .ok (.getfield 174, 3) := by decide +kernel
theorem dX3_stem_96 : decode cX3_stem 96 = .ok (.aload_n 3, 1) := by decide +kernel
theorem dX3_stem_97 : decode cX3_stem 97 = .ok (.getfield 177, 3) := by decide +kernel
theorem dX3_stem_100 : decode cX3_stem 100 = .ok (.aload_n 3, 1) := by decide +kernel
theorem dX3_stem_101 : decode cX3_stem 101 = .ok (.getfield 178, 3) := by decide +kernel
theorem dX3_stem_104 : decode cX3_stem 104 = .ok (.imul, 1) := by decide +kernel
theorem dX3_stem_105 : decode cX3_stem 105 = .ok (.iadd, 1) := by decide +kernel
theorem dX3_stem_106 : decode cX3_stem 106 = .ok (.goto 12, 3) := by decide +kernel
theorem dX3_stem_109 : decode cX3_stem 109 = .ok (.aload 5, 2) := by decide +kernel
theorem dX3_stem_111 : decode cX3_stem 111 = .ok (.aload_n 3, 1) := by decide +kernel
theorem dX3_stem_112 : decode cX3_stem 112 = .ok (.getfield 181, 3) := by decide +kernel
theorem dX3_stem_115 : decode cX3_stem 115 = .ok (.invokevirtual 184, 3) := by decide +kernel
theorem dX3_stem_118 : decode cX3_stem 118 = .ok (.istore 6, 2) := by decide +kernel
theorem dX3_stem_120 : decode cX3_stem 120 = .ok (.iload_n 2, 1) := by decide +kernel
theorem dX3_stem_121 : decode cX3_stem 121 = .ok (.tableswitch 42 0 2 #[27, 32, 35], 27) := by decide +kernel
theorem dX3_stem_148 : decode cX3_stem 148 = .ok (.aload_n 3, 1) := by decide +kernel
theorem dX3_stem_149 : decode cX3_stem 149 = .ok (.getfield 177, 3) := by decide +kernel
theorem dX3_stem_152 : decode cX3_stem 152 = .ok (.ireturn, 1) := by decide +kernel
theorem dX3_stem_153 : decode cX3_stem 153 = .ok (.iload 6, 2) := by decide +kernel
theorem dX3_stem_155 : decode cX3_stem 155 = .ok (.ireturn, 1) := by decide +kernel
theorem dX3_stem_156 : decode cX3_stem 156 = .ok (.aload_n 3, 1) := by decide +kernel
theorem dX3_stem_157 : decode cX3_stem 157 = .ok (.iload 6, 2) := by decide +kernel
theorem dX3_stem_159 : decode cX3_stem 159 = .ok (.invokevirtual 188, 3) := by decide +kernel
theorem dX3_stem_162 : decode cX3_stem 162 = .ok (.ireturn, 1) := by decide +kernel
theorem dX3_stem_163 : decode cX3_stem 163 = .ok (.aload 5, 2) := by decide +kernel
theorem dX3_stem_165 : decode cX3_stem 165 = .ok (.ifnonnull 10, 3) := by decide +kernel
theorem dX3_stem_168 : decode cX3_stem 168 = .ok (.aload_n 3, 1) := by decide +kernel
theorem dX3_stem_169 : decode cX3_stem 169 = .ok (.invokevirtual 191, 3) := by decide +kernel
theorem dX3_stem_172 : decode cX3_stem 172 = .ok (.goto 4, 3) := by decide +kernel
theorem dX3_stem_175 : decode cX3_stem 175 = .ok (.iconst 0, 1) := by decide +kernel
theorem dX3_stem_176 : decode cX3_stem 176 = .ok (.ireturn, 1) := by decide +kernel
theorem dX3_level_0 : decode cX3_level 0 = .ok (.aload_n 0, 1) := by decide +kernel
theorem dX3_level_1 : decode cX3_level 1 = .ok (.iload_n 1, 1) := by decide +kernel
theorem dX3_level_2 : decode cX3_level 2 = .ok (.invokevirtual 62, 3) := by decide +kernel
theorem dX3_level_5 : decode cX3_level 5 = .ok (.astore_n 3, 1) := by decide +kernel
theorem dX3_level_6 : decode cX3_level 6 = .ok (.aload_n 3, 1) := by decide +kernel
theorem dX3_level_7 : decode cX3_level 7 = .ok (.iload_n 2, 1) := by decide +kernel
theorem dX3_level_8 : decode cX3_level 8 = .ok (.iconst 1, 1) := by decide +kernel
theorem dX3_level_9 : decode cX3_level 9 = .ok (.if_icmp .lt 12, 3) := by decide +kernel
theorem dX3_level_12 : decode cX3_level 12 = .ok (.iload_n 2, 1) := by decide +kernel
theorem dX3_level_13 : decode cX3_level 13 = .ok (.iconst 4, 1) := by decide +kernel
theorem dX3_level_14 : decode cX3_level 14 = .ok (.if_icmp .gt 7, 3) := by decide +kernel
theorem dX3_level_17 : decode cX3_level 17 = .ok (.iconst 1, 1) := by decide +kernel
theorem dX3_level_18 : decode cX3_level 18 = .ok (.goto 4, 3) := by decide +kernel
theorem dX3_level_21 : decode cX3_level 21 = .ok (.iconst 0, 1) := by decide +kernel
theorem dX3_level_22 : decode cX3_level 22 = .ok (.invokestatic 70, 3) := by decide +kernel
theorem dX3_level_25 : decode cX3_level 25 = .ok (.istore 4, 2) := by decide +kernel
theorem dX3_level_27 : decode cX3_level 27 = .ok (.aload_n 3, 1) := by decide +kernel
theorem dX3_level_28 : decode cX3_level 28 = .ok (.ifnull 8, 3) := by decide +kernel
theorem dX3_level_31 : decode cX3_level 31 = .ok (.iload 4, 2) := by decide +kernel
theorem dX3_level_33 : decode cX3_level 33 = .ok (.ifCond .eq 6, 3) := by decide +kernel
theorem dX3_level_36 : decode cX3_level 36 = .ok (.iload 4, 2) := by decide +kernel
theorem dX3_level_38 : decode cX3_level 38 = .ok (.ireturn, 1) := by decide +kernel
theorem dX3_level_39 : decode cX3_level 39 = .ok (.aload_n 0, 1) := by decide +kernel
theorem dX3_level_40 : decode cX3_level 40 = .ok (.aload_n 3, 1) := by decide +kernel
theorem dX3_level_41 : decode cX3_level 41 = .ok (.getfield 157, 3) := by decide +kernel
theorem dX3_level_44 : decode cX3_level 44 = .ok (.invokevirtual 109, 3) := by decide +kernel
theorem dX3_level_47 : decode cX3_level 47 = .ok (.astore 5, 2) := by decide +kernel
theorem dX3_level_49 : decode cX3_level 49 = .ok (.aload 5, 2) := by decide +kernel
theorem dX3_level_51 : decode cX3_level 51 = .ok (.ifnull 11, 3) := by decide +kernel
theorem dX3_level_54 : decode cX3_level 54 = .ok (.aload_n 3, 1) := by decide +kernel
theorem dX3_level_55 : decode cX3_level 55 = .ok (.invokevirtual 191, 3) := by decide +kernel
theorem dX3_level_58 : decode cX3_level 58 = .ok (.iload_n 2, 1) := by decide +kernel
theorem dX3_level_59 : decode cX3_level 59 = .ok (.if_icmp .ge 5, 3) := by decide +kernel
theorem dX3_level_62 : decode cX3_level 62 = .ok (.iconst 0, 1) := by decide +kernel
theorem dX3_level_63 : decode cX3_level 63 = .ok (.ireturn, 1) := by decide +kernel
theorem dX3_level_64 : decode cX3_level 64 = .ok (.aload 5, 2) := by decide +kernel
theorem dX3_level_66 : decode cX3_level 66 = .ok (.aload_n 3, 1) := by decide +kernel
theorem dX3_level_67 : decode cX3_level 67 = .ok (.getfield 181, 3) := by decide +kernel
theorem dX3_level_70 : decode cX3_level 70 = .ok (.iload_n 2, 1) := by decide +kernel
theorem dX3_level_71 : decode cX3_level 71 = .ok (.invokevirtual 194, 3) := by decide +kernel
theorem dX3_level_74 : decode cX3_level 74 = .ok (.istore 6, 2) := by decide +kernel
theorem dX3_level_76 : decode cX3_level 76 = .ok (.iload 6, 2) := by decide +kernel
theorem dX3_level_78 : decode cX3_level 78 = .ok (.ifCond .eq 8, 3) := by decide +kernel
theorem dX3_level_81 : decode cX3_level 81 = .ok (.iload 6, 2) := by decide +kernel
theorem dX3_level_83 : decode cX3_level 83 = .ok (.goto 10, 3) := by decide +kernel
theorem dX3_level_86 : decode cX3_level 86 = .ok (.aload_n 0, 1) := by decide +kernel
theorem dX3_level_87 : decode cX3_level 87 = .ok (.aload_n 3, 1) := by decide +kernel
theorem dX3_level_88 : decode cX3_level 88 = .ok (.aload 5, 2) := by decide +kernel
theorem dX3_level_90 : decode cX3_level 90 = .ok (.invokevirtual 198, 3) := by decide +kernel
theorem dX3_level_93 : decode cX3_level 93 = .ok (.ireturn, 1) := by decide +kernel
theorem dX3_feather_0 : decode cX3_feather 0 = .ok (.aload_n 0, 1) := by decide +kernel
theorem dX3_feather_1 : decode cX3_feather 1 = .ok (.iload_n 1, 1) := by decide +kernel
theorem dX3_feather_2 : decode cX3_feather 2 = .ok (.invokevirtual 109, 3) := by decide +kernel
theorem dX3_feather_5 : decode cX3_feather 5 = .ok (.astore_n 3, 1) := by decide +kernel
theorem dX3_feather_6 : decode cX3_feather 6 = .ok (.aload_n 3, 1) := by decide +kernel
theorem dX3_feather_7 : decode cX3_feather 7 = .ok (.ifnonnull 7, 3) := by decide +kernel
theorem dX3_feather_10 : decode cX3_feather 10 = .ok (.sipush (-1002), 3) := by decide +kernel
theorem dX3_feather_13 : decode cX3_feather 13 = .ok (.ireturn, 1) := by decide +kernel
theorem dX3_feather_14 : decode cX3_feather 14 = .ok (.iload_n 2, 1) := by decide +kernel
theorem dX3_feather_15 : decode cX3_feather 15 = .ok (.ifCond .lt 8, 3) := by decide +kernel
theorem dX3_feather_18 : decode cX3_feather 18 = .ok (.iload_n 2, 1) := by decide +kernel
theorem dX3_feather_19 : decode cX3_feather 19 = .ok (.iconst 2, 1) := by decide +kernel
theorem dX3_feather_20 : decode cX3_feather 20 = .ok (.if_icmp .le 7, 3) := by decide +kernel
theorem dX3_feather_23 : decode cX3_feather 23 = .ok (.sipush (-1003), 3) := by decide +kernel
theorem dX3_feather_26 : decode cX3_feather 26 = .ok (.ireturn, 1) := by decide +kernel
theorem dX3_feather_27 : decode cX3_feather 27 = .ok (.aload_n 3, 1) := by decide +kernel
theorem dX3_feather_28 : decode cX3_feather 28 = .ok (.getfield 135, 3) := by decide +kernel
theorem dX3_feather_31 : decode cX3_feather 31 = .ok (.istore 4, 2) := by decide +kernel
theorem dX3_feather_33 : decode cX3_feather 33 = .ok (.aload_n 3, 1) := by decide +kernel
theorem dX3_feather_34 : decode cX3_feather 34 = .ok (.iload_n 2, 1) := by decide +kernel
theorem dX3_feather_35 : decode cX3_feather 35 = .ok (.putfield 135, 3) := by decide +kernel
theorem dX3_feather_38 : decode cX3_feather 38 = .ok (.iload 4, 2) := by decide +kernel
theorem dX3_feather_40 : decode cX3_feather 40 = .ok (.ireturn, 1) := by decide +kernel
theorem dX3_lane_0 : decode cX3_lane 0 = .ok (.aload_n 0, 1) := by decide +kernel
theorem dX3_lane_1 : decode cX3_lane 1 = .ok (.iload_n 1, 1) := by decide +kernel
theorem dX3_lane_2 : decode cX3_lane 2 = .ok (.invokevirtual 109, 3) := by decide +kernel
theorem dX3_lane_5 : decode cX3_lane 5 = .ok (.astore 4, 2) := by decide +kernel
theorem dX3_lane_7 : decode cX3_lane 7 = .ok (.aload 4, 2) := by decide +kernel
theorem dX3_lane_9 : decode cX3_lane 9 = .ok (.ifnonnull 7, 3) := by decide +kernel
theorem dX3_lane_12 : decode cX3_lane 12 = .ok (.sipush (-1002), 3) := by decide +kernel
theorem dX3_lane_15 : decode cX3_lane 15 = .ok (.ireturn, 1) := by decide +kernel
theorem dX3_lane_16 : decode cX3_lane 16 = .ok (.aload 4, 2) := by decide +kernel
theorem dX3_lane_18 : decode cX3_lane 18 = .ok (.iload_n 2, 1) := by decide +kernel
theorem dX3_lane_19 : decode cX3_lane 19 = .ok (.invokevirtual 138, 3) := by decide +kernel
theorem dX3_lane_22 : decode cX3_lane 22 = .ok (.ifCond .eq 17, 3) := by decide +kernel
theorem dX3_lane_25 : decode cX3_lane 25 = .ok (.iload_n 3, 1) := by decide +kernel
theorem dX3_lane_26 : decode cX3_lane 26 = .ok (.iconst 1, 1) := by decide +kernel
theorem dX3_lane_27 : decode cX3_lane 27 = .ok (.if_icmp .lt 12, 3) := by decide +kernel
theorem dX3_lane_30 : decode cX3_lane 30 = .ok (.iload_n 3, 1) := by decide +kernel
theorem dX3_lane_31 : decode cX3_lane 31 = .ok (.aload 4, 2) := by decide +kernel
theorem dX3_lane_33 : decode cX3_lane 33 = .ok (.invokevirtual 116, 3) := by decide +kernel
theorem dX3_lane_36 : decode cX3_lane 36 = .ok (.if_icmp .le 7, 3) := by decide +kernel
theorem dX3_lane_39 : decode cX3_lane 39 = .ok (.sipush (-1003), 3) := by decide +kernel
theorem dX3_lane_42 : decode cX3_lane 42 = .ok (.ireturn, 1) := by decide +kernel
theorem dX3_lane_43 : decode cX3_lane 43 = .ok (.aload 4, 2) := by decide +kernel
theorem dX3_lane_45 : decode cX3_lane 45 = .ok (.iload_n 2, 1) := by decide +kernel
theorem dX3_lane_46 : decode cX3_lane 46 = .ok (.iload_n 3, 1) := by decide +kernel
theorem dX3_lane_47 : decode cX3_lane 47 = .ok (.invokevirtual 202, 3) := by decide +kernel
theorem dX3_lane_50 : decode cX3_lane 50 = .ok (.ireturn, 1) := by decide +kernel
theorem dX3_rest_0 : decode cX3_rest 0 = .ok (.aload_n 0, 1) := by decide +kernel
theorem dX3_rest_1 : decode cX3_rest 1 = .ok (.iload_n 1, 1) := by decide +kernel
theorem dX3_rest_2 : decode cX3_rest 2 = .ok (.invokevirtual 62, 3) := by decide +kernel
theorem dX3_rest_5 : decode cX3_rest 5 = .ok (.astore_n 2, 1) := by decide +kernel
theorem dX3_rest_6 : decode cX3_rest 6 = .ok (.aload_n 2, 1) := by decide +kernel
theorem dX3_rest_7 : decode cX3_rest 7 = .ok (.ifnonnull 7, 3) := by decide +kernel
theorem dX3_rest_10 : decode cX3_rest 10 = .ok (.sipush (-1002), 3) := by decide +kernel
theorem dX3_rest_13 : decode cX3_rest 13 = .ok (.ireturn, 1) := by decide +kernel
theorem dX3_rest_14 : decode cX3_rest 14 = .ok (.aload_n 2, 1) := by decide +kernel
theorem dX3_rest_15 : decode cX3_rest 15 = .ok (.invokevirtual 205, 3) := by decide +kernel
theorem dX3_rest_18 : decode cX3_rest 18 = .ok (.ifCond .ne 7, 3) := by decide +kernel
theorem dX3_rest_21 : decode cX3_rest 21 = .ok (.sipush (-1004), 3) := by decide +kernel
theorem dX3_rest_24 : decode cX3_rest 24 = .ok (.ireturn, 1) := by decide +kernel
theorem dX3_rest_25 : decode cX3_rest 25 = .ok (.aload_n 0, 1) := by decide +kernel
theorem dX3_rest_26 : decode cX3_rest 26 = .ok (.invokevirtual 163, 3) := by decide +kernel
theorem dX3_rest_29 : decode cX3_rest 29 = .ok (.ifCond .ne 7, 3) := by decide +kernel
theorem dX3_rest_32 : decode cX3_rest 32 = .ok (.iconst 0, 1) := by decide +kernel
theorem dX3_rest_33 : decode cX3_rest 33 = .ok (.goto 17, 3) := by decide +kernel
theorem dX3_rest_36 : decode cX3_rest 36 = .ok (.aload_n 2, 1) := by decide +kernel
theorem dX3_rest_37 : decode cX3_rest 37 = .ok (.getfield 208, 3) := by decide +kernel
theorem dX3_rest_40 : decode cX3_rest 40 = .ok (.ifCond .ne 8, 3) := by decide +kernel
theorem dX3_rest_43 : decode cX3_rest 43 = .ok (.bipush 8, 2) := by decide +kernel
theorem dX3_rest_45 : decode cX3_rest 45 = .ok (.goto 5, 3) := by decide +kernel
theorem dX3_rest_48 : decode cX3_rest 48 = .ok (.bipush (-8), 2) := by decide +kernel
theorem dX3_rest_50 : decode cX3_rest 50 = .ok (.istore_n 3, 1) := by decide +kernel
theorem dX3_rest_51 : decode cX3_rest 51 = .ok (.aload_n 0, 1) := by decide +kernel
theorem dX3_rest_52 : decode cX3_rest 52 = .ok (.aload_n 2, 1) := by decide +kernel
theorem dX3_rest_53 : decode cX3_rest 53 = .ok (.iconst (-1), 1) := by decide +kernel
theorem dX3_rest_54 : decode cX3_rest 54 = .ok (.invokevirtual 211, 3) := by decide +kernel
theorem dX3_rest_57 : decode cX3_rest 57 = .ok (.astore 4, 2) := by decide +kernel
theorem dX3_rest_59 : decode cX3_rest 59 = .ok (.aload_n 0, 1) := by decide +kernel
theorem dX3_rest_60 : decode cX3_rest 60 = .ok (.aload_n 2, 1) := by decide +kernel
theorem dX3_rest_61 : decode cX3_rest 61 = .ok (.iconst 1, 1) := by decide +kernel
theorem dX3_rest_62 : decode cX3_rest 62 = .ok (.invokevirtual 211, 3) := by decide +kernel
theorem dX3_rest_65 : decode cX3_rest 65 = .ok (.astore 5, 2) := by decide +kernel
theorem dX3_rest_67 : decode cX3_rest 67 = .ok (.aload 4, 2) := by decide +kernel
theorem dX3_rest_69 : decode cX3_rest 69 = .ok (.ifnull 21, 3) := by decide +kernel
theorem dX3_rest_72 : decode cX3_rest 72 = .ok (.aload 5, 2) := by decide +kernel
theorem dX3_rest_74 : decode cX3_rest 74 = .ok (.ifnull 16, 3) := by decide +kernel
theorem dX3_rest_77 : decode cX3_rest 77 = .ok (.aload 4, 2) := by decide +kernel
theorem dX3_rest_79 : decode cX3_rest 79 = .ok (.getfield 157, 3) := by decide +kernel
theorem dX3_rest_82 : decode cX3_rest 82 = .ok (.aload 5, 2) := by decide +kernel
theorem dX3_rest_84 : decode cX3_rest 84 = .ok (.getfield 157, 3) := by decide +kernel
theorem dX3_rest_87 : decode cX3_rest 87 = .ok (.if_icmp .eq 5, 3) := by decide +kernel
theorem dX3_rest_90 : decode cX3_rest 90 = .ok (.iload_n 3, 1) := by decide +kernel
theorem dX3_rest_91 : decode cX3_rest 91 = .ok (.ireturn, 1) := by decide +kernel
theorem dX3_rest_92 : decode cX3_rest 92 = .ok (.aload_n 0, 1) := by decide +kernel
theorem dX3_rest_93 : decode cX3_rest 93 = .ok (.aload 4, 2) := by decide +kernel
theorem dX3_rest_95 : decode cX3_rest 95 = .ok (.getfield 157, 3) := by decide +kernel
theorem dX3_rest_98 : decode cX3_rest 98 = .ok (.invokevirtual 109, 3) := by decide +kernel
theorem dX3_rest_101 : decode cX3_rest 101 = .ok (.astore 6, 2) := by decide +kernel
theorem dX3_rest_103 : decode cX3_rest 103 = .ok (.aload 6, 2) := by decide +kernel
theorem dX3_rest_105 : decode cX3_rest 105 = .ok (.ifnonnull 7, 3) := by decide +kernel
theorem dX3_rest_108 : decode cX3_rest 108 = .ok (.iload_n 3, 1) := by decide +kernel
theorem dX3_rest_109 : decode cX3_rest 109 = .ok (.goto 14, 3) := by decide +kernel
theorem dX3_rest_112 : decode cX3_rest 112 = .ok (.aload 6, 2) := by decide +kernel
theorem dX3_rest_114 : decode cX3_rest 114 = .ok (.iload_n 3, 1) := by decide +kernel
theorem dX3_rest_115 : decode cX3_rest 115 = .ok (.aload 4, 2) := by decide +kernel
theorem dX3_rest_117 : decode cX3_rest 117 = .ok (.getfield 181, 3) := by decide +kernel
theorem dX3_rest_120 : decode cX3_rest 120 = .ok (.invokevirtual 215, 3) := by decide +kernel
theorem dX3_rest_123 : decode cX3_rest 123 = .ok (.ireturn, 1) := by decide +kernel
theorem dX3_event_0 : decode cX3_event 0 = .ok (.aload_n 0, 1) := by decide +kernel
theorem dX3_event_1 : decode cX3_event 1 = .ok (.iload_n 1, 1) := by decide +kernel
theorem dX3_event_2 : decode cX3_event 2 = .ok (.invokevirtual 62, 3) := by decide +kernel
theorem dX3_event_5 : decode cX3_event 5 = .ok (.astore_n 3, 1) := by decide +kernel
theorem dX3_event_6 : decode cX3_event 6 = .ok (.aload_n 3, 1) := by decide +kernel
theorem dX3_event_7 : decode cX3_event 7 = .ok (.ifnonnull 7, 3) := by decide +kernel
theorem dX3_event_10 : decode cX3_event 10 = .ok (.sipush (-1002), 3) := by decide +kernel
theorem dX3_event_13 : decode cX3_event 13 = .ok (.ireturn, 1) := by decide +kernel
theorem dX3_event_14 : decode cX3_event 14 = .ok (.iload_n 2, 1) := by decide +kernel
theorem dX3_event_15 : decode cX3_event 15 = .ok (.tableswitch 81 0 5 #[37, 42, 47, 52, 57, 69], 37) := by decide +kernel
theorem dX3_event_52 : decode cX3_event 52 = .ok (.aload_n 3, 1) := by decide +kernel
theorem dX3_event_53 : decode cX3_event 53 = .ok (.getfield 234, 3) := by decide +kernel
theorem dX3_event_56 : decode cX3_event 56 = .ok (.ireturn, 1) := by decide +kernel
theorem dX3_event_57 : decode cX3_event 57 = .ok (.aload_n 3, 1) := by decide +kernel
theorem dX3_event_58 : decode cX3_event 58 = .ok (.getfield 237, 3) := by decide +kernel
theorem dX3_event_61 : decode cX3_event 61 = .ok (.ireturn, 1) := by decide +kernel
theorem dX3_event_62 : decode cX3_event 62 = .ok (.aload_n 3, 1) := by decide +kernel
theorem dX3_event_63 : decode cX3_event 63 = .ok (.getfield 208, 3) := by decide +kernel
theorem dX3_event_66 : decode cX3_event 66 = .ok (.ireturn, 1) := by decide +kernel
theorem dX3_event_67 : decode cX3_event 67 = .ok (.aload_n 3, 1) := by decide +kernel
theorem dX3_event_68 : decode cX3_event 68 = .ok (.getfield 77, 3) := by decide +kernel
theorem dX3_event_71 : decode cX3_event 71 = .ok (.ireturn, 1) := by decide +kernel
theorem dX3_event_72 : decode cX3_event 72 = .ok (.aload_n 0, 1) := by decide +kernel
theorem dX3_event_73 : decode cX3_event 73 = .ok (.getfield 12, 3) := by decide +kernel
theorem dX3_event_76 : decode cX3_event 76 = .ok (.aload_n 3, 1) := by decide +kernel
theorem dX3_event_77 : decode cX3_event 77 = .ok (.getfield 234, 3) := by decide +kernel
theorem dX3_event_80 : decode cX3_event 80 = .ok (.invokevirtual 240, 3) := by decide +kernel
theorem dX3_event_83 : decode cX3_event 83 = .ok (.ireturn, 1) := by decide +kernel
theorem dX3_event_84 : decode cX3_event 84 = .ok (.aload_n 0, 1) := by decide +kernel
theorem dX3_event_85 : decode cX3_event 85 = .ok (.getfield 12, 3) := by decide +kernel
theorem dX3_event_88 : decode cX3_event 88 = .ok (.aload_n 3, 1) := by decide +kernel
theorem dX3_event_89 : decode cX3_event 89 = .ok (.getfield 234, 3) := by decide +kernel
theorem dX3_event_92 : decode cX3_event 92 = .ok (.invokevirtual 243, 3) := by decide +kernel
theorem dX3_event_95 : decode cX3_event 95 = .ok (.ireturn, 1) := by decide +kernel
theorem dX3_event_96 : decode cX3_event 96 = .ok (.sipush (-1003), 3) := by decide +kernel
theorem dX3_event_99 : decode cX3_event 99 = .ok (.ireturn, 1) := by decide +kernel
theorem dX3_count_0 : decode cX3_count 0 = .ok (.iload_n 1, 1) := by decide +kernel
theorem dX3_count_1 : decode cX3_count 1 = .ok (.tableswitch 88 0 6 #[43, 48, 53, 58, 66, 74, 81], 43) := by decide +kernel
theorem dX3_count_44 : decode cX3_count 44 = .ok (.aload_n 0, 1) := by decide +kernel
theorem dX3_count_45 : decode cX3_count 45 = .ok (.getfield 40, 3) := by decide +kernel
theorem dX3_count_48 : decode cX3_count 48 = .ok (.ireturn, 1) := by decide +kernel
theorem dX3_count_49 : decode cX3_count 49 = .ok (.aload_n 0, 1) := by decide +kernel
theorem dX3_count_50 : decode cX3_count 50 = .ok (.getfield 106, 3) := by decide +kernel
theorem dX3_count_53 : decode cX3_count 53 = .ok (.ireturn, 1) := by decide +kernel
theorem dX3_count_54 : decode cX3_count 54 = .ok (.aload_n 0, 1) := by decide +kernel
theorem dX3_count_55 : decode cX3_count 55 = .ok (.getfield 100, 3) := by decide +kernel
theorem dX3_count_58 : decode cX3_count 58 = .ok (.ireturn, 1) := by decide +kernel
theorem dX3_count_59 : decode cX3_count 59 = .ok (.aload_n 0, 1) := by decide +kernel
theorem dX3_count_60 : decode cX3_count 60 = .ok (.getfield 12, 3) := by decide +kernel
theorem dX3_count_63 : decode cX3_count 63 = .ok (.getfield 48, 3) := by decide +kernel
theorem dX3_count_66 : decode cX3_count 66 = .ok (.ireturn, 1) := by decide +kernel
theorem dX3_count_67 : decode cX3_count 67 = .ok (.aload_n 0, 1) := by decide +kernel
theorem dX3_count_68 : decode cX3_count 68 = .ok (.getfield 12, 3) := by decide +kernel
theorem dX3_count_71 : decode cX3_count 71 = .ok (.getfield 246, 3) := by decide +kernel
theorem dX3_count_74 : decode cX3_count 74 = .ok (.ireturn, 1) := by decide +kernel
theorem dX3_count_75 : decode cX3_count 75 = .ok (.aload_n 0, 1) := by decide +kernel
theorem dX3_count_76 : decode cX3_count 76 = .ok (.getfield 28, 3) := by decide +kernel
theorem dX3_count_79 : decode cX3_count 79 = .ok (.iconst 0, 1) := by decide +kernel
theorem dX3_count_80 : decode cX3_count 80 = .ok (.iaload, 1) := by decide +kernel
theorem dX3_count_81 : decode cX3_count 81 = .ok (.ireturn, 1) := by decide +kernel
theorem dX3_count_82 : decode cX3_count 82 = .ok (.aload_n 0, 1) := by decide +kernel
theorem dX3_count_83 : decode cX3_count 83 = .ok (.getfield 28, 3) := by decide +kernel
theorem dX3_count_86 : decode cX3_count 86 = .ok (.iconst 1, 1) := by decide +kernel
theorem dX3_count_87 : decode cX3_count 87 = .ok (.iaload, 1) := by decide +kernel
theorem dX3_count_88 : decode cX3_count 88 = .ok (.ireturn, 1) := by decide +kernel
theorem dX3_count_89 : decode cX3_count 89 = .ok (.sipush (-1003), 3) := by decide +kernel
theorem dX3_count_92 : decode cX3_count 92 = .ok (.ireturn, 1) := by decide +kernel
theorem dX3_clear_0 : decode cX3_clear 0 = .ok (.aload_n 0, 1) := by decide +kernel
theorem dX3_clear_1 : decode cX3_clear 1 = .ok (.getfield 40, 3) := by decide +kernel
theorem dX3_clear_4 : decode cX3_clear 4 = .ok (.istore_n 1, 1) := by decide +kernel
theorem dX3_clear_5 : decode cX3_clear 5 = .ok (.aload_n 0, 1) := by decide +kernel
theorem dX3_clear_6 : decode cX3_clear 6 = .ok (.iconst 0, 1) := by decide +kernel
theorem dX3_clear_7 : decode cX3_clear 7 = .ok (.putfield 40, 3) := by decide +kernel
theorem dX3_clear_10 : decode cX3_clear 10 = .ok (.aload_n 0, 1) := by decide +kernel
theorem dX3_clear_11 : decode cX3_clear 11 = .ok (.iconst 0, 1) := by decide +kernel
theorem dX3_clear_12 : decode cX3_clear 12 = .ok (.putfield 106, 3) := by decide +kernel
theorem dX3_clear_15 : decode cX3_clear 15 = .ok (.aload_n 0, 1) := by decide +kernel
theorem dX3_clear_16 : decode cX3_clear 16 = .ok (.iconst 0, 1) := by decide +kernel
theorem dX3_clear_17 : decode cX3_clear 17 = .ok (.putfield 100, 3) := by decide +kernel
theorem dX3_clear_20 : decode cX3_clear 20 = .ok (.aload_n 0, 1) := by decide +kernel
theorem dX3_clear_21 : decode cX3_clear 21 = .ok (.iconst 0, 1) := by decide +kernel
theorem dX3_clear_22 : decode cX3_clear 22 = .ok (.putfield 96, 3) := by decide +kernel
theorem dX3_clear_25 : decode cX3_clear 25 = .ok (.aload_n 0, 1) := by decide +kernel
theorem dX3_clear_26 : decode cX3_clear 26 = .ok (.getfield 28, 3) := by decide +kernel
theorem dX3_clear_29 : decode cX3_clear 29 = .ok (.iconst 0, 1) := by decide +kernel
theorem dX3_clear_30 : decode cX3_clear 30 = .ok (.iconst 0, 1) := by decide +kernel
theorem dX3_clear_31 : decode cX3_clear 31 = .ok (.iastore, 1) := by decide +kernel
theorem dX3_clear_32 : decode cX3_clear 32 = .ok (.aload_n 0, 1) := by decide +kernel
theorem dX3_clear_33 : decode cX3_clear 33 = .ok (.getfield 28, 3) := by decide +kernel
theorem dX3_clear_36 : decode cX3_clear 36 = .ok (.iconst 1, 1) := by decide +kernel
theorem dX3_clear_37 : decode cX3_clear 37 = .ok (.iconst 0, 1) := by decide +kernel
theorem dX3_clear_38 : decode cX3_clear 38 = .ok (.iastore, 1) := by decide +kernel
theorem dX3_clear_39 : decode cX3_clear 39 = .ok (.aload_n 0, 1) := by decide +kernel
theorem dX3_clear_40 : decode cX3_clear 40 = .ok (.getfield 12, 3) := by decide +kernel
theorem dX3_clear_43 : decode cX3_clear 43 = .ok (.iconst 4, 1) := by decide +kernel
theorem dX3_clear_44 : decode cX3_clear 44 = .ok (.iconst 4, 1) := by decide +kernel
theorem dX3_clear_45 : decode cX3_clear 45 = .ok (.iconst 0, 1) := by decide +kernel
theorem dX3_clear_46 : decode cX3_clear 46 = .ok (.invokevirtual 44, 3) := by decide +kernel
theorem dX3_clear_49 : decode cX3_clear 49 = .ok (.iload_n 1, 1) := by decide +kernel
theorem dX3_clear_50 : decode cX3_clear 50 = .ok (.ireturn, 1) := by decide +kernel
theorem dX3_isPlace_0 : decode cX3_isPlace 0 = .ok (.iload_n 0, 1) := by decide +kernel
theorem dX3_isPlace_1 : decode cX3_isPlace 1 = .ok (.bipush (-12), 2) := by decide +kernel
theorem dX3_isPlace_3 : decode cX3_isPlace 3 = .ok (.if_icmp .lt 13, 3) := by decide +kernel
theorem dX3_isPlace_6 : decode cX3_isPlace 6 = .ok (.iload_n 0, 1) := by decide +kernel
theorem dX3_isPlace_7 : decode cX3_isPlace 7 = .ok (.bipush 12, 2) := by decide +kernel
theorem dX3_isPlace_9 : decode cX3_isPlace 9 = .ok (.if_icmp .gt 7, 3) := by decide +kernel
theorem dX3_isPlace_12 : decode cX3_isPlace 12 = .ok (.iconst 1, 1) := by decide +kernel
theorem dX3_isPlace_13 : decode cX3_isPlace 13 = .ok (.goto 4, 3) := by decide +kernel
theorem dX3_isPlace_16 : decode cX3_isPlace 16 = .ok (.iconst 0, 1) := by decide +kernel
theorem dX3_isPlace_17 : decode cX3_isPlace 17 = .ok (.ireturn, 1) := by decide +kernel
theorem dX3_isTiming_0 : decode cX3_isTiming 0 = .ok (.iload_n 0, 1) := by decide +kernel
theorem dX3_isTiming_1 : decode cX3_isTiming 1 = .ok (.ifCond .lt 31, 3) := by decide +kernel
theorem dX3_isTiming_4 : decode cX3_isTiming 4 = .ok (.iload_n 0, 1) := by decide +kernel
theorem dX3_isTiming_5 : decode cX3_isTiming 5 = .ok (.iconst 1, 1) := by decide +kernel
theorem dX3_isTiming_6 : decode cX3_isTiming 6 = .ok (.if_icmp .gt 26, 3) := by decide +kernel
theorem dX3_isTiming_9 : decode cX3_isTiming 9 = .ok (.iload_n 1, 1) := by decide +kernel
theorem dX3_isTiming_10 : decode cX3_isTiming 10 = .ok (.ifCond .lt 22, 3) := by decide +kernel
theorem dX3_isTiming_13 : decode cX3_isTiming 13 = .ok (.iload_n 1, 1) := by decide +kernel
theorem dX3_isTiming_14 : decode cX3_isTiming 14 = .ok (.bipush 6, 2) := by decide +kernel
theorem dX3_isTiming_16 : decode cX3_isTiming 16 = .ok (.if_icmp .gt 16, 3) := by decide +kernel
theorem dX3_isTiming_19 : decode cX3_isTiming 19 = .ok (.iload_n 2, 1) := by decide +kernel
theorem dX3_isTiming_20 : decode cX3_isTiming 20 = .ok (.ifCond .lt 12, 3) := by decide +kernel
theorem dX3_isTiming_23 : decode cX3_isTiming 23 = .ok (.iload_n 2, 1) := by decide +kernel
theorem dX3_isTiming_24 : decode cX3_isTiming 24 = .ok (.iconst 2, 1) := by decide +kernel
theorem dX3_isTiming_25 : decode cX3_isTiming 25 = .ok (.if_icmp .gt 7, 3) := by decide +kernel
theorem dX3_isTiming_28 : decode cX3_isTiming 28 = .ok (.iconst 1, 1) := by decide +kernel
theorem dX3_isTiming_29 : decode cX3_isTiming 29 = .ok (.goto 4, 3) := by decide +kernel
theorem dX3_isTiming_32 : decode cX3_isTiming 32 = .ok (.iconst 0, 1) := by decide +kernel
theorem dX3_isTiming_33 : decode cX3_isTiming 33 = .ok (.ireturn, 1) := by decide +kernel
theorem dX3_rounded_0 : decode cX3_rounded 0 = .ok (.iload_n 1, 1) := by decide +kernel
theorem dX3_rounded_1 : decode cX3_rounded 1 = .ok (.ifCond .gt 5, 3) := by decide +kernel
theorem dX3_rounded_4 : decode cX3_rounded 4 = .ok (.iconst 0, 1) := by decide +kernel
theorem dX3_rounded_5 : decode cX3_rounded 5 = .ok (.ireturn, 1) := by decide +kernel
theorem dX3_rounded_6 : decode cX3_rounded 6 = .ok (.iload_n 0, 1) := by decide +kernel
theorem dX3_rounded_7 : decode cX3_rounded 7 = .ok (.ifCond .ge 16, 3) := by decide +kernel
theorem dX3_rounded_10 : decode cX3_rounded 10 = .ok (.iload_n 1, 1) := by decide +kernel
theorem dX3_rounded_11 : decode cX3_rounded 11 = .ok (.iconst 2, 1) := by decide +kernel
theorem dX3_rounded_12 : decode cX3_rounded 12 = .ok (.iload_n 0, 1) := by decide +kernel
theorem dX3_rounded_13 : decode cX3_rounded 13 = .ok (.imul, 1) := by decide +kernel
theorem dX3_rounded_14 : decode cX3_rounded 14 = .ok (.isub, 1) := by decide +kernel
theorem dX3_rounded_15 : decode cX3_rounded 15 = .ok (.iconst 2, 1) := by decide +kernel
theorem dX3_rounded_16 : decode cX3_rounded 16 = .ok (.iload_n 1, 1) := by decide +kernel
theorem dX3_rounded_17 : decode cX3_rounded 17 = .ok (.imul, 1) := by decide +kernel
theorem dX3_rounded_18 : decode cX3_rounded 18 = .ok (.idiv, 1) := by decide +kernel
theorem dX3_rounded_19 : decode cX3_rounded 19 = .ok (.ineg, 1) := by decide +kernel
theorem dX3_rounded_20 : decode cX3_rounded 20 = .ok (.goto 12, 3) := by decide +kernel
theorem dX3_rounded_23 : decode cX3_rounded 23 = .ok (.iload_n 1, 1) := by decide +kernel
theorem dX3_rounded_24 : decode cX3_rounded 24 = .ok (.iconst 2, 1) := by decide +kernel
theorem dX3_rounded_25 : decode cX3_rounded 25 = .ok (.iload_n 0, 1) := by decide +kernel
theorem dX3_rounded_26 : decode cX3_rounded 26 = .ok (.imul, 1) := by decide +kernel
theorem dX3_rounded_27 : decode cX3_rounded 27 = .ok (.iadd, 1) := by decide +kernel
theorem dX3_rounded_28 : decode cX3_rounded 28 = .ok (.iconst 2, 1) := by decide +kernel
theorem dX3_rounded_29 : decode cX3_rounded 29 = .ok (.iload_n 1, 1) := by decide +kernel
theorem dX3_rounded_30 : decode cX3_rounded 30 = .ok (.imul, 1) := by decide +kernel
theorem dX3_rounded_31 : decode cX3_rounded 31 = .ok (.idiv, 1) := by decide +kernel
theorem dX3_rounded_32 : decode cX3_rounded 32 = .ok (.ireturn, 1) := by decide +kernel
theorem dX3_eventAt_0 : decode cX3_eventAt 0 = .ok (.iload_n 1, 1) := by decide +kernel
theorem dX3_eventAt_1 : decode cX3_eventAt 1 = .ok (.ifCond .lt 20, 3) := by decide +kernel
theorem dX3_eventAt_4 : decode cX3_eventAt 4 = .ok (.iload_n 1, 1) := by decide +kernel
theorem dX3_eventAt_5 : decode cX3_eventAt 5 = .ok (.aload_n 0, 1) := by decide +kernel
theorem dX3_eventAt_6 : decode cX3_eventAt 6 = .ok (.getfield 40, 3) := by decide +kernel
theorem dX3_eventAt_9 : decode cX3_eventAt 9 = .ok (.if_icmp .ge 12, 3) := by decide +kernel
theorem dX3_eventAt_12 : decode cX3_eventAt 12 = .ok (.aload_n 0, 1) := by decide +kernel
theorem dX3_eventAt_13 : decode cX3_eventAt 13 = .ok (.getfield 18, 3) := by decide +kernel
theorem dX3_eventAt_16 : decode cX3_eventAt 16 = .ok (.iload_n 1, 1) := by decide +kernel
theorem dX3_eventAt_17 : decode cX3_eventAt 17 = .ok (.aaload, 1) := by decide +kernel
theorem dX3_eventAt_18 : decode cX3_eventAt 18 = .ok (.goto 4, 3) := by decide +kernel
theorem dX3_eventAt_21 : decode cX3_eventAt 21 = .ok (.aconst_null, 1) := by decide +kernel
theorem dX3_eventAt_22 : decode cX3_eventAt 22 = .ok (.areturn, 1) := by decide +kernel
theorem dX3_beamAt_0 : decode cX3_beamAt 0 = .ok (.iload_n 1, 1) := by decide +kernel
theorem dX3_beamAt_1 : decode cX3_beamAt 1 = .ok (.ifCond .lt 20, 3) := by decide +kernel
theorem dX3_beamAt_4 : decode cX3_beamAt 4 = .ok (.iload_n 1, 1) := by decide +kernel
theorem dX3_beamAt_5 : decode cX3_beamAt 5 = .ok (.aload_n 0, 1) := by decide +kernel
theorem dX3_beamAt_6 : decode cX3_beamAt 6 = .ok (.getfield 106, 3) := by decide +kernel
theorem dX3_beamAt_9 : decode cX3_beamAt 9 = .ok (.if_icmp .ge 12, 3) := by decide +kernel
theorem dX3_beamAt_12 : decode cX3_beamAt 12 = .ok (.aload_n 0, 1) := by decide +kernel
theorem dX3_beamAt_13 : decode cX3_beamAt 13 = .ok (.getfield 24, 3) := by decide +kernel
theorem dX3_beamAt_16 : decode cX3_beamAt 16 = .ok (.iload_n 1, 1) := by decide +kernel
theorem dX3_beamAt_17 : decode cX3_beamAt 17 = .ok (.aaload, 1) := by decide +kernel
theorem dX3_beamAt_18 : decode cX3_beamAt 18 = .ok (.goto 4, 3) := by decide +kernel
theorem dX3_beamAt_21 : decode cX3_beamAt 21 = .ok (.aconst_null, 1) := by decide +kernel
theorem dX3_beamAt_22 : decode cX3_beamAt 22 = .ok (.areturn, 1) := by decide +kernel
theorem dX3_refusalOf_0 : decode cX3_refusalOf 0 = .ok (.aload_n 0, 1) := by decide +kernel
theorem dX3_refusalOf_1 : decode cX3_refusalOf 1 = .ok (.ifnonnull 7, 3) := by decide +kernel
theorem dX3_refusalOf_4 : decode cX3_refusalOf 4 = .ok (.sipush (-1002), 3) := by decide +kernel
theorem dX3_refusalOf_7 : decode cX3_refusalOf 7 = .ok (.ireturn, 1) := by decide +kernel
theorem dX3_refusalOf_8 : decode cX3_refusalOf 8 = .ok (.iload_n 1, 1) := by decide +kernel
theorem dX3_refusalOf_9 : decode cX3_refusalOf 9 = .ok (.ifCond .ne 7, 3) := by decide +kernel
theorem dX3_refusalOf_12 : decode cX3_refusalOf 12 = .ok (.sipush (-1003), 3) := by decide +kernel
theorem dX3_refusalOf_15 : decode cX3_refusalOf 15 = .ok (.ireturn, 1) := by decide +kernel
theorem dX3_refusalOf_16 : decode cX3_refusalOf 16 = .ok (.aload_n 0, 1) := by decide +kernel
theorem dX3_refusalOf_17 : decode cX3_refusalOf 17 = .ok (.invokevirtual 205, 3) := by decide +kernel
theorem dX3_refusalOf_20 : decode cX3_refusalOf 20 = .ok (.ifCond .eq 9, 3) := by decide +kernel
theorem dX3_refusalOf_23 : decode cX3_refusalOf 23 = .ok (.sipush (-1004), 3) := by decide +kernel
theorem dX3_refusalOf_26 : decode cX3_refusalOf 26 = .ok (.goto 4, 3) := by decide +kernel
theorem dX3_refusalOf_29 : decode cX3_refusalOf 29 = .ok (.iconst 0, 1) := by decide +kernel
theorem dX3_refusalOf_30 : decode cX3_refusalOf 30 = .ok (.ireturn, 1) := by decide +kernel
theorem dX3_isTwoVoiced_0 : decode cX3_isTwoVoiced 0 = .ok (.aload_n 0, 1) := by decide +kernel
theorem dX3_isTwoVoiced_1 : decode cX3_isTwoVoiced 1 = .ok (.getfield 28, 3) := by decide +kernel
theorem dX3_isTwoVoiced_4 : decode cX3_isTwoVoiced 4 = .ok (.iconst 1, 1) := by decide +kernel
theorem dX3_isTwoVoiced_5 : decode cX3_isTwoVoiced 5 = .ok (.iaload, 1) := by decide +kernel
theorem dX3_isTwoVoiced_6 : decode cX3_isTwoVoiced 6 = .ok (.ifCond .le 7, 3) := by decide +kernel
theorem dX3_isTwoVoiced_9 : decode cX3_isTwoVoiced 9 = .ok (.iconst 1, 1) := by decide +kernel
theorem dX3_isTwoVoiced_10 : decode cX3_isTwoVoiced 10 = .ok (.goto 4, 3) := by decide +kernel
theorem dX3_isTwoVoiced_13 : decode cX3_isTwoVoiced 13 = .ok (.iconst 0, 1) := by decide +kernel
theorem dX3_isTwoVoiced_14 : decode cX3_isTwoVoiced 14 = .ok (.ireturn, 1) := by decide +kernel
theorem dX3_append_0 : decode cX3_append 0 = .ok (.iload_n 1, 1) := by decide +kernel
theorem dX3_append_1 : decode cX3_append 1 = .ok (.ifCond .lt 12, 3) := by decide +kernel
theorem dX3_append_4 : decode cX3_append 4 = .ok (.iload_n 1, 1) := by decide +kernel
theorem dX3_append_5 : decode cX3_append 5 = .ok (.aload_n 0, 1) := by decide +kernel
theorem dX3_append_6 : decode cX3_append 6 = .ok (.getfield 28, 3) := by decide +kernel
theorem dX3_append_9 : decode cX3_append 9 = .ok (.arraylength, 1) := by decide +kernel
theorem dX3_append_10 : decode cX3_append 10 = .ok (.if_icmp .lt 7, 3) := by decide +kernel
theorem dX3_append_13 : decode cX3_append 13 = .ok (.sipush (-1003), 3) := by decide +kernel
theorem dX3_append_16 : decode cX3_append 16 = .ok (.ireturn, 1) := by decide +kernel
theorem dX3_append_17 : decode cX3_append 17 = .ok (.aload_n 0, 1) := by decide +kernel
theorem dX3_append_18 : decode cX3_append 18 = .ok (.getfield 28, 3) := by decide +kernel
theorem dX3_append_21 : decode cX3_append 21 = .ok (.iload_n 1, 1) := by decide +kernel
theorem dX3_append_22 : decode cX3_append 22 = .ok (.iaload, 1) := by decide +kernel
theorem dX3_append_23 : decode cX3_append 23 = .ok (.istore 4, 2) := by decide +kernel
theorem dX3_append_25 : decode cX3_append 25 = .ok (.iload_n 2, 1) := by decide +kernel
theorem dX3_append_26 : decode cX3_append 26 = .ok (.iload_n 3, 1) := by decide +kernel
theorem dX3_append_27 : decode cX3_append 27 = .ok (.invokestatic 247, 3) := by decide +kernel
theorem dX3_append_30 : decode cX3_append 30 = .ok (.istore 5, 2) := by decide +kernel
theorem dX3_append_32 : decode cX3_append 32 = .ok (.aload_n 0, 1) := by decide +kernel
theorem dX3_append_33 : decode cX3_append 33 = .ok (.getfield 12, 3) := by decide +kernel
theorem dX3_append_36 : decode cX3_append 36 = .ok (.iload 4, 2) := by decide +kernel
theorem dX3_append_38 : decode cX3_append 38 = .ok (.invokevirtual 250, 3) := by decide +kernel
theorem dX3_append_41 : decode cX3_append 41 = .ok (.iload 5, 2) := by decide +kernel
theorem dX3_append_43 : decode cX3_append 43 = .ok (.iadd, 1) := by decide +kernel
theorem dX3_append_44 : decode cX3_append 44 = .ok (.aload_n 0, 1) := by decide +kernel
theorem dX3_append_45 : decode cX3_append 45 = .ok (.getfield 12, 3) := by decide +kernel
theorem dX3_append_48 : decode cX3_append 48 = .ok (.getfield 246, 3) := by decide +kernel
theorem dX3_append_51 : decode cX3_append 51 = .ok (.if_icmp .le 7, 3) := by decide +kernel
theorem dX3_append_54 : decode cX3_append 54 = .ok (.sipush (-1004), 3) := by decide +kernel
theorem dX3_append_57 : decode cX3_append 57 = .ok (.ireturn, 1) := by decide +kernel
theorem dX3_append_58 : decode cX3_append 58 = .ok (.aload_n 0, 1) := by decide +kernel
theorem dX3_append_59 : decode cX3_append 59 = .ok (.getfield 40, 3) := by decide +kernel
theorem dX3_append_62 : decode cX3_append 62 = .ok (.aload_n 0, 1) := by decide +kernel
theorem dX3_append_63 : decode cX3_append 63 = .ok (.getfield 18, 3) := by decide +kernel
theorem dX3_append_66 : decode cX3_append 66 = .ok (.arraylength, 1) := by decide +kernel
theorem dX3_append_67 : decode cX3_append 67 = .ok (.if_icmp .lt 7, 3) := by decide +kernel
theorem dX3_append_70 : decode cX3_append 70 = .ok (.sipush (-1005), 3) := by decide +kernel
theorem dX3_append_73 : decode cX3_append 73 = .ok (.ireturn, 1) := by decide +kernel
theorem dX3_append_74 : decode cX3_append 74 = .ok (.aload_n 0, 1) := by decide +kernel
theorem dX3_append_75 : decode cX3_append 75 = .ok (.invokevirtual 80, 3) := by decide +kernel
theorem dX3_append_78 : decode cX3_append 78 = .ok (.aload_n 0, 1) := by decide +kernel
theorem dX3_append_79 : decode cX3_append 79 = .ok (.getfield 18, 3) := by decide +kernel
theorem dX3_append_82 : decode cX3_append 82 = .ok (.aload_n 0, 1) := by decide +kernel
theorem dX3_append_83 : decode cX3_append 83 = .ok (.getfield 40, 3) := by decide +kernel
theorem dX3_append_86 : decode cX3_append 86 = .ok (.aaload, 1) := by decide +kernel
theorem dX3_append_87 : decode cX3_append 87 = .ok (.astore 6, 2) := by decide +kernel
theorem dX3_append_89 : decode cX3_append 89 = .ok (.aload 6, 2) := by decide +kernel
theorem dX3_append_91 : decode cX3_append 91 = .ok (.aload_n 0, 1) := by decide +kernel
theorem dX3_append_92 : decode cX3_append 92 = .ok (.getfield 40, 3) := by decide +kernel
theorem dX3_append_95 : decode cX3_append 95 = .ok (.iload_n 1, 1) := by decide +kernel
theorem dX3_append_96 : decode cX3_append 96 = .ok (.iload_n 2, 1) := by decide +kernel
theorem dX3_append_97 : decode cX3_append 97 = .ok (.invokevirtual 253, 3) := by decide +kernel
theorem dX3_append_100 : decode cX3_append 100 = .ok (.aload 6, 2) := by decide +kernel
theorem dX3_append_102 : decode cX3_append 102 = .ok (.iload 4, 2) := by decide +kernel
theorem dX3_append_104 : decode cX3_append 104 = .ok (.putfield 234, 3) := by decide +kernel
theorem dX3_append_107 : decode cX3_append 107 = .ok (.aload 6, 2) := by decide +kernel
theorem dX3_append_109 : decode cX3_append 109 = .ok (.iload 5, 2) := by decide +kernel
theorem dX3_append_111 : decode cX3_append 111 = .ok (.putfield 237, 3) := by decide +kernel
theorem dX3_append_114 : decode cX3_append 114 = .ok (.aload_n 0, 1) := by decide +kernel
theorem dX3_append_115 : decode cX3_append 115 = .ok (.getfield 28, 3) := by decide +kernel
theorem dX3_append_118 : decode cX3_append 118 = .ok (.iload_n 1, 1) := by decide +kernel
theorem dX3_append_119 : decode cX3_append 119 = .ok (.iload 4, 2) := by decide +kernel
theorem dX3_append_121 : decode cX3_append 121 = .ok (.iload 5, 2) := by decide +kernel
theorem dX3_append_123 : decode cX3_append 123 = .ok (.iadd, 1) := by decide +kernel
theorem dX3_append_124 : decode cX3_append 124 = .ok (.iastore, 1) := by decide +kernel
theorem dX3_append_125 : decode cX3_append 125 = .ok (.aload_n 0, 1) := by decide +kernel
theorem dX3_append_126 : decode cX3_append 126 = .ok (.dup, 1) := by decide +kernel
theorem dX3_append_127 : decode cX3_append 127 = .ok (.getfield 40, 3) := by decide +kernel
theorem dX3_append_130 : decode cX3_append 130 = .ok (.dup_x1, 1) := by decide +kernel
theorem dX3_append_131 : decode cX3_append 131 = .ok (.iconst 1, 1) := by decide +kernel
theorem dX3_append_132 : decode cX3_append 132 = .ok (.iadd, 1) := by decide +kernel
theorem dX3_append_133 : decode cX3_append 133 = .ok (.putfield 40, 3) := by decide +kernel
theorem dX3_append_136 : decode cX3_append 136 = .ok (.ireturn, 1) := by decide +kernel
theorem dX3_takeBeamsAway_0 : decode cX3_takeBeamsAway 0 = .ok (.iconst 0, 1) := by decide +kernel
theorem dX3_takeBeamsAway_1 : decode cX3_takeBeamsAway 1 = .ok (.istore_n 1, 1) := by decide +kernel
theorem dX3_takeBeamsAway_2 : decode cX3_takeBeamsAway 2 = .ok (.iload_n 1, 1) := by decide +kernel
theorem dX3_takeBeamsAway_3 : decode cX3_takeBeamsAway 3 = .ok (.aload_n 0, 1) := by decide +kernel
theorem dX3_takeBeamsAway_4 : decode cX3_takeBeamsAway 4 = .ok (.getfield 106, 3) := by decide +kernel
theorem dX3_takeBeamsAway_7 : decode cX3_takeBeamsAway 7 = .ok (.if_icmp .ge 18, 3) := by decide +kernel
theorem dX3_takeBeamsAway_10 : decode cX3_takeBeamsAway 10 = .ok (.aload_n 0, 1) := by decide +kernel
theorem dX3_takeBeamsAway_11 : decode cX3_takeBeamsAway 11 = .ok (.getfield 24, 3) := by decide +kernel
theorem dX3_takeBeamsAway_14 : decode cX3_takeBeamsAway 14 = .ok (.iload_n 1, 1) := by decide +kernel
theorem dX3_takeBeamsAway_15 : decode cX3_takeBeamsAway 15 = .ok (.aaload, 1) := by decide +kernel
theorem dX3_takeBeamsAway_16 : decode cX3_takeBeamsAway 16 = .ok (.invokevirtual 256, 3) := by decide +kernel
theorem dX3_takeBeamsAway_19 : decode cX3_takeBeamsAway 19 = .ok (.iinc 1 1, 3) := by decide +kernel
theorem dX3_takeBeamsAway_22 : decode cX3_takeBeamsAway 22 = .ok (.goto (-20), 3) := by decide +kernel
theorem dX3_takeBeamsAway_25 : decode cX3_takeBeamsAway 25 = .ok (.aload_n 0, 1) := by decide +kernel
theorem dX3_takeBeamsAway_26 : decode cX3_takeBeamsAway 26 = .ok (.iconst 0, 1) := by decide +kernel
theorem dX3_takeBeamsAway_27 : decode cX3_takeBeamsAway 27 = .ok (.putfield 106, 3) := by decide +kernel
theorem dX3_takeBeamsAway_30 : decode cX3_takeBeamsAway 30 = .ok (.return_, 1) := by decide +kernel
theorem dX3_groupVoice_0 : decode cX3_groupVoice 0 = .ok (.aload_n 0, 1) := by decide +kernel
theorem dX3_groupVoice_1 : decode cX3_groupVoice 1 = .ok (.invokevirtual 259, 3) := by decide +kernel
theorem dX3_groupVoice_4 : decode cX3_groupVoice 4 = .ok (.astore_n 2, 1) := by decide +kernel
theorem dX3_groupVoice_5 : decode cX3_groupVoice 5 = .ok (.iconst 1, 1) := by decide +kernel
theorem dX3_groupVoice_6 : decode cX3_groupVoice 6 = .ok (.istore_n 3, 1) := by decide +kernel
theorem dX3_groupVoice_7 : decode cX3_groupVoice 7 = .ok (.iconst 0, 1) := by decide +kernel
theorem dX3_groupVoice_8 : decode cX3_groupVoice 8 = .ok (.istore 4, 2) := by decide +kernel
theorem dX3_groupVoice_10 : decode cX3_groupVoice 10 = .ok (.iload 4, 2) := by decide +kernel
theorem dX3_groupVoice_12 : decode cX3_groupVoice 12 = .ok (.aload_n 0, 1) := by decide +kernel
theorem dX3_groupVoice_13 : decode cX3_groupVoice 13 = .ok (.getfield 40, 3) := by decide +kernel
theorem dX3_groupVoice_16 : decode cX3_groupVoice 16 = .ok (.if_icmp .ge 106, 3) := by decide +kernel
theorem dX3_groupVoice_19 : decode cX3_groupVoice 19 = .ok (.aload_n 0, 1) := by decide +kernel
theorem dX3_groupVoice_20 : decode cX3_groupVoice 20 = .ok (.getfield 18, 3) := by decide +kernel
theorem dX3_groupVoice_23 : decode cX3_groupVoice 23 = .ok (.iload 4, 2) := by decide +kernel
theorem dX3_groupVoice_25 : decode cX3_groupVoice 25 = .ok (.aaload, 1) := by decide +kernel
theorem dX3_groupVoice_26 : decode cX3_groupVoice 26 = .ok (.astore 5, 2) := by decide +kernel
theorem dX3_groupVoice_28 : decode cX3_groupVoice 28 = .ok (.aload 5, 2) := by decide +kernel
theorem dX3_groupVoice_30 : decode cX3_groupVoice 30 = .ok (.getfield 208, 3) := by decide +kernel
theorem dX3_groupVoice_33 : decode cX3_groupVoice 33 = .ok (.iload_n 1, 1) := by decide +kernel
theorem dX3_groupVoice_34 : decode cX3_groupVoice 34 = .ok (.if_icmp .eq 6, 3) := by decide +kernel
theorem dX3_groupVoice_37 : decode cX3_groupVoice 37 = .ok (.goto 79, 3) := by decide +kernel
theorem dX3_groupVoice_40 : decode cX3_groupVoice 40 = .ok (.aload 5, 2) := by decide +kernel
theorem dX3_groupVoice_42 : decode cX3_groupVoice 42 = .ok (.invokevirtual 205, 3) := by decide +kernel
theorem dX3_groupVoice_45 : decode cX3_groupVoice 45 = .ok (.ifCond .eq 31, 3) := by decide +kernel
theorem dX3_groupVoice_48 : decode cX3_groupVoice 48 = .ok (.iload_n 3, 1) := by decide +kernel
theorem dX3_groupVoice_49 : decode cX3_groupVoice 49 = .ok (.ifCond .eq 22, 3) := by decide +kernel
theorem dX3_groupVoice_52 : decode cX3_groupVoice 52 = .ok (.aload_n 0, 1) := by decide +kernel
theorem dX3_groupVoice_53 : decode cX3_groupVoice 53 = .ok (.getfield 96, 3) := by decide +kernel
theorem dX3_groupVoice_56 : decode cX3_groupVoice 56 = .ok (.ifCond .eq 15, 3) := by decide +kernel
theorem dX3_groupVoice_59 : decode cX3_groupVoice 59 = .ok (.aload 5, 2) := by decide +kernel
theorem dX3_groupVoice_61 : decode cX3_groupVoice 61 = .ok (.invokevirtual 263, 3) := by decide +kernel
theorem dX3_groupVoice_64 : decode cX3_groupVoice 64 = .ok (.ifCond .eq 7, 3) := by decide +kernel
theorem dX3_groupVoice_67 : decode cX3_groupVoice 67 = .ok (.iconst 1, 1) := by decide +kernel
theorem dX3_groupVoice_68 : decode cX3_groupVoice 68 = .ok (.goto 4, 3) := by decide +kernel
theorem dX3_groupVoice_71 : decode cX3_groupVoice 71 = .ok (.iconst 0, 1) := by decide +kernel
theorem dX3_groupVoice_72 : decode cX3_groupVoice 72 = .ok (.istore_n 3, 1) := by decide +kernel
theorem dX3_groupVoice_73 : decode cX3_groupVoice 73 = .ok (.goto 43, 3) := by decide +kernel
theorem dX3_groupVoice_76 : decode cX3_groupVoice 76 = .ok (.iload_n 3, 1) := by decide +kernel
theorem dX3_groupVoice_77 : decode cX3_groupVoice 77 = .ok (.ifCond .eq 13, 3) := by decide +kernel
theorem dX3_groupVoice_80 : decode cX3_groupVoice 80 = .ok (.aload_n 0, 1) := by decide +kernel
theorem dX3_groupVoice_81 : decode cX3_groupVoice 81 = .ok (.aload_n 2, 1) := by decide +kernel
theorem dX3_groupVoice_82 : decode cX3_groupVoice 82 = .ok (.aload 5, 2) := by decide +kernel
theorem dX3_groupVoice_84 : decode cX3_groupVoice 84 = .ok (.invokevirtual 266, 3) := by decide +kernel
theorem dX3_groupVoice_87 : decode cX3_groupVoice 87 = .ok (.ifCond .ne 13, 3) := by decide +kernel
theorem dX3_groupVoice_90 : decode cX3_groupVoice 90 = .ok (.aload_n 0, 1) := by decide +kernel
theorem dX3_groupVoice_91 : decode cX3_groupVoice 91 = .ok (.aload_n 2, 1) := by decide +kernel
theorem dX3_groupVoice_92 : decode cX3_groupVoice 92 = .ok (.invokevirtual 270, 3) := by decide +kernel
theorem dX3_groupVoice_95 : decode cX3_groupVoice 95 = .ok (.aload_n 0, 1) := by decide +kernel
theorem dX3_groupVoice_96 : decode cX3_groupVoice 96 = .ok (.invokevirtual 259, 3) := by decide +kernel
theorem dX3_groupVoice_99 : decode cX3_groupVoice 99 = .ok (.astore_n 2, 1) := by decide +kernel
theorem dX3_groupVoice_100 : decode cX3_groupVoice 100 = .ok (.aload 5, 2) := by decide +kernel
theorem dX3_groupVoice_102 : decode cX3_groupVoice 102 = .ok (.invokevirtual 263, 3) := by decide +kernel
theorem dX3_groupVoice_105 : decode cX3_groupVoice 105 = .ok (.ifCond .eq 9, 3) := by decide +kernel
theorem dX3_groupVoice_108 : decode cX3_groupVoice 108 = .ok (.aload_n 2, 1) := by decide +kernel
theorem dX3_groupVoice_109 : decode cX3_groupVoice 109 = .ok (.aload 5, 2) := by decide +kernel
theorem dX3_groupVoice_111 : decode cX3_groupVoice 111 = .ok (.invokevirtual 274, 3) := by decide +kernel
theorem dX3_groupVoice_114 : decode cX3_groupVoice 114 = .ok (.iconst 1, 1) := by decide +kernel
theorem dX3_groupVoice_115 : decode cX3_groupVoice 115 = .ok (.istore_n 3, 1) := by decide +kernel
theorem dX3_groupVoice_116 : decode cX3_groupVoice 116 = .ok (.iinc 4 1, 3) := by decide +kernel
theorem dX3_groupVoice_119 : decode cX3_groupVoice 119 = .ok (.goto (-109), 3) := by decide +kernel
theorem dX3_groupVoice_122 : decode cX3_groupVoice 122 = .ok (.aload_n 0, 1) := by decide +kernel
theorem dX3_groupVoice_123 : decode cX3_groupVoice 123 = .ok (.aload_n 2, 1) := by decide +kernel
theorem dX3_groupVoice_124 : decode cX3_groupVoice 124 = .ok (.invokevirtual 270, 3) := by decide +kernel
theorem dX3_groupVoice_127 : decode cX3_groupVoice 127 = .ok (.return_, 1) := by decide +kernel
theorem dX3_freshRow_0 : decode cX3_freshRow 0 = .ok (.aload_n 0, 1) := by decide +kernel
theorem dX3_freshRow_1 : decode cX3_freshRow 1 = .ok (.getfield 24, 3) := by decide +kernel
theorem dX3_freshRow_4 : decode cX3_freshRow 4 = .ok (.aload_n 0, 1) := by decide +kernel
theorem dX3_freshRow_5 : decode cX3_freshRow 5 = .ok (.getfield 106, 3) := by decide +kernel
theorem dX3_freshRow_8 : decode cX3_freshRow 8 = .ok (.aload_n 0, 1) := by decide +kernel
theorem dX3_freshRow_9 : decode cX3_freshRow 9 = .ok (.getfield 24, 3) := by decide +kernel
theorem dX3_freshRow_12 : decode cX3_freshRow 12 = .ok (.arraylength, 1) := by decide +kernel
theorem dX3_freshRow_13 : decode cX3_freshRow 13 = .ok (.iconst 1, 1) := by decide +kernel
theorem dX3_freshRow_14 : decode cX3_freshRow 14 = .ok (.isub, 1) := by decide +kernel
theorem dX3_freshRow_15 : decode cX3_freshRow 15 = .ok (.invokestatic 277, 3) := by decide +kernel
theorem dX3_freshRow_18 : decode cX3_freshRow 18 = .ok (.aaload, 1) := by decide +kernel
theorem dX3_freshRow_19 : decode cX3_freshRow 19 = .ok (.astore_n 1, 1) := by decide +kernel
theorem dX3_freshRow_20 : decode cX3_freshRow 20 = .ok (.aload_n 1, 1) := by decide +kernel
theorem dX3_freshRow_21 : decode cX3_freshRow 21 = .ok (.invokevirtual 282, 3) := by decide +kernel
theorem dX3_freshRow_24 : decode cX3_freshRow 24 = .ok (.aload_n 1, 1) := by decide +kernel
theorem dX3_freshRow_25 : decode cX3_freshRow 25 = .ok (.areturn, 1) := by decide +kernel
theorem dX3_goesOn_0 : decode cX3_goesOn 0 = .ok (.aload_n 2, 1) := by decide +kernel
theorem dX3_goesOn_1 : decode cX3_goesOn 1 = .ok (.invokevirtual 263, 3) := by decide +kernel
theorem dX3_goesOn_4 : decode cX3_goesOn 4 = .ok (.ifCond .eq 27, 3) := by decide +kernel
theorem dX3_goesOn_7 : decode cX3_goesOn 7 = .ok (.aload_n 2, 1) := by decide +kernel
theorem dX3_goesOn_8 : decode cX3_goesOn 8 = .ok (.getfield 86, 3) := by decide +kernel
theorem dX3_goesOn_11 : decode cX3_goesOn 11 = .ok (.iconst 1, 1) := by decide +kernel
theorem dX3_goesOn_12 : decode cX3_goesOn 12 = .ok (.if_icmp .eq 19, 3) := by decide +kernel
theorem dX3_goesOn_15 : decode cX3_goesOn 15 = .ok (.aload_n 1, 1) := by decide +kernel
theorem dX3_goesOn_16 : decode cX3_goesOn 16 = .ok (.getfield 113, 3) := by decide +kernel
theorem dX3_goesOn_19 : decode cX3_goesOn 19 = .ok (.ifCond .eq 12, 3) := by decide +kernel
theorem dX3_goesOn_22 : decode cX3_goesOn 22 = .ok (.aload_n 1, 1) := by decide +kernel
theorem dX3_goesOn_23 : decode cX3_goesOn 23 = .ok (.getfield 113, 3) := by decide +kernel
theorem dX3_goesOn_26 : decode cX3_goesOn 26 = .ok (.bipush 16, 2) := by decide +kernel
theorem dX3_goesOn_28 : decode cX3_goesOn 28 = .ok (.if_icmp .lt 5, 3) := by decide +kernel
theorem dX3_goesOn_31 : decode cX3_goesOn 31 = .ok (.iconst 0, 1) := by decide +kernel
theorem dX3_goesOn_32 : decode cX3_goesOn 32 = .ok (.ireturn, 1) := by decide +kernel
theorem dX3_goesOn_33 : decode cX3_goesOn 33 = .ok (.aload_n 1, 1) := by decide +kernel
theorem dX3_goesOn_34 : decode cX3_goesOn 34 = .ok (.getfield 141, 3) := by decide +kernel
theorem dX3_goesOn_37 : decode cX3_goesOn 37 = .ok (.aload_n 1, 1) := by decide +kernel
theorem dX3_goesOn_38 : decode cX3_goesOn 38 = .ok (.getfield 113, 3) := by decide +kernel
theorem dX3_goesOn_41 : decode cX3_goesOn 41 = .ok (.iconst 1, 1) := by decide +kernel
theorem dX3_goesOn_42 : decode cX3_goesOn 42 = .ok (.isub, 1) := by decide +kernel
theorem dX3_goesOn_43 : decode cX3_goesOn 43 = .ok (.aaload, 1) := by decide +kernel
theorem dX3_goesOn_44 : decode cX3_goesOn 44 = .ok (.getfield 234, 3) := by decide +kernel
theorem dX3_goesOn_47 : decode cX3_goesOn 47 = .ok (.istore_n 3, 1) := by decide +kernel
theorem dX3_goesOn_48 : decode cX3_goesOn 48 = .ok (.aload_n 0, 1) := by decide +kernel
theorem dX3_goesOn_49 : decode cX3_goesOn 49 = .ok (.getfield 12, 3) := by decide +kernel
theorem dX3_goesOn_52 : decode cX3_goesOn 52 = .ok (.iload_n 3, 1) := by decide +kernel
theorem dX3_goesOn_53 : decode cX3_goesOn 53 = .ok (.invokevirtual 240, 3) := by decide +kernel
theorem dX3_goesOn_56 : decode cX3_goesOn 56 = .ok (.aload_n 0, 1) := by decide +kernel
theorem dX3_goesOn_57 : decode cX3_goesOn 57 = .ok (.getfield 12, 3) := by decide +kernel
theorem dX3_goesOn_60 : decode cX3_goesOn 60 = .ok (.aload_n 2, 1) := by decide +kernel
theorem dX3_goesOn_61 : decode cX3_goesOn 61 = .ok (.getfield 234, 3) := by decide +kernel
theorem dX3_goesOn_64 : decode cX3_goesOn 64 = .ok (.invokevirtual 240, 3) := by decide +kernel
theorem dX3_goesOn_67 : decode cX3_goesOn 67 = .ok (.if_icmp .ne 29, 3) := by decide +kernel
theorem dX3_goesOn_70 : decode cX3_goesOn 70 = .ok (.aload_n 0, 1) := by decide +kernel
theorem dX3_goesOn_71 : decode cX3_goesOn 71 = .ok (.getfield 12, 3) := by decide +kernel
theorem dX3_goesOn_74 : decode cX3_goesOn 74 = .ok (.iload_n 3, 1) := by decide +kernel
theorem dX3_goesOn_75 : decode cX3_goesOn 75 = .ok (.invokevirtual 243, 3) := by decide +kernel
theorem dX3_goesOn_78 : decode cX3_goesOn 78 = .ok (.aload_n 0, 1) := by decide +kernel
theorem dX3_goesOn_79 : decode cX3_goesOn 79 = .ok (.getfield 12, 3) := by decide +kernel
theorem dX3_goesOn_82 : decode cX3_goesOn 82 = .ok (.aload_n 2, 1) := by decide +kernel
theorem dX3_goesOn_83 : decode cX3_goesOn 83 = .ok (.getfield 234, 3) := by decide +kernel
theorem dX3_goesOn_86 : decode cX3_goesOn 86 = .ok (.invokevirtual 243, 3) := by decide +kernel
theorem dX3_goesOn_89 : decode cX3_goesOn 89 = .ok (.if_icmp .ne 7, 3) := by decide +kernel
theorem dX3_goesOn_92 : decode cX3_goesOn 92 = .ok (.iconst 1, 1) := by decide +kernel
theorem dX3_goesOn_93 : decode cX3_goesOn 93 = .ok (.goto 4, 3) := by decide +kernel
theorem dX3_goesOn_96 : decode cX3_goesOn 96 = .ok (.iconst 0, 1) := by decide +kernel
theorem dX3_goesOn_97 : decode cX3_goesOn 97 = .ok (.istore 4, 2) := by decide +kernel
theorem dX3_goesOn_99 : decode cX3_goesOn 99 = .ok (.iload 4, 2) := by decide +kernel
theorem dX3_goesOn_101 : decode cX3_goesOn 101 = .ok (.ifCond .ne 11, 3) := by decide +kernel
theorem dX3_goesOn_104 : decode cX3_goesOn 104 = .ok (.aload_n 2, 1) := by decide +kernel
theorem dX3_goesOn_105 : decode cX3_goesOn 105 = .ok (.getfield 86, 3) := by decide +kernel
theorem dX3_goesOn_108 : decode cX3_goesOn 108 = .ok (.iconst 2, 1) := by decide +kernel
theorem dX3_goesOn_109 : decode cX3_goesOn 109 = .ok (.if_icmp .ne 7, 3) := by decide +kernel
theorem dX3_goesOn_112 : decode cX3_goesOn 112 = .ok (.iconst 1, 1) := by decide +kernel
theorem dX3_goesOn_113 : decode cX3_goesOn 113 = .ok (.goto 4, 3) := by decide +kernel
theorem dX3_goesOn_116 : decode cX3_goesOn 116 = .ok (.iconst 0, 1) := by decide +kernel
theorem dX3_goesOn_117 : decode cX3_goesOn 117 = .ok (.ireturn, 1) := by decide +kernel
theorem dX3_finish_0 : decode cX3_finish 0 = .ok (.aload_n 1, 1) := by decide +kernel
theorem dX3_finish_1 : decode cX3_finish 1 = .ok (.getfield 113, 3) := by decide +kernel
theorem dX3_finish_4 : decode cX3_finish 4 = .ok (.iconst 2, 1) := by decide +kernel
theorem dX3_finish_5 : decode cX3_finish 5 = .ok (.if_icmp .ge 4, 3) := by decide +kernel
theorem dX3_finish_8 : decode cX3_finish 8 = .ok (.return_, 1) := by decide +kernel
theorem dX3_finish_9 : decode cX3_finish 9 = .ok (.aload_n 1, 1) := by decide +kernel
theorem dX3_finish_10 : decode cX3_finish 10 = .ok (.aload_n 0, 1) := by decide +kernel
theorem dX3_finish_11 : decode cX3_finish 11 = .ok (.invokevirtual 163, 3) := by decide +kernel
theorem dX3_finish_14 : decode cX3_finish 14 = .ok (.invokevirtual 285, 3) := by decide +kernel
theorem dX3_finish_17 : decode cX3_finish 17 = .ok (.aload_n 1, 1) := by decide +kernel
theorem dX3_finish_18 : decode cX3_finish 18 = .ok (.invokevirtual 289, 3) := by decide +kernel
theorem dX3_finish_21 : decode cX3_finish 21 = .ok (.aload_n 1, 1) := by decide +kernel
theorem dX3_finish_22 : decode cX3_finish 22 = .ok (.invokevirtual 292, 3) := by decide +kernel
theorem dX3_finish_25 : decode cX3_finish 25 = .ok (.ifCond .eq 24, 3) := by decide +kernel
theorem dX3_finish_28 : decode cX3_finish 28 = .ok (.aload_n 1, 1) := by decide +kernel
theorem dX3_finish_29 : decode cX3_finish 29 = .ok (.aload_n 0, 1) := by decide +kernel
theorem dX3_finish_30 : decode cX3_finish 30 = .ok (.getfield 106, 3) := by decide +kernel
theorem dX3_finish_33 : decode cX3_finish 33 = .ok (.invokevirtual 295, 3) := by decide +kernel
theorem dX3_finish_36 : decode cX3_finish 36 = .ok (.aload_n 0, 1) := by decide +kernel
theorem dX3_finish_37 : decode cX3_finish 37 = .ok (.dup, 1) := by decide +kernel
theorem dX3_finish_38 : decode cX3_finish 38 = .ok (.getfield 106, 3) := by decide +kernel
theorem dX3_finish_41 : decode cX3_finish 41 = .ok (.iconst 1, 1) := by decide +kernel
theorem dX3_finish_42 : decode cX3_finish 42 = .ok (.iadd, 1) := by decide +kernel
theorem dX3_finish_43 : decode cX3_finish 43 = .ok (.putfield 106, 3) := by decide +kernel
theorem dX3_finish_46 : decode cX3_finish 46 = .ok (.goto 13, 3) := by decide +kernel
theorem dX3_finish_49 : decode cX3_finish 49 = .ok (.aload_n 0, 1) := by decide +kernel
theorem dX3_finish_50 : decode cX3_finish 50 = .ok (.dup, 1) := by decide +kernel
theorem dX3_finish_51 : decode cX3_finish 51 = .ok (.getfield 100, 3) := by decide +kernel
theorem dX3_finish_54 : decode cX3_finish 54 = .ok (.iconst 1, 1) := by decide +kernel
theorem dX3_finish_55 : decode cX3_finish 55 = .ok (.iadd, 1) := by decide +kernel
theorem dX3_finish_56 : decode cX3_finish 56 = .ok (.putfield 100, 3) := by decide +kernel
theorem dX3_finish_59 : decode cX3_finish 59 = .ok (.return_, 1) := by decide +kernel
theorem dX3_stubOf_0 : decode cX3_stubOf 0 = .ok (.aload_n 1, 1) := by decide +kernel
theorem dX3_stubOf_1 : decode cX3_stubOf 1 = .ok (.getfield 181, 3) := by decide +kernel
theorem dX3_stubOf_4 : decode cX3_stubOf 4 = .ok (.ifCond .ne 6, 3) := by decide +kernel
theorem dX3_stubOf_7 : decode cX3_stubOf 7 = .ok (.bipush 8, 2) := by decide +kernel
theorem dX3_stubOf_9 : decode cX3_stubOf 9 = .ok (.ireturn, 1) := by decide +kernel
theorem dX3_stubOf_10 : decode cX3_stubOf 10 = .ok (.aload_n 1, 1) := by decide +kernel
theorem dX3_stubOf_11 : decode cX3_stubOf 11 = .ok (.getfield 181, 3) := by decide +kernel
theorem dX3_stubOf_14 : decode cX3_stubOf 14 = .ok (.aload_n 2, 1) := by decide +kernel
theorem dX3_stubOf_15 : decode cX3_stubOf 15 = .ok (.getfield 113, 3) := by decide +kernel
theorem dX3_stubOf_18 : decode cX3_stubOf 18 = .ok (.iconst 1, 1) := by decide +kernel
theorem dX3_stubOf_19 : decode cX3_stubOf 19 = .ok (.isub, 1) := by decide +kernel
theorem dX3_stubOf_20 : decode cX3_stubOf 20 = .ok (.if_icmp .ne 5, 3) := by decide +kernel
theorem dX3_stubOf_23 : decode cX3_stubOf 23 = .ok (.iconst 4, 1) := by decide +kernel
theorem dX3_stubOf_24 : decode cX3_stubOf 24 = .ok (.ireturn, 1) := by decide +kernel
theorem dX3_stubOf_25 : decode cX3_stubOf 25 = .ok (.iconst 2, 1) := by decide +kernel
theorem dX3_stubOf_26 : decode cX3_stubOf 26 = .ok (.aload_n 1, 1) := by decide +kernel
theorem dX3_stubOf_27 : decode cX3_stubOf 27 = .ok (.getfield 160, 3) := by decide +kernel
theorem dX3_stubOf_30 : decode cX3_stubOf 30 = .ok (.iconst 0, 1) := by decide +kernel
theorem dX3_stubOf_31 : decode cX3_stubOf 31 = .ok (.invokestatic 247, 3) := by decide +kernel
theorem dX3_stubOf_34 : decode cX3_stubOf 34 = .ok (.imul, 1) := by decide +kernel
theorem dX3_stubOf_35 : decode cX3_stubOf 35 = .ok (.istore_n 3, 1) := by decide +kernel
theorem dX3_stubOf_36 : decode cX3_stubOf 36 = .ok (.iload_n 3, 1) := by decide +kernel
theorem dX3_stubOf_37 : decode cX3_stubOf 37 = .ok (.ifCond .le 24, 3) := by decide +kernel
theorem dX3_stubOf_40 : decode cX3_stubOf 40 = .ok (.aload_n 0, 1) := by decide +kernel
theorem dX3_stubOf_41 : decode cX3_stubOf 41 = .ok (.getfield 12, 3) := by decide +kernel
theorem dX3_stubOf_44 : decode cX3_stubOf 44 = .ok (.aload_n 1, 1) := by decide +kernel
theorem dX3_stubOf_45 : decode cX3_stubOf 45 = .ok (.getfield 234, 3) := by decide +kernel
theorem dX3_stubOf_48 : decode cX3_stubOf 48 = .ok (.invokevirtual 250, 3) := by decide +kernel
theorem dX3_stubOf_51 : decode cX3_stubOf 51 = .ok (.iload_n 3, 1) := by decide +kernel
theorem dX3_stubOf_52 : decode cX3_stubOf 52 = .ok (.irem, 1) := by decide +kernel
theorem dX3_stubOf_53 : decode cX3_stubOf 53 = .ok (.ifCond .ne 8, 3) := by decide +kernel
theorem dX3_stubOf_56 : decode cX3_stubOf 56 = .ok (.bipush 8, 2) := by decide +kernel
theorem dX3_stubOf_58 : decode cX3_stubOf 58 = .ok (.goto 4, 3) := by decide +kernel
theorem dX3_stubOf_61 : decode cX3_stubOf 61 = .ok (.iconst 4, 1) := by decide +kernel
theorem dX3_stubOf_62 : decode cX3_stubOf 62 = .ok (.ireturn, 1) := by decide +kernel
theorem dX3_noteBeside_0 : decode cX3_noteBeside 0 = .ok (.aload_n 1, 1) := by decide +kernel
theorem dX3_noteBeside_1 : decode cX3_noteBeside 1 = .ok (.getfield 144, 3) := by decide +kernel
theorem dX3_noteBeside_4 : decode cX3_noteBeside 4 = .ok (.iload_n 2, 1) := by decide +kernel
theorem dX3_noteBeside_5 : decode cX3_noteBeside 5 = .ok (.iadd, 1) := by decide +kernel
theorem dX3_noteBeside_6 : decode cX3_noteBeside 6 = .ok (.istore_n 3, 1) := by decide +kernel
theorem dX3_noteBeside_7 : decode cX3_noteBeside 7 = .ok (.iconst 0, 1) := by decide +kernel
theorem dX3_noteBeside_8 : decode cX3_noteBeside 8 = .ok (.istore 4, 2) := by decide +kernel
theorem dX3_noteBeside_10 : decode cX3_noteBeside 10 = .ok (.iload 4, 2) := by decide +kernel
theorem dX3_noteBeside_12 : decode cX3_noteBeside 12 = .ok (.bipush 64, 2) := by decide +kernel
theorem dX3_noteBeside_14 : decode cX3_noteBeside 14 = .ok (.if_icmp .ge 50, 3) := by decide +kernel
theorem dX3_noteBeside_17 : decode cX3_noteBeside 17 = .ok (.aload_n 0, 1) := by decide +kernel
theorem dX3_noteBeside_18 : decode cX3_noteBeside 18 = .ok (.iload_n 3, 1) := by decide +kernel
theorem dX3_noteBeside_19 : decode cX3_noteBeside 19 = .ok (.invokevirtual 62, 3) := by decide +kernel
theorem dX3_noteBeside_22 : decode cX3_noteBeside 22 = .ok (.astore 5, 2) := by decide +kernel
theorem dX3_noteBeside_24 : decode cX3_noteBeside 24 = .ok (.aload 5, 2) := by decide +kernel
theorem dX3_noteBeside_26 : decode cX3_noteBeside 26 = .ok (.ifnonnull 5, 3) := by decide +kernel
theorem dX3_noteBeside_29 : decode cX3_noteBeside 29 = .ok (.aconst_null, 1) := by decide +kernel
theorem dX3_noteBeside_30 : decode cX3_noteBeside 30 = .ok (.areturn, 1) := by decide +kernel
theorem dX3_noteBeside_31 : decode cX3_noteBeside 31 = .ok (.aload 5, 2) := by decide +kernel
theorem dX3_noteBeside_33 : decode cX3_noteBeside 33 = .ok (.getfield 208, 3) := by decide +kernel
theorem dX3_noteBeside_36 : decode cX3_noteBeside 36 = .ok (.aload_n 1, 1) := by decide +kernel
theorem dX3_noteBeside_37 : decode cX3_noteBeside 37 = .ok (.getfield 208, 3) := by decide +kernel
theorem dX3_noteBeside_40 : decode cX3_noteBeside 40 = .ok (.if_icmp .ne 14, 3) := by decide +kernel
theorem dX3_noteBeside_43 : decode cX3_noteBeside 43 = .ok (.aload 5, 2) := by decide +kernel
theorem dX3_noteBeside_45 : decode cX3_noteBeside 45 = .ok (.invokevirtual 205, 3) := by decide +kernel
theorem dX3_noteBeside_48 : decode cX3_noteBeside 48 = .ok (.ifCond .ne 6, 3) := by decide +kernel
theorem dX3_noteBeside_51 : decode cX3_noteBeside 51 = .ok (.aload 5, 2) := by decide +kernel
theorem dX3_noteBeside_53 : decode cX3_noteBeside 53 = .ok (.areturn, 1) := by decide +kernel
theorem dX3_noteBeside_54 : decode cX3_noteBeside 54 = .ok (.iload_n 3, 1) := by decide +kernel
theorem dX3_noteBeside_55 : decode cX3_noteBeside 55 = .ok (.iload_n 2, 1) := by decide +kernel
theorem dX3_noteBeside_56 : decode cX3_noteBeside 56 = .ok (.iadd, 1) := by decide +kernel
theorem dX3_noteBeside_57 : decode cX3_noteBeside 57 = .ok (.istore_n 3, 1) := by decide +kernel
theorem dX3_noteBeside_58 : decode cX3_noteBeside 58 = .ok (.iinc 4 1, 3) := by decide +kernel
theorem dX3_noteBeside_61 : decode cX3_noteBeside 61 = .ok (.goto (-51), 3) := by decide +kernel
theorem dX3_noteBeside_64 : decode cX3_noteBeside 64 = .ok (.aconst_null, 1) := by decide +kernel
theorem dX3_noteBeside_65 : decode cX3_noteBeside 65 = .ok (.areturn, 1) := by decide +kernel
set_option maxRecDepth 20000 in
theorem bkX3_stem_0 {w : zW} {Γ : zC} {N S : Nat} {Rt : zR} (X : zm_X w Γ mX3_stem N S Rt) : ∀ lv st h, (zi_lda 0 (zi_ldi 1 (zi_cv w mX3_eventAt 3 2 N S (zi_sta 3 (zi_lda 3 (zi_ldi 2 (zi_if (fun x => x < 0) (zm_V w Γ 20) (zi_ldi 2 (zi_push (.int 4) (zi_ic (fun x y => y < x) (zm_V w Γ 20) (zi_push (.int 1) (zm_V w Γ 21)))))))))))) lv st h → zm_V w Γ 0 lv st h := (zs_aload_n X rfl dX3_stem_0 (zs_iload_n X rfl dX3_stem_1 (zs_cv X (M' := mX3_eventAt) (n := 1) kd_X3_eventAt ki_X3 (by decide +kernel) (by decide) kw_X3_62 rfl ks_X3_eventAt kl_X3_eventAt dX3_stem_2 (zs_astore_n X rfl (by decide) dX3_stem_5 (zs_aload_n X rfl dX3_stem_6 (zs_iload_n X rfl dX3_stem_7 (zs_if_lt X dX3_stem_8 (by decide) (fun _ _ _ h => h) (zs_iload_n X rfl dX3_stem_11 (zs_iconst X (by decide) dX3_stem_12 (zs_icmp_gt X dX3_stem_13 (by decide) (fun _ _ _ h => h) (zs_iconst X (by decide) dX3_stem_16 (zs_goto X dX3_stem_17 (by decide) (fun _ _ _ h => h)))))))))))))
set_option maxRecDepth 20000 in
theorem bkX3_stem_20 {w : zW} {Γ : zC} {N S : Nat} {Rt : zR} (X : zm_X w Γ mX3_stem N S Rt) : ∀ lv st h, (zi_push (.int 0) (zm_V w Γ 21)) lv st h → zm_V w Γ 20 lv st h := (zs_iconst X (by decide) dX3_stem_20 (fun _ _ _ h => h))
set_option maxRecDepth 20000 in
theorem bkX3_stem_21 {w : zW} {Γ : zC} {N S : Nat} {Rt : zR} (X : zm_X w Γ mX3_stem N S Rt) : ∀ lv st h, (zi_cs w mX3_refusalOf 2 N S (zi_sti 4 (zi_lda 3 (zi_nul (zi_ldi 4 (zi_iret Rt)) (zi_ldi 4 (zi_if (fun x => x = 0) (zi_ldi 2 (zi_push (.int 4) (zi_ic (fun x y => x = y) (zi_lda 3 (zi_gf 2 10 (zi_iret Rt))) (zi_lda 3 (zi_gf 2 2 (zi_if (fun x => x = 0) (zi_push (.int (-1001)) (zi_iret Rt)) (zi_lda 0 (zi_lda 3 (zi_gf 2 10 (zi_cv w mX3_beamAt 3 2 N S (zi_sta 5 (zi_lda 5 (zi_nul (zi_lda 3 (zi_lda 3 (zi_lda 0 (zi_cv w mX3_isTwoVoiced 3 1 N S (zi_cv w mX2_wayAlone 2 2 N S (zi_push (.int 0) (zi_cv w mX2_aim 2 3 N S (zm_V w Γ 87)))))))) (zm_V w Γ 87)))))))))))))) (zi_ldi 4 (zi_iret Rt)))))))) lv st h → zm_V w Γ 21 lv st h := (zs_cs X (M' := mX3_refusalOf) (n := 2) kd_X3_refusalOf ki_X3 (by decide +kernel) (by decide) kw_X3_70 ks_X3_refusalOf dX3_stem_21 (zs_istore X (by decide) dX3_stem_24 (zs_aload_n X rfl dX3_stem_26 (zs_ifnull X dX3_stem_27 (by decide) (zs_iload X dX3_stem_35 (zs_iret X rfl dX3_stem_37)) (zs_iload X dX3_stem_30 (zs_if_eq X dX3_stem_32 (by decide) (zs_iload_n X rfl dX3_stem_38 (zs_iconst X (by decide) dX3_stem_39 (zs_icmp_ne X dX3_stem_40 (by decide) (zs_aload_n X rfl dX3_stem_48 (zs_gf X (ci := 2) rfl (by decide) zm_in2 kw_X3_160 dX3_stem_49 (zs_if_ne X dX3_stem_52 (by decide) (zs_aload_n X rfl dX3_stem_59 (zs_aload_n X rfl dX3_stem_60 (zs_gf X (ci := 2) rfl (by decide) zm_in2 kw_X3_157 dX3_stem_61 (zs_cv X (M' := mX3_beamAt) (n := 1) kd_X3_beamAt ki_X3 (by decide +kernel) (by decide) kw_X3_109 rfl ks_X3_beamAt kl_X3_beamAt dX3_stem_64 (zs_astore X (by decide) dX3_stem_67 (zs_aload X dX3_stem_69 (zs_ifnonnull X dX3_stem_71 (by decide) (fun _ _ _ h => h) (zs_aload_n X rfl dX3_stem_74 (zs_aload_n X rfl dX3_stem_75 (zs_aload_n X rfl dX3_stem_76 (zs_cv X (M' := mX3_isTwoVoiced) (n := 0) kd_X3_isTwoVoiced ki_X3 (by decide +kernel) (by decide) kw_X3_163 rfl ks_X3_isTwoVoiced kl_X3_isTwoVoiced dX3_stem_77 (zs_cv X (M' := mX2_wayAlone) (n := 1) kd_X2_wayAlone ki_X2 (by decide +kernel) (by decide) kw_X3_167 rfl ks_X2_wayAlone kl_X2_wayAlone dX3_stem_80 (zs_iconst X (by decide) dX3_stem_83 (zs_cv X (M' := mX2_aim) (n := 2) kd_X2_aim ki_X2 (by decide +kernel) (by decide) kw_X3_171 rfl ks_X2_aim kl_X2_aim dX3_stem_84 (fun _ _ _ h => h))))))))))))))) (zs_sipush X (by decide) dX3_stem_55 (zs_iret X rfl dX3_stem_58))))) (zs_aload_n X rfl dX3_stem_43 (zs_gf X (ci := 2) rfl (by decide) zm_in2 kw_X3_157 dX3_stem_44 (zs_iret X rfl dX3_stem_47)))))) (zs_iload X dX3_stem_35 (zs_iret X rfl dX3_stem_37))))))))
set_option maxRecDepth 20000 in
theorem bkX3_stem_87 {w : zW} {Γ : zC} {N S : Nat} {Rt : zR} (X : zm_X w Γ mX3_stem N S Rt) : ∀ lv st h, (zi_lda 5 (zi_nul (zi_lda 3 (zi_gf 2 13 (zi_lda 3 (zi_gf 2 12 (zi_lda 3 (zi_gf 2 14 (zi_b (fun x y => x * y) (zi_b (fun x y => x + y) (zm_V w Γ 118))))))))) (zi_lda 5 (zi_lda 3 (zi_gf 2 11 (zi_cv w mX1_heightAt 1 2 N S (zm_V w Γ 118))))))) lv st h → zm_V w Γ 87 lv st h := (zs_aload X dX3_stem_87 (zs_ifnonnull X dX3_stem_89 (by decide) (zs_aload X dX3_stem_109 (zs_aload_n X rfl dX3_stem_111 (zs_gf X (ci := 2) rfl (by decide) zm_in2 kw_X3_181 dX3_stem_112 (zs_cv X (M' := mX1_heightAt) (n := 1) kd_X1_heightAt ki_X1 (by decide +kernel) (by decide) kw_X3_184 rfl ks_X1_heightAt kl_X1_heightAt dX3_stem_115 (fun _ _ _ h => h))))) (zs_aload_n X rfl dX3_stem_92 (zs_gf X (ci := 2) rfl (by decide) zm_in2 kw_X3_174 dX3_stem_93 (zs_aload_n X rfl dX3_stem_96 (zs_gf X (ci := 2) rfl (by decide) zm_in2 kw_X3_177 dX3_stem_97 (zs_aload_n X rfl dX3_stem_100 (zs_gf X (ci := 2) rfl (by decide) zm_in2 kw_X3_178 dX3_stem_101 (zs_imul X dX3_stem_104 (zs_iadd X dX3_stem_105 (zs_goto X dX3_stem_106 (by decide) (fun _ _ _ h => h))))))))))))
set_option maxRecDepth 20000 in
theorem bkX3_stem_118 {w : zW} {Γ : zC} {N S : Nat} {Rt : zR} (X : zm_X w Γ mX3_stem N S Rt) : ∀ lv st h, (zi_sti 6 (zi_ldi 2 (zi_sw [(0, (zi_lda 3 (zi_gf 2 12 (zi_iret Rt)))), (1, (zi_ldi 6 (zi_iret Rt))), (2, (zi_lda 3 (zi_ldi 6 (zi_cv w mX2_lengthTo 2 2 N S (zi_iret Rt)))))] (zi_lda 5 (zi_nul (zi_lda 3 (zi_cv w mX2_levels 2 1 N S (zi_iret Rt))) (zi_push (.int 0) (zi_iret Rt))))))) lv st h → zm_V w Γ 118 lv st h := (zs_istore X (by decide) dX3_stem_118 (zs_iload_n X rfl dX3_stem_120 (zs_tsw X dX3_stem_121 (by decide) (zm_tk_cons (by decide) (by decide) (zs_aload_n X rfl dX3_stem_148 (zs_gf X (ci := 2) rfl (by decide) zm_in2 kw_X3_177 dX3_stem_149 (zs_iret X rfl dX3_stem_152))) (zm_tk_cons (by decide) (by decide) (zs_iload X dX3_stem_153 (zs_iret X rfl dX3_stem_155)) (zm_tk_cons (by decide) (by decide) (zs_aload_n X rfl dX3_stem_156 (zs_iload X dX3_stem_157 (zs_cv X (M' := mX2_lengthTo) (n := 1) kd_X2_lengthTo ki_X2 (by decide +kernel) (by decide) kw_X3_188 rfl ks_X2_lengthTo kl_X2_lengthTo dX3_stem_159 (zs_iret X rfl dX3_stem_162)))) zm_tk_nil))) (by decide) (zs_aload X dX3_stem_163 (zs_ifnonnull X dX3_stem_165 (by decide) (zs_iconst X (by decide) dX3_stem_175 (zs_iret X rfl dX3_stem_176)) (zs_aload_n X rfl dX3_stem_168 (zs_cv X (M' := mX2_levels) (n := 0) kd_X2_levels ki_X2 (by decide +kernel) (by decide) kw_X3_191 rfl ks_X2_levels kl_X2_levels dX3_stem_169 (zs_goto X dX3_stem_172 (by decide) (zs_iret X rfl dX3_stem_176)))))))))
set_option maxRecDepth 20000 in
theorem bkX3_level_0 {w : zW} {Γ : zC} {N S : Nat} {Rt : zR} (X : zm_X w Γ mX3_level N S Rt) : ∀ lv st h, (zi_lda 0 (zi_ldi 1 (zi_cv w mX3_eventAt 3 2 N S (zi_sta 3 (zi_lda 3 (zi_ldi 2 (zi_push (.int 1) (zi_ic (fun x y => x < y) (zm_V w Γ 21) (zi_ldi 2 (zi_push (.int 4) (zi_ic (fun x y => y < x) (zm_V w Γ 21) (zi_push (.int 1) (zm_V w Γ 22))))))))))))) lv st h → zm_V w Γ 0 lv st h := (zs_aload_n X rfl dX3_level_0 (zs_iload_n X rfl dX3_level_1 (zs_cv X (M' := mX3_eventAt) (n := 1) kd_X3_eventAt ki_X3 (by decide +kernel) (by decide) kw_X3_62 rfl ks_X3_eventAt kl_X3_eventAt dX3_level_2 (zs_astore_n X rfl (by decide) dX3_level_5 (zs_aload_n X rfl dX3_level_6 (zs_iload_n X rfl dX3_level_7 (zs_iconst X (by decide) dX3_level_8 (zs_icmp_lt X dX3_level_9 (by decide) (fun _ _ _ h => h) (zs_iload_n X rfl dX3_level_12 (zs_iconst X (by decide) dX3_level_13 (zs_icmp_gt X dX3_level_14 (by decide) (fun _ _ _ h => h) (zs_iconst X (by decide) dX3_level_17 (zs_goto X dX3_level_18 (by decide) (fun _ _ _ h => h))))))))))))))
set_option maxRecDepth 20000 in
theorem bkX3_level_21 {w : zW} {Γ : zC} {N S : Nat} {Rt : zR} (X : zm_X w Γ mX3_level N S Rt) : ∀ lv st h, (zi_push (.int 0) (zm_V w Γ 22)) lv st h → zm_V w Γ 21 lv st h := (zs_iconst X (by decide) dX3_level_21 (fun _ _ _ h => h))
set_option maxRecDepth 20000 in
theorem bkX3_level_22 {w : zW} {Γ : zC} {N S : Nat} {Rt : zR} (X : zm_X w Γ mX3_level N S Rt) : ∀ lv st h, (zi_cs w mX3_refusalOf 2 N S (zi_sti 4 (zi_lda 3 (zi_nul (zi_ldi 4 (zi_iret Rt)) (zi_ldi 4 (zi_if (fun x => x = 0) (zi_lda 0 (zi_lda 3 (zi_gf 2 10 (zi_cv w mX3_beamAt 3 2 N S (zi_sta 5 (zi_lda 5 (zi_nul (zi_push (.int 0) (zi_iret Rt)) (zi_lda 3 (zi_cv w mX2_levels 2 1 N S (zi_ldi 2 (zi_ic (fun x y => y ≤ x) (zi_lda 5 (zi_lda 3 (zi_gf 2 11 (zi_ldi 2 (zi_cv w mX1_sidesAt 1 3 N S (zi_sti 6 (zi_ldi 6 (zi_if (fun x => x = 0) (zi_lda 0 (zi_lda 3 (zi_lda 5 (zi_cv w mX3_stubOf 3 3 N S (zi_iret Rt))))) (zi_ldi 6 (zi_iret Rt)))))))))) (zi_push (.int 0) (zi_iret Rt))))))))))))) (zi_ldi 4 (zi_iret Rt)))))))) lv st h → zm_V w Γ 22 lv st h := (zs_cs X (M' := mX3_refusalOf) (n := 2) kd_X3_refusalOf ki_X3 (by decide +kernel) (by decide) kw_X3_70 ks_X3_refusalOf dX3_level_22 (zs_istore X (by decide) dX3_level_25 (zs_aload_n X rfl dX3_level_27 (zs_ifnull X dX3_level_28 (by decide) (zs_iload X dX3_level_36 (zs_iret X rfl dX3_level_38)) (zs_iload X dX3_level_31 (zs_if_eq X dX3_level_33 (by decide) (zs_aload_n X rfl dX3_level_39 (zs_aload_n X rfl dX3_level_40 (zs_gf X (ci := 2) rfl (by decide) zm_in2 kw_X3_157 dX3_level_41 (zs_cv X (M' := mX3_beamAt) (n := 1) kd_X3_beamAt ki_X3 (by decide +kernel) (by decide) kw_X3_109 rfl ks_X3_beamAt kl_X3_beamAt dX3_level_44 (zs_astore X (by decide) dX3_level_47 (zs_aload X dX3_level_49 (zs_ifnull X dX3_level_51 (by decide) (zs_iconst X (by decide) dX3_level_62 (zs_iret X rfl dX3_level_63)) (zs_aload_n X rfl dX3_level_54 (zs_cv X (M' := mX2_levels) (n := 0) kd_X2_levels ki_X2 (by decide +kernel) (by decide) kw_X3_191 rfl ks_X2_levels kl_X2_levels dX3_level_55 (zs_iload_n X rfl dX3_level_58 (zs_icmp_ge X dX3_level_59 (by decide) (zs_aload X dX3_level_64 (zs_aload_n X rfl dX3_level_66 (zs_gf X (ci := 2) rfl (by decide) zm_in2 kw_X3_181 dX3_level_67 (zs_iload_n X rfl dX3_level_70 (zs_cv X (M' := mX1_sidesAt) (n := 2) kd_X1_sidesAt ki_X1 (by decide +kernel) (by decide) kw_X3_194 rfl ks_X1_sidesAt kl_X1_sidesAt dX3_level_71 (zs_istore X (by decide) dX3_level_74 (zs_iload X dX3_level_76 (zs_if_eq X dX3_level_78 (by decide) (zs_aload_n X rfl dX3_level_86 (zs_aload_n X rfl dX3_level_87 (zs_aload X dX3_level_88 (zs_cv X (M' := mX3_stubOf) (n := 2) kd_X3_stubOf ki_X3 (by decide +kernel) (by decide) kw_X3_198 rfl ks_X3_stubOf kl_X3_stubOf dX3_level_90 (zs_iret X rfl dX3_level_93))))) (zs_iload X dX3_level_81 (zs_goto X dX3_level_83 (by decide) (zs_iret X rfl dX3_level_93))))))))))) (zs_iconst X (by decide) dX3_level_62 (zs_iret X rfl dX3_level_63))))))))))))) (zs_iload X dX3_level_36 (zs_iret X rfl dX3_level_38))))))))
set_option maxRecDepth 20000 in
theorem bkX3_feather_0 {w : zW} {Γ : zC} {N S : Nat} {Rt : zR} (X : zm_X w Γ mX3_feather N S Rt) : ∀ lv st h, (zi_lda 0 (zi_ldi 1 (zi_cv w mX3_beamAt 3 2 N S (zi_sta 3 (zi_lda 3 (zi_nul (zi_push (.int (-1002)) (zi_iret Rt)) (zi_ldi 2 (zi_if (fun x => x < 0) (zi_push (.int (-1003)) (zi_iret Rt)) (zi_ldi 2 (zi_push (.int 2) (zi_ic (fun x y => x ≤ y) (zi_lda 3 (zi_gf 1 6 (zi_sti 4 (zi_lda 3 (zi_ldi 2 (zi_pf 1 6 .int (zi_ldi 4 (zi_iret Rt)))))))) (zi_push (.int (-1003)) (zi_iret Rt))))))))))))) lv st h → zm_V w Γ 0 lv st h := (zs_aload_n X rfl dX3_feather_0 (zs_iload_n X rfl dX3_feather_1 (zs_cv X (M' := mX3_beamAt) (n := 1) kd_X3_beamAt ki_X3 (by decide +kernel) (by decide) kw_X3_109 rfl ks_X3_beamAt kl_X3_beamAt dX3_feather_2 (zs_astore_n X rfl (by decide) dX3_feather_5 (zs_aload_n X rfl dX3_feather_6 (zs_ifnonnull X dX3_feather_7 (by decide) (zs_iload_n X rfl dX3_feather_14 (zs_if_lt X dX3_feather_15 (by decide) (zs_sipush X (by decide) dX3_feather_23 (zs_iret X rfl dX3_feather_26)) (zs_iload_n X rfl dX3_feather_18 (zs_iconst X (by decide) dX3_feather_19 (zs_icmp_le X dX3_feather_20 (by decide) (zs_aload_n X rfl dX3_feather_27 (zs_gf X (ci := 1) rfl (by decide) zm_in1 kw_X3_135 dX3_feather_28 (zs_istore X (by decide) dX3_feather_31 (zs_aload_n X rfl dX3_feather_33 (zs_iload_n X rfl dX3_feather_34 (zs_pf X (ci := 1) rfl (by decide) zm_in1 kw_X3_135 tyX1 tyX1_ok nmX1 rfl rfl dX3_feather_35 (zs_iload X dX3_feather_38 (zs_iret X rfl dX3_feather_40)))))))) (zs_sipush X (by decide) dX3_feather_23 (zs_iret X rfl dX3_feather_26))))))) (zs_sipush X (by decide) dX3_feather_10 (zs_iret X rfl dX3_feather_13))))))))
set_option maxRecDepth 20000 in
theorem bkX3_lane_0 {w : zW} {Γ : zC} {N S : Nat} {Rt : zR} (X : zm_X w Γ mX3_lane N S Rt) : ∀ lv st h, (zi_lda 0 (zi_ldi 1 (zi_cv w mX3_beamAt 3 2 N S (zi_sta 4 (zi_lda 4 (zi_nul (zi_push (.int (-1002)) (zi_iret Rt)) (zi_lda 4 (zi_ldi 2 (zi_cv w mX1_has 1 2 N S (zi_if (fun x => x = 0) (zi_push (.int (-1003)) (zi_iret Rt)) (zi_ldi 3 (zi_push (.int 1) (zi_ic (fun x y => x < y) (zi_push (.int (-1003)) (zi_iret Rt)) (zi_ldi 3 (zi_lda 4 (zi_cv w mX1_greatestLevel 1 1 N S (zi_ic (fun x y => x ≤ y) (zi_lda 4 (zi_ldi 2 (zi_ldi 3 (zi_cv w mX1_laneAt 1 3 N S (zi_iret Rt))))) (zi_push (.int (-1003)) (zi_iret Rt))))))))))))))))))) lv st h → zm_V w Γ 0 lv st h := (zs_aload_n X rfl dX3_lane_0 (zs_iload_n X rfl dX3_lane_1 (zs_cv X (M' := mX3_beamAt) (n := 1) kd_X3_beamAt ki_X3 (by decide +kernel) (by decide) kw_X3_109 rfl ks_X3_beamAt kl_X3_beamAt dX3_lane_2 (zs_astore X (by decide) dX3_lane_5 (zs_aload X dX3_lane_7 (zs_ifnonnull X dX3_lane_9 (by decide) (zs_aload X dX3_lane_16 (zs_iload_n X rfl dX3_lane_18 (zs_cv X (M' := mX1_has) (n := 1) kd_X1_has ki_X1 (by decide +kernel) (by decide) kw_X3_138 rfl ks_X1_has kl_X1_has dX3_lane_19 (zs_if_eq X dX3_lane_22 (by decide) (zs_sipush X (by decide) dX3_lane_39 (zs_iret X rfl dX3_lane_42)) (zs_iload_n X rfl dX3_lane_25 (zs_iconst X (by decide) dX3_lane_26 (zs_icmp_lt X dX3_lane_27 (by decide) (zs_sipush X (by decide) dX3_lane_39 (zs_iret X rfl dX3_lane_42)) (zs_iload_n X rfl dX3_lane_30 (zs_aload X dX3_lane_31 (zs_cv X (M' := mX1_greatestLevel) (n := 0) kd_X1_greatestLevel ki_X1 (by decide +kernel) (by decide) kw_X3_116 rfl ks_X1_greatestLevel kl_X1_greatestLevel dX3_lane_33 (zs_icmp_le X dX3_lane_36 (by decide) (zs_aload X dX3_lane_43 (zs_iload_n X rfl dX3_lane_45 (zs_iload_n X rfl dX3_lane_46 (zs_cv X (M' := mX1_laneAt) (n := 2) kd_X1_laneAt ki_X1 (by decide +kernel) (by decide) kw_X3_202 rfl ks_X1_laneAt kl_X1_laneAt dX3_lane_47 (zs_iret X rfl dX3_lane_50))))) (zs_sipush X (by decide) dX3_lane_39 (zs_iret X rfl dX3_lane_42))))))))))))) (zs_sipush X (by decide) dX3_lane_12 (zs_iret X rfl dX3_lane_15))))))))
set_option maxRecDepth 20000 in
theorem bkX3_rest_0 {w : zW} {Γ : zC} {N S : Nat} {Rt : zR} (X : zm_X w Γ mX3_rest N S Rt) : ∀ lv st h, (zi_lda 0 (zi_ldi 1 (zi_cv w mX3_eventAt 3 2 N S (zi_sta 2 (zi_lda 2 (zi_nul (zi_push (.int (-1002)) (zi_iret Rt)) (zi_lda 2 (zi_cv w mX2_isRest 2 1 N S (zi_if (fun x => x = 0) (zi_push (.int (-1004)) (zi_iret Rt)) (zi_lda 0 (zi_cv w mX3_isTwoVoiced 3 1 N S (zi_if (fun x => x = 0) (zi_push (.int 0) (zm_V w Γ 50)) (zi_lda 2 (zi_gf 2 1 (zi_if (fun x => x = 0) (zi_push (.int 8) (zm_V w Γ 50)) (zi_push (.int (-8)) (zm_V w Γ 50))))))))))))))))) lv st h → zm_V w Γ 0 lv st h := (zs_aload_n X rfl dX3_rest_0 (zs_iload_n X rfl dX3_rest_1 (zs_cv X (M' := mX3_eventAt) (n := 1) kd_X3_eventAt ki_X3 (by decide +kernel) (by decide) kw_X3_62 rfl ks_X3_eventAt kl_X3_eventAt dX3_rest_2 (zs_astore_n X rfl (by decide) dX3_rest_5 (zs_aload_n X rfl dX3_rest_6 (zs_ifnonnull X dX3_rest_7 (by decide) (zs_aload_n X rfl dX3_rest_14 (zs_cv X (M' := mX2_isRest) (n := 0) kd_X2_isRest ki_X2 (by decide +kernel) (by decide) kw_X3_205 rfl ks_X2_isRest kl_X2_isRest dX3_rest_15 (zs_if_ne X dX3_rest_18 (by decide) (zs_aload_n X rfl dX3_rest_25 (zs_cv X (M' := mX3_isTwoVoiced) (n := 0) kd_X3_isTwoVoiced ki_X3 (by decide +kernel) (by decide) kw_X3_163 rfl ks_X3_isTwoVoiced kl_X3_isTwoVoiced dX3_rest_26 (zs_if_ne X dX3_rest_29 (by decide) (zs_aload_n X rfl dX3_rest_36 (zs_gf X (ci := 2) rfl (by decide) zm_in2 kw_X3_208 dX3_rest_37 (zs_if_ne X dX3_rest_40 (by decide) (zs_bipush X (by decide) dX3_rest_48 (fun _ _ _ h => h)) (zs_bipush X (by decide) dX3_rest_43 (zs_goto X dX3_rest_45 (by decide) (fun _ _ _ h => h)))))) (zs_iconst X (by decide) dX3_rest_32 (zs_goto X dX3_rest_33 (by decide) (fun _ _ _ h => h)))))) (zs_sipush X (by decide) dX3_rest_21 (zs_iret X rfl dX3_rest_24))))) (zs_sipush X (by decide) dX3_rest_10 (zs_iret X rfl dX3_rest_13))))))))
set_option maxRecDepth 20000 in
theorem bkX3_rest_50 {w : zW} {Γ : zC} {N S : Nat} {Rt : zR} (X : zm_X w Γ mX3_rest N S Rt) : ∀ lv st h, (zi_sti 3 (zi_lda 0 (zi_lda 2 (zi_push (.int (-1)) (zi_cv w mX3_noteBeside 3 3 N S (zi_sta 4 (zi_lda 0 (zi_lda 2 (zi_push (.int 1) (zi_cv w mX3_noteBeside 3 3 N S (zi_sta 5 (zi_lda 4 (zi_nul (zi_ldi 3 (zi_iret Rt)) (zi_lda 5 (zi_nul (zi_ldi 3 (zi_iret Rt)) (zi_lda 4 (zi_gf 2 10 (zi_lda 5 (zi_gf 2 10 (zi_ic (fun x y => x = y) (zi_lda 0 (zi_lda 4 (zi_gf 2 10 (zi_cv w mX3_beamAt 3 2 N S (zi_sta 6 (zi_lda 6 (zi_nul (zi_ldi 3 (zi_iret Rt)) (zi_lda 6 (zi_ldi 3 (zi_lda 4 (zi_gf 2 11 (zi_cv w mX1_clearOf 1 3 N S (zi_iret Rt))))))))))))) (zi_ldi 3 (zi_iret Rt)))))))))))))))))))))) lv st h → zm_V w Γ 50 lv st h := (zs_istore_n X rfl (by decide) dX3_rest_50 (zs_aload_n X rfl dX3_rest_51 (zs_aload_n X rfl dX3_rest_52 (zs_iconst X (by decide) dX3_rest_53 (zs_cv X (M' := mX3_noteBeside) (n := 2) kd_X3_noteBeside ki_X3 (by decide +kernel) (by decide) kw_X3_211 rfl ks_X3_noteBeside kl_X3_noteBeside dX3_rest_54 (zs_astore X (by decide) dX3_rest_57 (zs_aload_n X rfl dX3_rest_59 (zs_aload_n X rfl dX3_rest_60 (zs_iconst X (by decide) dX3_rest_61 (zs_cv X (M' := mX3_noteBeside) (n := 2) kd_X3_noteBeside ki_X3 (by decide +kernel) (by decide) kw_X3_211 rfl ks_X3_noteBeside kl_X3_noteBeside dX3_rest_62 (zs_astore X (by decide) dX3_rest_65 (zs_aload X dX3_rest_67 (zs_ifnull X dX3_rest_69 (by decide) (zs_iload_n X rfl dX3_rest_90 (zs_iret X rfl dX3_rest_91)) (zs_aload X dX3_rest_72 (zs_ifnull X dX3_rest_74 (by decide) (zs_iload_n X rfl dX3_rest_90 (zs_iret X rfl dX3_rest_91)) (zs_aload X dX3_rest_77 (zs_gf X (ci := 2) rfl (by decide) zm_in2 kw_X3_157 dX3_rest_79 (zs_aload X dX3_rest_82 (zs_gf X (ci := 2) rfl (by decide) zm_in2 kw_X3_157 dX3_rest_84 (zs_icmp_eq X dX3_rest_87 (by decide) (zs_aload_n X rfl dX3_rest_92 (zs_aload X dX3_rest_93 (zs_gf X (ci := 2) rfl (by decide) zm_in2 kw_X3_157 dX3_rest_95 (zs_cv X (M' := mX3_beamAt) (n := 1) kd_X3_beamAt ki_X3 (by decide +kernel) (by decide) kw_X3_109 rfl ks_X3_beamAt kl_X3_beamAt dX3_rest_98 (zs_astore X (by decide) dX3_rest_101 (zs_aload X dX3_rest_103 (zs_ifnonnull X dX3_rest_105 (by decide) (zs_aload X dX3_rest_112 (zs_iload_n X rfl dX3_rest_114 (zs_aload X dX3_rest_115 (zs_gf X (ci := 2) rfl (by decide) zm_in2 kw_X3_181 dX3_rest_117 (zs_cv X (M' := mX1_clearOf) (n := 2) kd_X1_clearOf ki_X1 (by decide +kernel) (by decide) kw_X3_215 rfl ks_X1_clearOf kl_X1_clearOf dX3_rest_120 (zs_iret X rfl dX3_rest_123)))))) (zs_iload_n X rfl dX3_rest_108 (zs_goto X dX3_rest_109 (by decide) (zs_iret X rfl dX3_rest_123)))))))))) (zs_iload_n X rfl dX3_rest_90 (zs_iret X rfl dX3_rest_91))))))))))))))))))))))
set_option maxRecDepth 20000 in
theorem bkX3_event_0 {w : zW} {Γ : zC} {N S : Nat} {Rt : zR} (X : zm_X w Γ mX3_event N S Rt) : ∀ lv st h, (zi_lda 0 (zi_ldi 1 (zi_cv w mX3_eventAt 3 2 N S (zi_sta 3 (zi_lda 3 (zi_nul (zi_push (.int (-1002)) (zi_iret Rt)) (zi_ldi 2 (zi_sw [(0, (zi_lda 3 (zi_gf 2 3 (zi_iret Rt)))), (1, (zi_lda 3 (zi_gf 2 4 (zi_iret Rt)))), (2, (zi_lda 3 (zi_gf 2 1 (zi_iret Rt)))), (3, (zi_lda 3 (zi_gf 2 5 (zi_iret Rt)))), (4, (zi_lda 0 (zi_gf 3 0 (zi_lda 3 (zi_gf 2 3 (zi_cv w mX0_barAt 0 2 N S (zi_iret Rt))))))), (5, (zi_lda 0 (zi_gf 3 0 (zi_lda 3 (zi_gf 2 3 (zi_cv w mX0_groupAt 0 2 N S (zi_iret Rt)))))))] (zi_push (.int (-1003)) (zi_iret Rt)))))))))) lv st h → zm_V w Γ 0 lv st h := (zs_aload_n X rfl dX3_event_0 (zs_iload_n X rfl dX3_event_1 (zs_cv X (M' := mX3_eventAt) (n := 1) kd_X3_eventAt ki_X3 (by decide +kernel) (by decide) kw_X3_62 rfl ks_X3_eventAt kl_X3_eventAt dX3_event_2 (zs_astore_n X rfl (by decide) dX3_event_5 (zs_aload_n X rfl dX3_event_6 (zs_ifnonnull X dX3_event_7 (by decide) (zs_iload_n X rfl dX3_event_14 (zs_tsw X dX3_event_15 (by decide) (zm_tk_cons (by decide) (by decide) (zs_aload_n X rfl dX3_event_52 (zs_gf X (ci := 2) rfl (by decide) zm_in2 kw_X3_234 dX3_event_53 (zs_iret X rfl dX3_event_56))) (zm_tk_cons (by decide) (by decide) (zs_aload_n X rfl dX3_event_57 (zs_gf X (ci := 2) rfl (by decide) zm_in2 kw_X3_237 dX3_event_58 (zs_iret X rfl dX3_event_61))) (zm_tk_cons (by decide) (by decide) (zs_aload_n X rfl dX3_event_62 (zs_gf X (ci := 2) rfl (by decide) zm_in2 kw_X3_208 dX3_event_63 (zs_iret X rfl dX3_event_66))) (zm_tk_cons (by decide) (by decide) (zs_aload_n X rfl dX3_event_67 (zs_gf X (ci := 2) rfl (by decide) zm_in2 kw_X3_77 dX3_event_68 (zs_iret X rfl dX3_event_71))) (zm_tk_cons (by decide) (by decide) (zs_aload_n X rfl dX3_event_72 (zs_gf X (ci := 3) rfl (by decide) zm_in3 kw_X3_12 dX3_event_73 (zs_aload_n X rfl dX3_event_76 (zs_gf X (ci := 2) rfl (by decide) zm_in2 kw_X3_234 dX3_event_77 (zs_cv X (M' := mX0_barAt) (n := 1) kd_X0_barAt ki_X0 (by decide +kernel) (by decide) kw_X3_240 rfl ks_X0_barAt kl_X0_barAt dX3_event_80 (zs_iret X rfl dX3_event_83)))))) (zm_tk_cons (by decide) (by decide) (zs_aload_n X rfl dX3_event_84 (zs_gf X (ci := 3) rfl (by decide) zm_in3 kw_X3_12 dX3_event_85 (zs_aload_n X rfl dX3_event_88 (zs_gf X (ci := 2) rfl (by decide) zm_in2 kw_X3_234 dX3_event_89 (zs_cv X (M' := mX0_groupAt) (n := 1) kd_X0_groupAt ki_X0 (by decide +kernel) (by decide) kw_X3_243 rfl ks_X0_groupAt kl_X0_groupAt dX3_event_92 (zs_iret X rfl dX3_event_95)))))) zm_tk_nil)))))) (by decide) (zs_sipush X (by decide) dX3_event_96 (zs_iret X rfl dX3_event_99)))) (zs_sipush X (by decide) dX3_event_10 (zs_iret X rfl dX3_event_13))))))))
set_option maxRecDepth 20000 in
theorem bkX3_count_0 {w : zW} {Γ : zC} {N S : Nat} {Rt : zR} (X : zm_X w Γ mX3_count N S Rt) : ∀ lv st h, (zi_ldi 1 (zi_sw [(0, (zi_lda 0 (zi_gf 3 4 (zi_iret Rt)))), (1, (zi_lda 0 (zi_gf 3 5 (zi_iret Rt)))), (2, (zi_lda 0 (zi_gf 3 6 (zi_iret Rt)))), (3, (zi_lda 0 (zi_gf 3 0 (zi_gf 0 1 (zi_iret Rt))))), (4, (zi_lda 0 (zi_gf 3 0 (zi_gf 0 2 (zi_iret Rt))))), (5, (zi_lda 0 (zi_gf 3 3 (zi_push (.int 0) (zi_ia 0 (zi_iret Rt)))))), (6, (zi_lda 0 (zi_gf 3 3 (zi_push (.int 1) (zi_ia 0 (zi_iret Rt))))))] (zi_push (.int (-1003)) (zi_iret Rt)))) lv st h → zm_V w Γ 0 lv st h := (zs_iload_n X rfl dX3_count_0 (zs_tsw X dX3_count_1 (by decide) (zm_tk_cons (by decide) (by decide) (zs_aload_n X rfl dX3_count_44 (zs_gf X (ci := 3) rfl (by decide) zm_in3 kw_X3_40 dX3_count_45 (zs_iret X rfl dX3_count_48))) (zm_tk_cons (by decide) (by decide) (zs_aload_n X rfl dX3_count_49 (zs_gf X (ci := 3) rfl (by decide) zm_in3 kw_X3_106 dX3_count_50 (zs_iret X rfl dX3_count_53))) (zm_tk_cons (by decide) (by decide) (zs_aload_n X rfl dX3_count_54 (zs_gf X (ci := 3) rfl (by decide) zm_in3 kw_X3_100 dX3_count_55 (zs_iret X rfl dX3_count_58))) (zm_tk_cons (by decide) (by decide) (zs_aload_n X rfl dX3_count_59 (zs_gf X (ci := 3) rfl (by decide) zm_in3 kw_X3_12 dX3_count_60 (zs_gf X (ci := 0) rfl (by decide) zm_in0 kw_X3_48 dX3_count_63 (zs_iret X rfl dX3_count_66)))) (zm_tk_cons (by decide) (by decide) (zs_aload_n X rfl dX3_count_67 (zs_gf X (ci := 3) rfl (by decide) zm_in3 kw_X3_12 dX3_count_68 (zs_gf X (ci := 0) rfl (by decide) zm_in0 kw_X3_246 dX3_count_71 (zs_iret X rfl dX3_count_74)))) (zm_tk_cons (by decide) (by decide) (zs_aload_n X rfl dX3_count_75 (zs_gf X (ci := 3) rfl (by decide) zm_in3 kw_X3_28 dX3_count_76 (zs_iconst X (by decide) dX3_count_79 (zs_iald X (fun _ => rfl) dX3_count_80 (zs_iret X rfl dX3_count_81))))) (zm_tk_cons (by decide) (by decide) (zs_aload_n X rfl dX3_count_82 (zs_gf X (ci := 3) rfl (by decide) zm_in3 kw_X3_28 dX3_count_83 (zs_iconst X (by decide) dX3_count_86 (zs_iald X (fun _ => rfl) dX3_count_87 (zs_iret X rfl dX3_count_88))))) zm_tk_nil))))))) (by decide) (zs_sipush X (by decide) dX3_count_89 (zs_iret X rfl dX3_count_92))))
set_option maxRecDepth 20000 in
theorem bkX3_clear_0 {w : zW} {Γ : zC} {N S : Nat} {Rt : zR} (X : zm_X w Γ mX3_clear N S Rt) : ∀ lv st h, (zi_lda 0 (zi_gf 3 4 (zi_sti 1 (zi_lda 0 (zi_push (.int 0) (zi_pf 3 4 .int (zi_lda 0 (zi_push (.int 0) (zi_pf 3 5 .int (zi_lda 0 (zi_push (.int 0) (zi_pf 3 6 .int (zi_lda 0 (zi_push (.int 0) (zi_pf 3 7 .boolean (zi_lda 0 (zi_gf 3 3 (zi_push (.int 0) (zi_push (.int 0) (zi_is 0 (zi_lda 0 (zi_gf 3 3 (zi_push (.int 1) (zi_push (.int 0) (zi_is 0 (zi_lda 0 (zi_gf 3 0 (zi_push (.int 4) (zi_push (.int 4) (zi_push (.int 0) (zi_cv w mX0_set 0 4 N S (zi_ldi 1 (zi_iret Rt))))))))))))))))))))))))))))))))) lv st h → zm_V w Γ 0 lv st h := (zs_aload_n X rfl dX3_clear_0 (zs_gf X (ci := 3) rfl (by decide) zm_in3 kw_X3_40 dX3_clear_1 (zs_istore_n X rfl (by decide) dX3_clear_4 (zs_aload_n X rfl dX3_clear_5 (zs_iconst X (by decide) dX3_clear_6 (zs_pf X (ci := 3) rfl (by decide) zm_in3 kw_X3_40 tyX3 tyX3_ok nmX3 rfl rfl dX3_clear_7 (zs_aload_n X rfl dX3_clear_10 (zs_iconst X (by decide) dX3_clear_11 (zs_pf X (ci := 3) rfl (by decide) zm_in3 kw_X3_106 tyX3 tyX3_ok nmX3 rfl rfl dX3_clear_12 (zs_aload_n X rfl dX3_clear_15 (zs_iconst X (by decide) dX3_clear_16 (zs_pf X (ci := 3) rfl (by decide) zm_in3 kw_X3_100 tyX3 tyX3_ok nmX3 rfl rfl dX3_clear_17 (zs_aload_n X rfl dX3_clear_20 (zs_iconst X (by decide) dX3_clear_21 (zs_pf X (ci := 3) rfl (by decide) zm_in3 kw_X3_96 tyX3 tyX3_ok nmX3 rfl rfl dX3_clear_22 (zs_aload_n X rfl dX3_clear_25 (zs_gf X (ci := 3) rfl (by decide) zm_in3 kw_X3_28 dX3_clear_26 (zs_iconst X (by decide) dX3_clear_29 (zs_iconst X (by decide) dX3_clear_30 (zs_iast X (fun _ => rfl) dX3_clear_31 (zs_aload_n X rfl dX3_clear_32 (zs_gf X (ci := 3) rfl (by decide) zm_in3 kw_X3_28 dX3_clear_33 (zs_iconst X (by decide) dX3_clear_36 (zs_iconst X (by decide) dX3_clear_37 (zs_iast X (fun _ => rfl) dX3_clear_38 (zs_aload_n X rfl dX3_clear_39 (zs_gf X (ci := 3) rfl (by decide) zm_in3 kw_X3_12 dX3_clear_40 (zs_iconst X (by decide) dX3_clear_43 (zs_iconst X (by decide) dX3_clear_44 (zs_iconst X (by decide) dX3_clear_45 (zs_cv X (M' := mX0_set) (n := 3) kd_X0_set ki_X0 (by decide +kernel) (by decide) kw_X3_44 rfl ks_X0_set kl_X0_set dX3_clear_46 (zs_iload_n X rfl dX3_clear_49 (zs_iret X rfl dX3_clear_50)))))))))))))))))))))))))))))))))
set_option maxRecDepth 20000 in
theorem bkX3_isPlace_0 {w : zW} {Γ : zC} {N S : Nat} {Rt : zR} (X : zm_X w Γ mX3_isPlace N S Rt) : ∀ lv st h, (zi_ldi 0 (zi_push (.int (-12)) (zi_ic (fun x y => x < y) (zi_push (.int 0) (zi_zret Rt)) (zi_ldi 0 (zi_push (.int 12) (zi_ic (fun x y => y < x) (zi_push (.int 0) (zi_zret Rt)) (zi_push (.int 1) (zi_zret Rt)))))))) lv st h → zm_V w Γ 0 lv st h := (zs_iload_n X rfl dX3_isPlace_0 (zs_bipush X (by decide) dX3_isPlace_1 (zs_icmp_lt X dX3_isPlace_3 (by decide) (zs_iconst X (by decide) dX3_isPlace_16 (zs_zret X rfl dX3_isPlace_17)) (zs_iload_n X rfl dX3_isPlace_6 (zs_bipush X (by decide) dX3_isPlace_7 (zs_icmp_gt X dX3_isPlace_9 (by decide) (zs_iconst X (by decide) dX3_isPlace_16 (zs_zret X rfl dX3_isPlace_17)) (zs_iconst X (by decide) dX3_isPlace_12 (zs_goto X dX3_isPlace_13 (by decide) (zs_zret X rfl dX3_isPlace_17)))))))))
set_option maxRecDepth 20000 in
theorem bkX3_isTiming_0 {w : zW} {Γ : zC} {N S : Nat} {Rt : zR} (X : zm_X w Γ mX3_isTiming N S Rt) : ∀ lv st h, (zi_ldi 0 (zi_if (fun x => x < 0) (zi_push (.int 0) (zi_zret Rt)) (zi_ldi 0 (zi_push (.int 1) (zi_ic (fun x y => y < x) (zi_push (.int 0) (zi_zret Rt)) (zi_ldi 1 (zi_if (fun x => x < 0) (zi_push (.int 0) (zi_zret Rt)) (zi_ldi 1 (zi_push (.int 6) (zi_ic (fun x y => y < x) (zi_push (.int 0) (zi_zret Rt)) (zi_ldi 2 (zi_if (fun x => x < 0) (zi_push (.int 0) (zi_zret Rt)) (zi_ldi 2 (zi_push (.int 2) (zi_ic (fun x y => y < x) (zi_push (.int 0) (zi_zret Rt)) (zi_push (.int 1) (zi_zret Rt))))))))))))))))) lv st h → zm_V w Γ 0 lv st h := (zs_iload_n X rfl dX3_isTiming_0 (zs_if_lt X dX3_isTiming_1 (by decide) (zs_iconst X (by decide) dX3_isTiming_32 (zs_zret X rfl dX3_isTiming_33)) (zs_iload_n X rfl dX3_isTiming_4 (zs_iconst X (by decide) dX3_isTiming_5 (zs_icmp_gt X dX3_isTiming_6 (by decide) (zs_iconst X (by decide) dX3_isTiming_32 (zs_zret X rfl dX3_isTiming_33)) (zs_iload_n X rfl dX3_isTiming_9 (zs_if_lt X dX3_isTiming_10 (by decide) (zs_iconst X (by decide) dX3_isTiming_32 (zs_zret X rfl dX3_isTiming_33)) (zs_iload_n X rfl dX3_isTiming_13 (zs_bipush X (by decide) dX3_isTiming_14 (zs_icmp_gt X dX3_isTiming_16 (by decide) (zs_iconst X (by decide) dX3_isTiming_32 (zs_zret X rfl dX3_isTiming_33)) (zs_iload_n X rfl dX3_isTiming_19 (zs_if_lt X dX3_isTiming_20 (by decide) (zs_iconst X (by decide) dX3_isTiming_32 (zs_zret X rfl dX3_isTiming_33)) (zs_iload_n X rfl dX3_isTiming_23 (zs_iconst X (by decide) dX3_isTiming_24 (zs_icmp_gt X dX3_isTiming_25 (by decide) (zs_iconst X (by decide) dX3_isTiming_32 (zs_zret X rfl dX3_isTiming_33)) (zs_iconst X (by decide) dX3_isTiming_28 (zs_goto X dX3_isTiming_29 (by decide) (zs_zret X rfl dX3_isTiming_33))))))))))))))))))
set_option maxRecDepth 20000 in
theorem bkX3_rounded_0 {w : zW} {Γ : zC} {N S : Nat} {Rt : zR} (X : zm_X w Γ mX3_rounded N S Rt) : ∀ lv st h, (zi_ldi 1 (zi_if (fun x => 0 < x) (zi_ldi 0 (zi_if (fun x => 0 ≤ x) (zi_ldi 1 (zi_push (.int 2) (zi_ldi 0 (zi_b (fun x y => x * y) (zi_b (fun x y => x + y) (zi_push (.int 2) (zi_ldi 1 (zi_b (fun x y => x * y) (zi_d (fun x y => x / y) (zi_iret Rt)))))))))) (zi_ldi 1 (zi_push (.int 2) (zi_ldi 0 (zi_b (fun x y => x * y) (zi_b (fun x y => x - y) (zi_push (.int 2) (zi_ldi 1 (zi_b (fun x y => x * y) (zi_d (fun x y => x / y) (zi_u (fun x => -x) (zi_iret Rt))))))))))))) (zi_push (.int 0) (zi_iret Rt)))) lv st h → zm_V w Γ 0 lv st h := (zs_iload_n X rfl dX3_rounded_0 (zs_if_gt X dX3_rounded_1 (by decide) (zs_iload_n X rfl dX3_rounded_6 (zs_if_ge X dX3_rounded_7 (by decide) (zs_iload_n X rfl dX3_rounded_23 (zs_iconst X (by decide) dX3_rounded_24 (zs_iload_n X rfl dX3_rounded_25 (zs_imul X dX3_rounded_26 (zs_iadd X dX3_rounded_27 (zs_iconst X (by decide) dX3_rounded_28 (zs_iload_n X rfl dX3_rounded_29 (zs_imul X dX3_rounded_30 (zs_idiv X dX3_rounded_31 (zs_iret X rfl dX3_rounded_32)))))))))) (zs_iload_n X rfl dX3_rounded_10 (zs_iconst X (by decide) dX3_rounded_11 (zs_iload_n X rfl dX3_rounded_12 (zs_imul X dX3_rounded_13 (zs_isub X dX3_rounded_14 (zs_iconst X (by decide) dX3_rounded_15 (zs_iload_n X rfl dX3_rounded_16 (zs_imul X dX3_rounded_17 (zs_idiv X dX3_rounded_18 (zs_ineg X dX3_rounded_19 (zs_goto X dX3_rounded_20 (by decide) (zs_iret X rfl dX3_rounded_32)))))))))))))) (zs_iconst X (by decide) dX3_rounded_4 (zs_iret X rfl dX3_rounded_5))))
set_option maxRecDepth 20000 in
theorem bkX3_eventAt_0 {w : zW} {Γ : zC} {N S : Nat} {Rt : zR} (X : zm_X w Γ mX3_eventAt N S Rt) : ∀ lv st h, (zi_ldi 1 (zi_if (fun x => x < 0) (zi_push .null (zi_aret Rt)) (zi_ldi 1 (zi_lda 0 (zi_gf 3 4 (zi_ic (fun x y => y ≤ x) (zi_push .null (zi_aret Rt)) (zi_lda 0 (zi_gf 3 1 (zi_ldi 1 (zi_aa 2 (zi_aret Rt))))))))))) lv st h → zm_V w Γ 0 lv st h := (zs_iload_n X rfl dX3_eventAt_0 (zs_if_lt X dX3_eventAt_1 (by decide) (zs_null X dX3_eventAt_21 (zs_aret X rfl (Or.inl ⟨_, rfl⟩) dX3_eventAt_22)) (zs_iload_n X rfl dX3_eventAt_4 (zs_aload_n X rfl dX3_eventAt_5 (zs_gf X (ci := 3) rfl (by decide) zm_in3 kw_X3_40 dX3_eventAt_6 (zs_icmp_ge X dX3_eventAt_9 (by decide) (zs_null X dX3_eventAt_21 (zs_aret X rfl (Or.inl ⟨_, rfl⟩) dX3_eventAt_22)) (zs_aload_n X rfl dX3_eventAt_12 (zs_gf X (ci := 3) rfl (by decide) zm_in3 kw_X3_18 dX3_eventAt_13 (zs_iload_n X rfl dX3_eventAt_16 (zs_aald X (fun _ => rfl) dX3_eventAt_17 (zs_goto X dX3_eventAt_18 (by decide) (zs_aret X rfl (Or.inl ⟨_, rfl⟩) dX3_eventAt_22))))))))))))
set_option maxRecDepth 20000 in
theorem bkX3_beamAt_0 {w : zW} {Γ : zC} {N S : Nat} {Rt : zR} (X : zm_X w Γ mX3_beamAt N S Rt) : ∀ lv st h, (zi_ldi 1 (zi_if (fun x => x < 0) (zi_push .null (zi_aret Rt)) (zi_ldi 1 (zi_lda 0 (zi_gf 3 5 (zi_ic (fun x y => y ≤ x) (zi_push .null (zi_aret Rt)) (zi_lda 0 (zi_gf 3 2 (zi_ldi 1 (zi_aa 3 (zi_aret Rt))))))))))) lv st h → zm_V w Γ 0 lv st h := (zs_iload_n X rfl dX3_beamAt_0 (zs_if_lt X dX3_beamAt_1 (by decide) (zs_null X dX3_beamAt_21 (zs_aret X rfl (Or.inl ⟨_, rfl⟩) dX3_beamAt_22)) (zs_iload_n X rfl dX3_beamAt_4 (zs_aload_n X rfl dX3_beamAt_5 (zs_gf X (ci := 3) rfl (by decide) zm_in3 kw_X3_106 dX3_beamAt_6 (zs_icmp_ge X dX3_beamAt_9 (by decide) (zs_null X dX3_beamAt_21 (zs_aret X rfl (Or.inl ⟨_, rfl⟩) dX3_beamAt_22)) (zs_aload_n X rfl dX3_beamAt_12 (zs_gf X (ci := 3) rfl (by decide) zm_in3 kw_X3_24 dX3_beamAt_13 (zs_iload_n X rfl dX3_beamAt_16 (zs_aald X (fun _ => rfl) dX3_beamAt_17 (zs_goto X dX3_beamAt_18 (by decide) (zs_aret X rfl (Or.inl ⟨_, rfl⟩) dX3_beamAt_22))))))))))))
set_option maxRecDepth 20000 in
theorem bkX3_refusalOf_0 {w : zW} {Γ : zC} {N S : Nat} {Rt : zR} (X : zm_X w Γ mX3_refusalOf N S Rt) : ∀ lv st h, (zi_lda 0 (zi_nul (zi_push (.int (-1002)) (zi_iret Rt)) (zi_ldi 1 (zi_if (fun x => x = 0) (zi_push (.int (-1003)) (zi_iret Rt)) (zi_lda 0 (zi_cv w mX2_isRest 2 1 N S (zi_if (fun x => x = 0) (zi_push (.int 0) (zi_iret Rt)) (zi_push (.int (-1004)) (zi_iret Rt))))))))) lv st h → zm_V w Γ 0 lv st h := (zs_aload_n X rfl dX3_refusalOf_0 (zs_ifnonnull X dX3_refusalOf_1 (by decide) (zs_iload_n X rfl dX3_refusalOf_8 (zs_if_ne X dX3_refusalOf_9 (by decide) (zs_aload_n X rfl dX3_refusalOf_16 (zs_cv X (M' := mX2_isRest) (n := 0) kd_X2_isRest ki_X2 (by decide +kernel) (by decide) kw_X3_205 rfl ks_X2_isRest kl_X2_isRest dX3_refusalOf_17 (zs_if_eq X dX3_refusalOf_20 (by decide) (zs_iconst X (by decide) dX3_refusalOf_29 (zs_iret X rfl dX3_refusalOf_30)) (zs_sipush X (by decide) dX3_refusalOf_23 (zs_goto X dX3_refusalOf_26 (by decide) (zs_iret X rfl dX3_refusalOf_30)))))) (zs_sipush X (by decide) dX3_refusalOf_12 (zs_iret X rfl dX3_refusalOf_15)))) (zs_sipush X (by decide) dX3_refusalOf_4 (zs_iret X rfl dX3_refusalOf_7))))
set_option maxRecDepth 20000 in
theorem bkX3_isTwoVoiced_0 {w : zW} {Γ : zC} {N S : Nat} {Rt : zR} (X : zm_X w Γ mX3_isTwoVoiced N S Rt) : ∀ lv st h, (zi_lda 0 (zi_gf 3 3 (zi_push (.int 1) (zi_ia 0 (zi_if (fun x => x ≤ 0) (zi_push (.int 0) (zi_zret Rt)) (zi_push (.int 1) (zi_zret Rt))))))) lv st h → zm_V w Γ 0 lv st h := (zs_aload_n X rfl dX3_isTwoVoiced_0 (zs_gf X (ci := 3) rfl (by decide) zm_in3 kw_X3_28 dX3_isTwoVoiced_1 (zs_iconst X (by decide) dX3_isTwoVoiced_4 (zs_iald X (fun _ => rfl) dX3_isTwoVoiced_5 (zs_if_le X dX3_isTwoVoiced_6 (by decide) (zs_iconst X (by decide) dX3_isTwoVoiced_13 (zs_zret X rfl dX3_isTwoVoiced_14)) (zs_iconst X (by decide) dX3_isTwoVoiced_9 (zs_goto X dX3_isTwoVoiced_10 (by decide) (zs_zret X rfl dX3_isTwoVoiced_14))))))))
set_option maxRecDepth 20000 in
theorem bkX3_append_0 {w : zW} {Γ : zC} {N S : Nat} {Rt : zR} (X : zm_X w Γ mX3_append N S Rt) : ∀ lv st h, (zi_ldi 1 (zi_if (fun x => x < 0) (zi_push (.int (-1003)) (zi_iret Rt)) (zi_ldi 1 (zi_lda 0 (zi_gf 3 3 (zi_len 0 (zi_ic (fun x y => x < y) (zi_lda 0 (zi_gf 3 3 (zi_ldi 1 (zi_ia 0 (zi_sti 4 (zi_ldi 2 (zi_ldi 3 (zi_cs w mX2_ticksOf 2 N S (zi_sti 5 (zi_lda 0 (zi_gf 3 0 (zi_ldi 4 (zi_cv w mX0_offsetAt 0 2 N S (zi_ldi 5 (zi_b (fun x y => x + y) (zi_lda 0 (zi_gf 3 0 (zi_gf 0 2 (zi_ic (fun x y => x ≤ y) (zi_lda 0 (zi_gf 3 4 (zi_lda 0 (zi_gf 3 1 (zi_len 2 (zi_ic (fun x y => x < y) (zi_lda 0 (zi_cv w mX3_takeBeamsAway 3 1 N S (zi_lda 0 (zi_gf 3 1 (zi_lda 0 (zi_gf 3 4 (zi_aa 2 (zi_sta 6 (zi_lda 6 (zi_lda 0 (zi_gf 3 4 (zi_ldi 1 (zi_ldi 2 (zi_cv w mX2_reset 2 4 N S (zi_lda 6 (zi_ldi 4 (zi_pf 2 3 .int (zi_lda 6 (zi_ldi 5 (zi_pf 2 4 .int (zi_lda 0 (zi_gf 3 3 (zi_ldi 1 (zi_ldi 4 (zi_ldi 5 (zi_b (fun x y => x + y) (zi_is 0 (zi_lda 0 (zi_dup (zi_gf 3 4 (zi_dup_x1 (zi_push (.int 1) (zi_b (fun x y => x + y) (zi_pf 3 4 .int (zi_iret Rt))))))))))))))))))))))))))))))))))) (zi_push (.int (-1005)) (zi_iret Rt)))))))) (zi_push (.int (-1004)) (zi_iret Rt))))))))))))))))))))) (zi_push (.int (-1003)) (zi_iret Rt))))))))) lv st h → zm_V w Γ 0 lv st h := (zs_iload_n X rfl dX3_append_0 (zs_if_lt X dX3_append_1 (by decide) (zs_sipush X (by decide) dX3_append_13 (zs_iret X rfl dX3_append_16)) (zs_iload_n X rfl dX3_append_4 (zs_aload_n X rfl dX3_append_5 (zs_gf X (ci := 3) rfl (by decide) zm_in3 kw_X3_28 dX3_append_6 (zs_alen X (fun _ => rfl) dX3_append_9 (zs_icmp_lt X dX3_append_10 (by decide) (zs_aload_n X rfl dX3_append_17 (zs_gf X (ci := 3) rfl (by decide) zm_in3 kw_X3_28 dX3_append_18 (zs_iload_n X rfl dX3_append_21 (zs_iald X (fun _ => rfl) dX3_append_22 (zs_istore X (by decide) dX3_append_23 (zs_iload_n X rfl dX3_append_25 (zs_iload_n X rfl dX3_append_26 (zs_cs X (M' := mX2_ticksOf) (n := 2) kd_X2_ticksOf ki_X2 (by decide +kernel) (by decide) kw_X3_247 ks_X2_ticksOf dX3_append_27 (zs_istore X (by decide) dX3_append_30 (zs_aload_n X rfl dX3_append_32 (zs_gf X (ci := 3) rfl (by decide) zm_in3 kw_X3_12 dX3_append_33 (zs_iload X dX3_append_36 (zs_cv X (M' := mX0_offsetAt) (n := 1) kd_X0_offsetAt ki_X0 (by decide +kernel) (by decide) kw_X3_250 rfl ks_X0_offsetAt kl_X0_offsetAt dX3_append_38 (zs_iload X dX3_append_41 (zs_iadd X dX3_append_43 (zs_aload_n X rfl dX3_append_44 (zs_gf X (ci := 3) rfl (by decide) zm_in3 kw_X3_12 dX3_append_45 (zs_gf X (ci := 0) rfl (by decide) zm_in0 kw_X3_246 dX3_append_48 (zs_icmp_le X dX3_append_51 (by decide) (zs_aload_n X rfl dX3_append_58 (zs_gf X (ci := 3) rfl (by decide) zm_in3 kw_X3_40 dX3_append_59 (zs_aload_n X rfl dX3_append_62 (zs_gf X (ci := 3) rfl (by decide) zm_in3 kw_X3_18 dX3_append_63 (zs_alen X (fun _ => rfl) dX3_append_66 (zs_icmp_lt X dX3_append_67 (by decide) (zs_aload_n X rfl dX3_append_74 (zs_cv X (M' := mX3_takeBeamsAway) (n := 0) kd_X3_takeBeamsAway ki_X3 (by decide +kernel) (by decide) kw_X3_80 rfl ks_X3_takeBeamsAway kl_X3_takeBeamsAway dX3_append_75 (zs_aload_n X rfl dX3_append_78 (zs_gf X (ci := 3) rfl (by decide) zm_in3 kw_X3_18 dX3_append_79 (zs_aload_n X rfl dX3_append_82 (zs_gf X (ci := 3) rfl (by decide) zm_in3 kw_X3_40 dX3_append_83 (zs_aald X (fun _ => rfl) dX3_append_86 (zs_astore X (by decide) dX3_append_87 (zs_aload X dX3_append_89 (zs_aload_n X rfl dX3_append_91 (zs_gf X (ci := 3) rfl (by decide) zm_in3 kw_X3_40 dX3_append_92 (zs_iload_n X rfl dX3_append_95 (zs_iload_n X rfl dX3_append_96 (zs_cv X (M' := mX2_reset) (n := 3) kd_X2_reset ki_X2 (by decide +kernel) (by decide) kw_X3_253 rfl ks_X2_reset kl_X2_reset dX3_append_97 (zs_aload X dX3_append_100 (zs_iload X dX3_append_102 (zs_pf X (ci := 2) rfl (by decide) zm_in2 kw_X3_234 tyX2 tyX2_ok nmX2 rfl rfl dX3_append_104 (zs_aload X dX3_append_107 (zs_iload X dX3_append_109 (zs_pf X (ci := 2) rfl (by decide) zm_in2 kw_X3_237 tyX2 tyX2_ok nmX2 rfl rfl dX3_append_111 (zs_aload_n X rfl dX3_append_114 (zs_gf X (ci := 3) rfl (by decide) zm_in3 kw_X3_28 dX3_append_115 (zs_iload_n X rfl dX3_append_118 (zs_iload X dX3_append_119 (zs_iload X dX3_append_121 (zs_iadd X dX3_append_123 (zs_iast X (fun _ => rfl) dX3_append_124 (zs_aload_n X rfl dX3_append_125 (zs_dup X dX3_append_126 (zs_gf X (ci := 3) rfl (by decide) zm_in3 kw_X3_40 dX3_append_127 (zs_dup_x1 X dX3_append_130 (zs_iconst X (by decide) dX3_append_131 (zs_iadd X dX3_append_132 (zs_pf X (ci := 3) rfl (by decide) zm_in3 kw_X3_40 tyX3 tyX3_ok nmX3 rfl rfl dX3_append_133 (zs_iret X rfl dX3_append_136))))))))))))))))))))))))))))))))))) (zs_sipush X (by decide) dX3_append_70 (zs_iret X rfl dX3_append_73)))))))) (zs_sipush X (by decide) dX3_append_54 (zs_iret X rfl dX3_append_57))))))))))))))))))))) (zs_sipush X (by decide) dX3_append_13 (zs_iret X rfl dX3_append_16)))))))))
set_option maxRecDepth 20000 in
theorem bkX3_takeBeamsAway_0 {w : zW} {Γ : zC} {N S : Nat} {Rt : zR} (X : zm_X w Γ mX3_takeBeamsAway N S Rt) : ∀ lv st h, (zi_push (.int 0) (zi_sti 1 (zm_V w Γ 2))) lv st h → zm_V w Γ 0 lv st h := (zs_iconst X (by decide) dX3_takeBeamsAway_0 (zs_istore_n X rfl (by decide) dX3_takeBeamsAway_1 (fun _ _ _ h => h)))
set_option maxRecDepth 20000 in
theorem bkX3_takeBeamsAway_2 {w : zW} {Γ : zC} {N S : Nat} {Rt : zR} (X : zm_X w Γ mX3_takeBeamsAway N S Rt) : ∀ lv st h, (zi_ldi 1 (zi_lda 0 (zi_gf 3 5 (zi_ic (fun x y => y ≤ x) (zi_lda 0 (zi_push (.int 0) (zi_pf 3 5 .int (zi_vret Rt)))) (zi_lda 0 (zi_gf 3 2 (zi_ldi 1 (zi_aa 3 (zi_cv w mX1_release 1 1 N S (zi_inc 1 1 (zm_V w Γ 2))))))))))) lv st h → zm_V w Γ 2 lv st h := (zs_iload_n X rfl dX3_takeBeamsAway_2 (zs_aload_n X rfl dX3_takeBeamsAway_3 (zs_gf X (ci := 3) rfl (by decide) zm_in3 kw_X3_106 dX3_takeBeamsAway_4 (zs_icmp_ge X dX3_takeBeamsAway_7 (by decide) (zs_aload_n X rfl dX3_takeBeamsAway_25 (zs_iconst X (by decide) dX3_takeBeamsAway_26 (zs_pf X (ci := 3) rfl (by decide) zm_in3 kw_X3_106 tyX3 tyX3_ok nmX3 rfl rfl dX3_takeBeamsAway_27 (zs_vret X rfl dX3_takeBeamsAway_30)))) (zs_aload_n X rfl dX3_takeBeamsAway_10 (zs_gf X (ci := 3) rfl (by decide) zm_in3 kw_X3_24 dX3_takeBeamsAway_11 (zs_iload_n X rfl dX3_takeBeamsAway_14 (zs_aald X (fun _ => rfl) dX3_takeBeamsAway_15 (zs_cv X (M' := mX1_release) (n := 0) kd_X1_release ki_X1 (by decide +kernel) (by decide) kw_X3_256 rfl ks_X1_release kl_X1_release dX3_takeBeamsAway_16 (zs_iinc X (by decide) (by decide) dX3_takeBeamsAway_19 (zs_goto X dX3_takeBeamsAway_22 (by decide) (fun _ _ _ h => h))))))))))))
set_option maxRecDepth 20000 in
theorem bkX3_groupVoice_0 {w : zW} {Γ : zC} {N S : Nat} {Rt : zR} (X : zm_X w Γ mX3_groupVoice N S Rt) : ∀ lv st h, (zi_lda 0 (zi_cv w mX3_freshRow 3 1 N S (zi_sta 2 (zi_push (.int 1) (zi_sti 3 (zi_push (.int 0) (zi_sti 4 (zm_V w Γ 10)))))))) lv st h → zm_V w Γ 0 lv st h := (zs_aload_n X rfl dX3_groupVoice_0 (zs_cv X (M' := mX3_freshRow) (n := 0) kd_X3_freshRow ki_X3 (by decide +kernel) (by decide) kw_X3_259 rfl ks_X3_freshRow kl_X3_freshRow dX3_groupVoice_1 (zs_astore_n X rfl (by decide) dX3_groupVoice_4 (zs_iconst X (by decide) dX3_groupVoice_5 (zs_istore_n X rfl (by decide) dX3_groupVoice_6 (zs_iconst X (by decide) dX3_groupVoice_7 (zs_istore X (by decide) dX3_groupVoice_8 (fun _ _ _ h => h))))))))
set_option maxRecDepth 20000 in
theorem bkX3_groupVoice_10 {w : zW} {Γ : zC} {N S : Nat} {Rt : zR} (X : zm_X w Γ mX3_groupVoice N S Rt) : ∀ lv st h, (zi_ldi 4 (zi_lda 0 (zi_gf 3 4 (zi_ic (fun x y => y ≤ x) (zi_lda 0 (zi_lda 2 (zi_cv w mX3_finish 3 2 N S (zi_vret Rt)))) (zi_lda 0 (zi_gf 3 1 (zi_ldi 4 (zi_aa 2 (zi_sta 5 (zi_lda 5 (zi_gf 2 1 (zi_ldi 1 (zi_ic (fun x y => x = y) (zi_lda 5 (zi_cv w mX2_isRest 2 1 N S (zi_if (fun x => x = 0) (zi_ldi 3 (zi_if (fun x => x = 0) (zm_V w Γ 90) (zi_lda 0 (zi_lda 2 (zi_lda 5 (zi_cv w mX3_goesOn 3 3 N S (zi_if (fun x => x = 0) (zm_V w Γ 90) (zm_V w Γ 100)))))))) (zi_ldi 3 (zi_if (fun x => x = 0) (zi_push (.int 0) (zi_sti 3 (zi_inc 4 1 (zm_V w Γ 10)))) (zi_lda 0 (zi_gf 3 7 (zi_if (fun x => x = 0) (zi_push (.int 0) (zi_sti 3 (zi_inc 4 1 (zm_V w Γ 10)))) (zi_lda 5 (zi_cv w mX2_isShort 2 1 N S (zi_if (fun x => x = 0) (zi_push (.int 0) (zi_sti 3 (zi_inc 4 1 (zm_V w Γ 10)))) (zi_push (.int 1) (zi_sti 3 (zi_inc 4 1 (zm_V w Γ 10))))))))))))))) (zi_inc 4 1 (zm_V w Γ 10))))))))))))))) lv st h → zm_V w Γ 10 lv st h := (zs_iload X dX3_groupVoice_10 (zs_aload_n X rfl dX3_groupVoice_12 (zs_gf X (ci := 3) rfl (by decide) zm_in3 kw_X3_40 dX3_groupVoice_13 (zs_icmp_ge X dX3_groupVoice_16 (by decide) (zs_aload_n X rfl dX3_groupVoice_122 (zs_aload_n X rfl dX3_groupVoice_123 (zs_cv X (M' := mX3_finish) (n := 1) kd_X3_finish ki_X3 (by decide +kernel) (by decide) kw_X3_270 rfl ks_X3_finish kl_X3_finish dX3_groupVoice_124 (zs_vret X rfl dX3_groupVoice_127)))) (zs_aload_n X rfl dX3_groupVoice_19 (zs_gf X (ci := 3) rfl (by decide) zm_in3 kw_X3_18 dX3_groupVoice_20 (zs_iload X dX3_groupVoice_23 (zs_aald X (fun _ => rfl) dX3_groupVoice_25 (zs_astore X (by decide) dX3_groupVoice_26 (zs_aload X dX3_groupVoice_28 (zs_gf X (ci := 2) rfl (by decide) zm_in2 kw_X3_208 dX3_groupVoice_30 (zs_iload_n X rfl dX3_groupVoice_33 (zs_icmp_eq X dX3_groupVoice_34 (by decide) (zs_aload X dX3_groupVoice_40 (zs_cv X (M' := mX2_isRest) (n := 0) kd_X2_isRest ki_X2 (by decide +kernel) (by decide) kw_X3_205 rfl ks_X2_isRest kl_X2_isRest dX3_groupVoice_42 (zs_if_eq X dX3_groupVoice_45 (by decide) (zs_iload_n X rfl dX3_groupVoice_76 (zs_if_eq X dX3_groupVoice_77 (by decide) (fun _ _ _ h => h) (zs_aload_n X rfl dX3_groupVoice_80 (zs_aload_n X rfl dX3_groupVoice_81 (zs_aload X dX3_groupVoice_82 (zs_cv X (M' := mX3_goesOn) (n := 2) kd_X3_goesOn ki_X3 (by decide +kernel) (by decide) kw_X3_266 rfl ks_X3_goesOn kl_X3_goesOn dX3_groupVoice_84 (zs_if_ne X dX3_groupVoice_87 (by decide) (fun _ _ _ h => h) (fun _ _ _ h => h)))))))) (zs_iload_n X rfl dX3_groupVoice_48 (zs_if_eq X dX3_groupVoice_49 (by decide) (zs_iconst X (by decide) dX3_groupVoice_71 (zs_istore_n X rfl (by decide) dX3_groupVoice_72 (zs_goto X dX3_groupVoice_73 (by decide) (zs_iinc X (by decide) (by decide) dX3_groupVoice_116 (zs_goto X dX3_groupVoice_119 (by decide) (fun _ _ _ h => h)))))) (zs_aload_n X rfl dX3_groupVoice_52 (zs_gf X (ci := 3) rfl (by decide) zm_in3 kw_X3_96 dX3_groupVoice_53 (zs_if_eq X dX3_groupVoice_56 (by decide) (zs_iconst X (by decide) dX3_groupVoice_71 (zs_istore_n X rfl (by decide) dX3_groupVoice_72 (zs_goto X dX3_groupVoice_73 (by decide) (zs_iinc X (by decide) (by decide) dX3_groupVoice_116 (zs_goto X dX3_groupVoice_119 (by decide) (fun _ _ _ h => h)))))) (zs_aload X dX3_groupVoice_59 (zs_cv X (M' := mX2_isShort) (n := 0) kd_X2_isShort ki_X2 (by decide +kernel) (by decide) kw_X3_263 rfl ks_X2_isShort kl_X2_isShort dX3_groupVoice_61 (zs_if_eq X dX3_groupVoice_64 (by decide) (zs_iconst X (by decide) dX3_groupVoice_71 (zs_istore_n X rfl (by decide) dX3_groupVoice_72 (zs_goto X dX3_groupVoice_73 (by decide) (zs_iinc X (by decide) (by decide) dX3_groupVoice_116 (zs_goto X dX3_groupVoice_119 (by decide) (fun _ _ _ h => h)))))) (zs_iconst X (by decide) dX3_groupVoice_67 (zs_goto X dX3_groupVoice_68 (by decide) (zs_istore_n X rfl (by decide) dX3_groupVoice_72 (zs_goto X dX3_groupVoice_73 (by decide) (zs_iinc X (by decide) (by decide) dX3_groupVoice_116 (zs_goto X dX3_groupVoice_119 (by decide) (fun _ _ _ h => h)))))))))))))))))) (zs_goto X dX3_groupVoice_37 (by decide) (zs_iinc X (by decide) (by decide) dX3_groupVoice_116 (zs_goto X dX3_groupVoice_119 (by decide) (fun _ _ _ h => h)))))))))))))))))
set_option maxRecDepth 20000 in
theorem bkX3_groupVoice_90 {w : zW} {Γ : zC} {N S : Nat} {Rt : zR} (X : zm_X w Γ mX3_groupVoice N S Rt) : ∀ lv st h, (zi_lda 0 (zi_lda 2 (zi_cv w mX3_finish 3 2 N S (zi_lda 0 (zi_cv w mX3_freshRow 3 1 N S (zi_sta 2 (zm_V w Γ 100))))))) lv st h → zm_V w Γ 90 lv st h := (zs_aload_n X rfl dX3_groupVoice_90 (zs_aload_n X rfl dX3_groupVoice_91 (zs_cv X (M' := mX3_finish) (n := 1) kd_X3_finish ki_X3 (by decide +kernel) (by decide) kw_X3_270 rfl ks_X3_finish kl_X3_finish dX3_groupVoice_92 (zs_aload_n X rfl dX3_groupVoice_95 (zs_cv X (M' := mX3_freshRow) (n := 0) kd_X3_freshRow ki_X3 (by decide +kernel) (by decide) kw_X3_259 rfl ks_X3_freshRow kl_X3_freshRow dX3_groupVoice_96 (zs_astore_n X rfl (by decide) dX3_groupVoice_99 (fun _ _ _ h => h)))))))
set_option maxRecDepth 20000 in
theorem bkX3_groupVoice_100 {w : zW} {Γ : zC} {N S : Nat} {Rt : zR} (X : zm_X w Γ mX3_groupVoice N S Rt) : ∀ lv st h, (zi_lda 5 (zi_cv w mX2_isShort 2 1 N S (zi_if (fun x => x = 0) (zi_push (.int 1) (zi_sti 3 (zi_inc 4 1 (zm_V w Γ 10)))) (zi_lda 2 (zi_lda 5 (zi_cv w mX1_add 1 2 N S (zi_push (.int 1) (zi_sti 3 (zi_inc 4 1 (zm_V w Γ 10)))))))))) lv st h → zm_V w Γ 100 lv st h := (zs_aload X dX3_groupVoice_100 (zs_cv X (M' := mX2_isShort) (n := 0) kd_X2_isShort ki_X2 (by decide +kernel) (by decide) kw_X3_263 rfl ks_X2_isShort kl_X2_isShort dX3_groupVoice_102 (zs_if_eq X dX3_groupVoice_105 (by decide) (zs_iconst X (by decide) dX3_groupVoice_114 (zs_istore_n X rfl (by decide) dX3_groupVoice_115 (zs_iinc X (by decide) (by decide) dX3_groupVoice_116 (zs_goto X dX3_groupVoice_119 (by decide) (fun _ _ _ h => h))))) (zs_aload_n X rfl dX3_groupVoice_108 (zs_aload X dX3_groupVoice_109 (zs_cv X (M' := mX1_add) (n := 1) kd_X1_add ki_X1 (by decide +kernel) (by decide) kw_X3_274 rfl ks_X1_add kl_X1_add dX3_groupVoice_111 (zs_iconst X (by decide) dX3_groupVoice_114 (zs_istore_n X rfl (by decide) dX3_groupVoice_115 (zs_iinc X (by decide) (by decide) dX3_groupVoice_116 (zs_goto X dX3_groupVoice_119 (by decide) (fun _ _ _ h => h)))))))))))
set_option maxRecDepth 20000 in
theorem bkX3_freshRow_0 {w : zW} {Γ : zC} {N S : Nat} {Rt : zR} (X : zm_X w Γ mX3_freshRow N S Rt) : ∀ lv st h, (zi_lda 0 (zi_gf 3 2 (zi_lda 0 (zi_gf 3 5 (zi_lda 0 (zi_gf 3 2 (zi_len 3 (zi_push (.int 1) (zi_b (fun x y => x - y) (zi_mn N S (zi_aa 3 (zi_sta 1 (zi_lda 1 (zi_cv w mX1_empty 1 1 N S (zi_lda 1 (zi_aret Rt)))))))))))))))) lv st h → zm_V w Γ 0 lv st h := (zs_aload_n X rfl dX3_freshRow_0 (zs_gf X (ci := 3) rfl (by decide) zm_in3 kw_X3_24 dX3_freshRow_1 (zs_aload_n X rfl dX3_freshRow_4 (zs_gf X (ci := 3) rfl (by decide) zm_in3 kw_X3_106 dX3_freshRow_5 (zs_aload_n X rfl dX3_freshRow_8 (zs_gf X (ci := 3) rfl (by decide) zm_in3 kw_X3_24 dX3_freshRow_9 (zs_alen X (fun _ => rfl) dX3_freshRow_12 (zs_iconst X (by decide) dX3_freshRow_13 (zs_isub X dX3_freshRow_14 (zs_mn X (by decide) trivial kw_X3_277 km_mn1 km_2 km_mn3 dX3_freshRow_15 (zs_aald X (fun _ => rfl) dX3_freshRow_18 (zs_astore_n X rfl (by decide) dX3_freshRow_19 (zs_aload_n X rfl dX3_freshRow_20 (zs_cv X (M' := mX1_empty) (n := 0) kd_X1_empty ki_X1 (by decide +kernel) (by decide) kw_X3_282 rfl ks_X1_empty kl_X1_empty dX3_freshRow_21 (zs_aload_n X rfl dX3_freshRow_24 (zs_aret X rfl (Or.inl ⟨_, rfl⟩) dX3_freshRow_25))))))))))))))))
set_option maxRecDepth 20000 in
theorem bkX3_goesOn_0 {w : zW} {Γ : zC} {N S : Nat} {Rt : zR} (X : zm_X w Γ mX3_goesOn N S Rt) : ∀ lv st h, (zi_lda 2 (zi_cv w mX2_isShort 2 1 N S (zi_if (fun x => x = 0) (zi_push (.int 0) (zi_zret Rt)) (zi_lda 2 (zi_gf 2 9 (zi_push (.int 1) (zi_ic (fun x y => x = y) (zi_push (.int 0) (zi_zret Rt)) (zi_lda 1 (zi_gf 1 1 (zi_if (fun x => x = 0) (zi_push (.int 0) (zi_zret Rt)) (zi_lda 1 (zi_gf 1 1 (zi_push (.int 16) (zi_ic (fun x y => x < y) (zi_lda 1 (zi_gf 1 0 (zi_lda 1 (zi_gf 1 1 (zi_push (.int 1) (zi_b (fun x y => x - y) (zi_aa 2 (zi_gf 2 3 (zi_sti 3 (zi_lda 0 (zi_gf 3 0 (zi_ldi 3 (zi_cv w mX0_barAt 0 2 N S (zi_lda 0 (zi_gf 3 0 (zi_lda 2 (zi_gf 2 3 (zi_cv w mX0_barAt 0 2 N S (zi_ic (fun x y => x = y) (zi_lda 0 (zi_gf 3 0 (zi_ldi 3 (zi_cv w mX0_groupAt 0 2 N S (zi_lda 0 (zi_gf 3 0 (zi_lda 2 (zi_gf 2 3 (zi_cv w mX0_groupAt 0 2 N S (zi_ic (fun x y => x = y) (zi_push (.int 1) (zm_V w Γ 97)) (zm_V w Γ 96))))))))))) (zm_V w Γ 96)))))))))))))))))))) (zi_push (.int 0) (zi_zret Rt)))))))))))))))) lv st h → zm_V w Γ 0 lv st h := (zs_aload_n X rfl dX3_goesOn_0 (zs_cv X (M' := mX2_isShort) (n := 0) kd_X2_isShort ki_X2 (by decide +kernel) (by decide) kw_X3_263 rfl ks_X2_isShort kl_X2_isShort dX3_goesOn_1 (zs_if_eq X dX3_goesOn_4 (by decide) (zs_iconst X (by decide) dX3_goesOn_31 (zs_zret X rfl dX3_goesOn_32)) (zs_aload_n X rfl dX3_goesOn_7 (zs_gf X (ci := 2) rfl (by decide) zm_in2 kw_X3_86 dX3_goesOn_8 (zs_iconst X (by decide) dX3_goesOn_11 (zs_icmp_eq X dX3_goesOn_12 (by decide) (zs_iconst X (by decide) dX3_goesOn_31 (zs_zret X rfl dX3_goesOn_32)) (zs_aload_n X rfl dX3_goesOn_15 (zs_gf X (ci := 1) rfl (by decide) zm_in1 kw_X3_113 dX3_goesOn_16 (zs_if_eq X dX3_goesOn_19 (by decide) (zs_iconst X (by decide) dX3_goesOn_31 (zs_zret X rfl dX3_goesOn_32)) (zs_aload_n X rfl dX3_goesOn_22 (zs_gf X (ci := 1) rfl (by decide) zm_in1 kw_X3_113 dX3_goesOn_23 (zs_bipush X (by decide) dX3_goesOn_26 (zs_icmp_lt X dX3_goesOn_28 (by decide) (zs_aload_n X rfl dX3_goesOn_33 (zs_gf X (ci := 1) rfl (by decide) zm_in1 kw_X3_141 dX3_goesOn_34 (zs_aload_n X rfl dX3_goesOn_37 (zs_gf X (ci := 1) rfl (by decide) zm_in1 kw_X3_113 dX3_goesOn_38 (zs_iconst X (by decide) dX3_goesOn_41 (zs_isub X dX3_goesOn_42 (zs_aald X (fun _ => rfl) dX3_goesOn_43 (zs_gf X (ci := 2) rfl (by decide) zm_in2 kw_X3_234 dX3_goesOn_44 (zs_istore_n X rfl (by decide) dX3_goesOn_47 (zs_aload_n X rfl dX3_goesOn_48 (zs_gf X (ci := 3) rfl (by decide) zm_in3 kw_X3_12 dX3_goesOn_49 (zs_iload_n X rfl dX3_goesOn_52 (zs_cv X (M' := mX0_barAt) (n := 1) kd_X0_barAt ki_X0 (by decide +kernel) (by decide) kw_X3_240 rfl ks_X0_barAt kl_X0_barAt dX3_goesOn_53 (zs_aload_n X rfl dX3_goesOn_56 (zs_gf X (ci := 3) rfl (by decide) zm_in3 kw_X3_12 dX3_goesOn_57 (zs_aload_n X rfl dX3_goesOn_60 (zs_gf X (ci := 2) rfl (by decide) zm_in2 kw_X3_234 dX3_goesOn_61 (zs_cv X (M' := mX0_barAt) (n := 1) kd_X0_barAt ki_X0 (by decide +kernel) (by decide) kw_X3_240 rfl ks_X0_barAt kl_X0_barAt dX3_goesOn_64 (zs_icmp_ne X dX3_goesOn_67 (by decide) (fun _ _ _ h => h) (zs_aload_n X rfl dX3_goesOn_70 (zs_gf X (ci := 3) rfl (by decide) zm_in3 kw_X3_12 dX3_goesOn_71 (zs_iload_n X rfl dX3_goesOn_74 (zs_cv X (M' := mX0_groupAt) (n := 1) kd_X0_groupAt ki_X0 (by decide +kernel) (by decide) kw_X3_243 rfl ks_X0_groupAt kl_X0_groupAt dX3_goesOn_75 (zs_aload_n X rfl dX3_goesOn_78 (zs_gf X (ci := 3) rfl (by decide) zm_in3 kw_X3_12 dX3_goesOn_79 (zs_aload_n X rfl dX3_goesOn_82 (zs_gf X (ci := 2) rfl (by decide) zm_in2 kw_X3_234 dX3_goesOn_83 (zs_cv X (M' := mX0_groupAt) (n := 1) kd_X0_groupAt ki_X0 (by decide +kernel) (by decide) kw_X3_243 rfl ks_X0_groupAt kl_X0_groupAt dX3_goesOn_86 (zs_icmp_ne X dX3_goesOn_89 (by decide) (fun _ _ _ h => h) (zs_iconst X (by decide) dX3_goesOn_92 (zs_goto X dX3_goesOn_93 (by decide) (fun _ _ _ h => h)))))))))))))))))))))))))))))))) (zs_iconst X (by decide) dX3_goesOn_31 (zs_zret X rfl dX3_goesOn_32))))))))))))))))
set_option maxRecDepth 20000 in
theorem bkX3_goesOn_96 {w : zW} {Γ : zC} {N S : Nat} {Rt : zR} (X : zm_X w Γ mX3_goesOn N S Rt) : ∀ lv st h, (zi_push (.int 0) (zm_V w Γ 97)) lv st h → zm_V w Γ 96 lv st h := (zs_iconst X (by decide) dX3_goesOn_96 (fun _ _ _ h => h))
set_option maxRecDepth 20000 in
theorem bkX3_goesOn_97 {w : zW} {Γ : zC} {N S : Nat} {Rt : zR} (X : zm_X w Γ mX3_goesOn N S Rt) : ∀ lv st h, (zi_sti 4 (zi_ldi 4 (zi_if (fun x => x = 0) (zi_lda 2 (zi_gf 2 9 (zi_push (.int 2) (zi_ic (fun x y => x = y) (zi_push (.int 1) (zi_zret Rt)) (zi_push (.int 0) (zi_zret Rt)))))) (zi_push (.int 1) (zi_zret Rt))))) lv st h → zm_V w Γ 97 lv st h := (zs_istore X (by decide) dX3_goesOn_97 (zs_iload X dX3_goesOn_99 (zs_if_ne X dX3_goesOn_101 (by decide) (zs_iconst X (by decide) dX3_goesOn_112 (zs_goto X dX3_goesOn_113 (by decide) (zs_zret X rfl dX3_goesOn_117))) (zs_aload_n X rfl dX3_goesOn_104 (zs_gf X (ci := 2) rfl (by decide) zm_in2 kw_X3_86 dX3_goesOn_105 (zs_iconst X (by decide) dX3_goesOn_108 (zs_icmp_ne X dX3_goesOn_109 (by decide) (zs_iconst X (by decide) dX3_goesOn_116 (zs_zret X rfl dX3_goesOn_117)) (zs_iconst X (by decide) dX3_goesOn_112 (zs_goto X dX3_goesOn_113 (by decide) (zs_zret X rfl dX3_goesOn_117))))))))))
set_option maxRecDepth 20000 in
theorem bkX3_finish_0 {w : zW} {Γ : zC} {N S : Nat} {Rt : zR} (X : zm_X w Γ mX3_finish N S Rt) : ∀ lv st h, (zi_lda 1 (zi_gf 1 1 (zi_push (.int 2) (zi_ic (fun x y => y ≤ x) (zi_lda 1 (zi_lda 0 (zi_cv w mX3_isTwoVoiced 3 1 N S (zi_cv w mX1_aimStems 1 2 N S (zi_lda 1 (zi_cv w mX1_judgeSlope 1 1 N S (zi_lda 1 (zi_cv w mX1_findPlace 1 1 N S (zi_if (fun x => x = 0) (zi_lda 0 (zi_dup (zi_gf 3 6 (zi_push (.int 1) (zi_b (fun x y => x + y) (zi_pf 3 6 .int (zi_vret Rt))))))) (zi_lda 1 (zi_lda 0 (zi_gf 3 5 (zi_cv w mX1_hold 1 2 N S (zi_lda 0 (zi_dup (zi_gf 3 5 (zi_push (.int 1) (zi_b (fun x y => x + y) (zi_pf 3 5 .int (zi_vret Rt)))))))))))))))))))) (zi_vret Rt))))) lv st h → zm_V w Γ 0 lv st h := (zs_aload_n X rfl dX3_finish_0 (zs_gf X (ci := 1) rfl (by decide) zm_in1 kw_X3_113 dX3_finish_1 (zs_iconst X (by decide) dX3_finish_4 (zs_icmp_ge X dX3_finish_5 (by decide) (zs_aload_n X rfl dX3_finish_9 (zs_aload_n X rfl dX3_finish_10 (zs_cv X (M' := mX3_isTwoVoiced) (n := 0) kd_X3_isTwoVoiced ki_X3 (by decide +kernel) (by decide) kw_X3_163 rfl ks_X3_isTwoVoiced kl_X3_isTwoVoiced dX3_finish_11 (zs_cv X (M' := mX1_aimStems) (n := 1) kd_X1_aimStems ki_X1 (by decide +kernel) (by decide) kw_X3_285 rfl ks_X1_aimStems kl_X1_aimStems dX3_finish_14 (zs_aload_n X rfl dX3_finish_17 (zs_cv X (M' := mX1_judgeSlope) (n := 0) kd_X1_judgeSlope ki_X1 (by decide +kernel) (by decide) kw_X3_289 rfl ks_X1_judgeSlope kl_X1_judgeSlope dX3_finish_18 (zs_aload_n X rfl dX3_finish_21 (zs_cv X (M' := mX1_findPlace) (n := 0) kd_X1_findPlace ki_X1 (by decide +kernel) (by decide) kw_X3_292 rfl ks_X1_findPlace kl_X1_findPlace dX3_finish_22 (zs_if_eq X dX3_finish_25 (by decide) (zs_aload_n X rfl dX3_finish_49 (zs_dup X dX3_finish_50 (zs_gf X (ci := 3) rfl (by decide) zm_in3 kw_X3_100 dX3_finish_51 (zs_iconst X (by decide) dX3_finish_54 (zs_iadd X dX3_finish_55 (zs_pf X (ci := 3) rfl (by decide) zm_in3 kw_X3_100 tyX3 tyX3_ok nmX3 rfl rfl dX3_finish_56 (zs_vret X rfl dX3_finish_59))))))) (zs_aload_n X rfl dX3_finish_28 (zs_aload_n X rfl dX3_finish_29 (zs_gf X (ci := 3) rfl (by decide) zm_in3 kw_X3_106 dX3_finish_30 (zs_cv X (M' := mX1_hold) (n := 1) kd_X1_hold ki_X1 (by decide +kernel) (by decide) kw_X3_295 rfl ks_X1_hold kl_X1_hold dX3_finish_33 (zs_aload_n X rfl dX3_finish_36 (zs_dup X dX3_finish_37 (zs_gf X (ci := 3) rfl (by decide) zm_in3 kw_X3_106 dX3_finish_38 (zs_iconst X (by decide) dX3_finish_41 (zs_iadd X dX3_finish_42 (zs_pf X (ci := 3) rfl (by decide) zm_in3 kw_X3_106 tyX3 tyX3_ok nmX3 rfl rfl dX3_finish_43 (zs_goto X dX3_finish_46 (by decide) (zs_vret X rfl dX3_finish_59))))))))))))))))))))) (zs_vret X rfl dX3_finish_8)))))
set_option maxRecDepth 20000 in
theorem bkX3_stubOf_0 {w : zW} {Γ : zC} {N S : Nat} {Rt : zR} (X : zm_X w Γ mX3_stubOf N S Rt) : ∀ lv st h, (zi_lda 1 (zi_gf 2 11 (zi_if (fun x => x = 0) (zi_push (.int 8) (zi_iret Rt)) (zi_lda 1 (zi_gf 2 11 (zi_lda 2 (zi_gf 1 1 (zi_push (.int 1) (zi_b (fun x y => x - y) (zi_ic (fun x y => x = y) (zi_push (.int 4) (zi_iret Rt)) (zi_push (.int 2) (zi_lda 1 (zi_gf 2 2 (zi_push (.int 0) (zi_cs w mX2_ticksOf 2 N S (zi_b (fun x y => x * y) (zi_sti 3 (zi_ldi 3 (zi_if (fun x => x ≤ 0) (zi_push (.int 4) (zi_iret Rt)) (zi_lda 0 (zi_gf 3 0 (zi_lda 1 (zi_gf 2 3 (zi_cv w mX0_offsetAt 0 2 N S (zi_ldi 3 (zi_d (fun x y => x - x / y * y) (zi_if (fun x => x = 0) (zi_push (.int 8) (zi_iret Rt)) (zi_push (.int 4) (zi_iret Rt))))))))))))))))))))))))))))) lv st h → zm_V w Γ 0 lv st h := (zs_aload_n X rfl dX3_stubOf_0 (zs_gf X (ci := 2) rfl (by decide) zm_in2 kw_X3_181 dX3_stubOf_1 (zs_if_ne X dX3_stubOf_4 (by decide) (zs_aload_n X rfl dX3_stubOf_10 (zs_gf X (ci := 2) rfl (by decide) zm_in2 kw_X3_181 dX3_stubOf_11 (zs_aload_n X rfl dX3_stubOf_14 (zs_gf X (ci := 1) rfl (by decide) zm_in1 kw_X3_113 dX3_stubOf_15 (zs_iconst X (by decide) dX3_stubOf_18 (zs_isub X dX3_stubOf_19 (zs_icmp_ne X dX3_stubOf_20 (by decide) (zs_iconst X (by decide) dX3_stubOf_25 (zs_aload_n X rfl dX3_stubOf_26 (zs_gf X (ci := 2) rfl (by decide) zm_in2 kw_X3_160 dX3_stubOf_27 (zs_iconst X (by decide) dX3_stubOf_30 (zs_cs X (M' := mX2_ticksOf) (n := 2) kd_X2_ticksOf ki_X2 (by decide +kernel) (by decide) kw_X3_247 ks_X2_ticksOf dX3_stubOf_31 (zs_imul X dX3_stubOf_34 (zs_istore_n X rfl (by decide) dX3_stubOf_35 (zs_iload_n X rfl dX3_stubOf_36 (zs_if_le X dX3_stubOf_37 (by decide) (zs_iconst X (by decide) dX3_stubOf_61 (zs_iret X rfl dX3_stubOf_62)) (zs_aload_n X rfl dX3_stubOf_40 (zs_gf X (ci := 3) rfl (by decide) zm_in3 kw_X3_12 dX3_stubOf_41 (zs_aload_n X rfl dX3_stubOf_44 (zs_gf X (ci := 2) rfl (by decide) zm_in2 kw_X3_234 dX3_stubOf_45 (zs_cv X (M' := mX0_offsetAt) (n := 1) kd_X0_offsetAt ki_X0 (by decide +kernel) (by decide) kw_X3_250 rfl ks_X0_offsetAt kl_X0_offsetAt dX3_stubOf_48 (zs_iload_n X rfl dX3_stubOf_51 (zs_irem X dX3_stubOf_52 (zs_if_ne X dX3_stubOf_53 (by decide) (zs_iconst X (by decide) dX3_stubOf_61 (zs_iret X rfl dX3_stubOf_62)) (zs_bipush X (by decide) dX3_stubOf_56 (zs_goto X dX3_stubOf_58 (by decide) (zs_iret X rfl dX3_stubOf_62)))))))))))))))))))) (zs_iconst X (by decide) dX3_stubOf_23 (zs_iret X rfl dX3_stubOf_24))))))))) (zs_bipush X (by decide) dX3_stubOf_7 (zs_iret X rfl dX3_stubOf_9)))))
set_option maxRecDepth 20000 in
theorem bkX3_noteBeside_0 {w : zW} {Γ : zC} {N S : Nat} {Rt : zR} (X : zm_X w Γ mX3_noteBeside N S Rt) : ∀ lv st h, (zi_lda 1 (zi_gf 2 0 (zi_ldi 2 (zi_b (fun x y => x + y) (zi_sti 3 (zi_push (.int 0) (zi_sti 4 (zm_V w Γ 10)))))))) lv st h → zm_V w Γ 0 lv st h := (zs_aload_n X rfl dX3_noteBeside_0 (zs_gf X (ci := 2) rfl (by decide) zm_in2 kw_X3_144 dX3_noteBeside_1 (zs_iload_n X rfl dX3_noteBeside_4 (zs_iadd X dX3_noteBeside_5 (zs_istore_n X rfl (by decide) dX3_noteBeside_6 (zs_iconst X (by decide) dX3_noteBeside_7 (zs_istore X (by decide) dX3_noteBeside_8 (fun _ _ _ h => h))))))))
set_option maxRecDepth 20000 in
theorem bkX3_noteBeside_10 {w : zW} {Γ : zC} {N S : Nat} {Rt : zR} (X : zm_X w Γ mX3_noteBeside N S Rt) : ∀ lv st h, (zi_ldi 4 (zi_push (.int 64) (zi_ic (fun x y => y ≤ x) (zi_push .null (zi_aret Rt)) (zi_lda 0 (zi_ldi 3 (zi_cv w mX3_eventAt 3 2 N S (zi_sta 5 (zi_lda 5 (zi_nul (zi_push .null (zi_aret Rt)) (zi_lda 5 (zi_gf 2 1 (zi_lda 1 (zi_gf 2 1 (zi_ic (fun x y => x = y) (zi_lda 5 (zi_cv w mX2_isRest 2 1 N S (zi_if (fun x => x = 0) (zi_lda 5 (zi_aret Rt)) (zi_ldi 3 (zi_ldi 2 (zi_b (fun x y => x + y) (zi_sti 3 (zi_inc 4 1 (zm_V w Γ 10))))))))) (zi_ldi 3 (zi_ldi 2 (zi_b (fun x y => x + y) (zi_sti 3 (zi_inc 4 1 (zm_V w Γ 10)))))))))))))))))))) lv st h → zm_V w Γ 10 lv st h := (zs_iload X dX3_noteBeside_10 (zs_bipush X (by decide) dX3_noteBeside_12 (zs_icmp_ge X dX3_noteBeside_14 (by decide) (zs_null X dX3_noteBeside_64 (zs_aret X rfl (Or.inl ⟨_, rfl⟩) dX3_noteBeside_65)) (zs_aload_n X rfl dX3_noteBeside_17 (zs_iload_n X rfl dX3_noteBeside_18 (zs_cv X (M' := mX3_eventAt) (n := 1) kd_X3_eventAt ki_X3 (by decide +kernel) (by decide) kw_X3_62 rfl ks_X3_eventAt kl_X3_eventAt dX3_noteBeside_19 (zs_astore X (by decide) dX3_noteBeside_22 (zs_aload X dX3_noteBeside_24 (zs_ifnonnull X dX3_noteBeside_26 (by decide) (zs_aload X dX3_noteBeside_31 (zs_gf X (ci := 2) rfl (by decide) zm_in2 kw_X3_208 dX3_noteBeside_33 (zs_aload_n X rfl dX3_noteBeside_36 (zs_gf X (ci := 2) rfl (by decide) zm_in2 kw_X3_208 dX3_noteBeside_37 (zs_icmp_ne X dX3_noteBeside_40 (by decide) (zs_iload_n X rfl dX3_noteBeside_54 (zs_iload_n X rfl dX3_noteBeside_55 (zs_iadd X dX3_noteBeside_56 (zs_istore_n X rfl (by decide) dX3_noteBeside_57 (zs_iinc X (by decide) (by decide) dX3_noteBeside_58 (zs_goto X dX3_noteBeside_61 (by decide) (fun _ _ _ h => h))))))) (zs_aload X dX3_noteBeside_43 (zs_cv X (M' := mX2_isRest) (n := 0) kd_X2_isRest ki_X2 (by decide +kernel) (by decide) kw_X3_205 rfl ks_X2_isRest kl_X2_isRest dX3_noteBeside_45 (zs_if_ne X dX3_noteBeside_48 (by decide) (zs_iload_n X rfl dX3_noteBeside_54 (zs_iload_n X rfl dX3_noteBeside_55 (zs_iadd X dX3_noteBeside_56 (zs_istore_n X rfl (by decide) dX3_noteBeside_57 (zs_iinc X (by decide) (by decide) dX3_noteBeside_58 (zs_goto X dX3_noteBeside_61 (by decide) (fun _ _ _ h => h))))))) (zs_aload X dX3_noteBeside_51 (zs_aret X rfl (Or.inl ⟨_, rfl⟩) dX3_noteBeside_53)))))))))) (zs_null X dX3_noteBeside_29 (zs_aret X rfl (Or.inl ⟨_, rfl⟩) dX3_noteBeside_30)))))))))))
