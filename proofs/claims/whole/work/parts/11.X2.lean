theorem dX2_init_0 : decode cX2_init 0 = .ok (.aload_n 0, 1) := by decide +kernel
theorem dX2_init_1 : decode cX2_init 1 = .ok (.invokespecial 3, 3) := by decide +kernel
theorem dX2_init_4 : decode cX2_init 4 = .ok (.return_, 1) := by decide +kernel
theorem dX2_ticksOf_0 : decode cX2_ticksOf 0 = .ok (.sipush 256, 3) := by decide +kernel
theorem dX2_ticksOf_3 : decode cX2_ticksOf 3 = .ok (.iload_n 0, 1) := by decide +kernel
theorem dX2_ticksOf_4 : decode cX2_ticksOf 4 = .ok (.ishr, 1) := by decide +kernel
theorem dX2_ticksOf_5 : decode cX2_ticksOf 5 = .ok (.istore_n 2, 1) := by decide +kernel
theorem dX2_ticksOf_6 : decode cX2_ticksOf 6 = .ok (.iload_n 1, 1) := by decide +kernel
theorem dX2_ticksOf_7 : decode cX2_ticksOf 7 = .ok (.ifCond .ne 7, 3) := by decide +kernel
theorem dX2_ticksOf_10 : decode cX2_ticksOf 10 = .ok (.iload_n 2, 1) := by decide +kernel
theorem dX2_ticksOf_11 : decode cX2_ticksOf 11 = .ok (.goto 23, 3) := by decide +kernel
theorem dX2_ticksOf_14 : decode cX2_ticksOf 14 = .ok (.iload_n 1, 1) := by decide +kernel
theorem dX2_ticksOf_15 : decode cX2_ticksOf 15 = .ok (.iconst 1, 1) := by decide +kernel
theorem dX2_ticksOf_16 : decode cX2_ticksOf 16 = .ok (.if_icmp .ne 11, 3) := by decide +kernel
theorem dX2_ticksOf_19 : decode cX2_ticksOf 19 = .ok (.iload_n 2, 1) := by decide +kernel
theorem dX2_ticksOf_20 : decode cX2_ticksOf 20 = .ok (.iload_n 2, 1) := by decide +kernel
theorem dX2_ticksOf_21 : decode cX2_ticksOf 21 = .ok (.iconst 2, 1) := by decide +kernel
theorem dX2_ticksOf_22 : decode cX2_ticksOf 22 = .ok (.idiv, 1) := by decide +kernel
theorem dX2_ticksOf_23 : decode cX2_ticksOf 23 = .ok (.iadd, 1) := by decide +kernel
theorem dX2_ticksOf_24 : decode cX2_ticksOf 24 = .ok (.goto 10, 3) := by decide +kernel
theorem dX2_ticksOf_27 : decode cX2_ticksOf 27 = .ok (.iload_n 2, 1) := by decide +kernel
theorem dX2_ticksOf_28 : decode cX2_ticksOf 28 = .ok (.iconst 3, 1) := by decide +kernel
theorem dX2_ticksOf_29 : decode cX2_ticksOf 29 = .ok (.iload_n 2, 1) := by decide +kernel
theorem dX2_ticksOf_30 : decode cX2_ticksOf 30 = .ok (.imul, 1) := by decide +kernel
theorem dX2_ticksOf_31 : decode cX2_ticksOf 31 = .ok (.iconst 4, 1) := by decide +kernel
theorem dX2_ticksOf_32 : decode cX2_ticksOf 32 = .ok (.idiv, 1) := by decide +kernel
theorem dX2_ticksOf_33 : decode cX2_ticksOf 33 = .ok (.iadd, 1) := by decide +kernel
theorem dX2_ticksOf_34 : decode cX2_ticksOf 34 = .ok (.ireturn, 1) := by decide +kernel
theorem dX2_reset_0 : decode cX2_reset 0 = .ok (.aload_n 0, 1) := by decide +kernel
theorem dX2_reset_1 : decode cX2_reset 1 = .ok (.iload_n 1, 1) := by decide +kernel
theorem dX2_reset_2 : decode cX2_reset 2 = .ok (.putfield 9, 3) := by decide +kernel
theorem dX2_reset_5 : decode cX2_reset 5 = .ok (.aload_n 0, 1) := by decide +kernel
theorem dX2_reset_6 : decode cX2_reset 6 = .ok (.iload_n 2, 1) := by decide +kernel
theorem dX2_reset_7 : decode cX2_reset 7 = .ok (.putfield 15, 3) := by decide +kernel
theorem dX2_reset_10 : decode cX2_reset 10 = .ok (.aload_n 0, 1) := by decide +kernel
theorem dX2_reset_11 : decode cX2_reset 11 = .ok (.iload_n 3, 1) := by decide +kernel
theorem dX2_reset_12 : decode cX2_reset 12 = .ok (.putfield 18, 3) := by decide +kernel
theorem dX2_reset_15 : decode cX2_reset 15 = .ok (.aload_n 0, 1) := by decide +kernel
theorem dX2_reset_16 : decode cX2_reset 16 = .ok (.iconst 0, 1) := by decide +kernel
theorem dX2_reset_17 : decode cX2_reset 17 = .ok (.putfield 21, 3) := by decide +kernel
theorem dX2_reset_20 : decode cX2_reset 20 = .ok (.aload_n 0, 1) := by decide +kernel
theorem dX2_reset_21 : decode cX2_reset 21 = .ok (.iconst 0, 1) := by decide +kernel
theorem dX2_reset_22 : decode cX2_reset 22 = .ok (.putfield 24, 3) := by decide +kernel
theorem dX2_reset_25 : decode cX2_reset 25 = .ok (.aload_n 0, 1) := by decide +kernel
theorem dX2_reset_26 : decode cX2_reset 26 = .ok (.iconst 0, 1) := by decide +kernel
theorem dX2_reset_27 : decode cX2_reset 27 = .ok (.putfield 27, 3) := by decide +kernel
theorem dX2_reset_30 : decode cX2_reset 30 = .ok (.aload_n 0, 1) := by decide +kernel
theorem dX2_reset_31 : decode cX2_reset 31 = .ok (.iconst 0, 1) := by decide +kernel
theorem dX2_reset_32 : decode cX2_reset 32 = .ok (.putfield 30, 3) := by decide +kernel
theorem dX2_reset_35 : decode cX2_reset 35 = .ok (.aload_n 0, 1) := by decide +kernel
theorem dX2_reset_36 : decode cX2_reset 36 = .ok (.iconst 0, 1) := by decide +kernel
theorem dX2_reset_37 : decode cX2_reset 37 = .ok (.putfield 33, 3) := by decide +kernel
theorem dX2_reset_40 : decode cX2_reset 40 = .ok (.aload_n 0, 1) := by decide +kernel
theorem dX2_reset_41 : decode cX2_reset 41 = .ok (.sipush (-1001), 3) := by decide +kernel
theorem dX2_reset_44 : decode cX2_reset 44 = .ok (.putfield 36, 3) := by decide +kernel
theorem dX2_reset_47 : decode cX2_reset 47 = .ok (.aload_n 0, 1) := by decide +kernel
theorem dX2_reset_48 : decode cX2_reset 48 = .ok (.iconst 0, 1) := by decide +kernel
theorem dX2_reset_49 : decode cX2_reset 49 = .ok (.putfield 39, 3) := by decide +kernel
theorem dX2_reset_52 : decode cX2_reset 52 = .ok (.return_, 1) := by decide +kernel
theorem dX2_isRest_0 : decode cX2_isRest 0 = .ok (.aload_n 0, 1) := by decide +kernel
theorem dX2_isRest_1 : decode cX2_isRest 1 = .ok (.getfield 21, 3) := by decide +kernel
theorem dX2_isRest_4 : decode cX2_isRest 4 = .ok (.ifCond .ne 7, 3) := by decide +kernel
theorem dX2_isRest_7 : decode cX2_isRest 7 = .ok (.iconst 1, 1) := by decide +kernel
theorem dX2_isRest_8 : decode cX2_isRest 8 = .ok (.goto 4, 3) := by decide +kernel
theorem dX2_isRest_11 : decode cX2_isRest 11 = .ok (.iconst 0, 1) := by decide +kernel
theorem dX2_isRest_12 : decode cX2_isRest 12 = .ok (.ireturn, 1) := by decide +kernel
theorem dX2_isShort_0 : decode cX2_isShort 0 = .ok (.aload_n 0, 1) := by decide +kernel
theorem dX2_isShort_1 : decode cX2_isShort 1 = .ok (.getfield 18, 3) := by decide +kernel
theorem dX2_isShort_4 : decode cX2_isShort 4 = .ok (.iconst 3, 1) := by decide +kernel
theorem dX2_isShort_5 : decode cX2_isShort 5 = .ok (.if_icmp .lt 7, 3) := by decide +kernel
theorem dX2_isShort_8 : decode cX2_isShort 8 = .ok (.iconst 1, 1) := by decide +kernel
theorem dX2_isShort_9 : decode cX2_isShort 9 = .ok (.goto 4, 3) := by decide +kernel
theorem dX2_isShort_12 : decode cX2_isShort 12 = .ok (.iconst 0, 1) := by decide +kernel
theorem dX2_isShort_13 : decode cX2_isShort 13 = .ok (.ireturn, 1) := by decide +kernel
theorem dX2_levels_0 : decode cX2_levels 0 = .ok (.iconst 0, 1) := by decide +kernel
theorem dX2_levels_1 : decode cX2_levels 1 = .ok (.aload_n 0, 1) := by decide +kernel
theorem dX2_levels_2 : decode cX2_levels 2 = .ok (.getfield 18, 3) := by decide +kernel
theorem dX2_levels_5 : decode cX2_levels 5 = .ok (.iconst 2, 1) := by decide +kernel
theorem dX2_levels_6 : decode cX2_levels 6 = .ok (.isub, 1) := by decide +kernel
theorem dX2_levels_7 : decode cX2_levels 7 = .ok (.invokestatic 42, 3) := by decide +kernel
theorem dX2_levels_10 : decode cX2_levels 10 = .ok (.ireturn, 1) := by decide +kernel
theorem dX2_hasHead_0 : decode cX2_hasHead 0 = .ok (.aload_n 0, 1) := by decide +kernel
theorem dX2_hasHead_1 : decode cX2_hasHead 1 = .ok (.getfield 24, 3) := by decide +kernel
theorem dX2_hasHead_4 : decode cX2_hasHead 4 = .ok (.iload_n 1, 1) := by decide +kernel
theorem dX2_hasHead_5 : decode cX2_hasHead 5 = .ok (.bipush 12, 2) := by decide +kernel
theorem dX2_hasHead_7 : decode cX2_hasHead 7 = .ok (.iadd, 1) := by decide +kernel
theorem dX2_hasHead_8 : decode cX2_hasHead 8 = .ok (.ishr, 1) := by decide +kernel
theorem dX2_hasHead_9 : decode cX2_hasHead 9 = .ok (.iconst 1, 1) := by decide +kernel
theorem dX2_hasHead_10 : decode cX2_hasHead 10 = .ok (.iand, 1) := by decide +kernel
theorem dX2_hasHead_11 : decode cX2_hasHead 11 = .ok (.iconst 1, 1) := by decide +kernel
theorem dX2_hasHead_12 : decode cX2_hasHead 12 = .ok (.if_icmp .ne 7, 3) := by decide +kernel
theorem dX2_hasHead_15 : decode cX2_hasHead 15 = .ok (.iconst 1, 1) := by decide +kernel
theorem dX2_hasHead_16 : decode cX2_hasHead 16 = .ok (.goto 4, 3) := by decide +kernel
theorem dX2_hasHead_19 : decode cX2_hasHead 19 = .ok (.iconst 0, 1) := by decide +kernel
theorem dX2_hasHead_20 : decode cX2_hasHead 20 = .ok (.ireturn, 1) := by decide +kernel
theorem dX2_addHead_0 : decode cX2_addHead 0 = .ok (.aload_n 0, 1) := by decide +kernel
theorem dX2_addHead_1 : decode cX2_addHead 1 = .ok (.aload_n 0, 1) := by decide +kernel
theorem dX2_addHead_2 : decode cX2_addHead 2 = .ok (.getfield 21, 3) := by decide +kernel
theorem dX2_addHead_5 : decode cX2_addHead 5 = .ok (.ifCond .ne 7, 3) := by decide +kernel
theorem dX2_addHead_8 : decode cX2_addHead 8 = .ok (.iload_n 1, 1) := by decide +kernel
theorem dX2_addHead_9 : decode cX2_addHead 9 = .ok (.goto 11, 3) := by decide +kernel
theorem dX2_addHead_12 : decode cX2_addHead 12 = .ok (.aload_n 0, 1) := by decide +kernel
theorem dX2_addHead_13 : decode cX2_addHead 13 = .ok (.getfield 48, 3) := by decide +kernel
theorem dX2_addHead_16 : decode cX2_addHead 16 = .ok (.iload_n 1, 1) := by decide +kernel
theorem dX2_addHead_17 : decode cX2_addHead 17 = .ok (.invokestatic 51, 3) := by decide +kernel
theorem dX2_addHead_20 : decode cX2_addHead 20 = .ok (.putfield 48, 3) := by decide +kernel
theorem dX2_addHead_23 : decode cX2_addHead 23 = .ok (.aload_n 0, 1) := by decide +kernel
theorem dX2_addHead_24 : decode cX2_addHead 24 = .ok (.aload_n 0, 1) := by decide +kernel
theorem dX2_addHead_25 : decode cX2_addHead 25 = .ok (.getfield 21, 3) := by decide +kernel
theorem dX2_addHead_28 : decode cX2_addHead 28 = .ok (.ifCond .ne 7, 3) := by decide +kernel
theorem dX2_addHead_31 : decode cX2_addHead 31 = .ok (.iload_n 1, 1) := by decide +kernel
theorem dX2_addHead_32 : decode cX2_addHead 32 = .ok (.goto 11, 3) := by decide +kernel
theorem dX2_addHead_35 : decode cX2_addHead 35 = .ok (.aload_n 0, 1) := by decide +kernel
theorem dX2_addHead_36 : decode cX2_addHead 36 = .ok (.getfield 54, 3) := by decide +kernel
theorem dX2_addHead_39 : decode cX2_addHead 39 = .ok (.iload_n 1, 1) := by decide +kernel
theorem dX2_addHead_40 : decode cX2_addHead 40 = .ok (.invokestatic 42, 3) := by decide +kernel
theorem dX2_addHead_43 : decode cX2_addHead 43 = .ok (.putfield 54, 3) := by decide +kernel
theorem dX2_addHead_46 : decode cX2_addHead 46 = .ok (.aload_n 0, 1) := by decide +kernel
theorem dX2_addHead_47 : decode cX2_addHead 47 = .ok (.dup, 1) := by decide +kernel
theorem dX2_addHead_48 : decode cX2_addHead 48 = .ok (.getfield 24, 3) := by decide +kernel
theorem dX2_addHead_51 : decode cX2_addHead 51 = .ok (.iconst 1, 1) := by decide +kernel
theorem dX2_addHead_52 : decode cX2_addHead 52 = .ok (.iload_n 1, 1) := by decide +kernel
theorem dX2_addHead_53 : decode cX2_addHead 53 = .ok (.bipush 12, 2) := by decide +kernel
theorem dX2_addHead_55 : decode cX2_addHead 55 = .ok (.iadd, 1) := by decide +kernel
theorem dX2_addHead_56 : decode cX2_addHead 56 = .ok (.ishl, 1) := by decide +kernel
theorem dX2_addHead_57 : decode cX2_addHead 57 = .ok (.ior, 1) := by decide +kernel
theorem dX2_addHead_58 : decode cX2_addHead 58 = .ok (.putfield 24, 3) := by decide +kernel
theorem dX2_addHead_61 : decode cX2_addHead 61 = .ok (.aload_n 0, 1) := by decide +kernel
theorem dX2_addHead_62 : decode cX2_addHead 62 = .ok (.dup, 1) := by decide +kernel
theorem dX2_addHead_63 : decode cX2_addHead 63 = .ok (.getfield 21, 3) := by decide +kernel
theorem dX2_addHead_66 : decode cX2_addHead 66 = .ok (.iconst 1, 1) := by decide +kernel
theorem dX2_addHead_67 : decode cX2_addHead 67 = .ok (.iadd, 1) := by decide +kernel
theorem dX2_addHead_68 : decode cX2_addHead 68 = .ok (.putfield 21, 3) := by decide +kernel
theorem dX2_addHead_71 : decode cX2_addHead 71 = .ok (.return_, 1) := by decide +kernel
theorem dX2_isBroken_0 : decode cX2_isBroken 0 = .ok (.aload_n 0, 1) := by decide +kernel
theorem dX2_isBroken_1 : decode cX2_isBroken 1 = .ok (.getfield 33, 3) := by decide +kernel
theorem dX2_isBroken_4 : decode cX2_isBroken 4 = .ok (.iload_n 1, 1) := by decide +kernel
theorem dX2_isBroken_5 : decode cX2_isBroken 5 = .ok (.ishr, 1) := by decide +kernel
theorem dX2_isBroken_6 : decode cX2_isBroken 6 = .ok (.iconst 1, 1) := by decide +kernel
theorem dX2_isBroken_7 : decode cX2_isBroken 7 = .ok (.iand, 1) := by decide +kernel
theorem dX2_isBroken_8 : decode cX2_isBroken 8 = .ok (.iconst 1, 1) := by decide +kernel
theorem dX2_isBroken_9 : decode cX2_isBroken 9 = .ok (.if_icmp .ne 7, 3) := by decide +kernel
theorem dX2_isBroken_12 : decode cX2_isBroken 12 = .ok (.iconst 1, 1) := by decide +kernel
theorem dX2_isBroken_13 : decode cX2_isBroken 13 = .ok (.goto 4, 3) := by decide +kernel
theorem dX2_isBroken_16 : decode cX2_isBroken 16 = .ok (.iconst 0, 1) := by decide +kernel
theorem dX2_isBroken_17 : decode cX2_isBroken 17 = .ok (.ireturn, 1) := by decide +kernel
theorem dX2_setBroken_0 : decode cX2_setBroken 0 = .ok (.iconst 1, 1) := by decide +kernel
theorem dX2_setBroken_1 : decode cX2_setBroken 1 = .ok (.iload_n 1, 1) := by decide +kernel
theorem dX2_setBroken_2 : decode cX2_setBroken 2 = .ok (.ishl, 1) := by decide +kernel
theorem dX2_setBroken_3 : decode cX2_setBroken 3 = .ok (.istore_n 3, 1) := by decide +kernel
theorem dX2_setBroken_4 : decode cX2_setBroken 4 = .ok (.aload_n 0, 1) := by decide +kernel
theorem dX2_setBroken_5 : decode cX2_setBroken 5 = .ok (.iload_n 2, 1) := by decide +kernel
theorem dX2_setBroken_6 : decode cX2_setBroken 6 = .ok (.ifCond .eq 12, 3) := by decide +kernel
theorem dX2_setBroken_9 : decode cX2_setBroken 9 = .ok (.aload_n 0, 1) := by decide +kernel
theorem dX2_setBroken_10 : decode cX2_setBroken 10 = .ok (.getfield 33, 3) := by decide +kernel
theorem dX2_setBroken_13 : decode cX2_setBroken 13 = .ok (.iload_n 3, 1) := by decide +kernel
theorem dX2_setBroken_14 : decode cX2_setBroken 14 = .ok (.ior, 1) := by decide +kernel
theorem dX2_setBroken_15 : decode cX2_setBroken 15 = .ok (.goto 11, 3) := by decide +kernel
theorem dX2_setBroken_18 : decode cX2_setBroken 18 = .ok (.aload_n 0, 1) := by decide +kernel
theorem dX2_setBroken_19 : decode cX2_setBroken 19 = .ok (.getfield 33, 3) := by decide +kernel
theorem dX2_setBroken_22 : decode cX2_setBroken 22 = .ok (.iload_n 3, 1) := by decide +kernel
theorem dX2_setBroken_23 : decode cX2_setBroken 23 = .ok (.iconst (-1), 1) := by decide +kernel
theorem dX2_setBroken_24 : decode cX2_setBroken 24 = .ok (.ixor, 1) := by decide +kernel
theorem dX2_setBroken_25 : decode cX2_setBroken 25 = .ok (.iand, 1) := by decide +kernel
theorem dX2_setBroken_26 : decode cX2_setBroken 26 = .ok (.putfield 33, 3) := by decide +kernel
theorem dX2_setBroken_29 : decode cX2_setBroken 29 = .ok (.return_, 1) := by decide +kernel
theorem dX2_middle_0 : decode cX2_middle 0 = .ok (.bipush (-48), 2) := by decide +kernel
theorem dX2_middle_2 : decode cX2_middle 2 = .ok (.aload_n 0, 1) := by decide +kernel
theorem dX2_middle_3 : decode cX2_middle 3 = .ok (.getfield 27, 3) := by decide +kernel
theorem dX2_middle_6 : decode cX2_middle 6 = .ok (.imul, 1) := by decide +kernel
theorem dX2_middle_7 : decode cX2_middle 7 = .ok (.ireturn, 1) := by decide +kernel
theorem dX2_wayAlone_0 : decode cX2_wayAlone 0 = .ok (.iload_n 1, 1) := by decide +kernel
theorem dX2_wayAlone_1 : decode cX2_wayAlone 1 = .ok (.ifCond .eq 16, 3) := by decide +kernel
theorem dX2_wayAlone_4 : decode cX2_wayAlone 4 = .ok (.aload_n 0, 1) := by decide +kernel
theorem dX2_wayAlone_5 : decode cX2_wayAlone 5 = .ok (.getfield 15, 3) := by decide +kernel
theorem dX2_wayAlone_8 : decode cX2_wayAlone 8 = .ok (.ifCond .ne 7, 3) := by decide +kernel
theorem dX2_wayAlone_11 : decode cX2_wayAlone 11 = .ok (.iconst 1, 1) := by decide +kernel
theorem dX2_wayAlone_12 : decode cX2_wayAlone 12 = .ok (.goto 4, 3) := by decide +kernel
theorem dX2_wayAlone_15 : decode cX2_wayAlone 15 = .ok (.iconst (-1), 1) := by decide +kernel
theorem dX2_wayAlone_16 : decode cX2_wayAlone 16 = .ok (.ireturn, 1) := by decide +kernel
theorem dX2_wayAlone_17 : decode cX2_wayAlone 17 = .ok (.aload_n 0, 1) := by decide +kernel
theorem dX2_wayAlone_18 : decode cX2_wayAlone 18 = .ok (.getfield 48, 3) := by decide +kernel
theorem dX2_wayAlone_21 : decode cX2_wayAlone 21 = .ok (.aload_n 0, 1) := by decide +kernel
theorem dX2_wayAlone_22 : decode cX2_wayAlone 22 = .ok (.getfield 54, 3) := by decide +kernel
theorem dX2_wayAlone_25 : decode cX2_wayAlone 25 = .ok (.iadd, 1) := by decide +kernel
theorem dX2_wayAlone_26 : decode cX2_wayAlone 26 = .ok (.ifCond .ge 7, 3) := by decide +kernel
theorem dX2_wayAlone_29 : decode cX2_wayAlone 29 = .ok (.iconst 1, 1) := by decide +kernel
theorem dX2_wayAlone_30 : decode cX2_wayAlone 30 = .ok (.goto 4, 3) := by decide +kernel
theorem dX2_wayAlone_33 : decode cX2_wayAlone 33 = .ok (.iconst (-1), 1) := by decide +kernel
theorem dX2_wayAlone_34 : decode cX2_wayAlone 34 = .ok (.ireturn, 1) := by decide +kernel
theorem dX2_aim_0 : decode cX2_aim 0 = .ok (.iconst 3, 1) := by decide +kernel
theorem dX2_aim_1 : decode cX2_aim 1 = .ok (.iconst 0, 1) := by decide +kernel
theorem dX2_aim_2 : decode cX2_aim 2 = .ok (.aload_n 0, 1) := by decide +kernel
theorem dX2_aim_3 : decode cX2_aim 3 = .ok (.invokevirtual 57, 3) := by decide +kernel
theorem dX2_aim_6 : decode cX2_aim 6 = .ok (.iconst 2, 1) := by decide +kernel
theorem dX2_aim_7 : decode cX2_aim 7 = .ok (.isub, 1) := by decide +kernel
theorem dX2_aim_8 : decode cX2_aim 8 = .ok (.invokestatic 42, 3) := by decide +kernel
theorem dX2_aim_11 : decode cX2_aim 11 = .ok (.imul, 1) := by decide +kernel
theorem dX2_aim_12 : decode cX2_aim 12 = .ok (.istore_n 3, 1) := by decide +kernel
theorem dX2_aim_13 : decode cX2_aim 13 = .ok (.aload_n 0, 1) := by decide +kernel
theorem dX2_aim_14 : decode cX2_aim 14 = .ok (.iload_n 1, 1) := by decide +kernel
theorem dX2_aim_15 : decode cX2_aim 15 = .ok (.putfield 61, 3) := by decide +kernel
theorem dX2_aim_18 : decode cX2_aim 18 = .ok (.aload_n 0, 1) := by decide +kernel
theorem dX2_aim_19 : decode cX2_aim 19 = .ok (.iconst 2, 1) := by decide +kernel
theorem dX2_aim_20 : decode cX2_aim 20 = .ok (.aload_n 0, 1) := by decide +kernel
theorem dX2_aim_21 : decode cX2_aim 21 = .ok (.getfield 61, 3) := by decide +kernel
theorem dX2_aim_24 : decode cX2_aim 24 = .ok (.iconst 1, 1) := by decide +kernel
theorem dX2_aim_25 : decode cX2_aim 25 = .ok (.if_icmp .ne 10, 3) := by decide +kernel
theorem dX2_aim_28 : decode cX2_aim 28 = .ok (.aload_n 0, 1) := by decide +kernel
theorem dX2_aim_29 : decode cX2_aim 29 = .ok (.getfield 54, 3) := by decide +kernel
theorem dX2_aim_32 : decode cX2_aim 32 = .ok (.goto 7, 3) := by decide +kernel
theorem dX2_aim_35 : decode cX2_aim 35 = .ok (.aload_n 0, 1) := by decide +kernel
theorem dX2_aim_36 : decode cX2_aim 36 = .ok (.getfield 48, 3) := by decide +kernel
theorem dX2_aim_39 : decode cX2_aim 39 = .ok (.imul, 1) := by decide +kernel
theorem dX2_aim_40 : decode cX2_aim 40 = .ok (.aload_n 0, 1) := by decide +kernel
theorem dX2_aim_41 : decode cX2_aim 41 = .ok (.invokevirtual 64, 3) := by decide +kernel
theorem dX2_aim_44 : decode cX2_aim 44 = .ok (.iadd, 1) := by decide +kernel
theorem dX2_aim_45 : decode cX2_aim 45 = .ok (.putfield 67, 3) := by decide +kernel
theorem dX2_aim_48 : decode cX2_aim 48 = .ok (.aload_n 0, 1) := by decide +kernel
theorem dX2_aim_49 : decode cX2_aim 49 = .ok (.bipush 14, 2) := by decide +kernel
theorem dX2_aim_51 : decode cX2_aim 51 = .ok (.iload_n 3, 1) := by decide +kernel
theorem dX2_aim_52 : decode cX2_aim 52 = .ok (.iadd, 1) := by decide +kernel
theorem dX2_aim_53 : decode cX2_aim 53 = .ok (.putfield 70, 3) := by decide +kernel
theorem dX2_aim_56 : decode cX2_aim 56 = .ok (.aload_n 0, 1) := by decide +kernel
theorem dX2_aim_57 : decode cX2_aim 57 = .ok (.bipush 10, 2) := by decide +kernel
theorem dX2_aim_59 : decode cX2_aim 59 = .ok (.iload_n 3, 1) := by decide +kernel
theorem dX2_aim_60 : decode cX2_aim 60 = .ok (.iadd, 1) := by decide +kernel
theorem dX2_aim_61 : decode cX2_aim 61 = .ok (.putfield 73, 3) := by decide +kernel
theorem dX2_aim_64 : decode cX2_aim 64 = .ok (.aload_n 0, 1) := by decide +kernel
theorem dX2_aim_65 : decode cX2_aim 65 = .ok (.aload_n 0, 1) := by decide +kernel
theorem dX2_aim_66 : decode cX2_aim 66 = .ok (.invokevirtual 64, 3) := by decide +kernel
theorem dX2_aim_69 : decode cX2_aim 69 = .ok (.invokevirtual 76, 3) := by decide +kernel
theorem dX2_aim_72 : decode cX2_aim 72 = .ok (.istore 4, 2) := by decide +kernel
theorem dX2_aim_74 : decode cX2_aim 74 = .ok (.iload_n 2, 1) := by decide +kernel
theorem dX2_aim_75 : decode cX2_aim 75 = .ok (.ifCond .ne 18, 3) := by decide +kernel
theorem dX2_aim_78 : decode cX2_aim 78 = .ok (.iload 4, 2) := by decide +kernel
theorem dX2_aim_80 : decode cX2_aim 80 = .ok (.aload_n 0, 1) := by decide +kernel
theorem dX2_aim_81 : decode cX2_aim 81 = .ok (.getfield 70, 3) := by decide +kernel
theorem dX2_aim_84 : decode cX2_aim 84 = .ok (.if_icmp .le 9, 3) := by decide +kernel
theorem dX2_aim_87 : decode cX2_aim 87 = .ok (.aload_n 0, 1) := by decide +kernel
theorem dX2_aim_88 : decode cX2_aim 88 = .ok (.iload 4, 2) := by decide +kernel
theorem dX2_aim_90 : decode cX2_aim 90 = .ok (.putfield 70, 3) := by decide +kernel
theorem dX2_aim_93 : decode cX2_aim 93 = .ok (.return_, 1) := by decide +kernel
theorem dX2_lengthTo_0 : decode cX2_lengthTo 0 = .ok (.iload_n 1, 1) := by decide +kernel
theorem dX2_lengthTo_1 : decode cX2_lengthTo 1 = .ok (.aload_n 0, 1) := by decide +kernel
theorem dX2_lengthTo_2 : decode cX2_lengthTo 2 = .ok (.getfield 67, 3) := by decide +kernel
theorem dX2_lengthTo_5 : decode cX2_lengthTo 5 = .ok (.isub, 1) := by decide +kernel
theorem dX2_lengthTo_6 : decode cX2_lengthTo 6 = .ok (.aload_n 0, 1) := by decide +kernel
theorem dX2_lengthTo_7 : decode cX2_lengthTo 7 = .ok (.getfield 61, 3) := by decide +kernel
theorem dX2_lengthTo_10 : decode cX2_lengthTo 10 = .ok (.imul, 1) := by decide +kernel
theorem dX2_lengthTo_11 : decode cX2_lengthTo 11 = .ok (.ireturn, 1) := by decide +kernel
set_option maxRecDepth 20000 in
theorem bkX2_init_0 {w : zW} {Γ : zC} {N S : Nat} {Rt : zR} (X : zm_X w Γ mX2_init N S Rt) : ∀ lv st h, (zi_lda 0 (zi_obj (zi_vret Rt))) lv st h → zm_V w Γ 0 lv st h := (zs_aload_n X rfl dX2_init_0 (zs_obj X (by decide) kw_X2_3 ko_1 ko_2 dX2_init_1 (zs_vret X rfl dX2_init_4)))
set_option maxRecDepth 20000 in
theorem bkX2_ticksOf_0 {w : zW} {Γ : zC} {N S : Nat} {Rt : zR} (X : zm_X w Γ mX2_ticksOf N S Rt) : ∀ lv st h, (zi_push (.int 256) (zi_ldi 0 (zi_b (fun x y => x >>> (y &&& 31)) (zi_sti 2 (zi_ldi 1 (zi_if (fun x => x = 0) (zi_ldi 2 (zi_iret Rt)) (zi_ldi 1 (zi_push (.int 1) (zi_ic (fun x y => x = y) (zi_ldi 2 (zi_ldi 2 (zi_push (.int 2) (zi_d (fun x y => x / y) (zi_b (fun x y => x + y) (zi_iret Rt)))))) (zi_ldi 2 (zi_push (.int 3) (zi_ldi 2 (zi_b (fun x y => x * y) (zi_push (.int 4) (zi_d (fun x y => x / y) (zi_b (fun x y => x + y) (zi_iret Rt))))))))))))))))) lv st h → zm_V w Γ 0 lv st h := (zs_sipush X (by decide) dX2_ticksOf_0 (zs_iload_n X rfl dX2_ticksOf_3 (zs_ishr X dX2_ticksOf_4 (zs_istore_n X rfl (by decide) dX2_ticksOf_5 (zs_iload_n X rfl dX2_ticksOf_6 (zs_if_ne X dX2_ticksOf_7 (by decide) (zs_iload_n X rfl dX2_ticksOf_14 (zs_iconst X (by decide) dX2_ticksOf_15 (zs_icmp_ne X dX2_ticksOf_16 (by decide) (zs_iload_n X rfl dX2_ticksOf_27 (zs_iconst X (by decide) dX2_ticksOf_28 (zs_iload_n X rfl dX2_ticksOf_29 (zs_imul X dX2_ticksOf_30 (zs_iconst X (by decide) dX2_ticksOf_31 (zs_idiv X dX2_ticksOf_32 (zs_iadd X dX2_ticksOf_33 (zs_iret X rfl dX2_ticksOf_34)))))))) (zs_iload_n X rfl dX2_ticksOf_19 (zs_iload_n X rfl dX2_ticksOf_20 (zs_iconst X (by decide) dX2_ticksOf_21 (zs_idiv X dX2_ticksOf_22 (zs_iadd X dX2_ticksOf_23 (zs_goto X dX2_ticksOf_24 (by decide) (zs_iret X rfl dX2_ticksOf_34)))))))))) (zs_iload_n X rfl dX2_ticksOf_10 (zs_goto X dX2_ticksOf_11 (by decide) (zs_iret X rfl dX2_ticksOf_34)))))))))
set_option maxRecDepth 20000 in
theorem bkX2_reset_0 {w : zW} {Γ : zC} {N S : Nat} {Rt : zR} (X : zm_X w Γ mX2_reset N S Rt) : ∀ lv st h, (zi_lda 0 (zi_ldi 1 (zi_pf 2 0 .int (zi_lda 0 (zi_ldi 2 (zi_pf 2 1 .int (zi_lda 0 (zi_ldi 3 (zi_pf 2 2 .int (zi_lda 0 (zi_push (.int 0) (zi_pf 2 5 .int (zi_lda 0 (zi_push (.int 0) (zi_pf 2 16 .int (zi_lda 0 (zi_push (.int 0) (zi_pf 2 8 .int (zi_lda 0 (zi_push (.int 0) (zi_pf 2 9 .int (zi_lda 0 (zi_push (.int 0) (zi_pf 2 17 .int (zi_lda 0 (zi_push (.int (-1001)) (zi_pf 2 10 .int (zi_lda 0 (zi_push (.int 0) (zi_pf 2 11 .int (zi_vret Rt))))))))))))))))))))))))))))))) lv st h → zm_V w Γ 0 lv st h := (zs_aload_n X rfl dX2_reset_0 (zs_iload_n X rfl dX2_reset_1 (zs_pf X (ci := 2) rfl (by decide) zm_in2 kw_X2_9 tyX2 tyX2_ok nmX2 rfl rfl dX2_reset_2 (zs_aload_n X rfl dX2_reset_5 (zs_iload_n X rfl dX2_reset_6 (zs_pf X (ci := 2) rfl (by decide) zm_in2 kw_X2_15 tyX2 tyX2_ok nmX2 rfl rfl dX2_reset_7 (zs_aload_n X rfl dX2_reset_10 (zs_iload_n X rfl dX2_reset_11 (zs_pf X (ci := 2) rfl (by decide) zm_in2 kw_X2_18 tyX2 tyX2_ok nmX2 rfl rfl dX2_reset_12 (zs_aload_n X rfl dX2_reset_15 (zs_iconst X (by decide) dX2_reset_16 (zs_pf X (ci := 2) rfl (by decide) zm_in2 kw_X2_21 tyX2 tyX2_ok nmX2 rfl rfl dX2_reset_17 (zs_aload_n X rfl dX2_reset_20 (zs_iconst X (by decide) dX2_reset_21 (zs_pf X (ci := 2) rfl (by decide) zm_in2 kw_X2_24 tyX2 tyX2_ok nmX2 rfl rfl dX2_reset_22 (zs_aload_n X rfl dX2_reset_25 (zs_iconst X (by decide) dX2_reset_26 (zs_pf X (ci := 2) rfl (by decide) zm_in2 kw_X2_27 tyX2 tyX2_ok nmX2 rfl rfl dX2_reset_27 (zs_aload_n X rfl dX2_reset_30 (zs_iconst X (by decide) dX2_reset_31 (zs_pf X (ci := 2) rfl (by decide) zm_in2 kw_X2_30 tyX2 tyX2_ok nmX2 rfl rfl dX2_reset_32 (zs_aload_n X rfl dX2_reset_35 (zs_iconst X (by decide) dX2_reset_36 (zs_pf X (ci := 2) rfl (by decide) zm_in2 kw_X2_33 tyX2 tyX2_ok nmX2 rfl rfl dX2_reset_37 (zs_aload_n X rfl dX2_reset_40 (zs_sipush X (by decide) dX2_reset_41 (zs_pf X (ci := 2) rfl (by decide) zm_in2 kw_X2_36 tyX2 tyX2_ok nmX2 rfl rfl dX2_reset_44 (zs_aload_n X rfl dX2_reset_47 (zs_iconst X (by decide) dX2_reset_48 (zs_pf X (ci := 2) rfl (by decide) zm_in2 kw_X2_39 tyX2 tyX2_ok nmX2 rfl rfl dX2_reset_49 (zs_vret X rfl dX2_reset_52)))))))))))))))))))))))))))))))
set_option maxRecDepth 20000 in
theorem bkX2_isRest_0 {w : zW} {Γ : zC} {N S : Nat} {Rt : zR} (X : zm_X w Γ mX2_isRest N S Rt) : ∀ lv st h, (zi_lda 0 (zi_gf 2 5 (zi_if (fun x => x = 0) (zi_push (.int 1) (zi_zret Rt)) (zi_push (.int 0) (zi_zret Rt))))) lv st h → zm_V w Γ 0 lv st h := (zs_aload_n X rfl dX2_isRest_0 (zs_gf X (ci := 2) rfl (by decide) zm_in2 kw_X2_21 dX2_isRest_1 (zs_if_ne X dX2_isRest_4 (by decide) (zs_iconst X (by decide) dX2_isRest_11 (zs_zret X rfl dX2_isRest_12)) (zs_iconst X (by decide) dX2_isRest_7 (zs_goto X dX2_isRest_8 (by decide) (zs_zret X rfl dX2_isRest_12))))))
set_option maxRecDepth 20000 in
theorem bkX2_isShort_0 {w : zW} {Γ : zC} {N S : Nat} {Rt : zR} (X : zm_X w Γ mX2_isShort N S Rt) : ∀ lv st h, (zi_lda 0 (zi_gf 2 2 (zi_push (.int 3) (zi_ic (fun x y => x < y) (zi_push (.int 0) (zi_zret Rt)) (zi_push (.int 1) (zi_zret Rt)))))) lv st h → zm_V w Γ 0 lv st h := (zs_aload_n X rfl dX2_isShort_0 (zs_gf X (ci := 2) rfl (by decide) zm_in2 kw_X2_18 dX2_isShort_1 (zs_iconst X (by decide) dX2_isShort_4 (zs_icmp_lt X dX2_isShort_5 (by decide) (zs_iconst X (by decide) dX2_isShort_12 (zs_zret X rfl dX2_isShort_13)) (zs_iconst X (by decide) dX2_isShort_8 (zs_goto X dX2_isShort_9 (by decide) (zs_zret X rfl dX2_isShort_13)))))))
set_option maxRecDepth 20000 in
theorem bkX2_levels_0 {w : zW} {Γ : zC} {N S : Nat} {Rt : zR} (X : zm_X w Γ mX2_levels N S Rt) : ∀ lv st h, (zi_push (.int 0) (zi_lda 0 (zi_gf 2 2 (zi_push (.int 2) (zi_b (fun x y => x - y) (zi_mx N S (zi_iret Rt))))))) lv st h → zm_V w Γ 0 lv st h := (zs_iconst X (by decide) dX2_levels_0 (zs_aload_n X rfl dX2_levels_1 (zs_gf X (ci := 2) rfl (by decide) zm_in2 kw_X2_18 dX2_levels_2 (zs_iconst X (by decide) dX2_levels_5 (zs_isub X dX2_levels_6 (zs_mx X (by decide) trivial kw_X2_42 km_mx1 km_2 km_mx3 dX2_levels_7 (zs_iret X rfl dX2_levels_10)))))))
set_option maxRecDepth 20000 in
theorem bkX2_hasHead_0 {w : zW} {Γ : zC} {N S : Nat} {Rt : zR} (X : zm_X w Γ mX2_hasHead N S Rt) : ∀ lv st h, (zi_lda 0 (zi_gf 2 16 (zi_ldi 1 (zi_push (.int 12) (zi_b (fun x y => x + y) (zi_b (fun x y => x >>> (y &&& 31)) (zi_push (.int 1) (zi_b (fun x y => x &&& y) (zi_push (.int 1) (zi_ic (fun x y => x = y) (zi_push (.int 1) (zi_zret Rt)) (zi_push (.int 0) (zi_zret Rt)))))))))))) lv st h → zm_V w Γ 0 lv st h := (zs_aload_n X rfl dX2_hasHead_0 (zs_gf X (ci := 2) rfl (by decide) zm_in2 kw_X2_24 dX2_hasHead_1 (zs_iload_n X rfl dX2_hasHead_4 (zs_bipush X (by decide) dX2_hasHead_5 (zs_iadd X dX2_hasHead_7 (zs_ishr X dX2_hasHead_8 (zs_iconst X (by decide) dX2_hasHead_9 (zs_iand X dX2_hasHead_10 (zs_iconst X (by decide) dX2_hasHead_11 (zs_icmp_ne X dX2_hasHead_12 (by decide) (zs_iconst X (by decide) dX2_hasHead_19 (zs_zret X rfl dX2_hasHead_20)) (zs_iconst X (by decide) dX2_hasHead_15 (zs_goto X dX2_hasHead_16 (by decide) (zs_zret X rfl dX2_hasHead_20)))))))))))))
set_option maxRecDepth 20000 in
theorem bkX2_addHead_0 {w : zW} {Γ : zC} {N S : Nat} {Rt : zR} (X : zm_X w Γ mX2_addHead N S Rt) : ∀ lv st h, (zi_lda 0 (zi_lda 0 (zi_gf 2 5 (zi_if (fun x => x = 0) (zi_ldi 1 (zm_V w Γ 20)) (zi_lda 0 (zi_gf 2 6 (zi_ldi 1 (zi_mn N S (zm_V w Γ 20))))))))) lv st h → zm_V w Γ 0 lv st h := (zs_aload_n X rfl dX2_addHead_0 (zs_aload_n X rfl dX2_addHead_1 (zs_gf X (ci := 2) rfl (by decide) zm_in2 kw_X2_21 dX2_addHead_2 (zs_if_ne X dX2_addHead_5 (by decide) (zs_aload_n X rfl dX2_addHead_12 (zs_gf X (ci := 2) rfl (by decide) zm_in2 kw_X2_48 dX2_addHead_13 (zs_iload_n X rfl dX2_addHead_16 (zs_mn X (by decide) trivial kw_X2_51 km_mn1 km_2 km_mn3 dX2_addHead_17 (fun _ _ _ h => h))))) (zs_iload_n X rfl dX2_addHead_8 (zs_goto X dX2_addHead_9 (by decide) (fun _ _ _ h => h)))))))
set_option maxRecDepth 20000 in
theorem bkX2_addHead_20 {w : zW} {Γ : zC} {N S : Nat} {Rt : zR} (X : zm_X w Γ mX2_addHead N S Rt) : ∀ lv st h, (zi_pf 2 6 .int (zi_lda 0 (zi_lda 0 (zi_gf 2 5 (zi_if (fun x => x = 0) (zi_ldi 1 (zm_V w Γ 43)) (zi_lda 0 (zi_gf 2 7 (zi_ldi 1 (zi_mx N S (zm_V w Γ 43)))))))))) lv st h → zm_V w Γ 20 lv st h := (zs_pf X (ci := 2) rfl (by decide) zm_in2 kw_X2_48 tyX2 tyX2_ok nmX2 rfl rfl dX2_addHead_20 (zs_aload_n X rfl dX2_addHead_23 (zs_aload_n X rfl dX2_addHead_24 (zs_gf X (ci := 2) rfl (by decide) zm_in2 kw_X2_21 dX2_addHead_25 (zs_if_ne X dX2_addHead_28 (by decide) (zs_aload_n X rfl dX2_addHead_35 (zs_gf X (ci := 2) rfl (by decide) zm_in2 kw_X2_54 dX2_addHead_36 (zs_iload_n X rfl dX2_addHead_39 (zs_mx X (by decide) trivial kw_X2_42 km_mx1 km_2 km_mx3 dX2_addHead_40 (fun _ _ _ h => h))))) (zs_iload_n X rfl dX2_addHead_31 (zs_goto X dX2_addHead_32 (by decide) (fun _ _ _ h => h))))))))
set_option maxRecDepth 20000 in
theorem bkX2_addHead_43 {w : zW} {Γ : zC} {N S : Nat} {Rt : zR} (X : zm_X w Γ mX2_addHead N S Rt) : ∀ lv st h, (zi_pf 2 7 .int (zi_lda 0 (zi_dup (zi_gf 2 16 (zi_push (.int 1) (zi_ldi 1 (zi_push (.int 12) (zi_b (fun x y => x + y) (zi_b (fun x y => x <<< (y &&& 31)) (zi_b (fun x y => x ||| y) (zi_pf 2 16 .int (zi_lda 0 (zi_dup (zi_gf 2 5 (zi_push (.int 1) (zi_b (fun x y => x + y) (zi_pf 2 5 .int (zi_vret Rt)))))))))))))))))) lv st h → zm_V w Γ 43 lv st h := (zs_pf X (ci := 2) rfl (by decide) zm_in2 kw_X2_54 tyX2 tyX2_ok nmX2 rfl rfl dX2_addHead_43 (zs_aload_n X rfl dX2_addHead_46 (zs_dup X dX2_addHead_47 (zs_gf X (ci := 2) rfl (by decide) zm_in2 kw_X2_24 dX2_addHead_48 (zs_iconst X (by decide) dX2_addHead_51 (zs_iload_n X rfl dX2_addHead_52 (zs_bipush X (by decide) dX2_addHead_53 (zs_iadd X dX2_addHead_55 (zs_ishl X dX2_addHead_56 (zs_ior X dX2_addHead_57 (zs_pf X (ci := 2) rfl (by decide) zm_in2 kw_X2_24 tyX2 tyX2_ok nmX2 rfl rfl dX2_addHead_58 (zs_aload_n X rfl dX2_addHead_61 (zs_dup X dX2_addHead_62 (zs_gf X (ci := 2) rfl (by decide) zm_in2 kw_X2_21 dX2_addHead_63 (zs_iconst X (by decide) dX2_addHead_66 (zs_iadd X dX2_addHead_67 (zs_pf X (ci := 2) rfl (by decide) zm_in2 kw_X2_21 tyX2 tyX2_ok nmX2 rfl rfl dX2_addHead_68 (zs_vret X rfl dX2_addHead_71))))))))))))))))))
set_option maxRecDepth 20000 in
theorem bkX2_isBroken_0 {w : zW} {Γ : zC} {N S : Nat} {Rt : zR} (X : zm_X w Γ mX2_isBroken N S Rt) : ∀ lv st h, (zi_lda 0 (zi_gf 2 17 (zi_ldi 1 (zi_b (fun x y => x >>> (y &&& 31)) (zi_push (.int 1) (zi_b (fun x y => x &&& y) (zi_push (.int 1) (zi_ic (fun x y => x = y) (zi_push (.int 1) (zi_zret Rt)) (zi_push (.int 0) (zi_zret Rt)))))))))) lv st h → zm_V w Γ 0 lv st h := (zs_aload_n X rfl dX2_isBroken_0 (zs_gf X (ci := 2) rfl (by decide) zm_in2 kw_X2_33 dX2_isBroken_1 (zs_iload_n X rfl dX2_isBroken_4 (zs_ishr X dX2_isBroken_5 (zs_iconst X (by decide) dX2_isBroken_6 (zs_iand X dX2_isBroken_7 (zs_iconst X (by decide) dX2_isBroken_8 (zs_icmp_ne X dX2_isBroken_9 (by decide) (zs_iconst X (by decide) dX2_isBroken_16 (zs_zret X rfl dX2_isBroken_17)) (zs_iconst X (by decide) dX2_isBroken_12 (zs_goto X dX2_isBroken_13 (by decide) (zs_zret X rfl dX2_isBroken_17)))))))))))
set_option maxRecDepth 20000 in
theorem bkX2_setBroken_0 {w : zW} {Γ : zC} {N S : Nat} {Rt : zR} (X : zm_X w Γ mX2_setBroken N S Rt) : ∀ lv st h, (zi_push (.int 1) (zi_ldi 1 (zi_b (fun x y => x <<< (y &&& 31)) (zi_sti 3 (zi_lda 0 (zi_ldi 2 (zi_if (fun x => x = 0) (zi_lda 0 (zi_gf 2 17 (zi_ldi 3 (zi_push (.int (-1)) (zi_b (fun x y => x ^^^ y) (zi_b (fun x y => x &&& y) (zi_pf 2 17 .int (zi_vret Rt)))))))) (zi_lda 0 (zi_gf 2 17 (zi_ldi 3 (zi_b (fun x y => x ||| y) (zi_pf 2 17 .int (zi_vret Rt))))))))))))) lv st h → zm_V w Γ 0 lv st h := (zs_iconst X (by decide) dX2_setBroken_0 (zs_iload_n X rfl dX2_setBroken_1 (zs_ishl X dX2_setBroken_2 (zs_istore_n X rfl (by decide) dX2_setBroken_3 (zs_aload_n X rfl dX2_setBroken_4 (zs_iload_n X rfl dX2_setBroken_5 (zs_if_eq X dX2_setBroken_6 (by decide) (zs_aload_n X rfl dX2_setBroken_18 (zs_gf X (ci := 2) rfl (by decide) zm_in2 kw_X2_33 dX2_setBroken_19 (zs_iload_n X rfl dX2_setBroken_22 (zs_iconst X (by decide) dX2_setBroken_23 (zs_ixor X dX2_setBroken_24 (zs_iand X dX2_setBroken_25 (zs_pf X (ci := 2) rfl (by decide) zm_in2 kw_X2_33 tyX2 tyX2_ok nmX2 rfl rfl dX2_setBroken_26 (zs_vret X rfl dX2_setBroken_29)))))))) (zs_aload_n X rfl dX2_setBroken_9 (zs_gf X (ci := 2) rfl (by decide) zm_in2 kw_X2_33 dX2_setBroken_10 (zs_iload_n X rfl dX2_setBroken_13 (zs_ior X dX2_setBroken_14 (zs_goto X dX2_setBroken_15 (by decide) (zs_pf X (ci := 2) rfl (by decide) zm_in2 kw_X2_33 tyX2 tyX2_ok nmX2 rfl rfl dX2_setBroken_26 (zs_vret X rfl dX2_setBroken_29))))))))))))))
set_option maxRecDepth 20000 in
theorem bkX2_middle_0 {w : zW} {Γ : zC} {N S : Nat} {Rt : zR} (X : zm_X w Γ mX2_middle N S Rt) : ∀ lv st h, (zi_push (.int (-48)) (zi_lda 0 (zi_gf 2 8 (zi_b (fun x y => x * y) (zi_iret Rt))))) lv st h → zm_V w Γ 0 lv st h := (zs_bipush X (by decide) dX2_middle_0 (zs_aload_n X rfl dX2_middle_2 (zs_gf X (ci := 2) rfl (by decide) zm_in2 kw_X2_27 dX2_middle_3 (zs_imul X dX2_middle_6 (zs_iret X rfl dX2_middle_7)))))
set_option maxRecDepth 20000 in
theorem bkX2_wayAlone_0 {w : zW} {Γ : zC} {N S : Nat} {Rt : zR} (X : zm_X w Γ mX2_wayAlone N S Rt) : ∀ lv st h, (zi_ldi 1 (zi_if (fun x => x = 0) (zi_lda 0 (zi_gf 2 6 (zi_lda 0 (zi_gf 2 7 (zi_b (fun x y => x + y) (zi_if (fun x => 0 ≤ x) (zi_push (.int (-1)) (zi_iret Rt)) (zi_push (.int 1) (zi_iret Rt)))))))) (zi_lda 0 (zi_gf 2 1 (zi_if (fun x => x = 0) (zi_push (.int 1) (zi_iret Rt)) (zi_push (.int (-1)) (zi_iret Rt))))))) lv st h → zm_V w Γ 0 lv st h := (zs_iload_n X rfl dX2_wayAlone_0 (zs_if_eq X dX2_wayAlone_1 (by decide) (zs_aload_n X rfl dX2_wayAlone_17 (zs_gf X (ci := 2) rfl (by decide) zm_in2 kw_X2_48 dX2_wayAlone_18 (zs_aload_n X rfl dX2_wayAlone_21 (zs_gf X (ci := 2) rfl (by decide) zm_in2 kw_X2_54 dX2_wayAlone_22 (zs_iadd X dX2_wayAlone_25 (zs_if_ge X dX2_wayAlone_26 (by decide) (zs_iconst X (by decide) dX2_wayAlone_33 (zs_iret X rfl dX2_wayAlone_34)) (zs_iconst X (by decide) dX2_wayAlone_29 (zs_goto X dX2_wayAlone_30 (by decide) (zs_iret X rfl dX2_wayAlone_34))))))))) (zs_aload_n X rfl dX2_wayAlone_4 (zs_gf X (ci := 2) rfl (by decide) zm_in2 kw_X2_15 dX2_wayAlone_5 (zs_if_ne X dX2_wayAlone_8 (by decide) (zs_iconst X (by decide) dX2_wayAlone_15 (zs_iret X rfl dX2_wayAlone_16)) (zs_iconst X (by decide) dX2_wayAlone_11 (zs_goto X dX2_wayAlone_12 (by decide) (zs_iret X rfl dX2_wayAlone_16))))))))
set_option maxRecDepth 20000 in
theorem bkX2_aim_0 {w : zW} {Γ : zC} {N S : Nat} {Rt : zR} (X : zm_X w Γ mX2_aim N S Rt) : ∀ lv st h, (zi_push (.int 3) (zi_push (.int 0) (zi_lda 0 (zi_cv w mX2_levels 2 1 N S (zi_push (.int 2) (zi_b (fun x y => x - y) (zi_mx N S (zi_b (fun x y => x * y) (zi_sti 3 (zi_lda 0 (zi_ldi 1 (zi_pf 2 12 .int (zi_lda 0 (zi_push (.int 2) (zi_lda 0 (zi_gf 2 12 (zi_push (.int 1) (zi_ic (fun x y => x = y) (zi_lda 0 (zi_gf 2 7 (zm_V w Γ 39))) (zi_lda 0 (zi_gf 2 6 (zm_V w Γ 39))))))))))))))))))))) lv st h → zm_V w Γ 0 lv st h := (zs_iconst X (by decide) dX2_aim_0 (zs_iconst X (by decide) dX2_aim_1 (zs_aload_n X rfl dX2_aim_2 (zs_cv X (M' := mX2_levels) (n := 0) kd_X2_levels ki_X2 (by decide +kernel) (by decide) kw_X2_57 rfl ks_X2_levels kl_X2_levels dX2_aim_3 (zs_iconst X (by decide) dX2_aim_6 (zs_isub X dX2_aim_7 (zs_mx X (by decide) trivial kw_X2_42 km_mx1 km_2 km_mx3 dX2_aim_8 (zs_imul X dX2_aim_11 (zs_istore_n X rfl (by decide) dX2_aim_12 (zs_aload_n X rfl dX2_aim_13 (zs_iload_n X rfl dX2_aim_14 (zs_pf X (ci := 2) rfl (by decide) zm_in2 kw_X2_61 tyX2 tyX2_ok nmX2 rfl rfl dX2_aim_15 (zs_aload_n X rfl dX2_aim_18 (zs_iconst X (by decide) dX2_aim_19 (zs_aload_n X rfl dX2_aim_20 (zs_gf X (ci := 2) rfl (by decide) zm_in2 kw_X2_61 dX2_aim_21 (zs_iconst X (by decide) dX2_aim_24 (zs_icmp_ne X dX2_aim_25 (by decide) (zs_aload_n X rfl dX2_aim_35 (zs_gf X (ci := 2) rfl (by decide) zm_in2 kw_X2_48 dX2_aim_36 (fun _ _ _ h => h))) (zs_aload_n X rfl dX2_aim_28 (zs_gf X (ci := 2) rfl (by decide) zm_in2 kw_X2_54 dX2_aim_29 (zs_goto X dX2_aim_32 (by decide) (fun _ _ _ h => h))))))))))))))))))))))
set_option maxRecDepth 20000 in
theorem bkX2_aim_39 {w : zW} {Γ : zC} {N S : Nat} {Rt : zR} (X : zm_X w Γ mX2_aim N S Rt) : ∀ lv st h, (zi_b (fun x y => x * y) (zi_lda 0 (zi_cv w mX2_middle 2 1 N S (zi_b (fun x y => x + y) (zi_pf 2 13 .int (zi_lda 0 (zi_push (.int 14) (zi_ldi 3 (zi_b (fun x y => x + y) (zi_pf 2 14 .int (zi_lda 0 (zi_push (.int 10) (zi_ldi 3 (zi_b (fun x y => x + y) (zi_pf 2 15 .int (zi_lda 0 (zi_lda 0 (zi_cv w mX2_middle 2 1 N S (zi_cv w mX2_lengthTo 2 2 N S (zi_sti 4 (zi_ldi 2 (zi_if (fun x => x = 0) (zi_ldi 4 (zi_lda 0 (zi_gf 2 14 (zi_ic (fun x y => x ≤ y) (zi_vret Rt) (zi_lda 0 (zi_ldi 4 (zi_pf 2 14 .int (zi_vret Rt)))))))) (zi_vret Rt))))))))))))))))))))))) lv st h → zm_V w Γ 39 lv st h := (zs_imul X dX2_aim_39 (zs_aload_n X rfl dX2_aim_40 (zs_cv X (M' := mX2_middle) (n := 0) kd_X2_middle ki_X2 (by decide +kernel) (by decide) kw_X2_64 rfl ks_X2_middle kl_X2_middle dX2_aim_41 (zs_iadd X dX2_aim_44 (zs_pf X (ci := 2) rfl (by decide) zm_in2 kw_X2_67 tyX2 tyX2_ok nmX2 rfl rfl dX2_aim_45 (zs_aload_n X rfl dX2_aim_48 (zs_bipush X (by decide) dX2_aim_49 (zs_iload_n X rfl dX2_aim_51 (zs_iadd X dX2_aim_52 (zs_pf X (ci := 2) rfl (by decide) zm_in2 kw_X2_70 tyX2 tyX2_ok nmX2 rfl rfl dX2_aim_53 (zs_aload_n X rfl dX2_aim_56 (zs_bipush X (by decide) dX2_aim_57 (zs_iload_n X rfl dX2_aim_59 (zs_iadd X dX2_aim_60 (zs_pf X (ci := 2) rfl (by decide) zm_in2 kw_X2_73 tyX2 tyX2_ok nmX2 rfl rfl dX2_aim_61 (zs_aload_n X rfl dX2_aim_64 (zs_aload_n X rfl dX2_aim_65 (zs_cv X (M' := mX2_middle) (n := 0) kd_X2_middle ki_X2 (by decide +kernel) (by decide) kw_X2_64 rfl ks_X2_middle kl_X2_middle dX2_aim_66 (zs_cv X (M' := mX2_lengthTo) (n := 1) kd_X2_lengthTo ki_X2 (by decide +kernel) (by decide) kw_X2_76 rfl ks_X2_lengthTo kl_X2_lengthTo dX2_aim_69 (zs_istore X (by decide) dX2_aim_72 (zs_iload_n X rfl dX2_aim_74 (zs_if_ne X dX2_aim_75 (by decide) (zs_vret X rfl dX2_aim_93) (zs_iload X dX2_aim_78 (zs_aload_n X rfl dX2_aim_80 (zs_gf X (ci := 2) rfl (by decide) zm_in2 kw_X2_70 dX2_aim_81 (zs_icmp_le X dX2_aim_84 (by decide) (zs_vret X rfl dX2_aim_93) (zs_aload_n X rfl dX2_aim_87 (zs_iload X dX2_aim_88 (zs_pf X (ci := 2) rfl (by decide) zm_in2 kw_X2_70 tyX2 tyX2_ok nmX2 rfl rfl dX2_aim_90 (zs_vret X rfl dX2_aim_93))))))))))))))))))))))))))))))
set_option maxRecDepth 20000 in
theorem bkX2_lengthTo_0 {w : zW} {Γ : zC} {N S : Nat} {Rt : zR} (X : zm_X w Γ mX2_lengthTo N S Rt) : ∀ lv st h, (zi_ldi 1 (zi_lda 0 (zi_gf 2 13 (zi_b (fun x y => x - y) (zi_lda 0 (zi_gf 2 12 (zi_b (fun x y => x * y) (zi_iret Rt)))))))) lv st h → zm_V w Γ 0 lv st h := (zs_iload_n X rfl dX2_lengthTo_0 (zs_aload_n X rfl dX2_lengthTo_1 (zs_gf X (ci := 2) rfl (by decide) zm_in2 kw_X2_67 dX2_lengthTo_2 (zs_isub X dX2_lengthTo_5 (zs_aload_n X rfl dX2_lengthTo_6 (zs_gf X (ci := 2) rfl (by decide) zm_in2 kw_X2_61 dX2_lengthTo_7 (zs_imul X dX2_lengthTo_10 (zs_iret X rfl dX2_lengthTo_11))))))))
