theorem dX1_init_0 : decode cX1_init 0 = .ok (.aload_n 0, 1) := by decide +kernel
theorem dX1_init_1 : decode cX1_init 1 = .ok (.invokespecial 3, 3) := by decide +kernel
theorem dX1_init_4 : decode cX1_init 4 = .ok (.aload_n 0, 1) := by decide +kernel
theorem dX1_init_5 : decode cX1_init 5 = .ok (.bipush 16, 2) := by decide +kernel
theorem dX1_init_7 : decode cX1_init 7 = .ok (.anewarray 9, 3) := by decide +kernel
theorem dX1_init_10 : decode cX1_init 10 = .ok (.putfield 11, 3) := by decide +kernel
theorem dX1_init_13 : decode cX1_init 13 = .ok (.iconst 0, 1) := by decide +kernel
theorem dX1_init_14 : decode cX1_init 14 = .ok (.istore_n 2, 1) := by decide +kernel
theorem dX1_init_15 : decode cX1_init 15 = .ok (.iload_n 2, 1) := by decide +kernel
theorem dX1_init_16 : decode cX1_init 16 = .ok (.aload_n 0, 1) := by decide +kernel
theorem dX1_init_17 : decode cX1_init 17 = .ok (.getfield 11, 3) := by decide +kernel
theorem dX1_init_20 : decode cX1_init 20 = .ok (.arraylength, 1) := by decide +kernel
theorem dX1_init_21 : decode cX1_init 21 = .ok (.if_icmp .ge 16, 3) := by decide +kernel
theorem dX1_init_24 : decode cX1_init 24 = .ok (.aload_n 0, 1) := by decide +kernel
theorem dX1_init_25 : decode cX1_init 25 = .ok (.getfield 11, 3) := by decide +kernel
theorem dX1_init_28 : decode cX1_init 28 = .ok (.iload_n 2, 1) := by decide +kernel
theorem dX1_init_29 : decode cX1_init 29 = .ok (.aload_n 1, 1) := by decide +kernel
theorem dX1_init_30 : decode cX1_init 30 = .ok (.aastore, 1) := by decide +kernel
theorem dX1_init_31 : decode cX1_init 31 = .ok (.iinc 2 1, 3) := by decide +kernel
theorem dX1_init_34 : decode cX1_init 34 = .ok (.goto (-19), 3) := by decide +kernel
theorem dX1_init_37 : decode cX1_init 37 = .ok (.return_, 1) := by decide +kernel
theorem dX1_empty_0 : decode cX1_empty 0 = .ok (.aload_n 0, 1) := by decide +kernel
theorem dX1_empty_1 : decode cX1_empty 1 = .ok (.iconst 0, 1) := by decide +kernel
theorem dX1_empty_2 : decode cX1_empty 2 = .ok (.putfield 17, 3) := by decide +kernel
theorem dX1_empty_5 : decode cX1_empty 5 = .ok (.aload_n 0, 1) := by decide +kernel
theorem dX1_empty_6 : decode cX1_empty 6 = .ok (.iconst 0, 1) := by decide +kernel
theorem dX1_empty_7 : decode cX1_empty 7 = .ok (.putfield 21, 3) := by decide +kernel
theorem dX1_empty_10 : decode cX1_empty 10 = .ok (.return_, 1) := by decide +kernel
theorem dX1_add_0 : decode cX1_add 0 = .ok (.aload_n 0, 1) := by decide +kernel
theorem dX1_add_1 : decode cX1_add 1 = .ok (.getfield 17, 3) := by decide +kernel
theorem dX1_add_4 : decode cX1_add 4 = .ok (.aload_n 0, 1) := by decide +kernel
theorem dX1_add_5 : decode cX1_add 5 = .ok (.getfield 11, 3) := by decide +kernel
theorem dX1_add_8 : decode cX1_add 8 = .ok (.arraylength, 1) := by decide +kernel
theorem dX1_add_9 : decode cX1_add 9 = .ok (.if_icmp .ge 23, 3) := by decide +kernel
theorem dX1_add_12 : decode cX1_add 12 = .ok (.aload_n 0, 1) := by decide +kernel
theorem dX1_add_13 : decode cX1_add 13 = .ok (.getfield 11, 3) := by decide +kernel
theorem dX1_add_16 : decode cX1_add 16 = .ok (.aload_n 0, 1) := by decide +kernel
theorem dX1_add_17 : decode cX1_add 17 = .ok (.getfield 17, 3) := by decide +kernel
theorem dX1_add_20 : decode cX1_add 20 = .ok (.aload_n 1, 1) := by decide +kernel
theorem dX1_add_21 : decode cX1_add 21 = .ok (.aastore, 1) := by decide +kernel
theorem dX1_add_22 : decode cX1_add 22 = .ok (.aload_n 0, 1) := by decide +kernel
theorem dX1_add_23 : decode cX1_add 23 = .ok (.dup, 1) := by decide +kernel
theorem dX1_add_24 : decode cX1_add 24 = .ok (.getfield 17, 3) := by decide +kernel
theorem dX1_add_27 : decode cX1_add 27 = .ok (.iconst 1, 1) := by decide +kernel
theorem dX1_add_28 : decode cX1_add 28 = .ok (.iadd, 1) := by decide +kernel
theorem dX1_add_29 : decode cX1_add 29 = .ok (.putfield 17, 3) := by decide +kernel
theorem dX1_add_32 : decode cX1_add 32 = .ok (.return_, 1) := by decide +kernel
theorem dX1_has_0 : decode cX1_has 0 = .ok (.iload_n 1, 1) := by decide +kernel
theorem dX1_has_1 : decode cX1_has 1 = .ok (.ifCond .lt 15, 3) := by decide +kernel
theorem dX1_has_4 : decode cX1_has 4 = .ok (.iload_n 1, 1) := by decide +kernel
theorem dX1_has_5 : decode cX1_has 5 = .ok (.aload_n 0, 1) := by decide +kernel
theorem dX1_has_6 : decode cX1_has 6 = .ok (.getfield 17, 3) := by decide +kernel
theorem dX1_has_9 : decode cX1_has 9 = .ok (.if_icmp .ge 7, 3) := by decide +kernel
theorem dX1_has_12 : decode cX1_has 12 = .ok (.iconst 1, 1) := by decide +kernel
theorem dX1_has_13 : decode cX1_has 13 = .ok (.goto 4, 3) := by decide +kernel
theorem dX1_has_16 : decode cX1_has 16 = .ok (.iconst 0, 1) := by decide +kernel
theorem dX1_has_17 : decode cX1_has 17 = .ok (.ireturn, 1) := by decide +kernel
theorem dX1_hold_0 : decode cX1_hold 0 = .ok (.iconst 0, 1) := by decide +kernel
theorem dX1_hold_1 : decode cX1_hold 1 = .ok (.istore_n 2, 1) := by decide +kernel
theorem dX1_hold_2 : decode cX1_hold 2 = .ok (.iload_n 2, 1) := by decide +kernel
theorem dX1_hold_3 : decode cX1_hold 3 = .ok (.aload_n 0, 1) := by decide +kernel
theorem dX1_hold_4 : decode cX1_hold 4 = .ok (.getfield 17, 3) := by decide +kernel
theorem dX1_hold_7 : decode cX1_hold 7 = .ok (.if_icmp .ge 29, 3) := by decide +kernel
theorem dX1_hold_10 : decode cX1_hold 10 = .ok (.aload_n 0, 1) := by decide +kernel
theorem dX1_hold_11 : decode cX1_hold 11 = .ok (.getfield 11, 3) := by decide +kernel
theorem dX1_hold_14 : decode cX1_hold 14 = .ok (.iload_n 2, 1) := by decide +kernel
theorem dX1_hold_15 : decode cX1_hold 15 = .ok (.aaload, 1) := by decide +kernel
theorem dX1_hold_16 : decode cX1_hold 16 = .ok (.iload_n 1, 1) := by decide +kernel
theorem dX1_hold_17 : decode cX1_hold 17 = .ok (.putfield 24, 3) := by decide +kernel
theorem dX1_hold_20 : decode cX1_hold 20 = .ok (.aload_n 0, 1) := by decide +kernel
theorem dX1_hold_21 : decode cX1_hold 21 = .ok (.getfield 11, 3) := by decide +kernel
theorem dX1_hold_24 : decode cX1_hold 24 = .ok (.iload_n 2, 1) := by decide +kernel
theorem dX1_hold_25 : decode cX1_hold 25 = .ok (.aaload, 1) := by decide +kernel
theorem dX1_hold_26 : decode cX1_hold 26 = .ok (.iload_n 2, 1) := by decide +kernel
theorem dX1_hold_27 : decode cX1_hold 27 = .ok (.putfield 27, 3) := by decide +kernel
theorem dX1_hold_30 : decode cX1_hold 30 = .ok (.iinc 2 1, 3) := by decide +kernel
theorem dX1_hold_33 : decode cX1_hold 33 = .ok (.goto (-31), 3) := by decide +kernel
theorem dX1_hold_36 : decode cX1_hold 36 = .ok (.return_, 1) := by decide +kernel
theorem dX1_release_0 : decode cX1_release 0 = .ok (.iconst 0, 1) := by decide +kernel
theorem dX1_release_1 : decode cX1_release 1 = .ok (.istore_n 1, 1) := by decide +kernel
theorem dX1_release_2 : decode cX1_release 2 = .ok (.iload_n 1, 1) := by decide +kernel
theorem dX1_release_3 : decode cX1_release 3 = .ok (.aload_n 0, 1) := by decide +kernel
theorem dX1_release_4 : decode cX1_release 4 = .ok (.getfield 17, 3) := by decide +kernel
theorem dX1_release_7 : decode cX1_release 7 = .ok (.if_icmp .ge 21, 3) := by decide +kernel
theorem dX1_release_10 : decode cX1_release 10 = .ok (.aload_n 0, 1) := by decide +kernel
theorem dX1_release_11 : decode cX1_release 11 = .ok (.getfield 11, 3) := by decide +kernel
theorem dX1_release_14 : decode cX1_release 14 = .ok (.iload_n 1, 1) := by decide +kernel
theorem dX1_release_15 : decode cX1_release 15 = .ok (.aaload, 1) := by decide +kernel
theorem dX1_release_16 : decode cX1_release 16 = .ok (.sipush (-1001), 3) := by decide +kernel
theorem dX1_release_19 : decode cX1_release 19 = .ok (.putfield 24, 3) := by decide +kernel
theorem dX1_release_22 : decode cX1_release 22 = .ok (.iinc 1 1, 3) := by decide +kernel
theorem dX1_release_25 : decode cX1_release 25 = .ok (.goto (-23), 3) := by decide +kernel
theorem dX1_release_28 : decode cX1_release 28 = .ok (.return_, 1) := by decide +kernel
theorem dX1_greatestLevel_0 : decode cX1_greatestLevel 0 = .ok (.iconst 1, 1) := by decide +kernel
theorem dX1_greatestLevel_1 : decode cX1_greatestLevel 1 = .ok (.istore_n 1, 1) := by decide +kernel
theorem dX1_greatestLevel_2 : decode cX1_greatestLevel 2 = .ok (.iconst 0, 1) := by decide +kernel
theorem dX1_greatestLevel_3 : decode cX1_greatestLevel 3 = .ok (.istore_n 2, 1) := by decide +kernel
theorem dX1_greatestLevel_4 : decode cX1_greatestLevel 4 = .ok (.iload_n 2, 1) := by decide +kernel
theorem dX1_greatestLevel_5 : decode cX1_greatestLevel 5 = .ok (.aload_n 0, 1) := by decide +kernel
theorem dX1_greatestLevel_6 : decode cX1_greatestLevel 6 = .ok (.getfield 17, 3) := by decide +kernel
theorem dX1_greatestLevel_9 : decode cX1_greatestLevel 9 = .ok (.if_icmp .ge 23, 3) := by decide +kernel
theorem dX1_greatestLevel_12 : decode cX1_greatestLevel 12 = .ok (.iload_n 1, 1) := by decide +kernel
theorem dX1_greatestLevel_13 : decode cX1_greatestLevel 13 = .ok (.aload_n 0, 1) := by decide +kernel
theorem dX1_greatestLevel_14 : decode cX1_greatestLevel 14 = .ok (.getfield 11, 3) := by decide +kernel
theorem dX1_greatestLevel_17 : decode cX1_greatestLevel 17 = .ok (.iload_n 2, 1) := by decide +kernel
theorem dX1_greatestLevel_18 : decode cX1_greatestLevel 18 = .ok (.aaload, 1) := by decide +kernel
theorem dX1_greatestLevel_19 : decode cX1_greatestLevel 19 = .ok (.invokevirtual 30, 3) := by decide +kernel
theorem dX1_greatestLevel_22 : decode cX1_greatestLevel 22 = .ok (.invokestatic 34, 3) := by decide +kernel
theorem dX1_greatestLevel_25 : decode cX1_greatestLevel 25 = .ok (.istore_n 1, 1) := by decide +kernel
theorem dX1_greatestLevel_26 : decode cX1_greatestLevel 26 = .ok (.iinc 2 1, 3) := by decide +kernel
theorem dX1_greatestLevel_29 : decode cX1_greatestLevel 29 = .ok (.goto (-25), 3) := by decide +kernel
theorem dX1_greatestLevel_32 : decode cX1_greatestLevel 32 = .ok (.iload_n 1, 1) := by decide +kernel
theorem dX1_greatestLevel_33 : decode cX1_greatestLevel 33 = .ok (.ireturn, 1) := by decide +kernel
theorem dX1_aimStems_0 : decode cX1_aimStems 0 = .ok (.aload_n 0, 1) := by decide +kernel
theorem dX1_aimStems_1 : decode cX1_aimStems 1 = .ok (.aload_n 0, 1) := by decide +kernel
theorem dX1_aimStems_2 : decode cX1_aimStems 2 = .ok (.invokevirtual 40, 3) := by decide +kernel
theorem dX1_aimStems_5 : decode cX1_aimStems 5 = .ok (.ifCond .eq 7, 3) := by decide +kernel
theorem dX1_aimStems_8 : decode cX1_aimStems 8 = .ok (.iconst 0, 1) := by decide +kernel
theorem dX1_aimStems_9 : decode cX1_aimStems 9 = .ok (.goto 24, 3) := by decide +kernel
theorem dX1_aimStems_12 : decode cX1_aimStems 12 = .ok (.iload_n 1, 1) := by decide +kernel
theorem dX1_aimStems_13 : decode cX1_aimStems 13 = .ok (.ifCond .eq 16, 3) := by decide +kernel
theorem dX1_aimStems_16 : decode cX1_aimStems 16 = .ok (.aload_n 0, 1) := by decide +kernel
theorem dX1_aimStems_17 : decode cX1_aimStems 17 = .ok (.getfield 11, 3) := by decide +kernel
theorem dX1_aimStems_20 : decode cX1_aimStems 20 = .ok (.iconst 0, 1) := by decide +kernel
theorem dX1_aimStems_21 : decode cX1_aimStems 21 = .ok (.aaload, 1) := by decide +kernel
theorem dX1_aimStems_22 : decode cX1_aimStems 22 = .ok (.iconst 1, 1) := by decide +kernel
theorem dX1_aimStems_23 : decode cX1_aimStems 23 = .ok (.invokevirtual 44, 3) := by decide +kernel
theorem dX1_aimStems_26 : decode cX1_aimStems 26 = .ok (.goto 7, 3) := by decide +kernel
theorem dX1_aimStems_29 : decode cX1_aimStems 29 = .ok (.aload_n 0, 1) := by decide +kernel
theorem dX1_aimStems_30 : decode cX1_aimStems 30 = .ok (.invokevirtual 48, 3) := by decide +kernel
theorem dX1_aimStems_33 : decode cX1_aimStems 33 = .ok (.putfield 51, 3) := by decide +kernel
theorem dX1_aimStems_36 : decode cX1_aimStems 36 = .ok (.iconst 0, 1) := by decide +kernel
theorem dX1_aimStems_37 : decode cX1_aimStems 37 = .ok (.istore_n 2, 1) := by decide +kernel
theorem dX1_aimStems_38 : decode cX1_aimStems 38 = .ok (.iload_n 2, 1) := by decide +kernel
theorem dX1_aimStems_39 : decode cX1_aimStems 39 = .ok (.aload_n 0, 1) := by decide +kernel
theorem dX1_aimStems_40 : decode cX1_aimStems 40 = .ok (.getfield 17, 3) := by decide +kernel
theorem dX1_aimStems_43 : decode cX1_aimStems 43 = .ok (.if_icmp .ge 63, 3) := by decide +kernel
theorem dX1_aimStems_46 : decode cX1_aimStems 46 = .ok (.aload_n 0, 1) := by decide +kernel
theorem dX1_aimStems_47 : decode cX1_aimStems 47 = .ok (.getfield 11, 3) := by decide +kernel
theorem dX1_aimStems_50 : decode cX1_aimStems 50 = .ok (.iload_n 2, 1) := by decide +kernel
theorem dX1_aimStems_51 : decode cX1_aimStems 51 = .ok (.aaload, 1) := by decide +kernel
theorem dX1_aimStems_52 : decode cX1_aimStems 52 = .ok (.getfield 54, 3) := by decide +kernel
theorem dX1_aimStems_55 : decode cX1_aimStems 55 = .ok (.ifCond .ne 7, 3) := by decide +kernel
theorem dX1_aimStems_58 : decode cX1_aimStems 58 = .ok (.iconst (-1), 1) := by decide +kernel
theorem dX1_aimStems_59 : decode cX1_aimStems 59 = .ok (.goto 4, 3) := by decide +kernel
theorem dX1_aimStems_62 : decode cX1_aimStems 62 = .ok (.iconst 1, 1) := by decide +kernel
theorem dX1_aimStems_63 : decode cX1_aimStems 63 = .ok (.istore_n 3, 1) := by decide +kernel
theorem dX1_aimStems_64 : decode cX1_aimStems 64 = .ok (.aload_n 0, 1) := by decide +kernel
theorem dX1_aimStems_65 : decode cX1_aimStems 65 = .ok (.getfield 11, 3) := by decide +kernel
theorem dX1_aimStems_68 : decode cX1_aimStems 68 = .ok (.iload_n 2, 1) := by decide +kernel
theorem dX1_aimStems_69 : decode cX1_aimStems 69 = .ok (.aaload, 1) := by decide +kernel
theorem dX1_aimStems_70 : decode cX1_aimStems 70 = .ok (.aload_n 0, 1) := by decide +kernel
theorem dX1_aimStems_71 : decode cX1_aimStems 71 = .ok (.getfield 51, 3) := by decide +kernel
theorem dX1_aimStems_74 : decode cX1_aimStems 74 = .ok (.ifCond .ne 7, 3) := by decide +kernel
theorem dX1_aimStems_77 : decode cX1_aimStems 77 = .ok (.iload_n 3, 1) := by decide +kernel
theorem dX1_aimStems_78 : decode cX1_aimStems 78 = .ok (.goto 7, 3) := by decide +kernel
theorem dX1_aimStems_81 : decode cX1_aimStems 81 = .ok (.aload_n 0, 1) := by decide +kernel
theorem dX1_aimStems_82 : decode cX1_aimStems 82 = .ok (.getfield 51, 3) := by decide +kernel
theorem dX1_aimStems_85 : decode cX1_aimStems 85 = .ok (.aload_n 0, 1) := by decide +kernel
theorem dX1_aimStems_86 : decode cX1_aimStems 86 = .ok (.getfield 51, 3) := by decide +kernel
theorem dX1_aimStems_89 : decode cX1_aimStems 89 = .ok (.ifCond .ne 7, 3) := by decide +kernel
theorem dX1_aimStems_92 : decode cX1_aimStems 92 = .ok (.iconst 1, 1) := by decide +kernel
theorem dX1_aimStems_93 : decode cX1_aimStems 93 = .ok (.goto 4, 3) := by decide +kernel
theorem dX1_aimStems_96 : decode cX1_aimStems 96 = .ok (.iconst 0, 1) := by decide +kernel
theorem dX1_aimStems_97 : decode cX1_aimStems 97 = .ok (.invokevirtual 57, 3) := by decide +kernel
theorem dX1_aimStems_100 : decode cX1_aimStems 100 = .ok (.iinc 2 1, 3) := by decide +kernel
theorem dX1_aimStems_103 : decode cX1_aimStems 103 = .ok (.goto (-65), 3) := by decide +kernel
theorem dX1_aimStems_106 : decode cX1_aimStems 106 = .ok (.return_, 1) := by decide +kernel
theorem dX1_isOnBothStaves_0 : decode cX1_isOnBothStaves 0 = .ok (.iconst 0, 1) := by decide +kernel
theorem dX1_isOnBothStaves_1 : decode cX1_isOnBothStaves 1 = .ok (.istore_n 1, 1) := by decide +kernel
theorem dX1_isOnBothStaves_2 : decode cX1_isOnBothStaves 2 = .ok (.iconst 1, 1) := by decide +kernel
theorem dX1_isOnBothStaves_3 : decode cX1_isOnBothStaves 3 = .ok (.istore_n 2, 1) := by decide +kernel
theorem dX1_isOnBothStaves_4 : decode cX1_isOnBothStaves 4 = .ok (.iload_n 2, 1) := by decide +kernel
theorem dX1_isOnBothStaves_5 : decode cX1_isOnBothStaves 5 = .ok (.aload_n 0, 1) := by decide +kernel
theorem dX1_isOnBothStaves_6 : decode cX1_isOnBothStaves 6 = .ok (.getfield 17, 3) := by decide +kernel
theorem dX1_isOnBothStaves_9 : decode cX1_isOnBothStaves 9 = .ok (.if_icmp .ge 40, 3) := by decide +kernel
theorem dX1_isOnBothStaves_12 : decode cX1_isOnBothStaves 12 = .ok (.iload_n 1, 1) := by decide +kernel
theorem dX1_isOnBothStaves_13 : decode cX1_isOnBothStaves 13 = .ok (.ifCond .ne 24, 3) := by decide +kernel
theorem dX1_isOnBothStaves_16 : decode cX1_isOnBothStaves 16 = .ok (.aload_n 0, 1) := by decide +kernel
theorem dX1_isOnBothStaves_17 : decode cX1_isOnBothStaves 17 = .ok (.getfield 11, 3) := by decide +kernel
theorem dX1_isOnBothStaves_20 : decode cX1_isOnBothStaves 20 = .ok (.iload_n 2, 1) := by decide +kernel
theorem dX1_isOnBothStaves_21 : decode cX1_isOnBothStaves 21 = .ok (.aaload, 1) := by decide +kernel
theorem dX1_isOnBothStaves_22 : decode cX1_isOnBothStaves 22 = .ok (.getfield 54, 3) := by decide +kernel
theorem dX1_isOnBothStaves_25 : decode cX1_isOnBothStaves 25 = .ok (.aload_n 0, 1) := by decide +kernel
theorem dX1_isOnBothStaves_26 : decode cX1_isOnBothStaves 26 = .ok (.getfield 11, 3) := by decide +kernel
theorem dX1_isOnBothStaves_29 : decode cX1_isOnBothStaves 29 = .ok (.iconst 0, 1) := by decide +kernel
theorem dX1_isOnBothStaves_30 : decode cX1_isOnBothStaves 30 = .ok (.aaload, 1) := by decide +kernel
theorem dX1_isOnBothStaves_31 : decode cX1_isOnBothStaves 31 = .ok (.getfield 54, 3) := by decide +kernel
theorem dX1_isOnBothStaves_34 : decode cX1_isOnBothStaves 34 = .ok (.if_icmp .eq 7, 3) := by decide +kernel
theorem dX1_isOnBothStaves_37 : decode cX1_isOnBothStaves 37 = .ok (.iconst 1, 1) := by decide +kernel
theorem dX1_isOnBothStaves_38 : decode cX1_isOnBothStaves 38 = .ok (.goto 4, 3) := by decide +kernel
theorem dX1_isOnBothStaves_41 : decode cX1_isOnBothStaves 41 = .ok (.iconst 0, 1) := by decide +kernel
theorem dX1_isOnBothStaves_42 : decode cX1_isOnBothStaves 42 = .ok (.istore_n 1, 1) := by decide +kernel
theorem dX1_isOnBothStaves_43 : decode cX1_isOnBothStaves 43 = .ok (.iinc 2 1, 3) := by decide +kernel
theorem dX1_isOnBothStaves_46 : decode cX1_isOnBothStaves 46 = .ok (.goto (-42), 3) := by decide +kernel
theorem dX1_isOnBothStaves_49 : decode cX1_isOnBothStaves 49 = .ok (.iload_n 1, 1) := by decide +kernel
theorem dX1_isOnBothStaves_50 : decode cX1_isOnBothStaves 50 = .ok (.ireturn, 1) := by decide +kernel
theorem dX1_wayByHeads_0 : decode cX1_wayByHeads 0 = .ok (.aload_n 0, 1) := by decide +kernel
theorem dX1_wayByHeads_1 : decode cX1_wayByHeads 1 = .ok (.getfield 11, 3) := by decide +kernel
theorem dX1_wayByHeads_4 : decode cX1_wayByHeads 4 = .ok (.iconst 0, 1) := by decide +kernel
theorem dX1_wayByHeads_5 : decode cX1_wayByHeads 5 = .ok (.aaload, 1) := by decide +kernel
theorem dX1_wayByHeads_6 : decode cX1_wayByHeads 6 = .ok (.getfield 61, 3) := by decide +kernel
theorem dX1_wayByHeads_9 : decode cX1_wayByHeads 9 = .ok (.istore_n 1, 1) := by decide +kernel
theorem dX1_wayByHeads_10 : decode cX1_wayByHeads 10 = .ok (.aload_n 0, 1) := by decide +kernel
theorem dX1_wayByHeads_11 : decode cX1_wayByHeads 11 = .ok (.getfield 11, 3) := by decide +kernel
theorem dX1_wayByHeads_14 : decode cX1_wayByHeads 14 = .ok (.iconst 0, 1) := by decide +kernel
theorem dX1_wayByHeads_15 : decode cX1_wayByHeads 15 = .ok (.aaload, 1) := by decide +kernel
theorem dX1_wayByHeads_16 : decode cX1_wayByHeads 16 = .ok (.getfield 64, 3) := by decide +kernel
theorem dX1_wayByHeads_19 : decode cX1_wayByHeads 19 = .ok (.istore_n 2, 1) := by decide +kernel
theorem dX1_wayByHeads_20 : decode cX1_wayByHeads 20 = .ok (.iconst 0, 1) := by decide +kernel
theorem dX1_wayByHeads_21 : decode cX1_wayByHeads 21 = .ok (.istore_n 3, 1) := by decide +kernel
theorem dX1_wayByHeads_22 : decode cX1_wayByHeads 22 = .ok (.iconst 0, 1) := by decide +kernel
theorem dX1_wayByHeads_23 : decode cX1_wayByHeads 23 = .ok (.istore 4, 2) := by decide +kernel
theorem dX1_wayByHeads_25 : decode cX1_wayByHeads 25 = .ok (.iload 4, 2) := by decide +kernel
theorem dX1_wayByHeads_27 : decode cX1_wayByHeads 27 = .ok (.aload_n 0, 1) := by decide +kernel
theorem dX1_wayByHeads_28 : decode cX1_wayByHeads 28 = .ok (.getfield 17, 3) := by decide +kernel
theorem dX1_wayByHeads_31 : decode cX1_wayByHeads 31 = .ok (.if_icmp .ge 53, 3) := by decide +kernel
theorem dX1_wayByHeads_34 : decode cX1_wayByHeads 34 = .ok (.iload_n 1, 1) := by decide +kernel
theorem dX1_wayByHeads_35 : decode cX1_wayByHeads 35 = .ok (.aload_n 0, 1) := by decide +kernel
theorem dX1_wayByHeads_36 : decode cX1_wayByHeads 36 = .ok (.getfield 11, 3) := by decide +kernel
theorem dX1_wayByHeads_39 : decode cX1_wayByHeads 39 = .ok (.iload 4, 2) := by decide +kernel
theorem dX1_wayByHeads_41 : decode cX1_wayByHeads 41 = .ok (.aaload, 1) := by decide +kernel
theorem dX1_wayByHeads_42 : decode cX1_wayByHeads 42 = .ok (.getfield 61, 3) := by decide +kernel
theorem dX1_wayByHeads_45 : decode cX1_wayByHeads 45 = .ok (.invokestatic 67, 3) := by decide +kernel
theorem dX1_wayByHeads_48 : decode cX1_wayByHeads 48 = .ok (.istore_n 1, 1) := by decide +kernel
theorem dX1_wayByHeads_49 : decode cX1_wayByHeads 49 = .ok (.iload_n 2, 1) := by decide +kernel
theorem dX1_wayByHeads_50 : decode cX1_wayByHeads 50 = .ok (.aload_n 0, 1) := by decide +kernel
theorem dX1_wayByHeads_51 : decode cX1_wayByHeads 51 = .ok (.getfield 11, 3) := by decide +kernel
theorem dX1_wayByHeads_54 : decode cX1_wayByHeads 54 = .ok (.iload 4, 2) := by decide +kernel
theorem dX1_wayByHeads_56 : decode cX1_wayByHeads 56 = .ok (.aaload, 1) := by decide +kernel
theorem dX1_wayByHeads_57 : decode cX1_wayByHeads 57 = .ok (.getfield 64, 3) := by decide +kernel
theorem dX1_wayByHeads_60 : decode cX1_wayByHeads 60 = .ok (.invokestatic 34, 3) := by decide +kernel
theorem dX1_wayByHeads_63 : decode cX1_wayByHeads 63 = .ok (.istore_n 2, 1) := by decide +kernel
theorem dX1_wayByHeads_64 : decode cX1_wayByHeads 64 = .ok (.iload_n 3, 1) := by decide +kernel
theorem dX1_wayByHeads_65 : decode cX1_wayByHeads 65 = .ok (.aload_n 0, 1) := by decide +kernel
theorem dX1_wayByHeads_66 : decode cX1_wayByHeads 66 = .ok (.getfield 11, 3) := by decide +kernel
theorem dX1_wayByHeads_69 : decode cX1_wayByHeads 69 = .ok (.iload 4, 2) := by decide +kernel
theorem dX1_wayByHeads_71 : decode cX1_wayByHeads 71 = .ok (.aaload, 1) := by decide +kernel
theorem dX1_wayByHeads_72 : decode cX1_wayByHeads 72 = .ok (.iconst 0, 1) := by decide +kernel
theorem dX1_wayByHeads_73 : decode cX1_wayByHeads 73 = .ok (.invokevirtual 44, 3) := by decide +kernel
theorem dX1_wayByHeads_76 : decode cX1_wayByHeads 76 = .ok (.iadd, 1) := by decide +kernel
theorem dX1_wayByHeads_77 : decode cX1_wayByHeads 77 = .ok (.istore_n 3, 1) := by decide +kernel
theorem dX1_wayByHeads_78 : decode cX1_wayByHeads 78 = .ok (.iinc 4 1, 3) := by decide +kernel
theorem dX1_wayByHeads_81 : decode cX1_wayByHeads 81 = .ok (.goto (-56), 3) := by decide +kernel
theorem dX1_wayByHeads_84 : decode cX1_wayByHeads 84 = .ok (.iload_n 1, 1) := by decide +kernel
theorem dX1_wayByHeads_85 : decode cX1_wayByHeads 85 = .ok (.iload_n 2, 1) := by decide +kernel
theorem dX1_wayByHeads_86 : decode cX1_wayByHeads 86 = .ok (.iadd, 1) := by decide +kernel
theorem dX1_wayByHeads_87 : decode cX1_wayByHeads 87 = .ok (.istore 4, 2) := by decide +kernel
theorem dX1_wayByHeads_89 : decode cX1_wayByHeads 89 = .ok (.iload 4, 2) := by decide +kernel
theorem dX1_wayByHeads_91 : decode cX1_wayByHeads 91 = .ok (.ifCond .lt 12, 3) := by decide +kernel
theorem dX1_wayByHeads_94 : decode cX1_wayByHeads 94 = .ok (.iload 4, 2) := by decide +kernel
theorem dX1_wayByHeads_96 : decode cX1_wayByHeads 96 = .ok (.ifCond .ne 11, 3) := by decide +kernel
theorem dX1_wayByHeads_99 : decode cX1_wayByHeads 99 = .ok (.iload_n 3, 1) := by decide +kernel
theorem dX1_wayByHeads_100 : decode cX1_wayByHeads 100 = .ok (.ifCond .le 7, 3) := by decide +kernel
theorem dX1_wayByHeads_103 : decode cX1_wayByHeads 103 = .ok (.iconst 1, 1) := by decide +kernel
theorem dX1_wayByHeads_104 : decode cX1_wayByHeads 104 = .ok (.goto 4, 3) := by decide +kernel
theorem dX1_wayByHeads_107 : decode cX1_wayByHeads 107 = .ok (.iconst (-1), 1) := by decide +kernel
theorem dX1_wayByHeads_108 : decode cX1_wayByHeads 108 = .ok (.ireturn, 1) := by decide +kernel
theorem dX1_judgeSlope_0 : decode cX1_judgeSlope 0 = .ok (.aload_n 0, 1) := by decide +kernel
theorem dX1_judgeSlope_1 : decode cX1_judgeSlope 1 = .ok (.getfield 11, 3) := by decide +kernel
theorem dX1_judgeSlope_4 : decode cX1_judgeSlope 4 = .ok (.iconst 0, 1) := by decide +kernel
theorem dX1_judgeSlope_5 : decode cX1_judgeSlope 5 = .ok (.aaload, 1) := by decide +kernel
theorem dX1_judgeSlope_6 : decode cX1_judgeSlope 6 = .ok (.getfield 70, 3) := by decide +kernel
theorem dX1_judgeSlope_9 : decode cX1_judgeSlope 9 = .ok (.istore_n 1, 1) := by decide +kernel
theorem dX1_judgeSlope_10 : decode cX1_judgeSlope 10 = .ok (.aload_n 0, 1) := by decide +kernel
theorem dX1_judgeSlope_11 : decode cX1_judgeSlope 11 = .ok (.aload_n 0, 1) := by decide +kernel
theorem dX1_judgeSlope_12 : decode cX1_judgeSlope 12 = .ok (.getfield 17, 3) := by decide +kernel
theorem dX1_judgeSlope_15 : decode cX1_judgeSlope 15 = .ok (.iconst 1, 1) := by decide +kernel
theorem dX1_judgeSlope_16 : decode cX1_judgeSlope 16 = .ok (.isub, 1) := by decide +kernel
theorem dX1_judgeSlope_17 : decode cX1_judgeSlope 17 = .ok (.invokevirtual 73, 3) := by decide +kernel
theorem dX1_judgeSlope_20 : decode cX1_judgeSlope 20 = .ok (.ifCond .eq 20, 3) := by decide +kernel
theorem dX1_judgeSlope_23 : decode cX1_judgeSlope 23 = .ok (.aload_n 0, 1) := by decide +kernel
theorem dX1_judgeSlope_24 : decode cX1_judgeSlope 24 = .ok (.getfield 11, 3) := by decide +kernel
theorem dX1_judgeSlope_27 : decode cX1_judgeSlope 27 = .ok (.aload_n 0, 1) := by decide +kernel
theorem dX1_judgeSlope_28 : decode cX1_judgeSlope 28 = .ok (.getfield 17, 3) := by decide +kernel
theorem dX1_judgeSlope_31 : decode cX1_judgeSlope 31 = .ok (.iconst 1, 1) := by decide +kernel
theorem dX1_judgeSlope_32 : decode cX1_judgeSlope 32 = .ok (.isub, 1) := by decide +kernel
theorem dX1_judgeSlope_33 : decode cX1_judgeSlope 33 = .ok (.aaload, 1) := by decide +kernel
theorem dX1_judgeSlope_34 : decode cX1_judgeSlope 34 = .ok (.getfield 70, 3) := by decide +kernel
theorem dX1_judgeSlope_37 : decode cX1_judgeSlope 37 = .ok (.goto 4, 3) := by decide +kernel
theorem dX1_judgeSlope_40 : decode cX1_judgeSlope 40 = .ok (.iload_n 1, 1) := by decide +kernel
theorem dX1_judgeSlope_41 : decode cX1_judgeSlope 41 = .ok (.istore_n 2, 1) := by decide +kernel
theorem dX1_judgeSlope_42 : decode cX1_judgeSlope 42 = .ok (.aload_n 0, 1) := by decide +kernel
theorem dX1_judgeSlope_43 : decode cX1_judgeSlope 43 = .ok (.aload_n 0, 1) := by decide +kernel
theorem dX1_judgeSlope_44 : decode cX1_judgeSlope 44 = .ok (.getfield 51, 3) := by decide +kernel
theorem dX1_judgeSlope_47 : decode cX1_judgeSlope 47 = .ok (.ifCond .eq 21, 3) := by decide +kernel
theorem dX1_judgeSlope_50 : decode cX1_judgeSlope 50 = .ok (.iload_n 1, 1) := by decide +kernel
theorem dX1_judgeSlope_51 : decode cX1_judgeSlope 51 = .ok (.iload_n 2, 1) := by decide +kernel
theorem dX1_judgeSlope_52 : decode cX1_judgeSlope 52 = .ok (.if_icmp .eq 12, 3) := by decide +kernel
theorem dX1_judgeSlope_55 : decode cX1_judgeSlope 55 = .ok (.aload_n 0, 1) := by decide +kernel
theorem dX1_judgeSlope_56 : decode cX1_judgeSlope 56 = .ok (.iload_n 1, 1) := by decide +kernel
theorem dX1_judgeSlope_57 : decode cX1_judgeSlope 57 = .ok (.iload_n 2, 1) := by decide +kernel
theorem dX1_judgeSlope_58 : decode cX1_judgeSlope 58 = .ok (.invokevirtual 77, 3) := by decide +kernel
theorem dX1_judgeSlope_61 : decode cX1_judgeSlope 61 = .ok (.ifCond .eq 7, 3) := by decide +kernel
theorem dX1_judgeSlope_64 : decode cX1_judgeSlope 64 = .ok (.iconst 1, 1) := by decide +kernel
theorem dX1_judgeSlope_65 : decode cX1_judgeSlope 65 = .ok (.goto 4, 3) := by decide +kernel
theorem dX1_judgeSlope_68 : decode cX1_judgeSlope 68 = .ok (.iconst 0, 1) := by decide +kernel
theorem dX1_judgeSlope_69 : decode cX1_judgeSlope 69 = .ok (.putfield 81, 3) := by decide +kernel
theorem dX1_judgeSlope_72 : decode cX1_judgeSlope 72 = .ok (.aload_n 0, 1) := by decide +kernel
theorem dX1_judgeSlope_73 : decode cX1_judgeSlope 73 = .ok (.aload_n 0, 1) := by decide +kernel
theorem dX1_judgeSlope_74 : decode cX1_judgeSlope 74 = .ok (.getfield 81, 3) := by decide +kernel
theorem dX1_judgeSlope_77 : decode cX1_judgeSlope 77 = .ok (.ifCond .ne 10, 3) := by decide +kernel
theorem dX1_judgeSlope_80 : decode cX1_judgeSlope 80 = .ok (.aload_n 0, 1) := by decide +kernel
theorem dX1_judgeSlope_81 : decode cX1_judgeSlope 81 = .ok (.getfield 51, 3) := by decide +kernel
theorem dX1_judgeSlope_84 : decode cX1_judgeSlope 84 = .ok (.ifCond .ne 7, 3) := by decide +kernel
theorem dX1_judgeSlope_87 : decode cX1_judgeSlope 87 = .ok (.iconst 0, 1) := by decide +kernel
theorem dX1_judgeSlope_88 : decode cX1_judgeSlope 88 = .ok (.goto 18, 3) := by decide +kernel
theorem dX1_judgeSlope_91 : decode cX1_judgeSlope 91 = .ok (.bipush (-6), 2) := by decide +kernel
theorem dX1_judgeSlope_93 : decode cX1_judgeSlope 93 = .ok (.bipush 6, 2) := by decide +kernel
theorem dX1_judgeSlope_95 : decode cX1_judgeSlope 95 = .ok (.iload_n 2, 1) := by decide +kernel
theorem dX1_judgeSlope_96 : decode cX1_judgeSlope 96 = .ok (.iload_n 1, 1) := by decide +kernel
theorem dX1_judgeSlope_97 : decode cX1_judgeSlope 97 = .ok (.isub, 1) := by decide +kernel
theorem dX1_judgeSlope_98 : decode cX1_judgeSlope 98 = .ok (.iconst 2, 1) := by decide +kernel
theorem dX1_judgeSlope_99 : decode cX1_judgeSlope 99 = .ok (.idiv, 1) := by decide +kernel
theorem dX1_judgeSlope_100 : decode cX1_judgeSlope 100 = .ok (.invokestatic 67, 3) := by decide +kernel
theorem dX1_judgeSlope_103 : decode cX1_judgeSlope 103 = .ok (.invokestatic 34, 3) := by decide +kernel
theorem dX1_judgeSlope_106 : decode cX1_judgeSlope 106 = .ok (.putfield 85, 3) := by decide +kernel
theorem dX1_judgeSlope_109 : decode cX1_judgeSlope 109 = .ok (.return_, 1) := by decide +kernel
theorem dX1_isInnerFarther_0 : decode cX1_isInnerFarther 0 = .ok (.iconst 0, 1) := by decide +kernel
theorem dX1_isInnerFarther_1 : decode cX1_isInnerFarther 1 = .ok (.istore_n 3, 1) := by decide +kernel
theorem dX1_isInnerFarther_2 : decode cX1_isInnerFarther 2 = .ok (.iconst 1, 1) := by decide +kernel
theorem dX1_isInnerFarther_3 : decode cX1_isInnerFarther 3 = .ok (.istore 4, 2) := by decide +kernel
theorem dX1_isInnerFarther_5 : decode cX1_isInnerFarther 5 = .ok (.iload 4, 2) := by decide +kernel
theorem dX1_isInnerFarther_7 : decode cX1_isInnerFarther 7 = .ok (.aload_n 0, 1) := by decide +kernel
theorem dX1_isInnerFarther_8 : decode cX1_isInnerFarther 8 = .ok (.getfield 17, 3) := by decide +kernel
theorem dX1_isInnerFarther_11 : decode cX1_isInnerFarther 11 = .ok (.iconst 1, 1) := by decide +kernel
theorem dX1_isInnerFarther_12 : decode cX1_isInnerFarther 12 = .ok (.isub, 1) := by decide +kernel
theorem dX1_isInnerFarther_13 : decode cX1_isInnerFarther 13 = .ok (.if_icmp .ge 55, 3) := by decide +kernel
theorem dX1_isInnerFarther_16 : decode cX1_isInnerFarther 16 = .ok (.aload_n 0, 1) := by decide +kernel
theorem dX1_isInnerFarther_17 : decode cX1_isInnerFarther 17 = .ok (.getfield 11, 3) := by decide +kernel
theorem dX1_isInnerFarther_20 : decode cX1_isInnerFarther 20 = .ok (.iload 4, 2) := by decide +kernel
theorem dX1_isInnerFarther_22 : decode cX1_isInnerFarther 22 = .ok (.aaload, 1) := by decide +kernel
theorem dX1_isInnerFarther_23 : decode cX1_isInnerFarther 23 = .ok (.getfield 70, 3) := by decide +kernel
theorem dX1_isInnerFarther_26 : decode cX1_isInnerFarther 26 = .ok (.istore 5, 2) := by decide +kernel
theorem dX1_isInnerFarther_28 : decode cX1_isInnerFarther 28 = .ok (.iload_n 3, 1) := by decide +kernel
theorem dX1_isInnerFarther_29 : decode cX1_isInnerFarther 29 = .ok (.ifCond .ne 27, 3) := by decide +kernel
theorem dX1_isInnerFarther_32 : decode cX1_isInnerFarther 32 = .ok (.iload 5, 2) := by decide +kernel
theorem dX1_isInnerFarther_34 : decode cX1_isInnerFarther 34 = .ok (.iload_n 1, 1) := by decide +kernel
theorem dX1_isInnerFarther_35 : decode cX1_isInnerFarther 35 = .ok (.isub, 1) := by decide +kernel
theorem dX1_isInnerFarther_36 : decode cX1_isInnerFarther 36 = .ok (.aload_n 0, 1) := by decide +kernel
theorem dX1_isInnerFarther_37 : decode cX1_isInnerFarther 37 = .ok (.getfield 51, 3) := by decide +kernel
theorem dX1_isInnerFarther_40 : decode cX1_isInnerFarther 40 = .ok (.imul, 1) := by decide +kernel
theorem dX1_isInnerFarther_41 : decode cX1_isInnerFarther 41 = .ok (.ifCond .le 19, 3) := by decide +kernel
theorem dX1_isInnerFarther_44 : decode cX1_isInnerFarther 44 = .ok (.iload 5, 2) := by decide +kernel
theorem dX1_isInnerFarther_46 : decode cX1_isInnerFarther 46 = .ok (.iload_n 2, 1) := by decide +kernel
theorem dX1_isInnerFarther_47 : decode cX1_isInnerFarther 47 = .ok (.isub, 1) := by decide +kernel
theorem dX1_isInnerFarther_48 : decode cX1_isInnerFarther 48 = .ok (.aload_n 0, 1) := by decide +kernel
theorem dX1_isInnerFarther_49 : decode cX1_isInnerFarther 49 = .ok (.getfield 51, 3) := by decide +kernel
theorem dX1_isInnerFarther_52 : decode cX1_isInnerFarther 52 = .ok (.imul, 1) := by decide +kernel
theorem dX1_isInnerFarther_53 : decode cX1_isInnerFarther 53 = .ok (.ifCond .le 7, 3) := by decide +kernel
theorem dX1_isInnerFarther_56 : decode cX1_isInnerFarther 56 = .ok (.iconst 1, 1) := by decide +kernel
theorem dX1_isInnerFarther_57 : decode cX1_isInnerFarther 57 = .ok (.goto 4, 3) := by decide +kernel
theorem dX1_isInnerFarther_60 : decode cX1_isInnerFarther 60 = .ok (.iconst 0, 1) := by decide +kernel
theorem dX1_isInnerFarther_61 : decode cX1_isInnerFarther 61 = .ok (.istore_n 3, 1) := by decide +kernel
theorem dX1_isInnerFarther_62 : decode cX1_isInnerFarther 62 = .ok (.iinc 4 1, 3) := by decide +kernel
theorem dX1_isInnerFarther_65 : decode cX1_isInnerFarther 65 = .ok (.goto (-60), 3) := by decide +kernel
theorem dX1_isInnerFarther_68 : decode cX1_isInnerFarther 68 = .ok (.iload_n 3, 1) := by decide +kernel
theorem dX1_isInnerFarther_69 : decode cX1_isInnerFarther 69 = .ok (.ireturn, 1) := by decide +kernel
theorem dX1_findPlace_0 : decode cX1_findPlace 0 = .ok (.aload_n 0, 1) := by decide +kernel
theorem dX1_findPlace_1 : decode cX1_findPlace 1 = .ok (.getfield 51, 3) := by decide +kernel
theorem dX1_findPlace_4 : decode cX1_findPlace 4 = .ok (.ifCond .ne 8, 3) := by decide +kernel
theorem dX1_findPlace_7 : decode cX1_findPlace 7 = .ok (.bipush (-48), 2) := by decide +kernel
theorem dX1_findPlace_9 : decode cX1_findPlace 9 = .ok (.goto 15, 3) := by decide +kernel
theorem dX1_findPlace_12 : decode cX1_findPlace 12 = .ok (.aload_n 0, 1) := by decide +kernel
theorem dX1_findPlace_13 : decode cX1_findPlace 13 = .ok (.invokevirtual 88, 3) := by decide +kernel
theorem dX1_findPlace_16 : decode cX1_findPlace 16 = .ok (.bipush 24, 2) := by decide +kernel
theorem dX1_findPlace_18 : decode cX1_findPlace 18 = .ok (.aload_n 0, 1) := by decide +kernel
theorem dX1_findPlace_19 : decode cX1_findPlace 19 = .ok (.getfield 51, 3) := by decide +kernel
theorem dX1_findPlace_22 : decode cX1_findPlace 22 = .ok (.imul, 1) := by decide +kernel
theorem dX1_findPlace_23 : decode cX1_findPlace 23 = .ok (.isub, 1) := by decide +kernel
theorem dX1_findPlace_24 : decode cX1_findPlace 24 = .ok (.istore_n 1, 1) := by decide +kernel
theorem dX1_findPlace_25 : decode cX1_findPlace 25 = .ok (.aload_n 0, 1) := by decide +kernel
theorem dX1_findPlace_26 : decode cX1_findPlace 26 = .ok (.getfield 81, 3) := by decide +kernel
theorem dX1_findPlace_29 : decode cX1_findPlace 29 = .ok (.ifCond .eq 7, 3) := by decide +kernel
theorem dX1_findPlace_32 : decode cX1_findPlace 32 = .ok (.iconst 0, 1) := by decide +kernel
theorem dX1_findPlace_33 : decode cX1_findPlace 33 = .ok (.goto 5, 3) := by decide +kernel
theorem dX1_findPlace_36 : decode cX1_findPlace 36 = .ok (.bipush 12, 2) := by decide +kernel
theorem dX1_findPlace_38 : decode cX1_findPlace 38 = .ok (.istore_n 2, 1) := by decide +kernel
theorem dX1_findPlace_39 : decode cX1_findPlace 39 = .ok (.aload_n 0, 1) := by decide +kernel
theorem dX1_findPlace_40 : decode cX1_findPlace 40 = .ok (.ldc2_w 91, 3) := by decide +kernel
theorem dX1_findPlace_43 : decode cX1_findPlace 43 = .ok (.putfield 93, 3) := by decide +kernel
theorem dX1_findPlace_46 : decode cX1_findPlace 46 = .ok (.iconst 0, 1) := by decide +kernel
theorem dX1_findPlace_47 : decode cX1_findPlace 47 = .ok (.istore_n 3, 1) := by decide +kernel
theorem dX1_findPlace_48 : decode cX1_findPlace 48 = .ok (.iload_n 3, 1) := by decide +kernel
theorem dX1_findPlace_49 : decode cX1_findPlace 49 = .ok (.iload_n 2, 1) := by decide +kernel
theorem dX1_findPlace_50 : decode cX1_findPlace 50 = .ok (.if_icmp .gt 60, 3) := by decide +kernel
theorem dX1_findPlace_53 : decode cX1_findPlace 53 = .ok (.iload_n 3, 1) := by decide +kernel
theorem dX1_findPlace_54 : decode cX1_findPlace 54 = .ok (.iconst 2, 1) := by decide +kernel
theorem dX1_findPlace_55 : decode cX1_findPlace 55 = .ok (.irem, 1) := by decide +kernel
theorem dX1_findPlace_56 : decode cX1_findPlace 56 = .ok (.iconst 1, 1) := by decide +kernel
theorem dX1_findPlace_57 : decode cX1_findPlace 57 = .ok (.if_icmp .ne 11, 3) := by decide +kernel
theorem dX1_findPlace_60 : decode cX1_findPlace 60 = .ok (.iload_n 3, 1) := by decide +kernel
theorem dX1_findPlace_61 : decode cX1_findPlace 61 = .ok (.iconst 1, 1) := by decide +kernel
theorem dX1_findPlace_62 : decode cX1_findPlace 62 = .ok (.iadd, 1) := by decide +kernel
theorem dX1_findPlace_63 : decode cX1_findPlace 63 = .ok (.iconst 2, 1) := by decide +kernel
theorem dX1_findPlace_64 : decode cX1_findPlace 64 = .ok (.idiv, 1) := by decide +kernel
theorem dX1_findPlace_65 : decode cX1_findPlace 65 = .ok (.goto 7, 3) := by decide +kernel
theorem dX1_findPlace_68 : decode cX1_findPlace 68 = .ok (.iload_n 3, 1) := by decide +kernel
theorem dX1_findPlace_69 : decode cX1_findPlace 69 = .ok (.ineg, 1) := by decide +kernel
theorem dX1_findPlace_70 : decode cX1_findPlace 70 = .ok (.iconst 2, 1) := by decide +kernel
theorem dX1_findPlace_71 : decode cX1_findPlace 71 = .ok (.idiv, 1) := by decide +kernel
theorem dX1_findPlace_72 : decode cX1_findPlace 72 = .ok (.istore 4, 2) := by decide +kernel
theorem dX1_findPlace_74 : decode cX1_findPlace 74 = .ok (.aload_n 0, 1) := by decide +kernel
theorem dX1_findPlace_75 : decode cX1_findPlace 75 = .ok (.getfield 93, 3) := by decide +kernel
theorem dX1_findPlace_78 : decode cX1_findPlace 78 = .ok (.lconst 0, 1) := by decide +kernel
theorem dX1_findPlace_79 : decode cX1_findPlace 79 = .ok (.lcmp, 1) := by decide +kernel
theorem dX1_findPlace_80 : decode cX1_findPlace 80 = .ok (.ifCond .lt 17, 3) := by decide +kernel
theorem dX1_findPlace_83 : decode cX1_findPlace 83 = .ok (.aload_n 0, 1) := by decide +kernel
theorem dX1_findPlace_84 : decode cX1_findPlace 84 = .ok (.iload 4, 2) := by decide +kernel
theorem dX1_findPlace_86 : decode cX1_findPlace 86 = .ok (.invokevirtual 97, 3) := by decide +kernel
theorem dX1_findPlace_89 : decode cX1_findPlace 89 = .ok (.aload_n 0, 1) := by decide +kernel
theorem dX1_findPlace_90 : decode cX1_findPlace 90 = .ok (.getfield 93, 3) := by decide +kernel
theorem dX1_findPlace_93 : decode cX1_findPlace 93 = .ok (.lcmp, 1) := by decide +kernel
theorem dX1_findPlace_94 : decode cX1_findPlace 94 = .ok (.ifCond .ge 10, 3) := by decide +kernel
theorem dX1_findPlace_97 : decode cX1_findPlace 97 = .ok (.aload_n 0, 1) := by decide +kernel
theorem dX1_findPlace_98 : decode cX1_findPlace 98 = .ok (.iload_n 1, 1) := by decide +kernel
theorem dX1_findPlace_99 : decode cX1_findPlace 99 = .ok (.iload 4, 2) := by decide +kernel
theorem dX1_findPlace_101 : decode cX1_findPlace 101 = .ok (.invokevirtual 101, 3) := by decide +kernel
theorem dX1_findPlace_104 : decode cX1_findPlace 104 = .ok (.iinc 3 1, 3) := by decide +kernel
theorem dX1_findPlace_107 : decode cX1_findPlace 107 = .ok (.goto (-59), 3) := by decide +kernel
theorem dX1_findPlace_110 : decode cX1_findPlace 110 = .ok (.aload_n 0, 1) := by decide +kernel
theorem dX1_findPlace_111 : decode cX1_findPlace 111 = .ok (.getfield 93, 3) := by decide +kernel
theorem dX1_findPlace_114 : decode cX1_findPlace 114 = .ok (.lconst 0, 1) := by decide +kernel
theorem dX1_findPlace_115 : decode cX1_findPlace 115 = .ok (.lcmp, 1) := by decide +kernel
theorem dX1_findPlace_116 : decode cX1_findPlace 116 = .ok (.ifCond .lt 7, 3) := by decide +kernel
theorem dX1_findPlace_119 : decode cX1_findPlace 119 = .ok (.iconst 1, 1) := by decide +kernel
theorem dX1_findPlace_120 : decode cX1_findPlace 120 = .ok (.goto 4, 3) := by decide +kernel
theorem dX1_findPlace_123 : decode cX1_findPlace 123 = .ok (.iconst 0, 1) := by decide +kernel
theorem dX1_findPlace_124 : decode cX1_findPlace 124 = .ok (.ireturn, 1) := by decide +kernel
set_option maxRecDepth 20000 in
theorem bkX1_init_0 {w : zW} {Γ : zC} {N S : Nat} {Rt : zR} (X : zm_X w Γ mX1_init N S Rt) : ∀ lv st h, (zi_lda 0 (zi_obj (zi_lda 0 (zi_push (.int 16) (zi_na N S 2 (.inr (.inr (.inr (.inr (fun _ => none))))) (zi_pf 1 0 (.array (.object "StemBeams$Event")) (zi_push (.int 0) (zi_sti 2 (zm_V w Γ 15))))))))) lv st h → zm_V w Γ 0 lv st h := (zs_aload_n X rfl dX1_init_0 (zs_obj X (by decide) kw_X1_3 ko_1 ko_2 dX1_init_1 (zs_aload_n X rfl dX1_init_4 (zs_bipush X (by decide) dX1_init_5 (zs_anew X (fun _ => rfl) kw_X1_9 (by simp [zm_nw]) dX1_init_7 (zs_pfF X (ci := 1) rfl (by decide) zm_in1 kw_X1_11 tyX1 tyX1_ok nmX1 rfl rfl rfl rfl dX1_init_10 (zs_iconst X (by decide) dX1_init_13 (zs_istore_n X rfl (by decide) dX1_init_14 (fun _ _ _ h => h)))))))))
set_option maxRecDepth 20000 in
theorem bkX1_init_15 {w : zW} {Γ : zC} {N S : Nat} {Rt : zR} (X : zm_X w Γ mX1_init N S Rt) : ∀ lv st h, (zi_ldi 2 (zi_lda 0 (zi_gf 1 0 (zi_len 2 (zi_ic (fun x y => y ≤ x) (zi_vret Rt) (zi_lda 0 (zi_gf 1 0 (zi_ldi 2 (zi_lda 1 (zi_as 2 2 (zi_inc 2 1 (zm_V w Γ 15)))))))))))) lv st h → zm_V w Γ 15 lv st h := (zs_iload_n X rfl dX1_init_15 (zs_aload_n X rfl dX1_init_16 (zs_gf X (ci := 1) rfl (by decide) zm_in1 kw_X1_11 dX1_init_17 (zs_alen X (fun _ => rfl) dX1_init_20 (zs_icmp_ge X dX1_init_21 (by decide) (zs_vret X rfl dX1_init_37) (zs_aload_n X rfl dX1_init_24 (zs_gf X (ci := 1) rfl (by decide) zm_in1 kw_X1_11 dX1_init_25 (zs_iload_n X rfl dX1_init_28 (zs_aload_n X rfl dX1_init_29 (zs_aast X (NN := _) rfl (fun _ => rfl) dX1_init_30 (zs_iinc X (by decide) (by decide) dX1_init_31 (zs_goto X dX1_init_34 (by decide) (fun _ _ _ h => h)))))))))))))
set_option maxRecDepth 20000 in
theorem bkX1_empty_0 {w : zW} {Γ : zC} {N S : Nat} {Rt : zR} (X : zm_X w Γ mX1_empty N S Rt) : ∀ lv st h, (zi_lda 0 (zi_push (.int 0) (zi_pf 1 1 .int (zi_lda 0 (zi_push (.int 0) (zi_pf 1 6 .int (zi_vret Rt))))))) lv st h → zm_V w Γ 0 lv st h := (zs_aload_n X rfl dX1_empty_0 (zs_iconst X (by decide) dX1_empty_1 (zs_pf X (ci := 1) rfl (by decide) zm_in1 kw_X1_17 tyX1 tyX1_ok nmX1 rfl rfl dX1_empty_2 (zs_aload_n X rfl dX1_empty_5 (zs_iconst X (by decide) dX1_empty_6 (zs_pf X (ci := 1) rfl (by decide) zm_in1 kw_X1_21 tyX1 tyX1_ok nmX1 rfl rfl dX1_empty_7 (zs_vret X rfl dX1_empty_10)))))))
set_option maxRecDepth 20000 in
theorem bkX1_add_0 {w : zW} {Γ : zC} {N S : Nat} {Rt : zR} (X : zm_X w Γ mX1_add N S Rt) : ∀ lv st h, (zi_lda 0 (zi_gf 1 1 (zi_lda 0 (zi_gf 1 0 (zi_len 2 (zi_ic (fun x y => y ≤ x) (zi_vret Rt) (zi_lda 0 (zi_gf 1 0 (zi_lda 0 (zi_gf 1 1 (zi_lda 1 (zi_as 2 2 (zi_lda 0 (zi_dup (zi_gf 1 1 (zi_push (.int 1) (zi_b (fun x y => x + y) (zi_pf 1 1 .int (zi_vret Rt))))))))))))))))))) lv st h → zm_V w Γ 0 lv st h := (zs_aload_n X rfl dX1_add_0 (zs_gf X (ci := 1) rfl (by decide) zm_in1 kw_X1_17 dX1_add_1 (zs_aload_n X rfl dX1_add_4 (zs_gf X (ci := 1) rfl (by decide) zm_in1 kw_X1_11 dX1_add_5 (zs_alen X (fun _ => rfl) dX1_add_8 (zs_icmp_ge X dX1_add_9 (by decide) (zs_vret X rfl dX1_add_32) (zs_aload_n X rfl dX1_add_12 (zs_gf X (ci := 1) rfl (by decide) zm_in1 kw_X1_11 dX1_add_13 (zs_aload_n X rfl dX1_add_16 (zs_gf X (ci := 1) rfl (by decide) zm_in1 kw_X1_17 dX1_add_17 (zs_aload_n X rfl dX1_add_20 (zs_aast X (NN := _) rfl (fun _ => rfl) dX1_add_21 (zs_aload_n X rfl dX1_add_22 (zs_dup X dX1_add_23 (zs_gf X (ci := 1) rfl (by decide) zm_in1 kw_X1_17 dX1_add_24 (zs_iconst X (by decide) dX1_add_27 (zs_iadd X dX1_add_28 (zs_pf X (ci := 1) rfl (by decide) zm_in1 kw_X1_17 tyX1 tyX1_ok nmX1 rfl rfl dX1_add_29 (zs_vret X rfl dX1_add_32)))))))))))))))))))
set_option maxRecDepth 20000 in
theorem bkX1_has_0 {w : zW} {Γ : zC} {N S : Nat} {Rt : zR} (X : zm_X w Γ mX1_has N S Rt) : ∀ lv st h, (zi_ldi 1 (zi_if (fun x => x < 0) (zi_push (.int 0) (zi_zret Rt)) (zi_ldi 1 (zi_lda 0 (zi_gf 1 1 (zi_ic (fun x y => y ≤ x) (zi_push (.int 0) (zi_zret Rt)) (zi_push (.int 1) (zi_zret Rt)))))))) lv st h → zm_V w Γ 0 lv st h := (zs_iload_n X rfl dX1_has_0 (zs_if_lt X dX1_has_1 (by decide) (zs_iconst X (by decide) dX1_has_16 (zs_zret X rfl dX1_has_17)) (zs_iload_n X rfl dX1_has_4 (zs_aload_n X rfl dX1_has_5 (zs_gf X (ci := 1) rfl (by decide) zm_in1 kw_X1_17 dX1_has_6 (zs_icmp_ge X dX1_has_9 (by decide) (zs_iconst X (by decide) dX1_has_16 (zs_zret X rfl dX1_has_17)) (zs_iconst X (by decide) dX1_has_12 (zs_goto X dX1_has_13 (by decide) (zs_zret X rfl dX1_has_17)))))))))
set_option maxRecDepth 20000 in
theorem bkX1_hold_0 {w : zW} {Γ : zC} {N S : Nat} {Rt : zR} (X : zm_X w Γ mX1_hold N S Rt) : ∀ lv st h, (zi_push (.int 0) (zi_sti 2 (zm_V w Γ 2))) lv st h → zm_V w Γ 0 lv st h := (zs_iconst X (by decide) dX1_hold_0 (zs_istore_n X rfl (by decide) dX1_hold_1 (fun _ _ _ h => h)))
set_option maxRecDepth 20000 in
theorem bkX1_hold_2 {w : zW} {Γ : zC} {N S : Nat} {Rt : zR} (X : zm_X w Γ mX1_hold N S Rt) : ∀ lv st h, (zi_ldi 2 (zi_lda 0 (zi_gf 1 1 (zi_ic (fun x y => y ≤ x) (zi_vret Rt) (zi_lda 0 (zi_gf 1 0 (zi_ldi 2 (zi_aa 2 (zi_ldi 1 (zi_pf 2 10 .int (zi_lda 0 (zi_gf 1 0 (zi_ldi 2 (zi_aa 2 (zi_ldi 2 (zi_pf 2 11 .int (zi_inc 2 1 (zm_V w Γ 2)))))))))))))))))) lv st h → zm_V w Γ 2 lv st h := (zs_iload_n X rfl dX1_hold_2 (zs_aload_n X rfl dX1_hold_3 (zs_gf X (ci := 1) rfl (by decide) zm_in1 kw_X1_17 dX1_hold_4 (zs_icmp_ge X dX1_hold_7 (by decide) (zs_vret X rfl dX1_hold_36) (zs_aload_n X rfl dX1_hold_10 (zs_gf X (ci := 1) rfl (by decide) zm_in1 kw_X1_11 dX1_hold_11 (zs_iload_n X rfl dX1_hold_14 (zs_aald X (fun _ => rfl) dX1_hold_15 (zs_iload_n X rfl dX1_hold_16 (zs_pf X (ci := 2) rfl (by decide) zm_in2 kw_X1_24 tyX2 tyX2_ok nmX2 rfl rfl dX1_hold_17 (zs_aload_n X rfl dX1_hold_20 (zs_gf X (ci := 1) rfl (by decide) zm_in1 kw_X1_11 dX1_hold_21 (zs_iload_n X rfl dX1_hold_24 (zs_aald X (fun _ => rfl) dX1_hold_25 (zs_iload_n X rfl dX1_hold_26 (zs_pf X (ci := 2) rfl (by decide) zm_in2 kw_X1_27 tyX2 tyX2_ok nmX2 rfl rfl dX1_hold_27 (zs_iinc X (by decide) (by decide) dX1_hold_30 (zs_goto X dX1_hold_33 (by decide) (fun _ _ _ h => h)))))))))))))))))))
set_option maxRecDepth 20000 in
theorem bkX1_release_0 {w : zW} {Γ : zC} {N S : Nat} {Rt : zR} (X : zm_X w Γ mX1_release N S Rt) : ∀ lv st h, (zi_push (.int 0) (zi_sti 1 (zm_V w Γ 2))) lv st h → zm_V w Γ 0 lv st h := (zs_iconst X (by decide) dX1_release_0 (zs_istore_n X rfl (by decide) dX1_release_1 (fun _ _ _ h => h)))
set_option maxRecDepth 20000 in
theorem bkX1_release_2 {w : zW} {Γ : zC} {N S : Nat} {Rt : zR} (X : zm_X w Γ mX1_release N S Rt) : ∀ lv st h, (zi_ldi 1 (zi_lda 0 (zi_gf 1 1 (zi_ic (fun x y => y ≤ x) (zi_vret Rt) (zi_lda 0 (zi_gf 1 0 (zi_ldi 1 (zi_aa 2 (zi_push (.int (-1001)) (zi_pf 2 10 .int (zi_inc 1 1 (zm_V w Γ 2)))))))))))) lv st h → zm_V w Γ 2 lv st h := (zs_iload_n X rfl dX1_release_2 (zs_aload_n X rfl dX1_release_3 (zs_gf X (ci := 1) rfl (by decide) zm_in1 kw_X1_17 dX1_release_4 (zs_icmp_ge X dX1_release_7 (by decide) (zs_vret X rfl dX1_release_28) (zs_aload_n X rfl dX1_release_10 (zs_gf X (ci := 1) rfl (by decide) zm_in1 kw_X1_11 dX1_release_11 (zs_iload_n X rfl dX1_release_14 (zs_aald X (fun _ => rfl) dX1_release_15 (zs_sipush X (by decide) dX1_release_16 (zs_pf X (ci := 2) rfl (by decide) zm_in2 kw_X1_24 tyX2 tyX2_ok nmX2 rfl rfl dX1_release_19 (zs_iinc X (by decide) (by decide) dX1_release_22 (zs_goto X dX1_release_25 (by decide) (fun _ _ _ h => h)))))))))))))
set_option maxRecDepth 20000 in
theorem bkX1_greatestLevel_0 {w : zW} {Γ : zC} {N S : Nat} {Rt : zR} (X : zm_X w Γ mX1_greatestLevel N S Rt) : ∀ lv st h, (zi_push (.int 1) (zi_sti 1 (zi_push (.int 0) (zi_sti 2 (zm_V w Γ 4))))) lv st h → zm_V w Γ 0 lv st h := (zs_iconst X (by decide) dX1_greatestLevel_0 (zs_istore_n X rfl (by decide) dX1_greatestLevel_1 (zs_iconst X (by decide) dX1_greatestLevel_2 (zs_istore_n X rfl (by decide) dX1_greatestLevel_3 (fun _ _ _ h => h)))))
set_option maxRecDepth 20000 in
theorem bkX1_greatestLevel_4 {w : zW} {Γ : zC} {N S : Nat} {Rt : zR} (X : zm_X w Γ mX1_greatestLevel N S Rt) : ∀ lv st h, (zi_ldi 2 (zi_lda 0 (zi_gf 1 1 (zi_ic (fun x y => y ≤ x) (zi_ldi 1 (zi_iret Rt)) (zi_ldi 1 (zi_lda 0 (zi_gf 1 0 (zi_ldi 2 (zi_aa 2 (zi_cv w mX2_levels 2 1 N S (zi_mx N S (zi_sti 1 (zi_inc 2 1 (zm_V w Γ 4)))))))))))))) lv st h → zm_V w Γ 4 lv st h := (zs_iload_n X rfl dX1_greatestLevel_4 (zs_aload_n X rfl dX1_greatestLevel_5 (zs_gf X (ci := 1) rfl (by decide) zm_in1 kw_X1_17 dX1_greatestLevel_6 (zs_icmp_ge X dX1_greatestLevel_9 (by decide) (zs_iload_n X rfl dX1_greatestLevel_32 (zs_iret X rfl dX1_greatestLevel_33)) (zs_iload_n X rfl dX1_greatestLevel_12 (zs_aload_n X rfl dX1_greatestLevel_13 (zs_gf X (ci := 1) rfl (by decide) zm_in1 kw_X1_11 dX1_greatestLevel_14 (zs_iload_n X rfl dX1_greatestLevel_17 (zs_aald X (fun _ => rfl) dX1_greatestLevel_18 (zs_cv X (M' := mX2_levels) (n := 0) kd_X2_levels ki_X2 (by decide +kernel) (by decide) kw_X1_30 rfl ks_X2_levels kl_X2_levels dX1_greatestLevel_19 (zs_mx X (by decide) trivial kw_X1_34 km_mx1 km_2 km_mx3 dX1_greatestLevel_22 (zs_istore_n X rfl (by decide) dX1_greatestLevel_25 (zs_iinc X (by decide) (by decide) dX1_greatestLevel_26 (zs_goto X dX1_greatestLevel_29 (by decide) (fun _ _ _ h => h)))))))))))))))
set_option maxRecDepth 20000 in
theorem bkX1_aimStems_0 {w : zW} {Γ : zC} {N S : Nat} {Rt : zR} (X : zm_X w Γ mX1_aimStems N S Rt) : ∀ lv st h, (zi_lda 0 (zi_lda 0 (zi_cv w mX1_isOnBothStaves 1 1 N S (zi_if (fun x => x = 0) (zi_ldi 1 (zi_if (fun x => x = 0) (zi_lda 0 (zi_cv w mX1_wayByHeads 1 1 N S (zi_pf 1 2 .int (zi_push (.int 0) (zi_sti 2 (zm_V w Γ 38)))))) (zi_lda 0 (zi_gf 1 0 (zi_push (.int 0) (zi_aa 2 (zi_push (.int 1) (zi_cv w mX2_wayAlone 2 2 N S (zi_pf 1 2 .int (zi_push (.int 0) (zi_sti 2 (zm_V w Γ 38)))))))))))) (zi_push (.int 0) (zi_pf 1 2 .int (zi_push (.int 0) (zi_sti 2 (zm_V w Γ 38))))))))) lv st h → zm_V w Γ 0 lv st h := (zs_aload_n X rfl dX1_aimStems_0 (zs_aload_n X rfl dX1_aimStems_1 (zs_cv X (M' := mX1_isOnBothStaves) (n := 0) kd_X1_isOnBothStaves ki_X1 (by decide +kernel) (by decide) kw_X1_40 rfl ks_X1_isOnBothStaves kl_X1_isOnBothStaves dX1_aimStems_2 (zs_if_eq X dX1_aimStems_5 (by decide) (zs_iload_n X rfl dX1_aimStems_12 (zs_if_eq X dX1_aimStems_13 (by decide) (zs_aload_n X rfl dX1_aimStems_29 (zs_cv X (M' := mX1_wayByHeads) (n := 0) kd_X1_wayByHeads ki_X1 (by decide +kernel) (by decide) kw_X1_48 rfl ks_X1_wayByHeads kl_X1_wayByHeads dX1_aimStems_30 (zs_pf X (ci := 1) rfl (by decide) zm_in1 kw_X1_51 tyX1 tyX1_ok nmX1 rfl rfl dX1_aimStems_33 (zs_iconst X (by decide) dX1_aimStems_36 (zs_istore_n X rfl (by decide) dX1_aimStems_37 (fun _ _ _ h => h)))))) (zs_aload_n X rfl dX1_aimStems_16 (zs_gf X (ci := 1) rfl (by decide) zm_in1 kw_X1_11 dX1_aimStems_17 (zs_iconst X (by decide) dX1_aimStems_20 (zs_aald X (fun _ => rfl) dX1_aimStems_21 (zs_iconst X (by decide) dX1_aimStems_22 (zs_cv X (M' := mX2_wayAlone) (n := 1) kd_X2_wayAlone ki_X2 (by decide +kernel) (by decide) kw_X1_44 rfl ks_X2_wayAlone kl_X2_wayAlone dX1_aimStems_23 (zs_goto X dX1_aimStems_26 (by decide) (zs_pf X (ci := 1) rfl (by decide) zm_in1 kw_X1_51 tyX1 tyX1_ok nmX1 rfl rfl dX1_aimStems_33 (zs_iconst X (by decide) dX1_aimStems_36 (zs_istore_n X rfl (by decide) dX1_aimStems_37 (fun _ _ _ h => h))))))))))))) (zs_iconst X (by decide) dX1_aimStems_8 (zs_goto X dX1_aimStems_9 (by decide) (zs_pf X (ci := 1) rfl (by decide) zm_in1 kw_X1_51 tyX1 tyX1_ok nmX1 rfl rfl dX1_aimStems_33 (zs_iconst X (by decide) dX1_aimStems_36 (zs_istore_n X rfl (by decide) dX1_aimStems_37 (fun _ _ _ h => h))))))))))
set_option maxRecDepth 20000 in
theorem bkX1_aimStems_38 {w : zW} {Γ : zC} {N S : Nat} {Rt : zR} (X : zm_X w Γ mX1_aimStems N S Rt) : ∀ lv st h, (zi_ldi 2 (zi_lda 0 (zi_gf 1 1 (zi_ic (fun x y => y ≤ x) (zi_vret Rt) (zi_lda 0 (zi_gf 1 0 (zi_ldi 2 (zi_aa 2 (zi_gf 2 8 (zi_if (fun x => x = 0) (zi_push (.int (-1)) (zm_V w Γ 63)) (zi_push (.int 1) (zm_V w Γ 63)))))))))))) lv st h → zm_V w Γ 38 lv st h := (zs_iload_n X rfl dX1_aimStems_38 (zs_aload_n X rfl dX1_aimStems_39 (zs_gf X (ci := 1) rfl (by decide) zm_in1 kw_X1_17 dX1_aimStems_40 (zs_icmp_ge X dX1_aimStems_43 (by decide) (zs_vret X rfl dX1_aimStems_106) (zs_aload_n X rfl dX1_aimStems_46 (zs_gf X (ci := 1) rfl (by decide) zm_in1 kw_X1_11 dX1_aimStems_47 (zs_iload_n X rfl dX1_aimStems_50 (zs_aald X (fun _ => rfl) dX1_aimStems_51 (zs_gf X (ci := 2) rfl (by decide) zm_in2 kw_X1_54 dX1_aimStems_52 (zs_if_ne X dX1_aimStems_55 (by decide) (zs_iconst X (by decide) dX1_aimStems_62 (fun _ _ _ h => h)) (zs_iconst X (by decide) dX1_aimStems_58 (zs_goto X dX1_aimStems_59 (by decide) (fun _ _ _ h => h)))))))))))))
set_option maxRecDepth 20000 in
theorem bkX1_aimStems_63 {w : zW} {Γ : zC} {N S : Nat} {Rt : zR} (X : zm_X w Γ mX1_aimStems N S Rt) : ∀ lv st h, (zi_sti 3 (zi_lda 0 (zi_gf 1 0 (zi_ldi 2 (zi_aa 2 (zi_lda 0 (zi_gf 1 2 (zi_if (fun x => x = 0) (zi_ldi 3 (zm_V w Γ 85)) (zi_lda 0 (zi_gf 1 2 (zm_V w Γ 85))))))))))) lv st h → zm_V w Γ 63 lv st h := (zs_istore_n X rfl (by decide) dX1_aimStems_63 (zs_aload_n X rfl dX1_aimStems_64 (zs_gf X (ci := 1) rfl (by decide) zm_in1 kw_X1_11 dX1_aimStems_65 (zs_iload_n X rfl dX1_aimStems_68 (zs_aald X (fun _ => rfl) dX1_aimStems_69 (zs_aload_n X rfl dX1_aimStems_70 (zs_gf X (ci := 1) rfl (by decide) zm_in1 kw_X1_51 dX1_aimStems_71 (zs_if_ne X dX1_aimStems_74 (by decide) (zs_aload_n X rfl dX1_aimStems_81 (zs_gf X (ci := 1) rfl (by decide) zm_in1 kw_X1_51 dX1_aimStems_82 (fun _ _ _ h => h))) (zs_iload_n X rfl dX1_aimStems_77 (zs_goto X dX1_aimStems_78 (by decide) (fun _ _ _ h => h)))))))))))
set_option maxRecDepth 20000 in
theorem bkX1_aimStems_85 {w : zW} {Γ : zC} {N S : Nat} {Rt : zR} (X : zm_X w Γ mX1_aimStems N S Rt) : ∀ lv st h, (zi_lda 0 (zi_gf 1 2 (zi_if (fun x => x = 0) (zi_push (.int 1) (zi_cv w mX2_aim 2 3 N S (zi_inc 2 1 (zm_V w Γ 38)))) (zi_push (.int 0) (zi_cv w mX2_aim 2 3 N S (zi_inc 2 1 (zm_V w Γ 38))))))) lv st h → zm_V w Γ 85 lv st h := (zs_aload_n X rfl dX1_aimStems_85 (zs_gf X (ci := 1) rfl (by decide) zm_in1 kw_X1_51 dX1_aimStems_86 (zs_if_ne X dX1_aimStems_89 (by decide) (zs_iconst X (by decide) dX1_aimStems_96 (zs_cv X (M' := mX2_aim) (n := 2) kd_X2_aim ki_X2 (by decide +kernel) (by decide) kw_X1_57 rfl ks_X2_aim kl_X2_aim dX1_aimStems_97 (zs_iinc X (by decide) (by decide) dX1_aimStems_100 (zs_goto X dX1_aimStems_103 (by decide) (fun _ _ _ h => h))))) (zs_iconst X (by decide) dX1_aimStems_92 (zs_goto X dX1_aimStems_93 (by decide) (zs_cv X (M' := mX2_aim) (n := 2) kd_X2_aim ki_X2 (by decide +kernel) (by decide) kw_X1_57 rfl ks_X2_aim kl_X2_aim dX1_aimStems_97 (zs_iinc X (by decide) (by decide) dX1_aimStems_100 (zs_goto X dX1_aimStems_103 (by decide) (fun _ _ _ h => h)))))))))
set_option maxRecDepth 20000 in
theorem bkX1_isOnBothStaves_0 {w : zW} {Γ : zC} {N S : Nat} {Rt : zR} (X : zm_X w Γ mX1_isOnBothStaves N S Rt) : ∀ lv st h, (zi_push (.int 0) (zi_sti 1 (zi_push (.int 1) (zi_sti 2 (zm_V w Γ 4))))) lv st h → zm_V w Γ 0 lv st h := (zs_iconst X (by decide) dX1_isOnBothStaves_0 (zs_istore_n X rfl (by decide) dX1_isOnBothStaves_1 (zs_iconst X (by decide) dX1_isOnBothStaves_2 (zs_istore_n X rfl (by decide) dX1_isOnBothStaves_3 (fun _ _ _ h => h)))))
set_option maxRecDepth 20000 in
theorem bkX1_isOnBothStaves_4 {w : zW} {Γ : zC} {N S : Nat} {Rt : zR} (X : zm_X w Γ mX1_isOnBothStaves N S Rt) : ∀ lv st h, (zi_ldi 2 (zi_lda 0 (zi_gf 1 1 (zi_ic (fun x y => y ≤ x) (zi_ldi 1 (zi_zret Rt)) (zi_ldi 1 (zi_if (fun x => x = 0) (zi_lda 0 (zi_gf 1 0 (zi_ldi 2 (zi_aa 2 (zi_gf 2 8 (zi_lda 0 (zi_gf 1 0 (zi_push (.int 0) (zi_aa 2 (zi_gf 2 8 (zi_ic (fun x y => x = y) (zi_push (.int 0) (zi_sti 1 (zi_inc 2 1 (zm_V w Γ 4)))) (zi_push (.int 1) (zi_sti 1 (zi_inc 2 1 (zm_V w Γ 4))))))))))))))) (zi_push (.int 1) (zi_sti 1 (zi_inc 2 1 (zm_V w Γ 4)))))))))) lv st h → zm_V w Γ 4 lv st h := (zs_iload_n X rfl dX1_isOnBothStaves_4 (zs_aload_n X rfl dX1_isOnBothStaves_5 (zs_gf X (ci := 1) rfl (by decide) zm_in1 kw_X1_17 dX1_isOnBothStaves_6 (zs_icmp_ge X dX1_isOnBothStaves_9 (by decide) (zs_iload_n X rfl dX1_isOnBothStaves_49 (zs_zret X rfl dX1_isOnBothStaves_50)) (zs_iload_n X rfl dX1_isOnBothStaves_12 (zs_if_ne X dX1_isOnBothStaves_13 (by decide) (zs_iconst X (by decide) dX1_isOnBothStaves_37 (zs_goto X dX1_isOnBothStaves_38 (by decide) (zs_istore_n X rfl (by decide) dX1_isOnBothStaves_42 (zs_iinc X (by decide) (by decide) dX1_isOnBothStaves_43 (zs_goto X dX1_isOnBothStaves_46 (by decide) (fun _ _ _ h => h)))))) (zs_aload_n X rfl dX1_isOnBothStaves_16 (zs_gf X (ci := 1) rfl (by decide) zm_in1 kw_X1_11 dX1_isOnBothStaves_17 (zs_iload_n X rfl dX1_isOnBothStaves_20 (zs_aald X (fun _ => rfl) dX1_isOnBothStaves_21 (zs_gf X (ci := 2) rfl (by decide) zm_in2 kw_X1_54 dX1_isOnBothStaves_22 (zs_aload_n X rfl dX1_isOnBothStaves_25 (zs_gf X (ci := 1) rfl (by decide) zm_in1 kw_X1_11 dX1_isOnBothStaves_26 (zs_iconst X (by decide) dX1_isOnBothStaves_29 (zs_aald X (fun _ => rfl) dX1_isOnBothStaves_30 (zs_gf X (ci := 2) rfl (by decide) zm_in2 kw_X1_54 dX1_isOnBothStaves_31 (zs_icmp_eq X dX1_isOnBothStaves_34 (by decide) (zs_iconst X (by decide) dX1_isOnBothStaves_41 (zs_istore_n X rfl (by decide) dX1_isOnBothStaves_42 (zs_iinc X (by decide) (by decide) dX1_isOnBothStaves_43 (zs_goto X dX1_isOnBothStaves_46 (by decide) (fun _ _ _ h => h))))) (zs_iconst X (by decide) dX1_isOnBothStaves_37 (zs_goto X dX1_isOnBothStaves_38 (by decide) (zs_istore_n X rfl (by decide) dX1_isOnBothStaves_42 (zs_iinc X (by decide) (by decide) dX1_isOnBothStaves_43 (zs_goto X dX1_isOnBothStaves_46 (by decide) (fun _ _ _ h => h)))))))))))))))))))))))
set_option maxRecDepth 20000 in
theorem bkX1_wayByHeads_0 {w : zW} {Γ : zC} {N S : Nat} {Rt : zR} (X : zm_X w Γ mX1_wayByHeads N S Rt) : ∀ lv st h, (zi_lda 0 (zi_gf 1 0 (zi_push (.int 0) (zi_aa 2 (zi_gf 2 6 (zi_sti 1 (zi_lda 0 (zi_gf 1 0 (zi_push (.int 0) (zi_aa 2 (zi_gf 2 7 (zi_sti 2 (zi_push (.int 0) (zi_sti 3 (zi_push (.int 0) (zi_sti 4 (zm_V w Γ 25))))))))))))))))) lv st h → zm_V w Γ 0 lv st h := (zs_aload_n X rfl dX1_wayByHeads_0 (zs_gf X (ci := 1) rfl (by decide) zm_in1 kw_X1_11 dX1_wayByHeads_1 (zs_iconst X (by decide) dX1_wayByHeads_4 (zs_aald X (fun _ => rfl) dX1_wayByHeads_5 (zs_gf X (ci := 2) rfl (by decide) zm_in2 kw_X1_61 dX1_wayByHeads_6 (zs_istore_n X rfl (by decide) dX1_wayByHeads_9 (zs_aload_n X rfl dX1_wayByHeads_10 (zs_gf X (ci := 1) rfl (by decide) zm_in1 kw_X1_11 dX1_wayByHeads_11 (zs_iconst X (by decide) dX1_wayByHeads_14 (zs_aald X (fun _ => rfl) dX1_wayByHeads_15 (zs_gf X (ci := 2) rfl (by decide) zm_in2 kw_X1_64 dX1_wayByHeads_16 (zs_istore_n X rfl (by decide) dX1_wayByHeads_19 (zs_iconst X (by decide) dX1_wayByHeads_20 (zs_istore_n X rfl (by decide) dX1_wayByHeads_21 (zs_iconst X (by decide) dX1_wayByHeads_22 (zs_istore X (by decide) dX1_wayByHeads_23 (fun _ _ _ h => h)))))))))))))))))
set_option maxRecDepth 20000 in
theorem bkX1_wayByHeads_25 {w : zW} {Γ : zC} {N S : Nat} {Rt : zR} (X : zm_X w Γ mX1_wayByHeads N S Rt) : ∀ lv st h, (zi_ldi 4 (zi_lda 0 (zi_gf 1 1 (zi_ic (fun x y => y ≤ x) (zi_ldi 1 (zi_ldi 2 (zi_b (fun x y => x + y) (zi_sti 4 (zi_ldi 4 (zi_if (fun x => x < 0) (zi_push (.int 1) (zi_iret Rt)) (zi_ldi 4 (zi_if (fun x => x = 0) (zi_ldi 3 (zi_if (fun x => x ≤ 0) (zi_push (.int (-1)) (zi_iret Rt)) (zi_push (.int 1) (zi_iret Rt)))) (zi_push (.int (-1)) (zi_iret Rt)))))))))) (zi_ldi 1 (zi_lda 0 (zi_gf 1 0 (zi_ldi 4 (zi_aa 2 (zi_gf 2 6 (zi_mn N S (zi_sti 1 (zi_ldi 2 (zi_lda 0 (zi_gf 1 0 (zi_ldi 4 (zi_aa 2 (zi_gf 2 7 (zi_mx N S (zi_sti 2 (zi_ldi 3 (zi_lda 0 (zi_gf 1 0 (zi_ldi 4 (zi_aa 2 (zi_push (.int 0) (zi_cv w mX2_wayAlone 2 2 N S (zi_b (fun x y => x + y) (zi_sti 3 (zi_inc 4 1 (zm_V w Γ 25))))))))))))))))))))))))))))))) lv st h → zm_V w Γ 25 lv st h := (zs_iload X dX1_wayByHeads_25 (zs_aload_n X rfl dX1_wayByHeads_27 (zs_gf X (ci := 1) rfl (by decide) zm_in1 kw_X1_17 dX1_wayByHeads_28 (zs_icmp_ge X dX1_wayByHeads_31 (by decide) (zs_iload_n X rfl dX1_wayByHeads_84 (zs_iload_n X rfl dX1_wayByHeads_85 (zs_iadd X dX1_wayByHeads_86 (zs_istore X (by decide) dX1_wayByHeads_87 (zs_iload X dX1_wayByHeads_89 (zs_if_lt X dX1_wayByHeads_91 (by decide) (zs_iconst X (by decide) dX1_wayByHeads_103 (zs_goto X dX1_wayByHeads_104 (by decide) (zs_iret X rfl dX1_wayByHeads_108))) (zs_iload X dX1_wayByHeads_94 (zs_if_ne X dX1_wayByHeads_96 (by decide) (zs_iconst X (by decide) dX1_wayByHeads_107 (zs_iret X rfl dX1_wayByHeads_108)) (zs_iload_n X rfl dX1_wayByHeads_99 (zs_if_le X dX1_wayByHeads_100 (by decide) (zs_iconst X (by decide) dX1_wayByHeads_107 (zs_iret X rfl dX1_wayByHeads_108)) (zs_iconst X (by decide) dX1_wayByHeads_103 (zs_goto X dX1_wayByHeads_104 (by decide) (zs_iret X rfl dX1_wayByHeads_108))))))))))))) (zs_iload_n X rfl dX1_wayByHeads_34 (zs_aload_n X rfl dX1_wayByHeads_35 (zs_gf X (ci := 1) rfl (by decide) zm_in1 kw_X1_11 dX1_wayByHeads_36 (zs_iload X dX1_wayByHeads_39 (zs_aald X (fun _ => rfl) dX1_wayByHeads_41 (zs_gf X (ci := 2) rfl (by decide) zm_in2 kw_X1_61 dX1_wayByHeads_42 (zs_mn X (by decide) trivial kw_X1_67 km_mn1 km_2 km_mn3 dX1_wayByHeads_45 (zs_istore_n X rfl (by decide) dX1_wayByHeads_48 (zs_iload_n X rfl dX1_wayByHeads_49 (zs_aload_n X rfl dX1_wayByHeads_50 (zs_gf X (ci := 1) rfl (by decide) zm_in1 kw_X1_11 dX1_wayByHeads_51 (zs_iload X dX1_wayByHeads_54 (zs_aald X (fun _ => rfl) dX1_wayByHeads_56 (zs_gf X (ci := 2) rfl (by decide) zm_in2 kw_X1_64 dX1_wayByHeads_57 (zs_mx X (by decide) trivial kw_X1_34 km_mx1 km_2 km_mx3 dX1_wayByHeads_60 (zs_istore_n X rfl (by decide) dX1_wayByHeads_63 (zs_iload_n X rfl dX1_wayByHeads_64 (zs_aload_n X rfl dX1_wayByHeads_65 (zs_gf X (ci := 1) rfl (by decide) zm_in1 kw_X1_11 dX1_wayByHeads_66 (zs_iload X dX1_wayByHeads_69 (zs_aald X (fun _ => rfl) dX1_wayByHeads_71 (zs_iconst X (by decide) dX1_wayByHeads_72 (zs_cv X (M' := mX2_wayAlone) (n := 1) kd_X2_wayAlone ki_X2 (by decide +kernel) (by decide) kw_X1_44 rfl ks_X2_wayAlone kl_X2_wayAlone dX1_wayByHeads_73 (zs_iadd X dX1_wayByHeads_76 (zs_istore_n X rfl (by decide) dX1_wayByHeads_77 (zs_iinc X (by decide) (by decide) dX1_wayByHeads_78 (zs_goto X dX1_wayByHeads_81 (by decide) (fun _ _ _ h => h))))))))))))))))))))))))))))))))
set_option maxRecDepth 20000 in
theorem bkX1_judgeSlope_0 {w : zW} {Γ : zC} {N S : Nat} {Rt : zR} (X : zm_X w Γ mX1_judgeSlope N S Rt) : ∀ lv st h, (zi_lda 0 (zi_gf 1 0 (zi_push (.int 0) (zi_aa 2 (zi_gf 2 13 (zi_sti 1 (zi_lda 0 (zi_lda 0 (zi_gf 1 1 (zi_push (.int 1) (zi_b (fun x y => x - y) (zi_cv w mX1_has 1 2 N S (zi_if (fun x => x = 0) (zi_ldi 1 (zm_V w Γ 41)) (zi_lda 0 (zi_gf 1 0 (zi_lda 0 (zi_gf 1 1 (zi_push (.int 1) (zi_b (fun x y => x - y) (zi_aa 2 (zi_gf 2 13 (zm_V w Γ 41)))))))))))))))))))))) lv st h → zm_V w Γ 0 lv st h := (zs_aload_n X rfl dX1_judgeSlope_0 (zs_gf X (ci := 1) rfl (by decide) zm_in1 kw_X1_11 dX1_judgeSlope_1 (zs_iconst X (by decide) dX1_judgeSlope_4 (zs_aald X (fun _ => rfl) dX1_judgeSlope_5 (zs_gf X (ci := 2) rfl (by decide) zm_in2 kw_X1_70 dX1_judgeSlope_6 (zs_istore_n X rfl (by decide) dX1_judgeSlope_9 (zs_aload_n X rfl dX1_judgeSlope_10 (zs_aload_n X rfl dX1_judgeSlope_11 (zs_gf X (ci := 1) rfl (by decide) zm_in1 kw_X1_17 dX1_judgeSlope_12 (zs_iconst X (by decide) dX1_judgeSlope_15 (zs_isub X dX1_judgeSlope_16 (zs_cv X (M' := mX1_has) (n := 1) kd_X1_has ki_X1 (by decide +kernel) (by decide) kw_X1_73 rfl ks_X1_has kl_X1_has dX1_judgeSlope_17 (zs_if_eq X dX1_judgeSlope_20 (by decide) (zs_iload_n X rfl dX1_judgeSlope_40 (fun _ _ _ h => h)) (zs_aload_n X rfl dX1_judgeSlope_23 (zs_gf X (ci := 1) rfl (by decide) zm_in1 kw_X1_11 dX1_judgeSlope_24 (zs_aload_n X rfl dX1_judgeSlope_27 (zs_gf X (ci := 1) rfl (by decide) zm_in1 kw_X1_17 dX1_judgeSlope_28 (zs_iconst X (by decide) dX1_judgeSlope_31 (zs_isub X dX1_judgeSlope_32 (zs_aald X (fun _ => rfl) dX1_judgeSlope_33 (zs_gf X (ci := 2) rfl (by decide) zm_in2 kw_X1_70 dX1_judgeSlope_34 (zs_goto X dX1_judgeSlope_37 (by decide) (fun _ _ _ h => h)))))))))))))))))))))))
set_option maxRecDepth 20000 in
theorem bkX1_judgeSlope_41 {w : zW} {Γ : zC} {N S : Nat} {Rt : zR} (X : zm_X w Γ mX1_judgeSlope N S Rt) : ∀ lv st h, (zi_sti 2 (zi_lda 0 (zi_lda 0 (zi_gf 1 2 (zi_if (fun x => x = 0) (zm_V w Γ 68) (zi_ldi 1 (zi_ldi 2 (zi_ic (fun x y => x = y) (zm_V w Γ 64) (zi_lda 0 (zi_ldi 1 (zi_ldi 2 (zi_cv w mX1_isInnerFarther 1 3 N S (zi_if (fun x => x = 0) (zm_V w Γ 68) (zm_V w Γ 64)))))))))))))) lv st h → zm_V w Γ 41 lv st h := (zs_istore_n X rfl (by decide) dX1_judgeSlope_41 (zs_aload_n X rfl dX1_judgeSlope_42 (zs_aload_n X rfl dX1_judgeSlope_43 (zs_gf X (ci := 1) rfl (by decide) zm_in1 kw_X1_51 dX1_judgeSlope_44 (zs_if_eq X dX1_judgeSlope_47 (by decide) (fun _ _ _ h => h) (zs_iload_n X rfl dX1_judgeSlope_50 (zs_iload_n X rfl dX1_judgeSlope_51 (zs_icmp_eq X dX1_judgeSlope_52 (by decide) (fun _ _ _ h => h) (zs_aload_n X rfl dX1_judgeSlope_55 (zs_iload_n X rfl dX1_judgeSlope_56 (zs_iload_n X rfl dX1_judgeSlope_57 (zs_cv X (M' := mX1_isInnerFarther) (n := 2) kd_X1_isInnerFarther ki_X1 (by decide +kernel) (by decide) kw_X1_77 rfl ks_X1_isInnerFarther kl_X1_isInnerFarther dX1_judgeSlope_58 (zs_if_eq X dX1_judgeSlope_61 (by decide) (fun _ _ _ h => h) (fun _ _ _ h => h))))))))))))))
set_option maxRecDepth 20000 in
theorem bkX1_judgeSlope_64 {w : zW} {Γ : zC} {N S : Nat} {Rt : zR} (X : zm_X w Γ mX1_judgeSlope N S Rt) : ∀ lv st h, (zi_push (.int 1) (zm_V w Γ 69)) lv st h → zm_V w Γ 64 lv st h := (zs_iconst X (by decide) dX1_judgeSlope_64 (zs_goto X dX1_judgeSlope_65 (by decide) (fun _ _ _ h => h)))
set_option maxRecDepth 20000 in
theorem bkX1_judgeSlope_68 {w : zW} {Γ : zC} {N S : Nat} {Rt : zR} (X : zm_X w Γ mX1_judgeSlope N S Rt) : ∀ lv st h, (zi_push (.int 0) (zm_V w Γ 69)) lv st h → zm_V w Γ 68 lv st h := (zs_iconst X (by decide) dX1_judgeSlope_68 (fun _ _ _ h => h))
set_option maxRecDepth 20000 in
theorem bkX1_judgeSlope_69 {w : zW} {Γ : zC} {N S : Nat} {Rt : zR} (X : zm_X w Γ mX1_judgeSlope N S Rt) : ∀ lv st h, (zi_pf 1 7 .boolean (zi_lda 0 (zi_lda 0 (zi_gf 1 7 (zi_if (fun x => x = 0) (zi_lda 0 (zi_gf 1 2 (zi_if (fun x => x = 0) (zi_push (.int 0) (zi_pf 1 5 .int (zi_vret Rt))) (zi_push (.int (-6)) (zi_push (.int 6) (zi_ldi 2 (zi_ldi 1 (zi_b (fun x y => x - y) (zi_push (.int 2) (zi_d (fun x y => x / y) (zi_mn N S (zi_mx N S (zi_pf 1 5 .int (zi_vret Rt)))))))))))))) (zi_push (.int 0) (zi_pf 1 5 .int (zi_vret Rt)))))))) lv st h → zm_V w Γ 69 lv st h := (zs_pf X (ci := 1) rfl (by decide) zm_in1 kw_X1_81 tyX1 tyX1_ok nmX1 rfl rfl dX1_judgeSlope_69 (zs_aload_n X rfl dX1_judgeSlope_72 (zs_aload_n X rfl dX1_judgeSlope_73 (zs_gf X (ci := 1) rfl (by decide) zm_in1 kw_X1_81 dX1_judgeSlope_74 (zs_if_ne X dX1_judgeSlope_77 (by decide) (zs_iconst X (by decide) dX1_judgeSlope_87 (zs_goto X dX1_judgeSlope_88 (by decide) (zs_pf X (ci := 1) rfl (by decide) zm_in1 kw_X1_85 tyX1 tyX1_ok nmX1 rfl rfl dX1_judgeSlope_106 (zs_vret X rfl dX1_judgeSlope_109)))) (zs_aload_n X rfl dX1_judgeSlope_80 (zs_gf X (ci := 1) rfl (by decide) zm_in1 kw_X1_51 dX1_judgeSlope_81 (zs_if_ne X dX1_judgeSlope_84 (by decide) (zs_bipush X (by decide) dX1_judgeSlope_91 (zs_bipush X (by decide) dX1_judgeSlope_93 (zs_iload_n X rfl dX1_judgeSlope_95 (zs_iload_n X rfl dX1_judgeSlope_96 (zs_isub X dX1_judgeSlope_97 (zs_iconst X (by decide) dX1_judgeSlope_98 (zs_idiv X dX1_judgeSlope_99 (zs_mn X (by decide) trivial kw_X1_67 km_mn1 km_2 km_mn3 dX1_judgeSlope_100 (zs_mx X (by decide) trivial kw_X1_34 km_mx1 km_2 km_mx3 dX1_judgeSlope_103 (zs_pf X (ci := 1) rfl (by decide) zm_in1 kw_X1_85 tyX1 tyX1_ok nmX1 rfl rfl dX1_judgeSlope_106 (zs_vret X rfl dX1_judgeSlope_109))))))))))) (zs_iconst X (by decide) dX1_judgeSlope_87 (zs_goto X dX1_judgeSlope_88 (by decide) (zs_pf X (ci := 1) rfl (by decide) zm_in1 kw_X1_85 tyX1 tyX1_ok nmX1 rfl rfl dX1_judgeSlope_106 (zs_vret X rfl dX1_judgeSlope_109))))))))))))
set_option maxRecDepth 20000 in
theorem bkX1_isInnerFarther_0 {w : zW} {Γ : zC} {N S : Nat} {Rt : zR} (X : zm_X w Γ mX1_isInnerFarther N S Rt) : ∀ lv st h, (zi_push (.int 0) (zi_sti 3 (zi_push (.int 1) (zi_sti 4 (zm_V w Γ 5))))) lv st h → zm_V w Γ 0 lv st h := (zs_iconst X (by decide) dX1_isInnerFarther_0 (zs_istore_n X rfl (by decide) dX1_isInnerFarther_1 (zs_iconst X (by decide) dX1_isInnerFarther_2 (zs_istore X (by decide) dX1_isInnerFarther_3 (fun _ _ _ h => h)))))
set_option maxRecDepth 20000 in
theorem bkX1_isInnerFarther_5 {w : zW} {Γ : zC} {N S : Nat} {Rt : zR} (X : zm_X w Γ mX1_isInnerFarther N S Rt) : ∀ lv st h, (zi_ldi 4 (zi_lda 0 (zi_gf 1 1 (zi_push (.int 1) (zi_b (fun x y => x - y) (zi_ic (fun x y => y ≤ x) (zi_ldi 3 (zi_zret Rt)) (zi_lda 0 (zi_gf 1 0 (zi_ldi 4 (zi_aa 2 (zi_gf 2 13 (zi_sti 5 (zi_ldi 3 (zi_if (fun x => x = 0) (zi_ldi 5 (zi_ldi 1 (zi_b (fun x y => x - y) (zi_lda 0 (zi_gf 1 2 (zi_b (fun x y => x * y) (zi_if (fun x => x ≤ 0) (zi_push (.int 0) (zi_sti 3 (zi_inc 4 1 (zm_V w Γ 5)))) (zi_ldi 5 (zi_ldi 2 (zi_b (fun x y => x - y) (zi_lda 0 (zi_gf 1 2 (zi_b (fun x y => x * y) (zi_if (fun x => x ≤ 0) (zi_push (.int 0) (zi_sti 3 (zi_inc 4 1 (zm_V w Γ 5)))) (zi_push (.int 1) (zi_sti 3 (zi_inc 4 1 (zm_V w Γ 5)))))))))))))))))) (zi_push (.int 1) (zi_sti 3 (zi_inc 4 1 (zm_V w Γ 5)))))))))))))))))) lv st h → zm_V w Γ 5 lv st h := (zs_iload X dX1_isInnerFarther_5 (zs_aload_n X rfl dX1_isInnerFarther_7 (zs_gf X (ci := 1) rfl (by decide) zm_in1 kw_X1_17 dX1_isInnerFarther_8 (zs_iconst X (by decide) dX1_isInnerFarther_11 (zs_isub X dX1_isInnerFarther_12 (zs_icmp_ge X dX1_isInnerFarther_13 (by decide) (zs_iload_n X rfl dX1_isInnerFarther_68 (zs_zret X rfl dX1_isInnerFarther_69)) (zs_aload_n X rfl dX1_isInnerFarther_16 (zs_gf X (ci := 1) rfl (by decide) zm_in1 kw_X1_11 dX1_isInnerFarther_17 (zs_iload X dX1_isInnerFarther_20 (zs_aald X (fun _ => rfl) dX1_isInnerFarther_22 (zs_gf X (ci := 2) rfl (by decide) zm_in2 kw_X1_70 dX1_isInnerFarther_23 (zs_istore X (by decide) dX1_isInnerFarther_26 (zs_iload_n X rfl dX1_isInnerFarther_28 (zs_if_ne X dX1_isInnerFarther_29 (by decide) (zs_iconst X (by decide) dX1_isInnerFarther_56 (zs_goto X dX1_isInnerFarther_57 (by decide) (zs_istore_n X rfl (by decide) dX1_isInnerFarther_61 (zs_iinc X (by decide) (by decide) dX1_isInnerFarther_62 (zs_goto X dX1_isInnerFarther_65 (by decide) (fun _ _ _ h => h)))))) (zs_iload X dX1_isInnerFarther_32 (zs_iload_n X rfl dX1_isInnerFarther_34 (zs_isub X dX1_isInnerFarther_35 (zs_aload_n X rfl dX1_isInnerFarther_36 (zs_gf X (ci := 1) rfl (by decide) zm_in1 kw_X1_51 dX1_isInnerFarther_37 (zs_imul X dX1_isInnerFarther_40 (zs_if_le X dX1_isInnerFarther_41 (by decide) (zs_iconst X (by decide) dX1_isInnerFarther_60 (zs_istore_n X rfl (by decide) dX1_isInnerFarther_61 (zs_iinc X (by decide) (by decide) dX1_isInnerFarther_62 (zs_goto X dX1_isInnerFarther_65 (by decide) (fun _ _ _ h => h))))) (zs_iload X dX1_isInnerFarther_44 (zs_iload_n X rfl dX1_isInnerFarther_46 (zs_isub X dX1_isInnerFarther_47 (zs_aload_n X rfl dX1_isInnerFarther_48 (zs_gf X (ci := 1) rfl (by decide) zm_in1 kw_X1_51 dX1_isInnerFarther_49 (zs_imul X dX1_isInnerFarther_52 (zs_if_le X dX1_isInnerFarther_53 (by decide) (zs_iconst X (by decide) dX1_isInnerFarther_60 (zs_istore_n X rfl (by decide) dX1_isInnerFarther_61 (zs_iinc X (by decide) (by decide) dX1_isInnerFarther_62 (zs_goto X dX1_isInnerFarther_65 (by decide) (fun _ _ _ h => h))))) (zs_iconst X (by decide) dX1_isInnerFarther_56 (zs_goto X dX1_isInnerFarther_57 (by decide) (zs_istore_n X rfl (by decide) dX1_isInnerFarther_61 (zs_iinc X (by decide) (by decide) dX1_isInnerFarther_62 (zs_goto X dX1_isInnerFarther_65 (by decide) (fun _ _ _ h => h))))))))))))))))))))))))))))))))))
set_option maxRecDepth 20000 in
theorem bkX1_findPlace_0 {w : zW} {Γ : zC} {N S : Nat} {Rt : zR} (X : zm_X w Γ mX1_findPlace N S Rt) : ∀ lv st h, (zi_lda 0 (zi_gf 1 2 (zi_if (fun x => x = 0) (zi_push (.int (-48)) (zm_V w Γ 24)) (zi_lda 0 (zi_cv w mX1_levelHeight 1 1 N S (zi_push (.int 24) (zi_lda 0 (zi_gf 1 2 (zi_b (fun x y => x * y) (zi_b (fun x y => x - y) (zm_V w Γ 24))))))))))) lv st h → zm_V w Γ 0 lv st h := (zs_aload_n X rfl dX1_findPlace_0 (zs_gf X (ci := 1) rfl (by decide) zm_in1 kw_X1_51 dX1_findPlace_1 (zs_if_ne X dX1_findPlace_4 (by decide) (zs_aload_n X rfl dX1_findPlace_12 (zs_cv X (M' := mX1_levelHeight) (n := 0) kd_X1_levelHeight ki_X1 (by decide +kernel) (by decide) kw_X1_88 rfl ks_X1_levelHeight kl_X1_levelHeight dX1_findPlace_13 (zs_bipush X (by decide) dX1_findPlace_16 (zs_aload_n X rfl dX1_findPlace_18 (zs_gf X (ci := 1) rfl (by decide) zm_in1 kw_X1_51 dX1_findPlace_19 (zs_imul X dX1_findPlace_22 (zs_isub X dX1_findPlace_23 (fun _ _ _ h => h)))))))) (zs_bipush X (by decide) dX1_findPlace_7 (zs_goto X dX1_findPlace_9 (by decide) (fun _ _ _ h => h))))))
set_option maxRecDepth 20000 in
theorem bkX1_findPlace_24 {w : zW} {Γ : zC} {N S : Nat} {Rt : zR} (X : zm_X w Γ mX1_findPlace N S Rt) : ∀ lv st h, (zi_sti 1 (zi_lda 0 (zi_gf 1 7 (zi_if (fun x => x = 0) (zi_push (.int 12) (zi_sti 2 (zi_lda 0 (zi_push (.long (-1)) (zi_pf 1 8 .long (zi_push (.int 0) (zi_sti 3 (zm_V w Γ 48)))))))) (zi_push (.int 0) (zi_sti 2 (zi_lda 0 (zi_push (.long (-1)) (zi_pf 1 8 .long (zi_push (.int 0) (zi_sti 3 (zm_V w Γ 48)))))))))))) lv st h → zm_V w Γ 24 lv st h := (zs_istore_n X rfl (by decide) dX1_findPlace_24 (zs_aload_n X rfl dX1_findPlace_25 (zs_gf X (ci := 1) rfl (by decide) zm_in1 kw_X1_81 dX1_findPlace_26 (zs_if_eq X dX1_findPlace_29 (by decide) (zs_bipush X (by decide) dX1_findPlace_36 (zs_istore_n X rfl (by decide) dX1_findPlace_38 (zs_aload_n X rfl dX1_findPlace_39 (zs_ldc2 X kw_X1_91 dX1_findPlace_40 (zs_pf X (ci := 1) rfl (by decide) zm_in1 kw_X1_93 tyX1 tyX1_ok nmX1 rfl rfl dX1_findPlace_43 (zs_iconst X (by decide) dX1_findPlace_46 (zs_istore_n X rfl (by decide) dX1_findPlace_47 (fun _ _ _ h => h)))))))) (zs_iconst X (by decide) dX1_findPlace_32 (zs_goto X dX1_findPlace_33 (by decide) (zs_istore_n X rfl (by decide) dX1_findPlace_38 (zs_aload_n X rfl dX1_findPlace_39 (zs_ldc2 X kw_X1_91 dX1_findPlace_40 (zs_pf X (ci := 1) rfl (by decide) zm_in1 kw_X1_93 tyX1 tyX1_ok nmX1 rfl rfl dX1_findPlace_43 (zs_iconst X (by decide) dX1_findPlace_46 (zs_istore_n X rfl (by decide) dX1_findPlace_47 (fun _ _ _ h => h)))))))))))))
set_option maxRecDepth 20000 in
theorem bkX1_findPlace_48 {w : zW} {Γ : zC} {N S : Nat} {Rt : zR} (X : zm_X w Γ mX1_findPlace N S Rt) : ∀ lv st h, (zi_ldi 3 (zi_ldi 2 (zi_ic (fun x y => y < x) (zi_lda 0 (zi_gf 1 8 (zi_push (.long 0) (zi_lcmp (zi_if (fun x => x < 0) (zi_push (.int 0) (zi_zret Rt)) (zi_push (.int 1) (zi_zret Rt))))))) (zi_ldi 3 (zi_push (.int 2) (zi_d (fun x y => x - x / y * y) (zi_push (.int 1) (zi_ic (fun x y => x = y) (zi_ldi 3 (zi_push (.int 1) (zi_b (fun x y => x + y) (zi_push (.int 2) (zi_d (fun x y => x / y) (zm_V w Γ 72)))))) (zi_ldi 3 (zi_u (fun x => -x) (zi_push (.int 2) (zi_d (fun x y => x / y) (zm_V w Γ 72))))))))))))) lv st h → zm_V w Γ 48 lv st h := (zs_iload_n X rfl dX1_findPlace_48 (zs_iload_n X rfl dX1_findPlace_49 (zs_icmp_gt X dX1_findPlace_50 (by decide) (zs_aload_n X rfl dX1_findPlace_110 (zs_gf X (ci := 1) rfl (by decide) zm_in1 kw_X1_93 dX1_findPlace_111 (zs_lconst X (by decide) dX1_findPlace_114 (zs_lcmp X dX1_findPlace_115 (zs_if_lt X dX1_findPlace_116 (by decide) (zs_iconst X (by decide) dX1_findPlace_123 (zs_zret X rfl dX1_findPlace_124)) (zs_iconst X (by decide) dX1_findPlace_119 (zs_goto X dX1_findPlace_120 (by decide) (zs_zret X rfl dX1_findPlace_124)))))))) (zs_iload_n X rfl dX1_findPlace_53 (zs_iconst X (by decide) dX1_findPlace_54 (zs_irem X dX1_findPlace_55 (zs_iconst X (by decide) dX1_findPlace_56 (zs_icmp_ne X dX1_findPlace_57 (by decide) (zs_iload_n X rfl dX1_findPlace_68 (zs_ineg X dX1_findPlace_69 (zs_iconst X (by decide) dX1_findPlace_70 (zs_idiv X dX1_findPlace_71 (fun _ _ _ h => h))))) (zs_iload_n X rfl dX1_findPlace_60 (zs_iconst X (by decide) dX1_findPlace_61 (zs_iadd X dX1_findPlace_62 (zs_iconst X (by decide) dX1_findPlace_63 (zs_idiv X dX1_findPlace_64 (zs_goto X dX1_findPlace_65 (by decide) (fun _ _ _ h => h)))))))))))))))
set_option maxRecDepth 20000 in
theorem bkX1_findPlace_72 {w : zW} {Γ : zC} {N S : Nat} {Rt : zR} (X : zm_X w Γ mX1_findPlace N S Rt) : ∀ lv st h, (zi_sti 4 (zi_lda 0 (zi_gf 1 8 (zi_push (.long 0) (zi_lcmp (zi_if (fun x => x < 0) (zm_V w Γ 97) (zi_lda 0 (zi_ldi 4 (zi_cv w mX1_slantBadness 1 2 N S (zi_lda 0 (zi_gf 1 8 (zi_lcmp (zi_if (fun x => 0 ≤ x) (zi_inc 3 1 (zm_V w Γ 48)) (zm_V w Γ 97)))))))))))))) lv st h → zm_V w Γ 72 lv st h := (zs_istore X (by decide) dX1_findPlace_72 (zs_aload_n X rfl dX1_findPlace_74 (zs_gf X (ci := 1) rfl (by decide) zm_in1 kw_X1_93 dX1_findPlace_75 (zs_lconst X (by decide) dX1_findPlace_78 (zs_lcmp X dX1_findPlace_79 (zs_if_lt X dX1_findPlace_80 (by decide) (fun _ _ _ h => h) (zs_aload_n X rfl dX1_findPlace_83 (zs_iload X dX1_findPlace_84 (zs_cv X (M' := mX1_slantBadness) (n := 1) kd_X1_slantBadness ki_X1 (by decide +kernel) (by decide) kw_X1_97 rfl ks_X1_slantBadness kl_X1_slantBadness dX1_findPlace_86 (zs_aload_n X rfl dX1_findPlace_89 (zs_gf X (ci := 1) rfl (by decide) zm_in1 kw_X1_93 dX1_findPlace_90 (zs_lcmp X dX1_findPlace_93 (zs_if_ge X dX1_findPlace_94 (by decide) (zs_iinc X (by decide) (by decide) dX1_findPlace_104 (zs_goto X dX1_findPlace_107 (by decide) (fun _ _ _ h => h))) (fun _ _ _ h => h))))))))))))))
set_option maxRecDepth 20000 in
theorem bkX1_findPlace_97 {w : zW} {Γ : zC} {N S : Nat} {Rt : zR} (X : zm_X w Γ mX1_findPlace N S Rt) : ∀ lv st h, (zi_lda 0 (zi_ldi 1 (zi_ldi 4 (zi_cv w mX1_tryHeights 1 3 N S (zi_inc 3 1 (zm_V w Γ 48)))))) lv st h → zm_V w Γ 97 lv st h := (zs_aload_n X rfl dX1_findPlace_97 (zs_iload_n X rfl dX1_findPlace_98 (zs_iload X dX1_findPlace_99 (zs_cv X (M' := mX1_tryHeights) (n := 2) kd_X1_tryHeights ki_X1 (by decide +kernel) (by decide) kw_X1_101 rfl ks_X1_tryHeights kl_X1_tryHeights dX1_findPlace_101 (zs_iinc X (by decide) (by decide) dX1_findPlace_104 (zs_goto X dX1_findPlace_107 (by decide) (fun _ _ _ h => h)))))))
