theorem dX0_init_0 : decode cX0_init 0 = .ok (.aload_n 0, 1) := by decide +kernel
theorem dX0_init_1 : decode cX0_init 1 = .ok (.invokespecial 3, 3) := by decide +kernel
theorem dX0_init_4 : decode cX0_init 4 = .ok (.aload_n 0, 1) := by decide +kernel
theorem dX0_init_5 : decode cX0_init 5 = .ok (.bipush 16, 2) := by decide +kernel
theorem dX0_init_7 : decode cX0_init 7 = .ok (.newarray .int, 2) := by decide +kernel
theorem dX0_init_9 : decode cX0_init 9 = .ok (.putfield 9, 3) := by decide +kernel
theorem dX0_init_12 : decode cX0_init 12 = .ok (.aload_n 0, 1) := by decide +kernel
theorem dX0_init_13 : decode cX0_init 13 = .ok (.iconst 4, 1) := by decide +kernel
theorem dX0_init_14 : decode cX0_init 14 = .ok (.iconst 4, 1) := by decide +kernel
theorem dX0_init_15 : decode cX0_init 15 = .ok (.iconst 0, 1) := by decide +kernel
theorem dX0_init_16 : decode cX0_init 16 = .ok (.invokevirtual 15, 3) := by decide +kernel
theorem dX0_init_19 : decode cX0_init 19 = .ok (.return_, 1) := by decide +kernel
theorem dX0_isMeter_0 : decode cX0_isMeter 0 = .ok (.iload_n 0, 1) := by decide +kernel
theorem dX0_isMeter_1 : decode cX0_isMeter 1 = .ok (.iconst 1, 1) := by decide +kernel
theorem dX0_isMeter_2 : decode cX0_isMeter 2 = .ok (.if_icmp .lt 32, 3) := by decide +kernel
theorem dX0_isMeter_5 : decode cX0_isMeter 5 = .ok (.iload_n 0, 1) := by decide +kernel
theorem dX0_isMeter_6 : decode cX0_isMeter 6 = .ok (.bipush 16, 2) := by decide +kernel
theorem dX0_isMeter_8 : decode cX0_isMeter 8 = .ok (.if_icmp .gt 26, 3) := by decide +kernel
theorem dX0_isMeter_11 : decode cX0_isMeter 11 = .ok (.iload_n 1, 1) := by decide +kernel
theorem dX0_isMeter_12 : decode cX0_isMeter 12 = .ok (.invokestatic 19, 3) := by decide +kernel
theorem dX0_isMeter_15 : decode cX0_isMeter 15 = .ok (.ifCond .le 19, 3) := by decide +kernel
theorem dX0_isMeter_18 : decode cX0_isMeter 18 = .ok (.iload_n 2, 1) := by decide +kernel
theorem dX0_isMeter_19 : decode cX0_isMeter 19 = .ok (.ifCond .eq 11, 3) := by decide +kernel
theorem dX0_isMeter_22 : decode cX0_isMeter 22 = .ok (.iload_n 2, 1) := by decide +kernel
theorem dX0_isMeter_23 : decode cX0_isMeter 23 = .ok (.iload_n 0, 1) := by decide +kernel
theorem dX0_isMeter_24 : decode cX0_isMeter 24 = .ok (.invokestatic 23, 3) := by decide +kernel
theorem dX0_isMeter_27 : decode cX0_isMeter 27 = .ok (.ifCond .eq 7, 3) := by decide +kernel
theorem dX0_isMeter_30 : decode cX0_isMeter 30 = .ok (.iconst 1, 1) := by decide +kernel
theorem dX0_isMeter_31 : decode cX0_isMeter 31 = .ok (.goto 4, 3) := by decide +kernel
theorem dX0_isMeter_34 : decode cX0_isMeter 34 = .ok (.iconst 0, 1) := by decide +kernel
theorem dX0_isMeter_35 : decode cX0_isMeter 35 = .ok (.ireturn, 1) := by decide +kernel
theorem dX0_unitOf_0 : decode cX0_unitOf 0 = .ok (.iload_n 0, 1) := by decide +kernel
theorem dX0_unitOf_1 : decode cX0_unitOf 1 = .ok (.lookupswitch 56 #[(2, 43), (4, 47), (8, 50), (16, 53)], 43) := by decide +kernel
theorem dX0_unitOf_44 : decode cX0_unitOf 44 = .ok (.sipush 128, 3) := by decide +kernel
theorem dX0_unitOf_47 : decode cX0_unitOf 47 = .ok (.ireturn, 1) := by decide +kernel
theorem dX0_unitOf_48 : decode cX0_unitOf 48 = .ok (.bipush 64, 2) := by decide +kernel
theorem dX0_unitOf_50 : decode cX0_unitOf 50 = .ok (.ireturn, 1) := by decide +kernel
theorem dX0_unitOf_51 : decode cX0_unitOf 51 = .ok (.bipush 32, 2) := by decide +kernel
theorem dX0_unitOf_53 : decode cX0_unitOf 53 = .ok (.ireturn, 1) := by decide +kernel
theorem dX0_unitOf_54 : decode cX0_unitOf 54 = .ok (.bipush 16, 2) := by decide +kernel
theorem dX0_unitOf_56 : decode cX0_unitOf 56 = .ok (.ireturn, 1) := by decide +kernel
theorem dX0_unitOf_57 : decode cX0_unitOf 57 = .ok (.iconst 0, 1) := by decide +kernel
theorem dX0_unitOf_58 : decode cX0_unitOf 58 = .ok (.ireturn, 1) := by decide +kernel
theorem dX0_digitsAddUp_0 : decode cX0_digitsAddUp 0 = .ok (.iload_n 1, 1) := by decide +kernel
theorem dX0_digitsAddUp_1 : decode cX0_digitsAddUp 1 = .ok (.istore_n 2, 1) := by decide +kernel
theorem dX0_digitsAddUp_2 : decode cX0_digitsAddUp 2 = .ok (.iload_n 0, 1) := by decide +kernel
theorem dX0_digitsAddUp_3 : decode cX0_digitsAddUp 3 = .ok (.istore_n 3, 1) := by decide +kernel
theorem dX0_digitsAddUp_4 : decode cX0_digitsAddUp 4 = .ok (.iload_n 3, 1) := by decide +kernel
theorem dX0_digitsAddUp_5 : decode cX0_digitsAddUp 5 = .ok (.ifCond .le 27, 3) := by decide +kernel
theorem dX0_digitsAddUp_8 : decode cX0_digitsAddUp 8 = .ok (.iload_n 3, 1) := by decide +kernel
theorem dX0_digitsAddUp_9 : decode cX0_digitsAddUp 9 = .ok (.bipush 10, 2) := by decide +kernel
theorem dX0_digitsAddUp_11 : decode cX0_digitsAddUp 11 = .ok (.irem, 1) := by decide +kernel
theorem dX0_digitsAddUp_12 : decode cX0_digitsAddUp 12 = .ok (.ifCond .ne 5, 3) := by decide +kernel
theorem dX0_digitsAddUp_15 : decode cX0_digitsAddUp 15 = .ok (.iconst 0, 1) := by decide +kernel
theorem dX0_digitsAddUp_16 : decode cX0_digitsAddUp 16 = .ok (.ireturn, 1) := by decide +kernel
theorem dX0_digitsAddUp_17 : decode cX0_digitsAddUp 17 = .ok (.iload_n 2, 1) := by decide +kernel
theorem dX0_digitsAddUp_18 : decode cX0_digitsAddUp 18 = .ok (.iload_n 3, 1) := by decide +kernel
theorem dX0_digitsAddUp_19 : decode cX0_digitsAddUp 19 = .ok (.bipush 10, 2) := by decide +kernel
theorem dX0_digitsAddUp_21 : decode cX0_digitsAddUp 21 = .ok (.irem, 1) := by decide +kernel
theorem dX0_digitsAddUp_22 : decode cX0_digitsAddUp 22 = .ok (.isub, 1) := by decide +kernel
theorem dX0_digitsAddUp_23 : decode cX0_digitsAddUp 23 = .ok (.istore_n 2, 1) := by decide +kernel
theorem dX0_digitsAddUp_24 : decode cX0_digitsAddUp 24 = .ok (.iload_n 3, 1) := by decide +kernel
theorem dX0_digitsAddUp_25 : decode cX0_digitsAddUp 25 = .ok (.bipush 10, 2) := by decide +kernel
theorem dX0_digitsAddUp_27 : decode cX0_digitsAddUp 27 = .ok (.idiv, 1) := by decide +kernel
theorem dX0_digitsAddUp_28 : decode cX0_digitsAddUp 28 = .ok (.istore_n 3, 1) := by decide +kernel
theorem dX0_digitsAddUp_29 : decode cX0_digitsAddUp 29 = .ok (.goto (-25), 3) := by decide +kernel
theorem dX0_digitsAddUp_32 : decode cX0_digitsAddUp 32 = .ok (.iload_n 2, 1) := by decide +kernel
theorem dX0_digitsAddUp_33 : decode cX0_digitsAddUp 33 = .ok (.ifCond .ne 7, 3) := by decide +kernel
theorem dX0_digitsAddUp_36 : decode cX0_digitsAddUp 36 = .ok (.iconst 1, 1) := by decide +kernel
theorem dX0_digitsAddUp_37 : decode cX0_digitsAddUp 37 = .ok (.goto 4, 3) := by decide +kernel
theorem dX0_digitsAddUp_40 : decode cX0_digitsAddUp 40 = .ok (.iconst 0, 1) := by decide +kernel
theorem dX0_digitsAddUp_41 : decode cX0_digitsAddUp 41 = .ok (.ireturn, 1) := by decide +kernel
theorem dX0_set_0 : decode cX0_set 0 = .ok (.aload_n 0, 1) := by decide +kernel
theorem dX0_set_1 : decode cX0_set 1 = .ok (.iload_n 2, 1) := by decide +kernel
theorem dX0_set_2 : decode cX0_set 2 = .ok (.invokestatic 19, 3) := by decide +kernel
theorem dX0_set_5 : decode cX0_set 5 = .ok (.putfield 27, 3) := by decide +kernel
theorem dX0_set_8 : decode cX0_set 8 = .ok (.aload_n 0, 1) := by decide +kernel
theorem dX0_set_9 : decode cX0_set 9 = .ok (.iload_n 1, 1) := by decide +kernel
theorem dX0_set_10 : decode cX0_set 10 = .ok (.aload_n 0, 1) := by decide +kernel
theorem dX0_set_11 : decode cX0_set 11 = .ok (.getfield 27, 3) := by decide +kernel
theorem dX0_set_14 : decode cX0_set 14 = .ok (.imul, 1) := by decide +kernel
theorem dX0_set_15 : decode cX0_set 15 = .ok (.putfield 31, 3) := by decide +kernel
theorem dX0_set_18 : decode cX0_set 18 = .ok (.aload_n 0, 1) := by decide +kernel
theorem dX0_set_19 : decode cX0_set 19 = .ok (.iconst 0, 1) := by decide +kernel
theorem dX0_set_20 : decode cX0_set 20 = .ok (.putfield 34, 3) := by decide +kernel
theorem dX0_set_23 : decode cX0_set 23 = .ok (.iload_n 3, 1) := by decide +kernel
theorem dX0_set_24 : decode cX0_set 24 = .ok (.ifCond .ne 12, 3) := by decide +kernel
theorem dX0_set_27 : decode cX0_set 27 = .ok (.aload_n 0, 1) := by decide +kernel
theorem dX0_set_28 : decode cX0_set 28 = .ok (.iload_n 1, 1) := by decide +kernel
theorem dX0_set_29 : decode cX0_set 29 = .ok (.iload_n 2, 1) := by decide +kernel
theorem dX0_set_30 : decode cX0_set 30 = .ok (.invokevirtual 37, 3) := by decide +kernel
theorem dX0_set_33 : decode cX0_set 33 = .ok (.goto 8, 3) := by decide +kernel
theorem dX0_set_36 : decode cX0_set 36 = .ok (.aload_n 0, 1) := by decide +kernel
theorem dX0_set_37 : decode cX0_set 37 = .ok (.iload_n 3, 1) := by decide +kernel
theorem dX0_set_38 : decode cX0_set 38 = .ok (.invokevirtual 41, 3) := by decide +kernel
theorem dX0_set_41 : decode cX0_set 41 = .ok (.return_, 1) := by decide +kernel
theorem dX0_addUsualGroups_0 : decode cX0_addUsualGroups 0 = .ok (.iload_n 2, 1) := by decide +kernel
theorem dX0_addUsualGroups_1 : decode cX0_addUsualGroups 1 = .ok (.bipush 8, 2) := by decide +kernel
theorem dX0_addUsualGroups_3 : decode cX0_addUsualGroups 3 = .ok (.if_icmp .ge 7, 3) := by decide +kernel
theorem dX0_addUsualGroups_6 : decode cX0_addUsualGroups 6 = .ok (.iconst 1, 1) := by decide +kernel
theorem dX0_addUsualGroups_7 : decode cX0_addUsualGroups 7 = .ok (.goto 14, 3) := by decide +kernel
theorem dX0_addUsualGroups_10 : decode cX0_addUsualGroups 10 = .ok (.iload_n 1, 1) := by decide +kernel
theorem dX0_addUsualGroups_11 : decode cX0_addUsualGroups 11 = .ok (.iconst 3, 1) := by decide +kernel
theorem dX0_addUsualGroups_12 : decode cX0_addUsualGroups 12 = .ok (.irem, 1) := by decide +kernel
theorem dX0_addUsualGroups_13 : decode cX0_addUsualGroups 13 = .ok (.ifCond .ne 7, 3) := by decide +kernel
theorem dX0_addUsualGroups_16 : decode cX0_addUsualGroups 16 = .ok (.iconst 3, 1) := by decide +kernel
theorem dX0_addUsualGroups_17 : decode cX0_addUsualGroups 17 = .ok (.goto 4, 3) := by decide +kernel
theorem dX0_addUsualGroups_20 : decode cX0_addUsualGroups 20 = .ok (.iconst 2, 1) := by decide +kernel
theorem dX0_addUsualGroups_21 : decode cX0_addUsualGroups 21 = .ok (.istore_n 3, 1) := by decide +kernel
theorem dX0_addUsualGroups_22 : decode cX0_addUsualGroups 22 = .ok (.iconst 1, 1) := by decide +kernel
theorem dX0_addUsualGroups_23 : decode cX0_addUsualGroups 23 = .ok (.iload_n 1, 1) := by decide +kernel
theorem dX0_addUsualGroups_24 : decode cX0_addUsualGroups 24 = .ok (.iload_n 3, 1) := by decide +kernel
theorem dX0_addUsualGroups_25 : decode cX0_addUsualGroups 25 = .ok (.idiv, 1) := by decide +kernel
theorem dX0_addUsualGroups_26 : decode cX0_addUsualGroups 26 = .ok (.invokestatic 45, 3) := by decide +kernel
theorem dX0_addUsualGroups_29 : decode cX0_addUsualGroups 29 = .ok (.istore 4, 2) := by decide +kernel
theorem dX0_addUsualGroups_31 : decode cX0_addUsualGroups 31 = .ok (.iconst 1, 1) := by decide +kernel
theorem dX0_addUsualGroups_32 : decode cX0_addUsualGroups 32 = .ok (.istore 5, 2) := by decide +kernel
theorem dX0_addUsualGroups_34 : decode cX0_addUsualGroups 34 = .ok (.iload 5, 2) := by decide +kernel
theorem dX0_addUsualGroups_36 : decode cX0_addUsualGroups 36 = .ok (.iload 4, 2) := by decide +kernel
theorem dX0_addUsualGroups_38 : decode cX0_addUsualGroups 38 = .ok (.if_icmp .ge 14, 3) := by decide +kernel
theorem dX0_addUsualGroups_41 : decode cX0_addUsualGroups 41 = .ok (.aload_n 0, 1) := by decide +kernel
theorem dX0_addUsualGroups_42 : decode cX0_addUsualGroups 42 = .ok (.iload_n 3, 1) := by decide +kernel
theorem dX0_addUsualGroups_43 : decode cX0_addUsualGroups 43 = .ok (.invokevirtual 51, 3) := by decide +kernel
theorem dX0_addUsualGroups_46 : decode cX0_addUsualGroups 46 = .ok (.iinc 5 1, 3) := by decide +kernel
theorem dX0_addUsualGroups_49 : decode cX0_addUsualGroups 49 = .ok (.goto (-15), 3) := by decide +kernel
theorem dX0_addUsualGroups_52 : decode cX0_addUsualGroups 52 = .ok (.aload_n 0, 1) := by decide +kernel
theorem dX0_addUsualGroups_53 : decode cX0_addUsualGroups 53 = .ok (.iload_n 1, 1) := by decide +kernel
theorem dX0_addUsualGroups_54 : decode cX0_addUsualGroups 54 = .ok (.iload_n 3, 1) := by decide +kernel
theorem dX0_addUsualGroups_55 : decode cX0_addUsualGroups 55 = .ok (.iload 4, 2) := by decide +kernel
theorem dX0_addUsualGroups_57 : decode cX0_addUsualGroups 57 = .ok (.iconst 1, 1) := by decide +kernel
theorem dX0_addUsualGroups_58 : decode cX0_addUsualGroups 58 = .ok (.isub, 1) := by decide +kernel
theorem dX0_addUsualGroups_59 : decode cX0_addUsualGroups 59 = .ok (.imul, 1) := by decide +kernel
theorem dX0_addUsualGroups_60 : decode cX0_addUsualGroups 60 = .ok (.isub, 1) := by decide +kernel
theorem dX0_addUsualGroups_61 : decode cX0_addUsualGroups 61 = .ok (.invokevirtual 51, 3) := by decide +kernel
theorem dX0_addUsualGroups_64 : decode cX0_addUsualGroups 64 = .ok (.return_, 1) := by decide +kernel
theorem dX0_addToldGroups_0 : decode cX0_addToldGroups 0 = .ok (.iconst 1, 1) := by decide +kernel
theorem dX0_addToldGroups_1 : decode cX0_addToldGroups 1 = .ok (.istore_n 2, 1) := by decide +kernel
theorem dX0_addToldGroups_2 : decode cX0_addToldGroups 2 = .ok (.iload_n 1, 1) := by decide +kernel
theorem dX0_addToldGroups_3 : decode cX0_addToldGroups 3 = .ok (.bipush 10, 2) := by decide +kernel
theorem dX0_addToldGroups_5 : decode cX0_addToldGroups 5 = .ok (.idiv, 1) := by decide +kernel
theorem dX0_addToldGroups_6 : decode cX0_addToldGroups 6 = .ok (.istore_n 3, 1) := by decide +kernel
theorem dX0_addToldGroups_7 : decode cX0_addToldGroups 7 = .ok (.iload_n 3, 1) := by decide +kernel
theorem dX0_addToldGroups_8 : decode cX0_addToldGroups 8 = .ok (.ifCond .le 16, 3) := by decide +kernel
theorem dX0_addToldGroups_11 : decode cX0_addToldGroups 11 = .ok (.iload_n 2, 1) := by decide +kernel
theorem dX0_addToldGroups_12 : decode cX0_addToldGroups 12 = .ok (.bipush 10, 2) := by decide +kernel
theorem dX0_addToldGroups_14 : decode cX0_addToldGroups 14 = .ok (.imul, 1) := by decide +kernel
theorem dX0_addToldGroups_15 : decode cX0_addToldGroups 15 = .ok (.istore_n 2, 1) := by decide +kernel
theorem dX0_addToldGroups_16 : decode cX0_addToldGroups 16 = .ok (.iload_n 3, 1) := by decide +kernel
theorem dX0_addToldGroups_17 : decode cX0_addToldGroups 17 = .ok (.bipush 10, 2) := by decide +kernel
theorem dX0_addToldGroups_19 : decode cX0_addToldGroups 19 = .ok (.idiv, 1) := by decide +kernel
theorem dX0_addToldGroups_20 : decode cX0_addToldGroups 20 = .ok (.istore_n 3, 1) := by decide +kernel
theorem dX0_addToldGroups_21 : decode cX0_addToldGroups 21 = .ok (.goto (-14), 3) := by decide +kernel
theorem dX0_addToldGroups_24 : decode cX0_addToldGroups 24 = .ok (.iload_n 2, 1) := by decide +kernel
theorem dX0_addToldGroups_25 : decode cX0_addToldGroups 25 = .ok (.ifCond .le 21, 3) := by decide +kernel
theorem dX0_addToldGroups_28 : decode cX0_addToldGroups 28 = .ok (.aload_n 0, 1) := by decide +kernel
theorem dX0_addToldGroups_29 : decode cX0_addToldGroups 29 = .ok (.iload_n 1, 1) := by decide +kernel
theorem dX0_addToldGroups_30 : decode cX0_addToldGroups 30 = .ok (.iload_n 2, 1) := by decide +kernel
theorem dX0_addToldGroups_31 : decode cX0_addToldGroups 31 = .ok (.idiv, 1) := by decide +kernel
theorem dX0_addToldGroups_32 : decode cX0_addToldGroups 32 = .ok (.bipush 10, 2) := by decide +kernel
theorem dX0_addToldGroups_34 : decode cX0_addToldGroups 34 = .ok (.irem, 1) := by decide +kernel
theorem dX0_addToldGroups_35 : decode cX0_addToldGroups 35 = .ok (.invokevirtual 51, 3) := by decide +kernel
theorem dX0_addToldGroups_38 : decode cX0_addToldGroups 38 = .ok (.iload_n 2, 1) := by decide +kernel
theorem dX0_addToldGroups_39 : decode cX0_addToldGroups 39 = .ok (.bipush 10, 2) := by decide +kernel
theorem dX0_addToldGroups_41 : decode cX0_addToldGroups 41 = .ok (.idiv, 1) := by decide +kernel
theorem dX0_addToldGroups_42 : decode cX0_addToldGroups 42 = .ok (.istore_n 2, 1) := by decide +kernel
theorem dX0_addToldGroups_43 : decode cX0_addToldGroups 43 = .ok (.goto (-19), 3) := by decide +kernel
theorem dX0_addToldGroups_46 : decode cX0_addToldGroups 46 = .ok (.return_, 1) := by decide +kernel
theorem dX0_addGroup_0 : decode cX0_addGroup 0 = .ok (.aload_n 0, 1) := by decide +kernel
theorem dX0_addGroup_1 : decode cX0_addGroup 1 = .ok (.getfield 34, 3) := by decide +kernel
theorem dX0_addGroup_4 : decode cX0_addGroup 4 = .ok (.ifCond .le 29, 3) := by decide +kernel
theorem dX0_addGroup_7 : decode cX0_addGroup 7 = .ok (.aload_n 0, 1) := by decide +kernel
theorem dX0_addGroup_8 : decode cX0_addGroup 8 = .ok (.getfield 34, 3) := by decide +kernel
theorem dX0_addGroup_11 : decode cX0_addGroup 11 = .ok (.aload_n 0, 1) := by decide +kernel
theorem dX0_addGroup_12 : decode cX0_addGroup 12 = .ok (.getfield 9, 3) := by decide +kernel
theorem dX0_addGroup_15 : decode cX0_addGroup 15 = .ok (.arraylength, 1) := by decide +kernel
theorem dX0_addGroup_16 : decode cX0_addGroup 16 = .ok (.if_icmp .gt 17, 3) := by decide +kernel
theorem dX0_addGroup_19 : decode cX0_addGroup 19 = .ok (.aload_n 0, 1) := by decide +kernel
theorem dX0_addGroup_20 : decode cX0_addGroup 20 = .ok (.getfield 9, 3) := by decide +kernel
theorem dX0_addGroup_23 : decode cX0_addGroup 23 = .ok (.aload_n 0, 1) := by decide +kernel
theorem dX0_addGroup_24 : decode cX0_addGroup 24 = .ok (.getfield 34, 3) := by decide +kernel
theorem dX0_addGroup_27 : decode cX0_addGroup 27 = .ok (.iconst 1, 1) := by decide +kernel
theorem dX0_addGroup_28 : decode cX0_addGroup 28 = .ok (.isub, 1) := by decide +kernel
theorem dX0_addGroup_29 : decode cX0_addGroup 29 = .ok (.iaload, 1) := by decide +kernel
theorem dX0_addGroup_30 : decode cX0_addGroup 30 = .ok (.goto 4, 3) := by decide +kernel
theorem dX0_addGroup_33 : decode cX0_addGroup 33 = .ok (.iconst 0, 1) := by decide +kernel
theorem dX0_addGroup_34 : decode cX0_addGroup 34 = .ok (.istore_n 2, 1) := by decide +kernel
theorem dX0_addGroup_35 : decode cX0_addGroup 35 = .ok (.aload_n 0, 1) := by decide +kernel
theorem dX0_addGroup_36 : decode cX0_addGroup 36 = .ok (.getfield 34, 3) := by decide +kernel
theorem dX0_addGroup_39 : decode cX0_addGroup 39 = .ok (.aload_n 0, 1) := by decide +kernel
theorem dX0_addGroup_40 : decode cX0_addGroup 40 = .ok (.getfield 9, 3) := by decide +kernel
theorem dX0_addGroup_43 : decode cX0_addGroup 43 = .ok (.arraylength, 1) := by decide +kernel
theorem dX0_addGroup_44 : decode cX0_addGroup 44 = .ok (.if_icmp .ge 30, 3) := by decide +kernel
theorem dX0_addGroup_47 : decode cX0_addGroup 47 = .ok (.aload_n 0, 1) := by decide +kernel
theorem dX0_addGroup_48 : decode cX0_addGroup 48 = .ok (.getfield 9, 3) := by decide +kernel
theorem dX0_addGroup_51 : decode cX0_addGroup 51 = .ok (.aload_n 0, 1) := by decide +kernel
theorem dX0_addGroup_52 : decode cX0_addGroup 52 = .ok (.getfield 34, 3) := by decide +kernel
theorem dX0_addGroup_55 : decode cX0_addGroup 55 = .ok (.iload_n 2, 1) := by decide +kernel
theorem dX0_addGroup_56 : decode cX0_addGroup 56 = .ok (.iload_n 1, 1) := by decide +kernel
theorem dX0_addGroup_57 : decode cX0_addGroup 57 = .ok (.aload_n 0, 1) := by decide +kernel
theorem dX0_addGroup_58 : decode cX0_addGroup 58 = .ok (.getfield 27, 3) := by decide +kernel
theorem dX0_addGroup_61 : decode cX0_addGroup 61 = .ok (.imul, 1) := by decide +kernel
theorem dX0_addGroup_62 : decode cX0_addGroup 62 = .ok (.iadd, 1) := by decide +kernel
theorem dX0_addGroup_63 : decode cX0_addGroup 63 = .ok (.iastore, 1) := by decide +kernel
theorem dX0_addGroup_64 : decode cX0_addGroup 64 = .ok (.aload_n 0, 1) := by decide +kernel
theorem dX0_addGroup_65 : decode cX0_addGroup 65 = .ok (.dup, 1) := by decide +kernel
theorem dX0_addGroup_66 : decode cX0_addGroup 66 = .ok (.getfield 34, 3) := by decide +kernel
theorem dX0_addGroup_69 : decode cX0_addGroup 69 = .ok (.iconst 1, 1) := by decide +kernel
theorem dX0_addGroup_70 : decode cX0_addGroup 70 = .ok (.iadd, 1) := by decide +kernel
theorem dX0_addGroup_71 : decode cX0_addGroup 71 = .ok (.putfield 34, 3) := by decide +kernel
theorem dX0_addGroup_74 : decode cX0_addGroup 74 = .ok (.return_, 1) := by decide +kernel
theorem dX0_barAt_0 : decode cX0_barAt 0 = .ok (.aload_n 0, 1) := by decide +kernel
theorem dX0_barAt_1 : decode cX0_barAt 1 = .ok (.getfield 31, 3) := by decide +kernel
theorem dX0_barAt_4 : decode cX0_barAt 4 = .ok (.ifCond .le 12, 3) := by decide +kernel
theorem dX0_barAt_7 : decode cX0_barAt 7 = .ok (.iload_n 1, 1) := by decide +kernel
theorem dX0_barAt_8 : decode cX0_barAt 8 = .ok (.aload_n 0, 1) := by decide +kernel
theorem dX0_barAt_9 : decode cX0_barAt 9 = .ok (.getfield 31, 3) := by decide +kernel
theorem dX0_barAt_12 : decode cX0_barAt 12 = .ok (.idiv, 1) := by decide +kernel
theorem dX0_barAt_13 : decode cX0_barAt 13 = .ok (.goto 4, 3) := by decide +kernel
theorem dX0_barAt_16 : decode cX0_barAt 16 = .ok (.iconst 0, 1) := by decide +kernel
theorem dX0_barAt_17 : decode cX0_barAt 17 = .ok (.ireturn, 1) := by decide +kernel
theorem dX0_offsetAt_0 : decode cX0_offsetAt 0 = .ok (.aload_n 0, 1) := by decide +kernel
theorem dX0_offsetAt_1 : decode cX0_offsetAt 1 = .ok (.getfield 31, 3) := by decide +kernel
theorem dX0_offsetAt_4 : decode cX0_offsetAt 4 = .ok (.ifCond .le 12, 3) := by decide +kernel
theorem dX0_offsetAt_7 : decode cX0_offsetAt 7 = .ok (.iload_n 1, 1) := by decide +kernel
theorem dX0_offsetAt_8 : decode cX0_offsetAt 8 = .ok (.aload_n 0, 1) := by decide +kernel
theorem dX0_offsetAt_9 : decode cX0_offsetAt 9 = .ok (.getfield 31, 3) := by decide +kernel
theorem dX0_offsetAt_12 : decode cX0_offsetAt 12 = .ok (.irem, 1) := by decide +kernel
theorem dX0_offsetAt_13 : decode cX0_offsetAt 13 = .ok (.goto 4, 3) := by decide +kernel
theorem dX0_offsetAt_16 : decode cX0_offsetAt 16 = .ok (.iconst 0, 1) := by decide +kernel
theorem dX0_offsetAt_17 : decode cX0_offsetAt 17 = .ok (.ireturn, 1) := by decide +kernel
theorem dX0_groupAt_0 : decode cX0_groupAt 0 = .ok (.aload_n 0, 1) := by decide +kernel
theorem dX0_groupAt_1 : decode cX0_groupAt 1 = .ok (.iload_n 1, 1) := by decide +kernel
theorem dX0_groupAt_2 : decode cX0_groupAt 2 = .ok (.invokevirtual 54, 3) := by decide +kernel
theorem dX0_groupAt_5 : decode cX0_groupAt 5 = .ok (.istore_n 2, 1) := by decide +kernel
theorem dX0_groupAt_6 : decode cX0_groupAt 6 = .ok (.iconst 0, 1) := by decide +kernel
theorem dX0_groupAt_7 : decode cX0_groupAt 7 = .ok (.istore_n 3, 1) := by decide +kernel
theorem dX0_groupAt_8 : decode cX0_groupAt 8 = .ok (.iload_n 3, 1) := by decide +kernel
theorem dX0_groupAt_9 : decode cX0_groupAt 9 = .ok (.aload_n 0, 1) := by decide +kernel
theorem dX0_groupAt_10 : decode cX0_groupAt 10 = .ok (.getfield 34, 3) := by decide +kernel
theorem dX0_groupAt_13 : decode cX0_groupAt 13 = .ok (.iconst 1, 1) := by decide +kernel
theorem dX0_groupAt_14 : decode cX0_groupAt 14 = .ok (.isub, 1) := by decide +kernel
theorem dX0_groupAt_15 : decode cX0_groupAt 15 = .ok (.if_icmp .ge 28, 3) := by decide +kernel
theorem dX0_groupAt_18 : decode cX0_groupAt 18 = .ok (.iload_n 3, 1) := by decide +kernel
theorem dX0_groupAt_19 : decode cX0_groupAt 19 = .ok (.aload_n 0, 1) := by decide +kernel
theorem dX0_groupAt_20 : decode cX0_groupAt 20 = .ok (.getfield 9, 3) := by decide +kernel
theorem dX0_groupAt_23 : decode cX0_groupAt 23 = .ok (.arraylength, 1) := by decide +kernel
theorem dX0_groupAt_24 : decode cX0_groupAt 24 = .ok (.if_icmp .ge 19, 3) := by decide +kernel
theorem dX0_groupAt_27 : decode cX0_groupAt 27 = .ok (.aload_n 0, 1) := by decide +kernel
theorem dX0_groupAt_28 : decode cX0_groupAt 28 = .ok (.getfield 9, 3) := by decide +kernel
theorem dX0_groupAt_31 : decode cX0_groupAt 31 = .ok (.iload_n 3, 1) := by decide +kernel
theorem dX0_groupAt_32 : decode cX0_groupAt 32 = .ok (.iaload, 1) := by decide +kernel
theorem dX0_groupAt_33 : decode cX0_groupAt 33 = .ok (.iload_n 2, 1) := by decide +kernel
theorem dX0_groupAt_34 : decode cX0_groupAt 34 = .ok (.if_icmp .gt 9, 3) := by decide +kernel
theorem dX0_groupAt_37 : decode cX0_groupAt 37 = .ok (.iinc 3 1, 3) := by decide +kernel
theorem dX0_groupAt_40 : decode cX0_groupAt 40 = .ok (.goto (-32), 3) := by decide +kernel
theorem dX0_groupAt_43 : decode cX0_groupAt 43 = .ok (.iload_n 3, 1) := by decide +kernel
theorem dX0_groupAt_44 : decode cX0_groupAt 44 = .ok (.ireturn, 1) := by decide +kernel
theorem dJ9_floorMod_7cf53_0 : decode cJ9_floorMod_7cf53 0 = .ok (.iload_n 0, 1) := by decide +kernel
theorem dJ9_floorMod_7cf53_1 : decode cJ9_floorMod_7cf53 1 = .ok (.iload_n 1, 1) := by decide +kernel
theorem dJ9_floorMod_7cf53_2 : decode cJ9_floorMod_7cf53 2 = .ok (.irem, 1) := by decide +kernel
theorem dJ9_floorMod_7cf53_3 : decode cJ9_floorMod_7cf53 3 = .ok (.istore_n 2, 1) := by decide +kernel
theorem dJ9_floorMod_7cf53_4 : decode cJ9_floorMod_7cf53 4 = .ok (.iload_n 0, 1) := by decide +kernel
theorem dJ9_floorMod_7cf53_5 : decode cJ9_floorMod_7cf53 5 = .ok (.iload_n 1, 1) := by decide +kernel
theorem dJ9_floorMod_7cf53_6 : decode cJ9_floorMod_7cf53 6 = .ok (.ixor, 1) := by decide +kernel
theorem dJ9_floorMod_7cf53_7 : decode cJ9_floorMod_7cf53 7 = .ok (.ifCond .ge 11, 3) := by decide +kernel
theorem dJ9_floorMod_7cf53_10 : decode cJ9_floorMod_7cf53 10 = .ok (.iload_n 2, 1) := by decide +kernel
theorem dJ9_floorMod_7cf53_11 : decode cJ9_floorMod_7cf53 11 = .ok (.ifCond .eq 7, 3) := by decide +kernel
theorem dJ9_floorMod_7cf53_14 : decode cJ9_floorMod_7cf53 14 = .ok (.iload_n 2, 1) := by decide +kernel
theorem dJ9_floorMod_7cf53_15 : decode cJ9_floorMod_7cf53 15 = .ok (.iload_n 1, 1) := by decide +kernel
theorem dJ9_floorMod_7cf53_16 : decode cJ9_floorMod_7cf53 16 = .ok (.iadd, 1) := by decide +kernel
theorem dJ9_floorMod_7cf53_17 : decode cJ9_floorMod_7cf53 17 = .ok (.ireturn, 1) := by decide +kernel
theorem dJ9_floorMod_7cf53_18 : decode cJ9_floorMod_7cf53 18 = .ok (.iload_n 2, 1) := by decide +kernel
theorem dJ9_floorMod_7cf53_19 : decode cJ9_floorMod_7cf53 19 = .ok (.ireturn, 1) := by decide +kernel
set_option maxRecDepth 20000 in
theorem bkX0_init_0 {w : zW} {Γ : zC} {N S : Nat} {Rt : zR} (X : zm_X w Γ mX0_init N S Rt) : ∀ lv st h, (zi_lda 0 (zi_obj (zi_lda 0 (zi_push (.int 16) (zi_na N S 0 (.inl (fun _ => 0)) (zi_pf 0 0 (.array .int) (zi_lda 0 (zi_push (.int 4) (zi_push (.int 4) (zi_push (.int 0) (zi_cv w mX0_set 0 4 N S (zi_vret Rt)))))))))))) lv st h → zm_V w Γ 0 lv st h := (zs_aload_n X rfl dX0_init_0 (zs_obj X (by decide) kw_X0_3 ko_1 ko_2 dX0_init_1 (zs_aload_n X rfl dX0_init_4 (zs_bipush X (by decide) dX0_init_5 (zs_newa X (atype := .int) (fun _ => rfl) (fun _ _ => rfl) (by decide) (fun _ h => by cases h) ka_int dX0_init_7 (zs_pfF X (ci := 0) rfl (by decide) zm_in0 kw_X0_9 tyX0 tyX0_ok nmX0 rfl rfl rfl rfl dX0_init_9 (zs_aload_n X rfl dX0_init_12 (zs_iconst X (by decide) dX0_init_13 (zs_iconst X (by decide) dX0_init_14 (zs_iconst X (by decide) dX0_init_15 (zs_cv X (M' := mX0_set) (n := 3) kd_X0_set ki_X0 (by decide +kernel) (by decide) kw_X0_15 rfl ks_X0_set kl_X0_set dX0_init_16 (zs_vret X rfl dX0_init_19))))))))))))
set_option maxRecDepth 20000 in
theorem bkX0_isMeter_0 {w : zW} {Γ : zC} {N S : Nat} {Rt : zR} (X : zm_X w Γ mX0_isMeter N S Rt) : ∀ lv st h, (zi_ldi 0 (zi_push (.int 1) (zi_ic (fun x y => x < y) (zi_push (.int 0) (zi_zret Rt)) (zi_ldi 0 (zi_push (.int 16) (zi_ic (fun x y => y < x) (zi_push (.int 0) (zi_zret Rt)) (zi_ldi 1 (zi_cs w mX0_unitOf 1 N S (zi_if (fun x => x ≤ 0) (zi_push (.int 0) (zi_zret Rt)) (zi_ldi 2 (zi_if (fun x => x = 0) (zi_push (.int 1) (zi_zret Rt)) (zi_ldi 2 (zi_ldi 0 (zi_cs w mX0_digitsAddUp 2 N S (zi_if (fun x => x = 0) (zi_push (.int 0) (zi_zret Rt)) (zi_push (.int 1) (zi_zret Rt))))))))))))))))) lv st h → zm_V w Γ 0 lv st h := (zs_iload_n X rfl dX0_isMeter_0 (zs_iconst X (by decide) dX0_isMeter_1 (zs_icmp_lt X dX0_isMeter_2 (by decide) (zs_iconst X (by decide) dX0_isMeter_34 (zs_zret X rfl dX0_isMeter_35)) (zs_iload_n X rfl dX0_isMeter_5 (zs_bipush X (by decide) dX0_isMeter_6 (zs_icmp_gt X dX0_isMeter_8 (by decide) (zs_iconst X (by decide) dX0_isMeter_34 (zs_zret X rfl dX0_isMeter_35)) (zs_iload_n X rfl dX0_isMeter_11 (zs_cs X (M' := mX0_unitOf) (n := 1) kd_X0_unitOf ki_X0 (by decide +kernel) (by decide) kw_X0_19 ks_X0_unitOf dX0_isMeter_12 (zs_if_le X dX0_isMeter_15 (by decide) (zs_iconst X (by decide) dX0_isMeter_34 (zs_zret X rfl dX0_isMeter_35)) (zs_iload_n X rfl dX0_isMeter_18 (zs_if_eq X dX0_isMeter_19 (by decide) (zs_iconst X (by decide) dX0_isMeter_30 (zs_goto X dX0_isMeter_31 (by decide) (zs_zret X rfl dX0_isMeter_35))) (zs_iload_n X rfl dX0_isMeter_22 (zs_iload_n X rfl dX0_isMeter_23 (zs_cs X (M' := mX0_digitsAddUp) (n := 2) kd_X0_digitsAddUp ki_X0 (by decide +kernel) (by decide) kw_X0_23 ks_X0_digitsAddUp dX0_isMeter_24 (zs_if_eq X dX0_isMeter_27 (by decide) (zs_iconst X (by decide) dX0_isMeter_34 (zs_zret X rfl dX0_isMeter_35)) (zs_iconst X (by decide) dX0_isMeter_30 (zs_goto X dX0_isMeter_31 (by decide) (zs_zret X rfl dX0_isMeter_35))))))))))))))))))
set_option maxRecDepth 20000 in
theorem bkX0_unitOf_0 {w : zW} {Γ : zC} {N S : Nat} {Rt : zR} (X : zm_X w Γ mX0_unitOf N S Rt) : ∀ lv st h, (zi_ldi 0 (zi_sw [(2, (zi_push (.int 128) (zi_iret Rt))), (4, (zi_push (.int 64) (zi_iret Rt))), (8, (zi_push (.int 32) (zi_iret Rt))), (16, (zi_push (.int 16) (zi_iret Rt)))] (zi_push (.int 0) (zi_iret Rt)))) lv st h → zm_V w Γ 0 lv st h := (zs_iload_n X rfl dX0_unitOf_0 (zs_lsw X dX0_unitOf_1 (by decide) (zm_sw_cons (by decide) (by decide) (zs_sipush X (by decide) dX0_unitOf_44 (zs_iret X rfl dX0_unitOf_47)) (zm_sw_cons (by decide) (by decide) (zs_bipush X (by decide) dX0_unitOf_48 (zs_iret X rfl dX0_unitOf_50)) (zm_sw_cons (by decide) (by decide) (zs_bipush X (by decide) dX0_unitOf_51 (zs_iret X rfl dX0_unitOf_53)) (zm_sw_cons (by decide) (by decide) (zs_bipush X (by decide) dX0_unitOf_54 (zs_iret X rfl dX0_unitOf_56)) zm_sw_nil)))) (by decide) (zs_iconst X (by decide) dX0_unitOf_57 (zs_iret X rfl dX0_unitOf_58))))
set_option maxRecDepth 20000 in
theorem bkX0_digitsAddUp_0 {w : zW} {Γ : zC} {N S : Nat} {Rt : zR} (X : zm_X w Γ mX0_digitsAddUp N S Rt) : ∀ lv st h, (zi_ldi 1 (zi_sti 2 (zi_ldi 0 (zi_sti 3 (zm_V w Γ 4))))) lv st h → zm_V w Γ 0 lv st h := (zs_iload_n X rfl dX0_digitsAddUp_0 (zs_istore_n X rfl (by decide) dX0_digitsAddUp_1 (zs_iload_n X rfl dX0_digitsAddUp_2 (zs_istore_n X rfl (by decide) dX0_digitsAddUp_3 (fun _ _ _ h => h)))))
set_option maxRecDepth 20000 in
theorem bkX0_digitsAddUp_4 {w : zW} {Γ : zC} {N S : Nat} {Rt : zR} (X : zm_X w Γ mX0_digitsAddUp N S Rt) : ∀ lv st h, (zi_ldi 3 (zi_if (fun x => x ≤ 0) (zi_ldi 2 (zi_if (fun x => x = 0) (zi_push (.int 1) (zi_zret Rt)) (zi_push (.int 0) (zi_zret Rt)))) (zi_ldi 3 (zi_push (.int 10) (zi_d (fun x y => x - x / y * y) (zi_if (fun x => x = 0) (zi_push (.int 0) (zi_zret Rt)) (zi_ldi 2 (zi_ldi 3 (zi_push (.int 10) (zi_d (fun x y => x - x / y * y) (zi_b (fun x y => x - y) (zi_sti 2 (zi_ldi 3 (zi_push (.int 10) (zi_d (fun x y => x / y) (zi_sti 3 (zm_V w Γ 4))))))))))))))))) lv st h → zm_V w Γ 4 lv st h := (zs_iload_n X rfl dX0_digitsAddUp_4 (zs_if_le X dX0_digitsAddUp_5 (by decide) (zs_iload_n X rfl dX0_digitsAddUp_32 (zs_if_ne X dX0_digitsAddUp_33 (by decide) (zs_iconst X (by decide) dX0_digitsAddUp_40 (zs_zret X rfl dX0_digitsAddUp_41)) (zs_iconst X (by decide) dX0_digitsAddUp_36 (zs_goto X dX0_digitsAddUp_37 (by decide) (zs_zret X rfl dX0_digitsAddUp_41))))) (zs_iload_n X rfl dX0_digitsAddUp_8 (zs_bipush X (by decide) dX0_digitsAddUp_9 (zs_irem X dX0_digitsAddUp_11 (zs_if_ne X dX0_digitsAddUp_12 (by decide) (zs_iload_n X rfl dX0_digitsAddUp_17 (zs_iload_n X rfl dX0_digitsAddUp_18 (zs_bipush X (by decide) dX0_digitsAddUp_19 (zs_irem X dX0_digitsAddUp_21 (zs_isub X dX0_digitsAddUp_22 (zs_istore_n X rfl (by decide) dX0_digitsAddUp_23 (zs_iload_n X rfl dX0_digitsAddUp_24 (zs_bipush X (by decide) dX0_digitsAddUp_25 (zs_idiv X dX0_digitsAddUp_27 (zs_istore_n X rfl (by decide) dX0_digitsAddUp_28 (zs_goto X dX0_digitsAddUp_29 (by decide) (fun _ _ _ h => h)))))))))))) (zs_iconst X (by decide) dX0_digitsAddUp_15 (zs_zret X rfl dX0_digitsAddUp_16))))))))
set_option maxRecDepth 20000 in
theorem bkX0_set_0 {w : zW} {Γ : zC} {N S : Nat} {Rt : zR} (X : zm_X w Γ mX0_set N S Rt) : ∀ lv st h, (zi_lda 0 (zi_ldi 2 (zi_cs w mX0_unitOf 1 N S (zi_pf 0 3 .int (zi_lda 0 (zi_ldi 1 (zi_lda 0 (zi_gf 0 3 (zi_b (fun x y => x * y) (zi_pf 0 2 .int (zi_lda 0 (zi_push (.int 0) (zi_pf 0 1 .int (zi_ldi 3 (zi_if (fun x => x = 0) (zi_lda 0 (zi_ldi 1 (zi_ldi 2 (zi_cv w mX0_addUsualGroups 0 3 N S (zi_vret Rt))))) (zi_lda 0 (zi_ldi 3 (zi_cv w mX0_addToldGroups 0 2 N S (zi_vret Rt))))))))))))))))))) lv st h → zm_V w Γ 0 lv st h := (zs_aload_n X rfl dX0_set_0 (zs_iload_n X rfl dX0_set_1 (zs_cs X (M' := mX0_unitOf) (n := 1) kd_X0_unitOf ki_X0 (by decide +kernel) (by decide) kw_X0_19 ks_X0_unitOf dX0_set_2 (zs_pf X (ci := 0) rfl (by decide) zm_in0 kw_X0_27 tyX0 tyX0_ok nmX0 rfl rfl dX0_set_5 (zs_aload_n X rfl dX0_set_8 (zs_iload_n X rfl dX0_set_9 (zs_aload_n X rfl dX0_set_10 (zs_gf X (ci := 0) rfl (by decide) zm_in0 kw_X0_27 dX0_set_11 (zs_imul X dX0_set_14 (zs_pf X (ci := 0) rfl (by decide) zm_in0 kw_X0_31 tyX0 tyX0_ok nmX0 rfl rfl dX0_set_15 (zs_aload_n X rfl dX0_set_18 (zs_iconst X (by decide) dX0_set_19 (zs_pf X (ci := 0) rfl (by decide) zm_in0 kw_X0_34 tyX0 tyX0_ok nmX0 rfl rfl dX0_set_20 (zs_iload_n X rfl dX0_set_23 (zs_if_ne X dX0_set_24 (by decide) (zs_aload_n X rfl dX0_set_36 (zs_iload_n X rfl dX0_set_37 (zs_cv X (M' := mX0_addToldGroups) (n := 1) kd_X0_addToldGroups ki_X0 (by decide +kernel) (by decide) kw_X0_41 rfl ks_X0_addToldGroups kl_X0_addToldGroups dX0_set_38 (zs_vret X rfl dX0_set_41)))) (zs_aload_n X rfl dX0_set_27 (zs_iload_n X rfl dX0_set_28 (zs_iload_n X rfl dX0_set_29 (zs_cv X (M' := mX0_addUsualGroups) (n := 2) kd_X0_addUsualGroups ki_X0 (by decide +kernel) (by decide) kw_X0_37 rfl ks_X0_addUsualGroups kl_X0_addUsualGroups dX0_set_30 (zs_goto X dX0_set_33 (by decide) (zs_vret X rfl dX0_set_41)))))))))))))))))))))
set_option maxRecDepth 20000 in
theorem bkX0_addUsualGroups_0 {w : zW} {Γ : zC} {N S : Nat} {Rt : zR} (X : zm_X w Γ mX0_addUsualGroups N S Rt) : ∀ lv st h, (zi_ldi 2 (zi_push (.int 8) (zi_ic (fun x y => y ≤ x) (zi_ldi 1 (zi_push (.int 3) (zi_d (fun x y => x - x / y * y) (zi_if (fun x => x = 0) (zi_push (.int 3) (zm_V w Γ 21)) (zi_push (.int 2) (zm_V w Γ 21)))))) (zi_push (.int 1) (zm_V w Γ 21))))) lv st h → zm_V w Γ 0 lv st h := (zs_iload_n X rfl dX0_addUsualGroups_0 (zs_bipush X (by decide) dX0_addUsualGroups_1 (zs_icmp_ge X dX0_addUsualGroups_3 (by decide) (zs_iload_n X rfl dX0_addUsualGroups_10 (zs_iconst X (by decide) dX0_addUsualGroups_11 (zs_irem X dX0_addUsualGroups_12 (zs_if_ne X dX0_addUsualGroups_13 (by decide) (zs_iconst X (by decide) dX0_addUsualGroups_20 (fun _ _ _ h => h)) (zs_iconst X (by decide) dX0_addUsualGroups_16 (zs_goto X dX0_addUsualGroups_17 (by decide) (fun _ _ _ h => h))))))) (zs_iconst X (by decide) dX0_addUsualGroups_6 (zs_goto X dX0_addUsualGroups_7 (by decide) (fun _ _ _ h => h))))))
set_option maxRecDepth 20000 in
theorem bkX0_addUsualGroups_21 {w : zW} {Γ : zC} {N S : Nat} {Rt : zR} (X : zm_X w Γ mX0_addUsualGroups N S Rt) : ∀ lv st h, (zi_sti 3 (zi_push (.int 1) (zi_ldi 1 (zi_ldi 3 (zi_d (fun x y => x / y) (zi_mx N S (zi_sti 4 (zi_push (.int 1) (zi_sti 5 (zm_V w Γ 34)))))))))) lv st h → zm_V w Γ 21 lv st h := (zs_istore_n X rfl (by decide) dX0_addUsualGroups_21 (zs_iconst X (by decide) dX0_addUsualGroups_22 (zs_iload_n X rfl dX0_addUsualGroups_23 (zs_iload_n X rfl dX0_addUsualGroups_24 (zs_idiv X dX0_addUsualGroups_25 (zs_mx X (by decide) trivial kw_X0_45 km_mx1 km_2 km_mx3 dX0_addUsualGroups_26 (zs_istore X (by decide) dX0_addUsualGroups_29 (zs_iconst X (by decide) dX0_addUsualGroups_31 (zs_istore X (by decide) dX0_addUsualGroups_32 (fun _ _ _ h => h))))))))))
set_option maxRecDepth 20000 in
theorem bkX0_addUsualGroups_34 {w : zW} {Γ : zC} {N S : Nat} {Rt : zR} (X : zm_X w Γ mX0_addUsualGroups N S Rt) : ∀ lv st h, (zi_ldi 5 (zi_ldi 4 (zi_ic (fun x y => y ≤ x) (zi_lda 0 (zi_ldi 1 (zi_ldi 3 (zi_ldi 4 (zi_push (.int 1) (zi_b (fun x y => x - y) (zi_b (fun x y => x * y) (zi_b (fun x y => x - y) (zi_cv w mX0_addGroup 0 2 N S (zi_vret Rt)))))))))) (zi_lda 0 (zi_ldi 3 (zi_cv w mX0_addGroup 0 2 N S (zi_inc 5 1 (zm_V w Γ 34)))))))) lv st h → zm_V w Γ 34 lv st h := (zs_iload X dX0_addUsualGroups_34 (zs_iload X dX0_addUsualGroups_36 (zs_icmp_ge X dX0_addUsualGroups_38 (by decide) (zs_aload_n X rfl dX0_addUsualGroups_52 (zs_iload_n X rfl dX0_addUsualGroups_53 (zs_iload_n X rfl dX0_addUsualGroups_54 (zs_iload X dX0_addUsualGroups_55 (zs_iconst X (by decide) dX0_addUsualGroups_57 (zs_isub X dX0_addUsualGroups_58 (zs_imul X dX0_addUsualGroups_59 (zs_isub X dX0_addUsualGroups_60 (zs_cv X (M' := mX0_addGroup) (n := 1) kd_X0_addGroup ki_X0 (by decide +kernel) (by decide) kw_X0_51 rfl ks_X0_addGroup kl_X0_addGroup dX0_addUsualGroups_61 (zs_vret X rfl dX0_addUsualGroups_64)))))))))) (zs_aload_n X rfl dX0_addUsualGroups_41 (zs_iload_n X rfl dX0_addUsualGroups_42 (zs_cv X (M' := mX0_addGroup) (n := 1) kd_X0_addGroup ki_X0 (by decide +kernel) (by decide) kw_X0_51 rfl ks_X0_addGroup kl_X0_addGroup dX0_addUsualGroups_43 (zs_iinc X (by decide) (by decide) dX0_addUsualGroups_46 (zs_goto X dX0_addUsualGroups_49 (by decide) (fun _ _ _ h => h)))))))))
set_option maxRecDepth 20000 in
theorem bkX0_addToldGroups_0 {w : zW} {Γ : zC} {N S : Nat} {Rt : zR} (X : zm_X w Γ mX0_addToldGroups N S Rt) : ∀ lv st h, (zi_push (.int 1) (zi_sti 2 (zi_ldi 1 (zi_push (.int 10) (zi_d (fun x y => x / y) (zi_sti 3 (zm_V w Γ 7))))))) lv st h → zm_V w Γ 0 lv st h := (zs_iconst X (by decide) dX0_addToldGroups_0 (zs_istore_n X rfl (by decide) dX0_addToldGroups_1 (zs_iload_n X rfl dX0_addToldGroups_2 (zs_bipush X (by decide) dX0_addToldGroups_3 (zs_idiv X dX0_addToldGroups_5 (zs_istore_n X rfl (by decide) dX0_addToldGroups_6 (fun _ _ _ h => h)))))))
set_option maxRecDepth 20000 in
theorem bkX0_addToldGroups_7 {w : zW} {Γ : zC} {N S : Nat} {Rt : zR} (X : zm_X w Γ mX0_addToldGroups N S Rt) : ∀ lv st h, (zi_ldi 3 (zi_if (fun x => x ≤ 0) (zm_V w Γ 24) (zi_ldi 2 (zi_push (.int 10) (zi_b (fun x y => x * y) (zi_sti 2 (zi_ldi 3 (zi_push (.int 10) (zi_d (fun x y => x / y) (zi_sti 3 (zm_V w Γ 7))))))))))) lv st h → zm_V w Γ 7 lv st h := (zs_iload_n X rfl dX0_addToldGroups_7 (zs_if_le X dX0_addToldGroups_8 (by decide) (fun _ _ _ h => h) (zs_iload_n X rfl dX0_addToldGroups_11 (zs_bipush X (by decide) dX0_addToldGroups_12 (zs_imul X dX0_addToldGroups_14 (zs_istore_n X rfl (by decide) dX0_addToldGroups_15 (zs_iload_n X rfl dX0_addToldGroups_16 (zs_bipush X (by decide) dX0_addToldGroups_17 (zs_idiv X dX0_addToldGroups_19 (zs_istore_n X rfl (by decide) dX0_addToldGroups_20 (zs_goto X dX0_addToldGroups_21 (by decide) (fun _ _ _ h => h))))))))))))
set_option maxRecDepth 20000 in
theorem bkX0_addToldGroups_24 {w : zW} {Γ : zC} {N S : Nat} {Rt : zR} (X : zm_X w Γ mX0_addToldGroups N S Rt) : ∀ lv st h, (zi_ldi 2 (zi_if (fun x => x ≤ 0) (zi_vret Rt) (zi_lda 0 (zi_ldi 1 (zi_ldi 2 (zi_d (fun x y => x / y) (zi_push (.int 10) (zi_d (fun x y => x - x / y * y) (zi_cv w mX0_addGroup 0 2 N S (zi_ldi 2 (zi_push (.int 10) (zi_d (fun x y => x / y) (zi_sti 2 (zm_V w Γ 24)))))))))))))) lv st h → zm_V w Γ 24 lv st h := (zs_iload_n X rfl dX0_addToldGroups_24 (zs_if_le X dX0_addToldGroups_25 (by decide) (zs_vret X rfl dX0_addToldGroups_46) (zs_aload_n X rfl dX0_addToldGroups_28 (zs_iload_n X rfl dX0_addToldGroups_29 (zs_iload_n X rfl dX0_addToldGroups_30 (zs_idiv X dX0_addToldGroups_31 (zs_bipush X (by decide) dX0_addToldGroups_32 (zs_irem X dX0_addToldGroups_34 (zs_cv X (M' := mX0_addGroup) (n := 1) kd_X0_addGroup ki_X0 (by decide +kernel) (by decide) kw_X0_51 rfl ks_X0_addGroup kl_X0_addGroup dX0_addToldGroups_35 (zs_iload_n X rfl dX0_addToldGroups_38 (zs_bipush X (by decide) dX0_addToldGroups_39 (zs_idiv X dX0_addToldGroups_41 (zs_istore_n X rfl (by decide) dX0_addToldGroups_42 (zs_goto X dX0_addToldGroups_43 (by decide) (fun _ _ _ h => h)))))))))))))))
set_option maxRecDepth 20000 in
theorem bkX0_addGroup_0 {w : zW} {Γ : zC} {N S : Nat} {Rt : zR} (X : zm_X w Γ mX0_addGroup N S Rt) : ∀ lv st h, (zi_lda 0 (zi_gf 0 1 (zi_if (fun x => x ≤ 0) (zm_V w Γ 33) (zi_lda 0 (zi_gf 0 1 (zi_lda 0 (zi_gf 0 0 (zi_len 0 (zi_ic (fun x y => y < x) (zm_V w Γ 33) (zi_lda 0 (zi_gf 0 0 (zi_lda 0 (zi_gf 0 1 (zi_push (.int 1) (zi_b (fun x y => x - y) (zi_ia 0 (zm_V w Γ 34))))))))))))))))) lv st h → zm_V w Γ 0 lv st h := (zs_aload_n X rfl dX0_addGroup_0 (zs_gf X (ci := 0) rfl (by decide) zm_in0 kw_X0_34 dX0_addGroup_1 (zs_if_le X dX0_addGroup_4 (by decide) (fun _ _ _ h => h) (zs_aload_n X rfl dX0_addGroup_7 (zs_gf X (ci := 0) rfl (by decide) zm_in0 kw_X0_34 dX0_addGroup_8 (zs_aload_n X rfl dX0_addGroup_11 (zs_gf X (ci := 0) rfl (by decide) zm_in0 kw_X0_9 dX0_addGroup_12 (zs_alen X (fun _ => rfl) dX0_addGroup_15 (zs_icmp_gt X dX0_addGroup_16 (by decide) (fun _ _ _ h => h) (zs_aload_n X rfl dX0_addGroup_19 (zs_gf X (ci := 0) rfl (by decide) zm_in0 kw_X0_9 dX0_addGroup_20 (zs_aload_n X rfl dX0_addGroup_23 (zs_gf X (ci := 0) rfl (by decide) zm_in0 kw_X0_34 dX0_addGroup_24 (zs_iconst X (by decide) dX0_addGroup_27 (zs_isub X dX0_addGroup_28 (zs_iald X (fun _ => rfl) dX0_addGroup_29 (zs_goto X dX0_addGroup_30 (by decide) (fun _ _ _ h => h))))))))))))))))))
set_option maxRecDepth 20000 in
theorem bkX0_addGroup_33 {w : zW} {Γ : zC} {N S : Nat} {Rt : zR} (X : zm_X w Γ mX0_addGroup N S Rt) : ∀ lv st h, (zi_push (.int 0) (zm_V w Γ 34)) lv st h → zm_V w Γ 33 lv st h := (zs_iconst X (by decide) dX0_addGroup_33 (fun _ _ _ h => h))
set_option maxRecDepth 20000 in
theorem bkX0_addGroup_34 {w : zW} {Γ : zC} {N S : Nat} {Rt : zR} (X : zm_X w Γ mX0_addGroup N S Rt) : ∀ lv st h, (zi_sti 2 (zi_lda 0 (zi_gf 0 1 (zi_lda 0 (zi_gf 0 0 (zi_len 0 (zi_ic (fun x y => y ≤ x) (zi_vret Rt) (zi_lda 0 (zi_gf 0 0 (zi_lda 0 (zi_gf 0 1 (zi_ldi 2 (zi_ldi 1 (zi_lda 0 (zi_gf 0 3 (zi_b (fun x y => x * y) (zi_b (fun x y => x + y) (zi_is 0 (zi_lda 0 (zi_dup (zi_gf 0 1 (zi_push (.int 1) (zi_b (fun x y => x + y) (zi_pf 0 1 .int (zi_vret Rt))))))))))))))))))))))))) lv st h → zm_V w Γ 34 lv st h := (zs_istore_n X rfl (by decide) dX0_addGroup_34 (zs_aload_n X rfl dX0_addGroup_35 (zs_gf X (ci := 0) rfl (by decide) zm_in0 kw_X0_34 dX0_addGroup_36 (zs_aload_n X rfl dX0_addGroup_39 (zs_gf X (ci := 0) rfl (by decide) zm_in0 kw_X0_9 dX0_addGroup_40 (zs_alen X (fun _ => rfl) dX0_addGroup_43 (zs_icmp_ge X dX0_addGroup_44 (by decide) (zs_vret X rfl dX0_addGroup_74) (zs_aload_n X rfl dX0_addGroup_47 (zs_gf X (ci := 0) rfl (by decide) zm_in0 kw_X0_9 dX0_addGroup_48 (zs_aload_n X rfl dX0_addGroup_51 (zs_gf X (ci := 0) rfl (by decide) zm_in0 kw_X0_34 dX0_addGroup_52 (zs_iload_n X rfl dX0_addGroup_55 (zs_iload_n X rfl dX0_addGroup_56 (zs_aload_n X rfl dX0_addGroup_57 (zs_gf X (ci := 0) rfl (by decide) zm_in0 kw_X0_27 dX0_addGroup_58 (zs_imul X dX0_addGroup_61 (zs_iadd X dX0_addGroup_62 (zs_iast X (fun _ => rfl) dX0_addGroup_63 (zs_aload_n X rfl dX0_addGroup_64 (zs_dup X dX0_addGroup_65 (zs_gf X (ci := 0) rfl (by decide) zm_in0 kw_X0_34 dX0_addGroup_66 (zs_iconst X (by decide) dX0_addGroup_69 (zs_iadd X dX0_addGroup_70 (zs_pf X (ci := 0) rfl (by decide) zm_in0 kw_X0_34 tyX0 tyX0_ok nmX0 rfl rfl dX0_addGroup_71 (zs_vret X rfl dX0_addGroup_74)))))))))))))))))))))))))
set_option maxRecDepth 20000 in
theorem bkX0_barAt_0 {w : zW} {Γ : zC} {N S : Nat} {Rt : zR} (X : zm_X w Γ mX0_barAt N S Rt) : ∀ lv st h, (zi_lda 0 (zi_gf 0 2 (zi_if (fun x => x ≤ 0) (zi_push (.int 0) (zi_iret Rt)) (zi_ldi 1 (zi_lda 0 (zi_gf 0 2 (zi_d (fun x y => x / y) (zi_iret Rt)))))))) lv st h → zm_V w Γ 0 lv st h := (zs_aload_n X rfl dX0_barAt_0 (zs_gf X (ci := 0) rfl (by decide) zm_in0 kw_X0_31 dX0_barAt_1 (zs_if_le X dX0_barAt_4 (by decide) (zs_iconst X (by decide) dX0_barAt_16 (zs_iret X rfl dX0_barAt_17)) (zs_iload_n X rfl dX0_barAt_7 (zs_aload_n X rfl dX0_barAt_8 (zs_gf X (ci := 0) rfl (by decide) zm_in0 kw_X0_31 dX0_barAt_9 (zs_idiv X dX0_barAt_12 (zs_goto X dX0_barAt_13 (by decide) (zs_iret X rfl dX0_barAt_17)))))))))
set_option maxRecDepth 20000 in
theorem bkX0_offsetAt_0 {w : zW} {Γ : zC} {N S : Nat} {Rt : zR} (X : zm_X w Γ mX0_offsetAt N S Rt) : ∀ lv st h, (zi_lda 0 (zi_gf 0 2 (zi_if (fun x => x ≤ 0) (zi_push (.int 0) (zi_iret Rt)) (zi_ldi 1 (zi_lda 0 (zi_gf 0 2 (zi_d (fun x y => x - x / y * y) (zi_iret Rt)))))))) lv st h → zm_V w Γ 0 lv st h := (zs_aload_n X rfl dX0_offsetAt_0 (zs_gf X (ci := 0) rfl (by decide) zm_in0 kw_X0_31 dX0_offsetAt_1 (zs_if_le X dX0_offsetAt_4 (by decide) (zs_iconst X (by decide) dX0_offsetAt_16 (zs_iret X rfl dX0_offsetAt_17)) (zs_iload_n X rfl dX0_offsetAt_7 (zs_aload_n X rfl dX0_offsetAt_8 (zs_gf X (ci := 0) rfl (by decide) zm_in0 kw_X0_31 dX0_offsetAt_9 (zs_irem X dX0_offsetAt_12 (zs_goto X dX0_offsetAt_13 (by decide) (zs_iret X rfl dX0_offsetAt_17)))))))))
set_option maxRecDepth 20000 in
theorem bkX0_groupAt_0 {w : zW} {Γ : zC} {N S : Nat} {Rt : zR} (X : zm_X w Γ mX0_groupAt N S Rt) : ∀ lv st h, (zi_lda 0 (zi_ldi 1 (zi_cv w mX0_offsetAt 0 2 N S (zi_sti 2 (zi_push (.int 0) (zi_sti 3 (zm_V w Γ 8))))))) lv st h → zm_V w Γ 0 lv st h := (zs_aload_n X rfl dX0_groupAt_0 (zs_iload_n X rfl dX0_groupAt_1 (zs_cv X (M' := mX0_offsetAt) (n := 1) kd_X0_offsetAt ki_X0 (by decide +kernel) (by decide) kw_X0_54 rfl ks_X0_offsetAt kl_X0_offsetAt dX0_groupAt_2 (zs_istore_n X rfl (by decide) dX0_groupAt_5 (zs_iconst X (by decide) dX0_groupAt_6 (zs_istore_n X rfl (by decide) dX0_groupAt_7 (fun _ _ _ h => h)))))))
set_option maxRecDepth 20000 in
theorem bkX0_groupAt_8 {w : zW} {Γ : zC} {N S : Nat} {Rt : zR} (X : zm_X w Γ mX0_groupAt N S Rt) : ∀ lv st h, (zi_ldi 3 (zi_lda 0 (zi_gf 0 1 (zi_push (.int 1) (zi_b (fun x y => x - y) (zi_ic (fun x y => y ≤ x) (zi_ldi 3 (zi_iret Rt)) (zi_ldi 3 (zi_lda 0 (zi_gf 0 0 (zi_len 0 (zi_ic (fun x y => y ≤ x) (zi_ldi 3 (zi_iret Rt)) (zi_lda 0 (zi_gf 0 0 (zi_ldi 3 (zi_ia 0 (zi_ldi 2 (zi_ic (fun x y => y < x) (zi_ldi 3 (zi_iret Rt)) (zi_inc 3 1 (zm_V w Γ 8))))))))))))))))))) lv st h → zm_V w Γ 8 lv st h := (zs_iload_n X rfl dX0_groupAt_8 (zs_aload_n X rfl dX0_groupAt_9 (zs_gf X (ci := 0) rfl (by decide) zm_in0 kw_X0_34 dX0_groupAt_10 (zs_iconst X (by decide) dX0_groupAt_13 (zs_isub X dX0_groupAt_14 (zs_icmp_ge X dX0_groupAt_15 (by decide) (zs_iload_n X rfl dX0_groupAt_43 (zs_iret X rfl dX0_groupAt_44)) (zs_iload_n X rfl dX0_groupAt_18 (zs_aload_n X rfl dX0_groupAt_19 (zs_gf X (ci := 0) rfl (by decide) zm_in0 kw_X0_9 dX0_groupAt_20 (zs_alen X (fun _ => rfl) dX0_groupAt_23 (zs_icmp_ge X dX0_groupAt_24 (by decide) (zs_iload_n X rfl dX0_groupAt_43 (zs_iret X rfl dX0_groupAt_44)) (zs_aload_n X rfl dX0_groupAt_27 (zs_gf X (ci := 0) rfl (by decide) zm_in0 kw_X0_9 dX0_groupAt_28 (zs_iload_n X rfl dX0_groupAt_31 (zs_iald X (fun _ => rfl) dX0_groupAt_32 (zs_iload_n X rfl dX0_groupAt_33 (zs_icmp_gt X dX0_groupAt_34 (by decide) (zs_iload_n X rfl dX0_groupAt_43 (zs_iret X rfl dX0_groupAt_44)) (zs_iinc X (by decide) (by decide) dX0_groupAt_37 (zs_goto X dX0_groupAt_40 (by decide) (fun _ _ _ h => h))))))))))))))))))))
set_option maxRecDepth 20000 in
theorem bkJ9_floorMod_7cf53_0 {w : zW} {Γ : zC} {N S : Nat} {Rt : zR} (X : zm_X w Γ mJ9_floorMod_7cf53 N S Rt) : ∀ lv st h, (zi_ldi 0 (zi_ldi 1 (zi_d (fun x y => x - x / y * y) (zi_sti 2 (zi_ldi 0 (zi_ldi 1 (zi_b (fun x y => x ^^^ y) (zi_if (fun x => 0 ≤ x) (zi_ldi 2 (zi_iret Rt)) (zi_ldi 2 (zi_if (fun x => x = 0) (zi_ldi 2 (zi_iret Rt)) (zi_ldi 2 (zi_ldi 1 (zi_b (fun x y => x + y) (zi_iret Rt)))))))))))))) lv st h → zm_V w Γ 0 lv st h := (zs_iload_n X rfl dJ9_floorMod_7cf53_0 (zs_iload_n X rfl dJ9_floorMod_7cf53_1 (zs_irem X dJ9_floorMod_7cf53_2 (zs_istore_n X rfl (by decide) dJ9_floorMod_7cf53_3 (zs_iload_n X rfl dJ9_floorMod_7cf53_4 (zs_iload_n X rfl dJ9_floorMod_7cf53_5 (zs_ixor X dJ9_floorMod_7cf53_6 (zs_if_ge X dJ9_floorMod_7cf53_7 (by decide) (zs_iload_n X rfl dJ9_floorMod_7cf53_18 (zs_iret X rfl dJ9_floorMod_7cf53_19)) (zs_iload_n X rfl dJ9_floorMod_7cf53_10 (zs_if_eq X dJ9_floorMod_7cf53_11 (by decide) (zs_iload_n X rfl dJ9_floorMod_7cf53_18 (zs_iret X rfl dJ9_floorMod_7cf53_19)) (zs_iload_n X rfl dJ9_floorMod_7cf53_14 (zs_iload_n X rfl dJ9_floorMod_7cf53_15 (zs_iadd X dJ9_floorMod_7cf53_16 (zs_iret X rfl dJ9_floorMod_7cf53_17))))))))))))))
