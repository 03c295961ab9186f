theorem dX3_init_0 : decode cX3_init 0 = .ok (.aload_n 0, 1) := by decide +kernel
theorem dX3_init_1 : decode cX3_init 1 = .ok (.invokespecial 3, 3) := by decide +kernel
theorem dX3_init_4 : decode cX3_init 4 = .ok (.aload_n 0, 1) := by decide +kernel
theorem dX3_init_5 : decode cX3_init 5 = .ok (.new 9, 3) := by decide +kernel
theorem dX3_init_8 : decode cX3_init 8 = .ok (.dup, 1) := by decide +kernel
theorem dX3_init_9 : decode cX3_init 9 = .ok (.invokespecial 11, 3) := by decide +kernel
theorem dX3_init_12 : decode cX3_init 12 = .ok (.putfield 12, 3) := by decide +kernel
theorem dX3_init_15 : decode cX3_init 15 = .ok (.aload_n 0, 1) := by decide +kernel
theorem dX3_init_16 : decode cX3_init 16 = .ok (.bipush 64, 2) := by decide +kernel
theorem dX3_init_18 : decode cX3_init 18 = .ok (.anewarray 16, 3) := by decide +kernel
theorem dX3_init_21 : decode cX3_init 21 = .ok (.putfield 18, 3) := by decide +kernel
theorem dX3_init_24 : decode cX3_init 24 = .ok (.aload_n 0, 1) := by decide +kernel
theorem dX3_init_25 : decode cX3_init 25 = .ok (.bipush 33, 2) := by decide +kernel
theorem dX3_init_27 : decode cX3_init 27 = .ok (.anewarray 22, 3) := by decide +kernel
theorem dX3_init_30 : decode cX3_init 30 = .ok (.putfield 24, 3) := by decide +kernel
theorem dX3_init_33 : decode cX3_init 33 = .ok (.aload_n 0, 1) := by decide +kernel
theorem dX3_init_34 : decode cX3_init 34 = .ok (.iconst 2, 1) := by decide +kernel
theorem dX3_init_35 : decode cX3_init 35 = .ok (.newarray .int, 2) := by decide +kernel
theorem dX3_init_37 : decode cX3_init 37 = .ok (.putfield 28, 3) := by decide +kernel
theorem dX3_init_40 : decode cX3_init 40 = .ok (.iconst 0, 1) := by decide +kernel
theorem dX3_init_41 : decode cX3_init 41 = .ok (.istore_n 1, 1) := by decide +kernel
theorem dX3_init_42 : decode cX3_init 42 = .ok (.iload_n 1, 1) := by decide +kernel
theorem dX3_init_43 : decode cX3_init 43 = .ok (.aload_n 0, 1) := by decide +kernel
theorem dX3_init_44 : decode cX3_init 44 = .ok (.getfield 18, 3) := by decide +kernel
theorem dX3_init_47 : decode cX3_init 47 = .ok (.arraylength, 1) := by decide +kernel
theorem dX3_init_48 : decode cX3_init 48 = .ok (.if_icmp .ge 22, 3) := by decide +kernel
theorem dX3_init_51 : decode cX3_init 51 = .ok (.aload_n 0, 1) := by decide +kernel
theorem dX3_init_52 : decode cX3_init 52 = .ok (.getfield 18, 3) := by decide +kernel
theorem dX3_init_55 : decode cX3_init 55 = .ok (.iload_n 1, 1) := by decide +kernel
theorem dX3_init_56 : decode cX3_init 56 = .ok (.new 16, 3) := by decide +kernel
theorem dX3_init_59 : decode cX3_init 59 = .ok (.dup, 1) := by decide +kernel
theorem dX3_init_60 : decode cX3_init 60 = .ok (.invokespecial 32, 3) := by decide +kernel
theorem dX3_init_63 : decode cX3_init 63 = .ok (.aastore, 1) := by decide +kernel
theorem dX3_init_64 : decode cX3_init 64 = .ok (.iinc 1 1, 3) := by decide +kernel
theorem dX3_init_67 : decode cX3_init 67 = .ok (.goto (-25), 3) := by decide +kernel
theorem dX3_init_70 : decode cX3_init 70 = .ok (.new 16, 3) := by decide +kernel
theorem dX3_init_73 : decode cX3_init 73 = .ok (.dup, 1) := by decide +kernel
theorem dX3_init_74 : decode cX3_init 74 = .ok (.invokespecial 32, 3) := by decide +kernel
theorem dX3_init_77 : decode cX3_init 77 = .ok (.astore_n 1, 1) := by decide +kernel
theorem dX3_init_78 : decode cX3_init 78 = .ok (.iconst 0, 1) := by decide +kernel
theorem dX3_init_79 : decode cX3_init 79 = .ok (.istore_n 2, 1) := by decide +kernel
theorem dX3_init_80 : decode cX3_init 80 = .ok (.iload_n 2, 1) := by decide +kernel
theorem dX3_init_81 : decode cX3_init 81 = .ok (.aload_n 0, 1) := by decide +kernel
theorem dX3_init_82 : decode cX3_init 82 = .ok (.getfield 24, 3) := by decide +kernel
theorem dX3_init_85 : decode cX3_init 85 = .ok (.arraylength, 1) := by decide +kernel
theorem dX3_init_86 : decode cX3_init 86 = .ok (.if_icmp .ge 23, 3) := by decide +kernel
theorem dX3_init_89 : decode cX3_init 89 = .ok (.aload_n 0, 1) := by decide +kernel
theorem dX3_init_90 : decode cX3_init 90 = .ok (.getfield 24, 3) := by decide +kernel
theorem dX3_init_93 : decode cX3_init 93 = .ok (.iload_n 2, 1) := by decide +kernel
theorem dX3_init_94 : decode cX3_init 94 = .ok (.new 22, 3) := by decide +kernel
theorem dX3_init_97 : decode cX3_init 97 = .ok (.dup, 1) := by decide +kernel
theorem dX3_init_98 : decode cX3_init 98 = .ok (.aload_n 1, 1) := by decide +kernel
theorem dX3_init_99 : decode cX3_init 99 = .ok (.invokespecial 33, 3) := by decide +kernel
theorem dX3_init_102 : decode cX3_init 102 = .ok (.aastore, 1) := by decide +kernel
theorem dX3_init_103 : decode cX3_init 103 = .ok (.iinc 2 1, 3) := by decide +kernel
theorem dX3_init_106 : decode cX3_init 106 = .ok (.goto (-26), 3) := by decide +kernel
theorem dX3_init_109 : decode cX3_init 109 = .ok (.return_, 1) := by decide +kernel
theorem dX3_meter_0 : decode cX3_meter 0 = .ok (.iload_n 1, 1) := by decide +kernel
theorem dX3_meter_1 : decode cX3_meter 1 = .ok (.iload_n 2, 1) := by decide +kernel
theorem dX3_meter_2 : decode cX3_meter 2 = .ok (.iload_n 3, 1) := by decide +kernel
theorem dX3_meter_3 : decode cX3_meter 3 = .ok (.invokestatic 36, 3) := by decide +kernel
theorem dX3_meter_6 : decode cX3_meter 6 = .ok (.ifCond .ne 7, 3) := by decide +kernel
theorem dX3_meter_9 : decode cX3_meter 9 = .ok (.sipush (-1003), 3) := by decide +kernel
theorem dX3_meter_12 : decode cX3_meter 12 = .ok (.ireturn, 1) := by decide +kernel
theorem dX3_meter_13 : decode cX3_meter 13 = .ok (.aload_n 0, 1) := by decide +kernel
theorem dX3_meter_14 : decode cX3_meter 14 = .ok (.getfield 40, 3) := by decide +kernel
theorem dX3_meter_17 : decode cX3_meter 17 = .ok (.ifCond .le 7, 3) := by decide +kernel
theorem dX3_meter_20 : decode cX3_meter 20 = .ok (.sipush (-1004), 3) := by decide +kernel
theorem dX3_meter_23 : decode cX3_meter 23 = .ok (.ireturn, 1) := by decide +kernel
theorem dX3_meter_24 : decode cX3_meter 24 = .ok (.aload_n 0, 1) := by decide +kernel
theorem dX3_meter_25 : decode cX3_meter 25 = .ok (.getfield 12, 3) := by decide +kernel
theorem dX3_meter_28 : decode cX3_meter 28 = .ok (.iload_n 1, 1) := by decide +kernel
theorem dX3_meter_29 : decode cX3_meter 29 = .ok (.iload_n 2, 1) := by decide +kernel
theorem dX3_meter_30 : decode cX3_meter 30 = .ok (.iload_n 3, 1) := by decide +kernel
theorem dX3_meter_31 : decode cX3_meter 31 = .ok (.invokevirtual 44, 3) := by decide +kernel
theorem dX3_meter_34 : decode cX3_meter 34 = .ok (.aload_n 0, 1) := by decide +kernel
theorem dX3_meter_35 : decode cX3_meter 35 = .ok (.getfield 12, 3) := by decide +kernel
theorem dX3_meter_38 : decode cX3_meter 38 = .ok (.getfield 48, 3) := by decide +kernel
theorem dX3_meter_41 : decode cX3_meter 41 = .ok (.ireturn, 1) := by decide +kernel
theorem dX3_note_0 : decode cX3_note 0 = .ok (.iload_n 1, 1) := by decide +kernel
theorem dX3_note_1 : decode cX3_note 1 = .ok (.invokestatic 51, 3) := by decide +kernel
theorem dX3_note_4 : decode cX3_note 4 = .ok (.ifCond .eq 13, 3) := by decide +kernel
theorem dX3_note_7 : decode cX3_note 7 = .ok (.iload_n 2, 1) := by decide +kernel
theorem dX3_note_8 : decode cX3_note 8 = .ok (.iload_n 3, 1) := by decide +kernel
theorem dX3_note_9 : decode cX3_note 9 = .ok (.iload 4, 2) := by decide +kernel
theorem dX3_note_11 : decode cX3_note 11 = .ok (.invokestatic 55, 3) := by decide +kernel
theorem dX3_note_14 : decode cX3_note 14 = .ok (.ifCond .ne 7, 3) := by decide +kernel
theorem dX3_note_17 : decode cX3_note 17 = .ok (.sipush (-1003), 3) := by decide +kernel
theorem dX3_note_20 : decode cX3_note 20 = .ok (.ireturn, 1) := by decide +kernel
theorem dX3_note_21 : decode cX3_note 21 = .ok (.aload_n 0, 1) := by decide +kernel
theorem dX3_note_22 : decode cX3_note 22 = .ok (.iload_n 2, 1) := by decide +kernel
theorem dX3_note_23 : decode cX3_note 23 = .ok (.iload_n 3, 1) := by decide +kernel
theorem dX3_note_24 : decode cX3_note 24 = .ok (.iload 4, 2) := by decide +kernel
theorem dX3_note_26 : decode cX3_note 26 = .ok (.invokevirtual 58, 3) := by decide +kernel
theorem dX3_note_29 : decode cX3_note 29 = .ok (.istore 5, 2) := by decide +kernel
theorem dX3_note_31 : decode cX3_note 31 = .ok (.aload_n 0, 1) := by decide +kernel
theorem dX3_note_32 : decode cX3_note 32 = .ok (.iload 5, 2) := by decide +kernel
theorem dX3_note_34 : decode cX3_note 34 = .ok (.invokevirtual 62, 3) := by decide +kernel
theorem dX3_note_37 : decode cX3_note 37 = .ok (.astore 6, 2) := by decide +kernel
theorem dX3_note_39 : decode cX3_note 39 = .ok (.aload 6, 2) := by decide +kernel
theorem dX3_note_41 : decode cX3_note 41 = .ok (.ifnull 9, 3) := by decide +kernel
theorem dX3_note_44 : decode cX3_note 44 = .ok (.aload 6, 2) := by decide +kernel
theorem dX3_note_46 : decode cX3_note 46 = .ok (.iload_n 1, 1) := by decide +kernel
theorem dX3_note_47 : decode cX3_note 47 = .ok (.invokevirtual 66, 3) := by decide +kernel
theorem dX3_note_50 : decode cX3_note 50 = .ok (.iload 5, 2) := by decide +kernel
theorem dX3_note_52 : decode cX3_note 52 = .ok (.ireturn, 1) := by decide +kernel
theorem dX3_pause_0 : decode cX3_pause 0 = .ok (.iload_n 1, 1) := by decide +kernel
theorem dX3_pause_1 : decode cX3_pause 1 = .ok (.iload_n 2, 1) := by decide +kernel
theorem dX3_pause_2 : decode cX3_pause 2 = .ok (.iload_n 3, 1) := by decide +kernel
theorem dX3_pause_3 : decode cX3_pause 3 = .ok (.invokestatic 55, 3) := by decide +kernel
theorem dX3_pause_6 : decode cX3_pause 6 = .ok (.ifCond .eq 13, 3) := by decide +kernel
theorem dX3_pause_9 : decode cX3_pause 9 = .ok (.aload_n 0, 1) := by decide +kernel
theorem dX3_pause_10 : decode cX3_pause 10 = .ok (.iload_n 1, 1) := by decide +kernel
theorem dX3_pause_11 : decode cX3_pause 11 = .ok (.iload_n 2, 1) := by decide +kernel
theorem dX3_pause_12 : decode cX3_pause 12 = .ok (.iload_n 3, 1) := by decide +kernel
theorem dX3_pause_13 : decode cX3_pause 13 = .ok (.invokevirtual 58, 3) := by decide +kernel
theorem dX3_pause_16 : decode cX3_pause 16 = .ok (.goto 6, 3) := by decide +kernel
theorem dX3_pause_19 : decode cX3_pause 19 = .ok (.sipush (-1003), 3) := by decide +kernel
theorem dX3_pause_22 : decode cX3_pause 22 = .ok (.ireturn, 1) := by decide +kernel
theorem dX3_also_0 : decode cX3_also 0 = .ok (.aload_n 0, 1) := by decide +kernel
theorem dX3_also_1 : decode cX3_also 1 = .ok (.iload_n 1, 1) := by decide +kernel
theorem dX3_also_2 : decode cX3_also 2 = .ok (.invokevirtual 62, 3) := by decide +kernel
theorem dX3_also_5 : decode cX3_also 5 = .ok (.astore_n 3, 1) := by decide +kernel
theorem dX3_also_6 : decode cX3_also 6 = .ok (.aload_n 3, 1) := by decide +kernel
theorem dX3_also_7 : decode cX3_also 7 = .ok (.iload_n 2, 1) := by decide +kernel
theorem dX3_also_8 : decode cX3_also 8 = .ok (.invokestatic 51, 3) := by decide +kernel
theorem dX3_also_11 : decode cX3_also 11 = .ok (.invokestatic 70, 3) := by decide +kernel
theorem dX3_also_14 : decode cX3_also 14 = .ok (.istore 4, 2) := by decide +kernel
theorem dX3_also_16 : decode cX3_also 16 = .ok (.aload_n 3, 1) := by decide +kernel
theorem dX3_also_17 : decode cX3_also 17 = .ok (.ifnull 8, 3) := by decide +kernel
theorem dX3_also_20 : decode cX3_also 20 = .ok (.iload 4, 2) := by decide +kernel
theorem dX3_also_22 : decode cX3_also 22 = .ok (.ifCond .eq 6, 3) := by decide +kernel
theorem dX3_also_25 : decode cX3_also 25 = .ok (.iload 4, 2) := by decide +kernel
theorem dX3_also_27 : decode cX3_also 27 = .ok (.ireturn, 1) := by decide +kernel
theorem dX3_also_28 : decode cX3_also 28 = .ok (.aload_n 3, 1) := by decide +kernel
theorem dX3_also_29 : decode cX3_also 29 = .ok (.iload_n 2, 1) := by decide +kernel
theorem dX3_also_30 : decode cX3_also 30 = .ok (.invokevirtual 74, 3) := by decide +kernel
theorem dX3_also_33 : decode cX3_also 33 = .ok (.ifCond .eq 7, 3) := by decide +kernel
theorem dX3_also_36 : decode cX3_also 36 = .ok (.sipush (-1004), 3) := by decide +kernel
theorem dX3_also_39 : decode cX3_also 39 = .ok (.ireturn, 1) := by decide +kernel
theorem dX3_also_40 : decode cX3_also 40 = .ok (.aload_n 3, 1) := by decide +kernel
theorem dX3_also_41 : decode cX3_also 41 = .ok (.getfield 77, 3) := by decide +kernel
theorem dX3_also_44 : decode cX3_also 44 = .ok (.iconst 4, 1) := by decide +kernel
theorem dX3_also_45 : decode cX3_also 45 = .ok (.if_icmp .lt 7, 3) := by decide +kernel
theorem dX3_also_48 : decode cX3_also 48 = .ok (.sipush (-1005), 3) := by decide +kernel
theorem dX3_also_51 : decode cX3_also 51 = .ok (.ireturn, 1) := by decide +kernel
theorem dX3_also_52 : decode cX3_also 52 = .ok (.aload_n 0, 1) := by decide +kernel
theorem dX3_also_53 : decode cX3_also 53 = .ok (.invokevirtual 80, 3) := by decide +kernel
theorem dX3_also_56 : decode cX3_also 56 = .ok (.aload_n 3, 1) := by decide +kernel
theorem dX3_also_57 : decode cX3_also 57 = .ok (.iload_n 2, 1) := by decide +kernel
theorem dX3_also_58 : decode cX3_also 58 = .ok (.invokevirtual 66, 3) := by decide +kernel
theorem dX3_also_61 : decode cX3_also 61 = .ok (.aload_n 3, 1) := by decide +kernel
theorem dX3_also_62 : decode cX3_also 62 = .ok (.getfield 77, 3) := by decide +kernel
theorem dX3_also_65 : decode cX3_also 65 = .ok (.ireturn, 1) := by decide +kernel
theorem dX3_staff_0 : decode cX3_staff 0 = .ok (.aload_n 0, 1) := by decide +kernel
theorem dX3_staff_1 : decode cX3_staff 1 = .ok (.iload_n 1, 1) := by decide +kernel
theorem dX3_staff_2 : decode cX3_staff 2 = .ok (.invokevirtual 62, 3) := by decide +kernel
theorem dX3_staff_5 : decode cX3_staff 5 = .ok (.astore_n 3, 1) := by decide +kernel
theorem dX3_staff_6 : decode cX3_staff 6 = .ok (.aload_n 3, 1) := by decide +kernel
theorem dX3_staff_7 : decode cX3_staff 7 = .ok (.iload_n 2, 1) := by decide +kernel
theorem dX3_staff_8 : decode cX3_staff 8 = .ok (.ifCond .lt 12, 3) := by decide +kernel
theorem dX3_staff_11 : decode cX3_staff 11 = .ok (.iload_n 2, 1) := by decide +kernel
theorem dX3_staff_12 : decode cX3_staff 12 = .ok (.iconst 1, 1) := by decide +kernel
theorem dX3_staff_13 : decode cX3_staff 13 = .ok (.if_icmp .gt 7, 3) := by decide +kernel
theorem dX3_staff_16 : decode cX3_staff 16 = .ok (.iconst 1, 1) := by decide +kernel
theorem dX3_staff_17 : decode cX3_staff 17 = .ok (.goto 4, 3) := by decide +kernel
theorem dX3_staff_20 : decode cX3_staff 20 = .ok (.iconst 0, 1) := by decide +kernel
theorem dX3_staff_21 : decode cX3_staff 21 = .ok (.invokestatic 70, 3) := by decide +kernel
theorem dX3_staff_24 : decode cX3_staff 24 = .ok (.istore 4, 2) := by decide +kernel
theorem dX3_staff_26 : decode cX3_staff 26 = .ok (.aload_n 3, 1) := by decide +kernel
theorem dX3_staff_27 : decode cX3_staff 27 = .ok (.ifnull 8, 3) := by decide +kernel
theorem dX3_staff_30 : decode cX3_staff 30 = .ok (.iload 4, 2) := by decide +kernel
theorem dX3_staff_32 : decode cX3_staff 32 = .ok (.ifCond .eq 6, 3) := by decide +kernel
theorem dX3_staff_35 : decode cX3_staff 35 = .ok (.iload 4, 2) := by decide +kernel
theorem dX3_staff_37 : decode cX3_staff 37 = .ok (.ireturn, 1) := by decide +kernel
theorem dX3_staff_38 : decode cX3_staff 38 = .ok (.aload_n 0, 1) := by decide +kernel
theorem dX3_staff_39 : decode cX3_staff 39 = .ok (.invokevirtual 80, 3) := by decide +kernel
theorem dX3_staff_42 : decode cX3_staff 42 = .ok (.aload_n 3, 1) := by decide +kernel
theorem dX3_staff_43 : decode cX3_staff 43 = .ok (.getfield 83, 3) := by decide +kernel
theorem dX3_staff_46 : decode cX3_staff 46 = .ok (.istore 5, 2) := by decide +kernel
theorem dX3_staff_48 : decode cX3_staff 48 = .ok (.aload_n 3, 1) := by decide +kernel
theorem dX3_staff_49 : decode cX3_staff 49 = .ok (.iload_n 2, 1) := by decide +kernel
theorem dX3_staff_50 : decode cX3_staff 50 = .ok (.putfield 83, 3) := by decide +kernel
theorem dX3_staff_53 : decode cX3_staff 53 = .ok (.iload 5, 2) := by decide +kernel
theorem dX3_staff_55 : decode cX3_staff 55 = .ok (.ireturn, 1) := by decide +kernel
theorem dX3_mark_0 : decode cX3_mark 0 = .ok (.aload_n 0, 1) := by decide +kernel
theorem dX3_mark_1 : decode cX3_mark 1 = .ok (.iload_n 1, 1) := by decide +kernel
theorem dX3_mark_2 : decode cX3_mark 2 = .ok (.invokevirtual 62, 3) := by decide +kernel
theorem dX3_mark_5 : decode cX3_mark 5 = .ok (.astore_n 3, 1) := by decide +kernel
theorem dX3_mark_6 : decode cX3_mark 6 = .ok (.aload_n 3, 1) := by decide +kernel
theorem dX3_mark_7 : decode cX3_mark 7 = .ok (.iload_n 2, 1) := by decide +kernel
theorem dX3_mark_8 : decode cX3_mark 8 = .ok (.ifCond .lt 12, 3) := by decide +kernel
theorem dX3_mark_11 : decode cX3_mark 11 = .ok (.iload_n 2, 1) := by decide +kernel
theorem dX3_mark_12 : decode cX3_mark 12 = .ok (.iconst 2, 1) := by decide +kernel
theorem dX3_mark_13 : decode cX3_mark 13 = .ok (.if_icmp .gt 7, 3) := by decide +kernel
theorem dX3_mark_16 : decode cX3_mark 16 = .ok (.iconst 1, 1) := by decide +kernel
theorem dX3_mark_17 : decode cX3_mark 17 = .ok (.goto 4, 3) := by decide +kernel
theorem dX3_mark_20 : decode cX3_mark 20 = .ok (.iconst 0, 1) := by decide +kernel
theorem dX3_mark_21 : decode cX3_mark 21 = .ok (.invokestatic 70, 3) := by decide +kernel
theorem dX3_mark_24 : decode cX3_mark 24 = .ok (.istore 4, 2) := by decide +kernel
theorem dX3_mark_26 : decode cX3_mark 26 = .ok (.aload_n 3, 1) := by decide +kernel
theorem dX3_mark_27 : decode cX3_mark 27 = .ok (.ifnull 8, 3) := by decide +kernel
theorem dX3_mark_30 : decode cX3_mark 30 = .ok (.iload 4, 2) := by decide +kernel
theorem dX3_mark_32 : decode cX3_mark 32 = .ok (.ifCond .eq 6, 3) := by decide +kernel
theorem dX3_mark_35 : decode cX3_mark 35 = .ok (.iload 4, 2) := by decide +kernel
theorem dX3_mark_37 : decode cX3_mark 37 = .ok (.ireturn, 1) := by decide +kernel
theorem dX3_mark_38 : decode cX3_mark 38 = .ok (.aload_n 0, 1) := by decide +kernel
theorem dX3_mark_39 : decode cX3_mark 39 = .ok (.invokevirtual 80, 3) := by decide +kernel
theorem dX3_mark_42 : decode cX3_mark 42 = .ok (.aload_n 3, 1) := by decide +kernel
theorem dX3_mark_43 : decode cX3_mark 43 = .ok (.getfield 86, 3) := by decide +kernel
theorem dX3_mark_46 : decode cX3_mark 46 = .ok (.istore 5, 2) := by decide +kernel
theorem dX3_mark_48 : decode cX3_mark 48 = .ok (.aload_n 3, 1) := by decide +kernel
theorem dX3_mark_49 : decode cX3_mark 49 = .ok (.iload_n 2, 1) := by decide +kernel
theorem dX3_mark_50 : decode cX3_mark 50 = .ok (.putfield 86, 3) := by decide +kernel
theorem dX3_mark_53 : decode cX3_mark 53 = .ok (.iload 5, 2) := by decide +kernel
theorem dX3_mark_55 : decode cX3_mark 55 = .ok (.ireturn, 1) := by decide +kernel
theorem dX3_broken_0 : decode cX3_broken 0 = .ok (.aload_n 0, 1) := by decide +kernel
theorem dX3_broken_1 : decode cX3_broken 1 = .ok (.iload_n 1, 1) := by decide +kernel
theorem dX3_broken_2 : decode cX3_broken 2 = .ok (.invokevirtual 62, 3) := by decide +kernel
theorem dX3_broken_5 : decode cX3_broken 5 = .ok (.astore 4, 2) := by decide +kernel
theorem dX3_broken_7 : decode cX3_broken 7 = .ok (.aload 4, 2) := by decide +kernel
theorem dX3_broken_9 : decode cX3_broken 9 = .ok (.iload_n 2, 1) := by decide +kernel
theorem dX3_broken_10 : decode cX3_broken 10 = .ok (.iconst 2, 1) := by decide +kernel
theorem dX3_broken_11 : decode cX3_broken 11 = .ok (.if_icmp .lt 12, 3) := by decide +kernel
theorem dX3_broken_14 : decode cX3_broken 14 = .ok (.iload_n 2, 1) := by decide +kernel
theorem dX3_broken_15 : decode cX3_broken 15 = .ok (.iconst 4, 1) := by decide +kernel
theorem dX3_broken_16 : decode cX3_broken 16 = .ok (.if_icmp .gt 7, 3) := by decide +kernel
theorem dX3_broken_19 : decode cX3_broken 19 = .ok (.iconst 1, 1) := by decide +kernel
theorem dX3_broken_20 : decode cX3_broken 20 = .ok (.goto 4, 3) := by decide +kernel
theorem dX3_broken_23 : decode cX3_broken 23 = .ok (.iconst 0, 1) := by decide +kernel
theorem dX3_broken_24 : decode cX3_broken 24 = .ok (.invokestatic 70, 3) := by decide +kernel
theorem dX3_broken_27 : decode cX3_broken 27 = .ok (.istore 5, 2) := by decide +kernel
theorem dX3_broken_29 : decode cX3_broken 29 = .ok (.aload 4, 2) := by decide +kernel
theorem dX3_broken_31 : decode cX3_broken 31 = .ok (.ifnull 8, 3) := by decide +kernel
theorem dX3_broken_34 : decode cX3_broken 34 = .ok (.iload 5, 2) := by decide +kernel
theorem dX3_broken_36 : decode cX3_broken 36 = .ok (.ifCond .eq 6, 3) := by decide +kernel
theorem dX3_broken_39 : decode cX3_broken 39 = .ok (.iload 5, 2) := by decide +kernel
theorem dX3_broken_41 : decode cX3_broken 41 = .ok (.ireturn, 1) := by decide +kernel
theorem dX3_broken_42 : decode cX3_broken 42 = .ok (.aload_n 0, 1) := by decide +kernel
theorem dX3_broken_43 : decode cX3_broken 43 = .ok (.invokevirtual 80, 3) := by decide +kernel
theorem dX3_broken_46 : decode cX3_broken 46 = .ok (.aload 4, 2) := by decide +kernel
theorem dX3_broken_48 : decode cX3_broken 48 = .ok (.iload_n 2, 1) := by decide +kernel
theorem dX3_broken_49 : decode cX3_broken 49 = .ok (.invokevirtual 89, 3) := by decide +kernel
theorem dX3_broken_52 : decode cX3_broken 52 = .ok (.ifCond .eq 7, 3) := by decide +kernel
theorem dX3_broken_55 : decode cX3_broken 55 = .ok (.iconst 1, 1) := by decide +kernel
theorem dX3_broken_56 : decode cX3_broken 56 = .ok (.goto 4, 3) := by decide +kernel
theorem dX3_broken_59 : decode cX3_broken 59 = .ok (.iconst 0, 1) := by decide +kernel
theorem dX3_broken_60 : decode cX3_broken 60 = .ok (.istore 6, 2) := by decide +kernel
theorem dX3_broken_62 : decode cX3_broken 62 = .ok (.aload 4, 2) := by decide +kernel
theorem dX3_broken_64 : decode cX3_broken 64 = .ok (.iload_n 2, 1) := by decide +kernel
theorem dX3_broken_65 : decode cX3_broken 65 = .ok (.iload_n 3, 1) := by decide +kernel
theorem dX3_broken_66 : decode cX3_broken 66 = .ok (.invokevirtual 92, 3) := by decide +kernel
theorem dX3_broken_69 : decode cX3_broken 69 = .ok (.iload 6, 2) := by decide +kernel
theorem dX3_broken_71 : decode cX3_broken 71 = .ok (.ireturn, 1) := by decide +kernel
theorem dX3_over_0 : decode cX3_over 0 = .ok (.aload_n 0, 1) := by decide +kernel
theorem dX3_over_1 : decode cX3_over 1 = .ok (.invokevirtual 80, 3) := by decide +kernel
theorem dX3_over_4 : decode cX3_over 4 = .ok (.aload_n 0, 1) := by decide +kernel
theorem dX3_over_5 : decode cX3_over 5 = .ok (.getfield 96, 3) := by decide +kernel
theorem dX3_over_8 : decode cX3_over 8 = .ok (.ifCond .eq 7, 3) := by decide +kernel
theorem dX3_over_11 : decode cX3_over 11 = .ok (.iconst 1, 1) := by decide +kernel
theorem dX3_over_12 : decode cX3_over 12 = .ok (.goto 4, 3) := by decide +kernel
theorem dX3_over_15 : decode cX3_over 15 = .ok (.iconst 0, 1) := by decide +kernel
theorem dX3_over_16 : decode cX3_over 16 = .ok (.istore_n 2, 1) := by decide +kernel
theorem dX3_over_17 : decode cX3_over 17 = .ok (.aload_n 0, 1) := by decide +kernel
theorem dX3_over_18 : decode cX3_over 18 = .ok (.iload_n 1, 1) := by decide +kernel
theorem dX3_over_19 : decode cX3_over 19 = .ok (.putfield 96, 3) := by decide +kernel
theorem dX3_over_22 : decode cX3_over 22 = .ok (.iload_n 2, 1) := by decide +kernel
theorem dX3_over_23 : decode cX3_over 23 = .ok (.ireturn, 1) := by decide +kernel
theorem dX3_group_0 : decode cX3_group 0 = .ok (.aload_n 0, 1) := by decide +kernel
theorem dX3_group_1 : decode cX3_group 1 = .ok (.invokevirtual 80, 3) := by decide +kernel
theorem dX3_group_4 : decode cX3_group 4 = .ok (.aload_n 0, 1) := by decide +kernel
theorem dX3_group_5 : decode cX3_group 5 = .ok (.iconst 0, 1) := by decide +kernel
theorem dX3_group_6 : decode cX3_group 6 = .ok (.putfield 100, 3) := by decide +kernel
theorem dX3_group_9 : decode cX3_group 9 = .ok (.iconst 0, 1) := by decide +kernel
theorem dX3_group_10 : decode cX3_group 10 = .ok (.istore_n 1, 1) := by decide +kernel
theorem dX3_group_11 : decode cX3_group 11 = .ok (.iload_n 1, 1) := by decide +kernel
theorem dX3_group_12 : decode cX3_group 12 = .ok (.aload_n 0, 1) := by decide +kernel
theorem dX3_group_13 : decode cX3_group 13 = .ok (.getfield 28, 3) := by decide +kernel
theorem dX3_group_16 : decode cX3_group 16 = .ok (.arraylength, 1) := by decide +kernel
theorem dX3_group_17 : decode cX3_group 17 = .ok (.if_icmp .ge 14, 3) := by decide +kernel
theorem dX3_group_20 : decode cX3_group 20 = .ok (.aload_n 0, 1) := by decide +kernel
theorem dX3_group_21 : decode cX3_group 21 = .ok (.iload_n 1, 1) := by decide +kernel
theorem dX3_group_22 : decode cX3_group 22 = .ok (.invokevirtual 103, 3) := by decide +kernel
theorem dX3_group_25 : decode cX3_group 25 = .ok (.iinc 1 1, 3) := by decide +kernel
theorem dX3_group_28 : decode cX3_group 28 = .ok (.goto (-17), 3) := by decide +kernel
theorem dX3_group_31 : decode cX3_group 31 = .ok (.aload_n 0, 1) := by decide +kernel
theorem dX3_group_32 : decode cX3_group 32 = .ok (.getfield 106, 3) := by decide +kernel
theorem dX3_group_35 : decode cX3_group 35 = .ok (.ireturn, 1) := by decide +kernel
theorem dX3_beam_0 : decode cX3_beam 0 = .ok (.aload_n 0, 1) := by decide +kernel
theorem dX3_beam_1 : decode cX3_beam 1 = .ok (.iload_n 1, 1) := by decide +kernel
theorem dX3_beam_2 : decode cX3_beam 2 = .ok (.invokevirtual 109, 3) := by decide +kernel
theorem dX3_beam_5 : decode cX3_beam 5 = .ok (.astore_n 3, 1) := by decide +kernel
theorem dX3_beam_6 : decode cX3_beam 6 = .ok (.aload_n 3, 1) := by decide +kernel
theorem dX3_beam_7 : decode cX3_beam 7 = .ok (.ifnonnull 7, 3) := by decide +kernel
theorem dX3_beam_10 : decode cX3_beam 10 = .ok (.sipush (-1002), 3) := by decide +kernel
theorem dX3_beam_13 : decode cX3_beam 13 = .ok (.ireturn, 1) := by decide +kernel
theorem dX3_beam_14 : decode cX3_beam 14 = .ok (.iload_n 2, 1) := by decide +kernel
theorem dX3_beam_15 : decode cX3_beam 15 = .ok (.tableswitch 93 0 7 #[45, 50, 55, 60, 65, 70, 75, 88], 45) := by decide +kernel
theorem dX3_beam_60 : decode cX3_beam 60 = .ok (.aload_n 3, 1) := by decide +kernel
theorem dX3_beam_61 : decode cX3_beam 61 = .ok (.getfield 113, 3) := by decide +kernel
theorem dX3_beam_64 : decode cX3_beam 64 = .ok (.ireturn, 1) := by decide +kernel
theorem dX3_beam_65 : decode cX3_beam 65 = .ok (.aload_n 3, 1) := by decide +kernel
theorem dX3_beam_66 : decode cX3_beam 66 = .ok (.invokevirtual 116, 3) := by decide +kernel
theorem dX3_beam_69 : decode cX3_beam 69 = .ok (.ireturn, 1) := by decide +kernel
theorem dX3_beam_70 : decode cX3_beam 70 = .ok (.aload_n 3, 1) := by decide +kernel
theorem dX3_beam_71 : decode cX3_beam 71 = .ok (.getfield 120, 3) := by decide +kernel
theorem dX3_beam_74 : decode cX3_beam 74 = .ok (.ireturn, 1) := by decide +kernel
theorem dX3_beam_75 : decode cX3_beam 75 = .ok (.aload_n 3, 1) := by decide +kernel
theorem dX3_beam_76 : decode cX3_beam 76 = .ok (.getfield 123, 3) := by decide +kernel
theorem dX3_beam_79 : decode cX3_beam 79 = .ok (.ireturn, 1) := by decide +kernel
theorem dX3_beam_80 : decode cX3_beam 80 = .ok (.aload_n 3, 1) := by decide +kernel
theorem dX3_beam_81 : decode cX3_beam 81 = .ok (.getfield 126, 3) := by decide +kernel
theorem dX3_beam_84 : decode cX3_beam 84 = .ok (.ireturn, 1) := by decide +kernel
theorem dX3_beam_85 : decode cX3_beam 85 = .ok (.aload_n 3, 1) := by decide +kernel
theorem dX3_beam_86 : decode cX3_beam 86 = .ok (.getfield 129, 3) := by decide +kernel
theorem dX3_beam_89 : decode cX3_beam 89 = .ok (.ireturn, 1) := by decide +kernel
theorem dX3_beam_90 : decode cX3_beam 90 = .ok (.aload_n 3, 1) := by decide +kernel
theorem dX3_beam_91 : decode cX3_beam 91 = .ok (.getfield 132, 3) := by decide +kernel
theorem dX3_beam_94 : decode cX3_beam 94 = .ok (.ifCond .eq 7, 3) := by decide +kernel
theorem dX3_beam_97 : decode cX3_beam 97 = .ok (.iconst 1, 1) := by decide +kernel
theorem dX3_beam_98 : decode cX3_beam 98 = .ok (.goto 4, 3) := by decide +kernel
theorem dX3_beam_101 : decode cX3_beam 101 = .ok (.iconst 0, 1) := by decide +kernel
theorem dX3_beam_102 : decode cX3_beam 102 = .ok (.ireturn, 1) := by decide +kernel
theorem dX3_beam_103 : decode cX3_beam 103 = .ok (.aload_n 3, 1) := by decide +kernel
theorem dX3_beam_104 : decode cX3_beam 104 = .ok (.getfield 135, 3) := by decide +kernel
theorem dX3_beam_107 : decode cX3_beam 107 = .ok (.ireturn, 1) := by decide +kernel
theorem dX3_beam_108 : decode cX3_beam 108 = .ok (.sipush (-1003), 3) := by decide +kernel
theorem dX3_beam_111 : decode cX3_beam 111 = .ok (.ireturn, 1) := by decide +kernel
theorem dX3_member_0 : decode cX3_member 0 = .ok (.aload_n 0, 1) := by decide +kernel
theorem dX3_member_1 : decode cX3_member 1 = .ok (.iload_n 1, 1) := by decide +kernel
theorem dX3_member_2 : decode cX3_member 2 = .ok (.invokevirtual 109, 3) := by decide +kernel
theorem dX3_member_5 : decode cX3_member 5 = .ok (.astore_n 3, 1) := by decide +kernel
theorem dX3_member_6 : decode cX3_member 6 = .ok (.aload_n 3, 1) := by decide +kernel
theorem dX3_member_7 : decode cX3_member 7 = .ok (.ifnonnull 7, 3) := by decide +kernel
theorem dX3_member_10 : decode cX3_member 10 = .ok (.sipush (-1002), 3) := by decide +kernel
theorem dX3_member_13 : decode cX3_member 13 = .ok (.ireturn, 1) := by decide +kernel
theorem dX3_member_14 : decode cX3_member 14 = .ok (.aload_n 3, 1) := by decide +kernel
theorem dX3_member_15 : decode cX3_member 15 = .ok (.iload_n 2, 1) := by decide +kernel
theorem dX3_member_16 : decode cX3_member 16 = .ok (.invokevirtual 138, 3) := by decide +kernel
theorem dX3_member_19 : decode cX3_member 19 = .ok (.ifCond .eq 15, 3) := by decide +kernel
theorem dX3_member_22 : decode cX3_member 22 = .ok (.aload_n 3, 1) := by decide +kernel
theorem dX3_member_23 : decode cX3_member 23 = .ok (.getfield 141, 3) := by decide +kernel
theorem dX3_member_26 : decode cX3_member 26 = .ok (.iload_n 2, 1) := by decide +kernel
theorem dX3_member_27 : decode cX3_member 27 = .ok (.aaload, 1) := by decide +kernel
theorem dX3_member_28 : decode cX3_member 28 = .ok (.getfield 144, 3) := by decide +kernel
theorem dX3_member_31 : decode cX3_member 31 = .ok (.goto 6, 3) := by decide +kernel
theorem dX3_member_34 : decode cX3_member 34 = .ok (.sipush (-1001), 3) := by decide +kernel
theorem dX3_member_37 : decode cX3_member 37 = .ok (.ireturn, 1) := by decide +kernel
theorem dX3_badness_0 : decode cX3_badness 0 = .ok (.aload_n 0, 1) := by decide +kernel
theorem dX3_badness_1 : decode cX3_badness 1 = .ok (.iload_n 1, 1) := by decide +kernel
theorem dX3_badness_2 : decode cX3_badness 2 = .ok (.invokevirtual 109, 3) := by decide +kernel
theorem dX3_badness_5 : decode cX3_badness 5 = .ok (.astore_n 2, 1) := by decide +kernel
theorem dX3_badness_6 : decode cX3_badness 6 = .ok (.aload_n 2, 1) := by decide +kernel
theorem dX3_badness_7 : decode cX3_badness 7 = .ok (.ifnonnull 9, 3) := by decide +kernel
theorem dX3_badness_10 : decode cX3_badness 10 = .ok (.ldc2_w 147, 3) := by decide +kernel
theorem dX3_badness_13 : decode cX3_badness 13 = .ok (.goto 7, 3) := by decide +kernel
theorem dX3_badness_16 : decode cX3_badness 16 = .ok (.aload_n 2, 1) := by decide +kernel
theorem dX3_badness_17 : decode cX3_badness 17 = .ok (.getfield 149, 3) := by decide +kernel
theorem dX3_badness_20 : decode cX3_badness 20 = .ok (.lreturn, 1) := by decide +kernel
theorem dX3_other_0 : decode cX3_other 0 = .ok (.aload_n 0, 1) := by decide +kernel
theorem dX3_other_1 : decode cX3_other 1 = .ok (.iload_n 1, 1) := by decide +kernel
theorem dX3_other_2 : decode cX3_other 2 = .ok (.invokevirtual 109, 3) := by decide +kernel
theorem dX3_other_5 : decode cX3_other 5 = .ok (.astore 4, 2) := by decide +kernel
theorem dX3_other_7 : decode cX3_other 7 = .ok (.iload_n 2, 1) := by decide +kernel
theorem dX3_other_8 : decode cX3_other 8 = .ok (.sipush (-200), 3) := by decide +kernel
theorem dX3_other_11 : decode cX3_other 11 = .ok (.if_icmp .lt 26, 3) := by decide +kernel
theorem dX3_other_14 : decode cX3_other 14 = .ok (.iload_n 2, 1) := by decide +kernel
theorem dX3_other_15 : decode cX3_other 15 = .ok (.sipush 200, 3) := by decide +kernel
theorem dX3_other_18 : decode cX3_other 18 = .ok (.if_icmp .gt 19, 3) := by decide +kernel
theorem dX3_other_21 : decode cX3_other 21 = .ok (.iload_n 3, 1) := by decide +kernel
theorem dX3_other_22 : decode cX3_other 22 = .ok (.bipush (-6), 2) := by decide +kernel
theorem dX3_other_24 : decode cX3_other 24 = .ok (.if_icmp .lt 13, 3) := by decide +kernel
theorem dX3_other_27 : decode cX3_other 27 = .ok (.iload_n 3, 1) := by decide +kernel
theorem dX3_other_28 : decode cX3_other 28 = .ok (.bipush 6, 2) := by decide +kernel
theorem dX3_other_30 : decode cX3_other 30 = .ok (.if_icmp .gt 7, 3) := by decide +kernel
theorem dX3_other_33 : decode cX3_other 33 = .ok (.iconst 1, 1) := by decide +kernel
theorem dX3_other_34 : decode cX3_other 34 = .ok (.goto 4, 3) := by decide +kernel
theorem dX3_other_37 : decode cX3_other 37 = .ok (.iconst 0, 1) := by decide +kernel
theorem dX3_other_38 : decode cX3_other 38 = .ok (.istore 5, 2) := by decide +kernel
theorem dX3_other_40 : decode cX3_other 40 = .ok (.aload 4, 2) := by decide +kernel
theorem dX3_other_42 : decode cX3_other 42 = .ok (.ifnull 8, 3) := by decide +kernel
theorem dX3_other_45 : decode cX3_other 45 = .ok (.iload 5, 2) := by decide +kernel
theorem dX3_other_47 : decode cX3_other 47 = .ok (.ifCond .ne 9, 3) := by decide +kernel
theorem dX3_other_50 : decode cX3_other 50 = .ok (.ldc2_w 147, 3) := by decide +kernel
theorem dX3_other_53 : decode cX3_other 53 = .ok (.goto 10, 3) := by decide +kernel
theorem dX3_other_56 : decode cX3_other 56 = .ok (.aload 4, 2) := by decide +kernel
theorem dX3_other_58 : decode cX3_other 58 = .ok (.iload_n 2, 1) := by decide +kernel
theorem dX3_other_59 : decode cX3_other 59 = .ok (.iload_n 3, 1) := by decide +kernel
theorem dX3_other_60 : decode cX3_other 60 = .ok (.invokevirtual 153, 3) := by decide +kernel
theorem dX3_other_63 : decode cX3_other 63 = .ok (.lreturn, 1) := by decide +kernel
set_option maxRecDepth 20000 in
theorem bkX3_init_0 {w : zW} {Γ : zC} {N S : Nat} {Rt : zR} (X : zm_X w Γ mX3_init N S Rt) : ∀ lv st h, (zi_lda 0 (zi_obj (zi_lda 0 (zi_new N S 0 4 [.null, .int 0, .int 0, .int 0] (zi_dup (zi_ci w mX0_init 1 N S (zi_pf 3 0 (.object "StemBeams$Bars") (zi_lda 0 (zi_push (.int 64) (zi_na N S 2 (.inr (.inr (.inr (.inr (fun _ => none))))) (zi_pf 3 1 (.array (.object "StemBeams$Event")) (zi_lda 0 (zi_push (.int 33) (zi_na N S 3 (.inr (.inr (.inr (.inr (fun _ => none))))) (zi_pf 3 2 (.array (.object "StemBeams$Beam")) (zi_lda 0 (zi_push (.int 2) (zi_na N S 0 (.inl (fun _ => 0)) (zi_pf 3 3 (.array .int) (zi_push (.int 0) (zi_sti 1 (zm_V w Γ 42)))))))))))))))))))))) lv st h → zm_V w Γ 0 lv st h := (zs_aload_n X rfl dX3_init_0 (zs_obj X (by decide) kw_X3_3 ko_1 ko_2 dX3_init_1 (zs_aload_n X rfl dX3_init_4 (zs_new X rfl zm_in0 tyX0 tyX0_ok (by decide) kw_X3_9 kn_X0 ki_X0 dX3_init_5 (zs_dup X dX3_init_8 (zs_ci X (M' := mX0_init) (n := 0) kd_X0_init ki_X0 (by decide +kernel) (by decide) kw_X3_11 ks_X0_init rfl rfl dX3_init_9 (zs_pfF X (ci := 3) rfl (by decide) zm_in3 kw_X3_12 tyX3 tyX3_ok nmX3 rfl rfl rfl rfl dX3_init_12 (zs_aload_n X rfl dX3_init_15 (zs_bipush X (by decide) dX3_init_16 (zs_anew X (fun _ => rfl) kw_X3_16 (by simp [zm_nw]) dX3_init_18 (zs_pfF X (ci := 3) rfl (by decide) zm_in3 kw_X3_18 tyX3 tyX3_ok nmX3 rfl rfl rfl rfl dX3_init_21 (zs_aload_n X rfl dX3_init_24 (zs_bipush X (by decide) dX3_init_25 (zs_anew X (fun _ => rfl) kw_X3_22 (by simp [zm_nw]) dX3_init_27 (zs_pfF X (ci := 3) rfl (by decide) zm_in3 kw_X3_24 tyX3 tyX3_ok nmX3 rfl rfl rfl rfl dX3_init_30 (zs_aload_n X rfl dX3_init_33 (zs_iconst X (by decide) dX3_init_34 (zs_newa X (atype := .int) (fun _ => rfl) (fun _ _ => rfl) (by decide) (fun _ h => by cases h) ka_int dX3_init_35 (zs_pfF X (ci := 3) rfl (by decide) zm_in3 kw_X3_28 tyX3 tyX3_ok nmX3 rfl rfl rfl rfl dX3_init_37 (zs_iconst X (by decide) dX3_init_40 (zs_istore_n X rfl (by decide) dX3_init_41 (fun _ _ _ h => h))))))))))))))))))))))
set_option maxRecDepth 20000 in
theorem bkX3_init_42 {w : zW} {Γ : zC} {N S : Nat} {Rt : zR} (X : zm_X w Γ mX3_init N S Rt) : ∀ lv st h, (zi_ldi 1 (zi_lda 0 (zi_gf 3 1 (zi_len 2 (zi_ic (fun x y => y ≤ x) (zi_new N S 2 18 [.int 0, .int 0, .int 0, .int 0, .int 0, .int 0, .int 0, .int 0, .int 0, .int 0, .int 0, .int 0, .int 0, .int 0, .int 0, .int 0, .int 0, .int 0] (zi_dup (zi_ci w mX2_init 1 N S (zi_sta 1 (zi_push (.int 0) (zi_sti 2 (zm_V w Γ 80))))))) (zi_lda 0 (zi_gf 3 1 (zi_ldi 1 (zi_new N S 2 18 [.int 0, .int 0, .int 0, .int 0, .int 0, .int 0, .int 0, .int 0, .int 0, .int 0, .int 0, .int 0, .int 0, .int 0, .int 0, .int 0, .int 0, .int 0] (zi_dup (zi_ci w mX2_init 1 N S (zi_as 2 2 (zi_inc 1 1 (zm_V w Γ 42)))))))))))))) lv st h → zm_V w Γ 42 lv st h := (zs_iload_n X rfl dX3_init_42 (zs_aload_n X rfl dX3_init_43 (zs_gf X (ci := 3) rfl (by decide) zm_in3 kw_X3_18 dX3_init_44 (zs_alen X (fun _ => rfl) dX3_init_47 (zs_icmp_ge X dX3_init_48 (by decide) (zs_new X rfl zm_in2 tyX2 tyX2_ok (by decide) kw_X3_16 kn_X2 ki_X2 dX3_init_70 (zs_dup X dX3_init_73 (zs_ciN X (M' := mX2_init) (n := 0) kd_X2_init ki_X2 (by decide +kernel) (by decide) kz_X3_32 ks_X2_init rfl rfl dX3_init_74 (zs_astore_n X rfl (by decide) dX3_init_77 (zs_iconst X (by decide) dX3_init_78 (zs_istore_n X rfl (by decide) dX3_init_79 (fun _ _ _ h => h))))))) (zs_aload_n X rfl dX3_init_51 (zs_gf X (ci := 3) rfl (by decide) zm_in3 kw_X3_18 dX3_init_52 (zs_iload_n X rfl dX3_init_55 (zs_new X rfl zm_in2 tyX2 tyX2_ok (by decide) kw_X3_16 kn_X2 ki_X2 dX3_init_56 (zs_dup X dX3_init_59 (zs_ciN X (M' := mX2_init) (n := 0) kd_X2_init ki_X2 (by decide +kernel) (by decide) kz_X3_32 ks_X2_init rfl rfl dX3_init_60 (zs_aast X (NN := _) rfl (fun _ => rfl) dX3_init_63 (zs_iinc X (by decide) (by decide) dX3_init_64 (zs_goto X dX3_init_67 (by decide) (fun _ _ _ h => h)))))))))))))))
set_option maxRecDepth 20000 in
theorem bkX3_init_80 {w : zW} {Γ : zC} {N S : Nat} {Rt : zR} (X : zm_X w Γ mX3_init N S Rt) : ∀ lv st h, (zi_ldi 2 (zi_lda 0 (zi_gf 3 2 (zi_len 3 (zi_ic (fun x y => y ≤ x) (zi_vret Rt) (zi_lda 0 (zi_gf 3 2 (zi_ldi 2 (zi_new N S 1 9 [.null, .int 0, .int 0, .int 0, .int 0, .int 0, .int 0, .int 0, .long 0] (zi_dup (zi_lda 1 (zi_ci w mX1_init 2 N S (zi_as 3 1 (zi_inc 2 1 (zm_V w Γ 80))))))))))))))) lv st h → zm_V w Γ 80 lv st h := (zs_iload_n X rfl dX3_init_80 (zs_aload_n X rfl dX3_init_81 (zs_gf X (ci := 3) rfl (by decide) zm_in3 kw_X3_24 dX3_init_82 (zs_alen X (fun _ => rfl) dX3_init_85 (zs_icmp_ge X dX3_init_86 (by decide) (zs_vret X rfl dX3_init_109) (zs_aload_n X rfl dX3_init_89 (zs_gf X (ci := 3) rfl (by decide) zm_in3 kw_X3_24 dX3_init_90 (zs_iload_n X rfl dX3_init_93 (zs_new X rfl zm_in1 tyX1 tyX1_ok (by decide) kw_X3_22 kn_X1 ki_X1 dX3_init_94 (zs_dup X dX3_init_97 (zs_aload_n X rfl dX3_init_98 (zs_ci X (M' := mX1_init) (n := 1) kd_X1_init ki_X1 (by decide +kernel) (by decide) kw_X3_33 ks_X1_init rfl rfl dX3_init_99 (zs_aast X (NN := _) rfl (fun _ => rfl) dX3_init_102 (zs_iinc X (by decide) (by decide) dX3_init_103 (zs_goto X dX3_init_106 (by decide) (fun _ _ _ h => h))))))))))))))))
set_option maxRecDepth 20000 in
theorem bkX3_meter_0 {w : zW} {Γ : zC} {N S : Nat} {Rt : zR} (X : zm_X w Γ mX3_meter N S Rt) : ∀ lv st h, (zi_ldi 1 (zi_ldi 2 (zi_ldi 3 (zi_cs w mX0_isMeter 3 N S (zi_if (fun x => x = 0) (zi_push (.int (-1003)) (zi_iret Rt)) (zi_lda 0 (zi_gf 3 4 (zi_if (fun x => x ≤ 0) (zi_lda 0 (zi_gf 3 0 (zi_ldi 1 (zi_ldi 2 (zi_ldi 3 (zi_cv w mX0_set 0 4 N S (zi_lda 0 (zi_gf 3 0 (zi_gf 0 1 (zi_iret Rt)))))))))) (zi_push (.int (-1004)) (zi_iret Rt)))))))))) lv st h → zm_V w Γ 0 lv st h := (zs_iload_n X rfl dX3_meter_0 (zs_iload_n X rfl dX3_meter_1 (zs_iload_n X rfl dX3_meter_2 (zs_cs X (M' := mX0_isMeter) (n := 3) kd_X0_isMeter ki_X0 (by decide +kernel) (by decide) kw_X3_36 ks_X0_isMeter dX3_meter_3 (zs_if_ne X dX3_meter_6 (by decide) (zs_aload_n X rfl dX3_meter_13 (zs_gf X (ci := 3) rfl (by decide) zm_in3 kw_X3_40 dX3_meter_14 (zs_if_le X dX3_meter_17 (by decide) (zs_aload_n X rfl dX3_meter_24 (zs_gf X (ci := 3) rfl (by decide) zm_in3 kw_X3_12 dX3_meter_25 (zs_iload_n X rfl dX3_meter_28 (zs_iload_n X rfl dX3_meter_29 (zs_iload_n X rfl dX3_meter_30 (zs_cv X (M' := mX0_set) (n := 3) kd_X0_set ki_X0 (by decide +kernel) (by decide) kw_X3_44 rfl ks_X0_set kl_X0_set dX3_meter_31 (zs_aload_n X rfl dX3_meter_34 (zs_gf X (ci := 3) rfl (by decide) zm_in3 kw_X3_12 dX3_meter_35 (zs_gf X (ci := 0) rfl (by decide) zm_in0 kw_X3_48 dX3_meter_38 (zs_iret X rfl dX3_meter_41)))))))))) (zs_sipush X (by decide) dX3_meter_20 (zs_iret X rfl dX3_meter_23))))) (zs_sipush X (by decide) dX3_meter_9 (zs_iret X rfl dX3_meter_12)))))))
set_option maxRecDepth 20000 in
theorem bkX3_note_0 {w : zW} {Γ : zC} {N S : Nat} {Rt : zR} (X : zm_X w Γ mX3_note N S Rt) : ∀ lv st h, (zi_ldi 1 (zi_cs w mX3_isPlace 1 N S (zi_if (fun x => x = 0) (zi_push (.int (-1003)) (zi_iret Rt)) (zi_ldi 2 (zi_ldi 3 (zi_ldi 4 (zi_cs w mX3_isTiming 3 N S (zi_if (fun x => x = 0) (zi_push (.int (-1003)) (zi_iret Rt)) (zi_lda 0 (zi_ldi 2 (zi_ldi 3 (zi_ldi 4 (zi_cv w mX3_append 3 4 N S (zi_sti 5 (zi_lda 0 (zi_ldi 5 (zi_cv w mX3_eventAt 3 2 N S (zi_sta 6 (zi_lda 6 (zi_nul (zi_ldi 5 (zi_iret Rt)) (zi_lda 6 (zi_ldi 1 (zi_cv w mX2_addHead 2 2 N S (zi_ldi 5 (zi_iret Rt))))))))))))))))))))))))) lv st h → zm_V w Γ 0 lv st h := (zs_iload_n X rfl dX3_note_0 (zs_cs X (M' := mX3_isPlace) (n := 1) kd_X3_isPlace ki_X3 (by decide +kernel) (by decide) kw_X3_51 ks_X3_isPlace dX3_note_1 (zs_if_eq X dX3_note_4 (by decide) (zs_sipush X (by decide) dX3_note_17 (zs_iret X rfl dX3_note_20)) (zs_iload_n X rfl dX3_note_7 (zs_iload_n X rfl dX3_note_8 (zs_iload X dX3_note_9 (zs_cs X (M' := mX3_isTiming) (n := 3) kd_X3_isTiming ki_X3 (by decide +kernel) (by decide) kw_X3_55 ks_X3_isTiming dX3_note_11 (zs_if_ne X dX3_note_14 (by decide) (zs_aload_n X rfl dX3_note_21 (zs_iload_n X rfl dX3_note_22 (zs_iload_n X rfl dX3_note_23 (zs_iload X dX3_note_24 (zs_cv X (M' := mX3_append) (n := 3) kd_X3_append ki_X3 (by decide +kernel) (by decide) kw_X3_58 rfl ks_X3_append kl_X3_append dX3_note_26 (zs_istore X (by decide) dX3_note_29 (zs_aload_n X rfl dX3_note_31 (zs_iload X dX3_note_32 (zs_cv X (M' := mX3_eventAt) (n := 1) kd_X3_eventAt ki_X3 (by decide +kernel) (by decide) kw_X3_62 rfl ks_X3_eventAt kl_X3_eventAt dX3_note_34 (zs_astore X (by decide) dX3_note_37 (zs_aload X dX3_note_39 (zs_ifnull X dX3_note_41 (by decide) (zs_iload X dX3_note_50 (zs_iret X rfl dX3_note_52)) (zs_aload X dX3_note_44 (zs_iload_n X rfl dX3_note_46 (zs_cv X (M' := mX2_addHead) (n := 1) kd_X2_addHead ki_X2 (by decide +kernel) (by decide) kw_X3_66 rfl ks_X2_addHead kl_X2_addHead dX3_note_47 (zs_iload X dX3_note_50 (zs_iret X rfl dX3_note_52))))))))))))))))) (zs_sipush X (by decide) dX3_note_17 (zs_iret X rfl dX3_note_20))))))))))
set_option maxRecDepth 20000 in
theorem bkX3_pause_0 {w : zW} {Γ : zC} {N S : Nat} {Rt : zR} (X : zm_X w Γ mX3_pause N S Rt) : ∀ lv st h, (zi_ldi 1 (zi_ldi 2 (zi_ldi 3 (zi_cs w mX3_isTiming 3 N S (zi_if (fun x => x = 0) (zi_push (.int (-1003)) (zi_iret Rt)) (zi_lda 0 (zi_ldi 1 (zi_ldi 2 (zi_ldi 3 (zi_cv w mX3_append 3 4 N S (zi_iret Rt))))))))))) lv st h → zm_V w Γ 0 lv st h := (zs_iload_n X rfl dX3_pause_0 (zs_iload_n X rfl dX3_pause_1 (zs_iload_n X rfl dX3_pause_2 (zs_cs X (M' := mX3_isTiming) (n := 3) kd_X3_isTiming ki_X3 (by decide +kernel) (by decide) kw_X3_55 ks_X3_isTiming dX3_pause_3 (zs_if_eq X dX3_pause_6 (by decide) (zs_sipush X (by decide) dX3_pause_19 (zs_iret X rfl dX3_pause_22)) (zs_aload_n X rfl dX3_pause_9 (zs_iload_n X rfl dX3_pause_10 (zs_iload_n X rfl dX3_pause_11 (zs_iload_n X rfl dX3_pause_12 (zs_cv X (M' := mX3_append) (n := 3) kd_X3_append ki_X3 (by decide +kernel) (by decide) kw_X3_58 rfl ks_X3_append kl_X3_append dX3_pause_13 (zs_goto X dX3_pause_16 (by decide) (zs_iret X rfl dX3_pause_22))))))))))))
set_option maxRecDepth 20000 in
theorem bkX3_also_0 {w : zW} {Γ : zC} {N S : Nat} {Rt : zR} (X : zm_X w Γ mX3_also N S Rt) : ∀ lv st h, (zi_lda 0 (zi_ldi 1 (zi_cv w mX3_eventAt 3 2 N S (zi_sta 3 (zi_lda 3 (zi_ldi 2 (zi_cs w mX3_isPlace 1 N S (zi_cs w mX3_refusalOf 2 N S (zi_sti 4 (zi_lda 3 (zi_nul (zi_ldi 4 (zi_iret Rt)) (zi_ldi 4 (zi_if (fun x => x = 0) (zi_lda 3 (zi_ldi 2 (zi_cv w mX2_hasHead 2 2 N S (zi_if (fun x => x = 0) (zi_lda 3 (zi_gf 2 5 (zi_push (.int 4) (zi_ic (fun x y => x < y) (zi_lda 0 (zi_cv w mX3_takeBeamsAway 3 1 N S (zi_lda 3 (zi_ldi 2 (zi_cv w mX2_addHead 2 2 N S (zi_lda 3 (zi_gf 2 5 (zi_iret Rt)))))))) (zi_push (.int (-1005)) (zi_iret Rt)))))) (zi_push (.int (-1004)) (zi_iret Rt)))))) (zi_ldi 4 (zi_iret Rt))))))))))))))) lv st h → zm_V w Γ 0 lv st h := (zs_aload_n X rfl dX3_also_0 (zs_iload_n X rfl dX3_also_1 (zs_cv X (M' := mX3_eventAt) (n := 1) kd_X3_eventAt ki_X3 (by decide +kernel) (by decide) kw_X3_62 rfl ks_X3_eventAt kl_X3_eventAt dX3_also_2 (zs_astore_n X rfl (by decide) dX3_also_5 (zs_aload_n X rfl dX3_also_6 (zs_iload_n X rfl dX3_also_7 (zs_cs X (M' := mX3_isPlace) (n := 1) kd_X3_isPlace ki_X3 (by decide +kernel) (by decide) kw_X3_51 ks_X3_isPlace dX3_also_8 (zs_cs X (M' := mX3_refusalOf) (n := 2) kd_X3_refusalOf ki_X3 (by decide +kernel) (by decide) kw_X3_70 ks_X3_refusalOf dX3_also_11 (zs_istore X (by decide) dX3_also_14 (zs_aload_n X rfl dX3_also_16 (zs_ifnull X dX3_also_17 (by decide) (zs_iload X dX3_also_25 (zs_iret X rfl dX3_also_27)) (zs_iload X dX3_also_20 (zs_if_eq X dX3_also_22 (by decide) (zs_aload_n X rfl dX3_also_28 (zs_iload_n X rfl dX3_also_29 (zs_cv X (M' := mX2_hasHead) (n := 1) kd_X2_hasHead ki_X2 (by decide +kernel) (by decide) kw_X3_74 rfl ks_X2_hasHead kl_X2_hasHead dX3_also_30 (zs_if_eq X dX3_also_33 (by decide) (zs_aload_n X rfl dX3_also_40 (zs_gf X (ci := 2) rfl (by decide) zm_in2 kw_X3_77 dX3_also_41 (zs_iconst X (by decide) dX3_also_44 (zs_icmp_lt X dX3_also_45 (by decide) (zs_aload_n X rfl dX3_also_52 (zs_cv X (M' := mX3_takeBeamsAway) (n := 0) kd_X3_takeBeamsAway ki_X3 (by decide +kernel) (by decide) kw_X3_80 rfl ks_X3_takeBeamsAway kl_X3_takeBeamsAway dX3_also_53 (zs_aload_n X rfl dX3_also_56 (zs_iload_n X rfl dX3_also_57 (zs_cv X (M' := mX2_addHead) (n := 1) kd_X2_addHead ki_X2 (by decide +kernel) (by decide) kw_X3_66 rfl ks_X2_addHead kl_X2_addHead dX3_also_58 (zs_aload_n X rfl dX3_also_61 (zs_gf X (ci := 2) rfl (by decide) zm_in2 kw_X3_77 dX3_also_62 (zs_iret X rfl dX3_also_65)))))))) (zs_sipush X (by decide) dX3_also_48 (zs_iret X rfl dX3_also_51)))))) (zs_sipush X (by decide) dX3_also_36 (zs_iret X rfl dX3_also_39)))))) (zs_iload X dX3_also_25 (zs_iret X rfl dX3_also_27)))))))))))))))
set_option maxRecDepth 20000 in
theorem bkX3_staff_0 {w : zW} {Γ : zC} {N S : Nat} {Rt : zR} (X : zm_X w Γ mX3_staff N S Rt) : ∀ lv st h, (zi_lda 0 (zi_ldi 1 (zi_cv w mX3_eventAt 3 2 N S (zi_sta 3 (zi_lda 3 (zi_ldi 2 (zi_if (fun x => x < 0) (zm_V w Γ 20) (zi_ldi 2 (zi_push (.int 1) (zi_ic (fun x y => y < x) (zm_V w Γ 20) (zi_push (.int 1) (zm_V w Γ 21)))))))))))) lv st h → zm_V w Γ 0 lv st h := (zs_aload_n X rfl dX3_staff_0 (zs_iload_n X rfl dX3_staff_1 (zs_cv X (M' := mX3_eventAt) (n := 1) kd_X3_eventAt ki_X3 (by decide +kernel) (by decide) kw_X3_62 rfl ks_X3_eventAt kl_X3_eventAt dX3_staff_2 (zs_astore_n X rfl (by decide) dX3_staff_5 (zs_aload_n X rfl dX3_staff_6 (zs_iload_n X rfl dX3_staff_7 (zs_if_lt X dX3_staff_8 (by decide) (fun _ _ _ h => h) (zs_iload_n X rfl dX3_staff_11 (zs_iconst X (by decide) dX3_staff_12 (zs_icmp_gt X dX3_staff_13 (by decide) (fun _ _ _ h => h) (zs_iconst X (by decide) dX3_staff_16 (zs_goto X dX3_staff_17 (by decide) (fun _ _ _ h => h)))))))))))))
set_option maxRecDepth 20000 in
theorem bkX3_staff_20 {w : zW} {Γ : zC} {N S : Nat} {Rt : zR} (X : zm_X w Γ mX3_staff N S Rt) : ∀ lv st h, (zi_push (.int 0) (zm_V w Γ 21)) lv st h → zm_V w Γ 20 lv st h := (zs_iconst X (by decide) dX3_staff_20 (fun _ _ _ h => h))
set_option maxRecDepth 20000 in
theorem bkX3_staff_21 {w : zW} {Γ : zC} {N S : Nat} {Rt : zR} (X : zm_X w Γ mX3_staff N S Rt) : ∀ lv st h, (zi_cs w mX3_refusalOf 2 N S (zi_sti 4 (zi_lda 3 (zi_nul (zi_ldi 4 (zi_iret Rt)) (zi_ldi 4 (zi_if (fun x => x = 0) (zi_lda 0 (zi_cv w mX3_takeBeamsAway 3 1 N S (zi_lda 3 (zi_gf 2 8 (zi_sti 5 (zi_lda 3 (zi_ldi 2 (zi_pf 2 8 .int (zi_ldi 5 (zi_iret Rt)))))))))) (zi_ldi 4 (zi_iret Rt)))))))) lv st h → zm_V w Γ 21 lv st h := (zs_cs X (M' := mX3_refusalOf) (n := 2) kd_X3_refusalOf ki_X3 (by decide +kernel) (by decide) kw_X3_70 ks_X3_refusalOf dX3_staff_21 (zs_istore X (by decide) dX3_staff_24 (zs_aload_n X rfl dX3_staff_26 (zs_ifnull X dX3_staff_27 (by decide) (zs_iload X dX3_staff_35 (zs_iret X rfl dX3_staff_37)) (zs_iload X dX3_staff_30 (zs_if_eq X dX3_staff_32 (by decide) (zs_aload_n X rfl dX3_staff_38 (zs_cv X (M' := mX3_takeBeamsAway) (n := 0) kd_X3_takeBeamsAway ki_X3 (by decide +kernel) (by decide) kw_X3_80 rfl ks_X3_takeBeamsAway kl_X3_takeBeamsAway dX3_staff_39 (zs_aload_n X rfl dX3_staff_42 (zs_gf X (ci := 2) rfl (by decide) zm_in2 kw_X3_83 dX3_staff_43 (zs_istore X (by decide) dX3_staff_46 (zs_aload_n X rfl dX3_staff_48 (zs_iload_n X rfl dX3_staff_49 (zs_pf X (ci := 2) rfl (by decide) zm_in2 kw_X3_83 tyX2 tyX2_ok nmX2 rfl rfl dX3_staff_50 (zs_iload X dX3_staff_53 (zs_iret X rfl dX3_staff_55)))))))))) (zs_iload X dX3_staff_35 (zs_iret X rfl dX3_staff_37))))))))
set_option maxRecDepth 20000 in
theorem bkX3_mark_0 {w : zW} {Γ : zC} {N S : Nat} {Rt : zR} (X : zm_X w Γ mX3_mark N S Rt) : ∀ lv st h, (zi_lda 0 (zi_ldi 1 (zi_cv w mX3_eventAt 3 2 N S (zi_sta 3 (zi_lda 3 (zi_ldi 2 (zi_if (fun x => x < 0) (zm_V w Γ 20) (zi_ldi 2 (zi_push (.int 2) (zi_ic (fun x y => y < x) (zm_V w Γ 20) (zi_push (.int 1) (zm_V w Γ 21)))))))))))) lv st h → zm_V w Γ 0 lv st h := (zs_aload_n X rfl dX3_mark_0 (zs_iload_n X rfl dX3_mark_1 (zs_cv X (M' := mX3_eventAt) (n := 1) kd_X3_eventAt ki_X3 (by decide +kernel) (by decide) kw_X3_62 rfl ks_X3_eventAt kl_X3_eventAt dX3_mark_2 (zs_astore_n X rfl (by decide) dX3_mark_5 (zs_aload_n X rfl dX3_mark_6 (zs_iload_n X rfl dX3_mark_7 (zs_if_lt X dX3_mark_8 (by decide) (fun _ _ _ h => h) (zs_iload_n X rfl dX3_mark_11 (zs_iconst X (by decide) dX3_mark_12 (zs_icmp_gt X dX3_mark_13 (by decide) (fun _ _ _ h => h) (zs_iconst X (by decide) dX3_mark_16 (zs_goto X dX3_mark_17 (by decide) (fun _ _ _ h => h)))))))))))))
set_option maxRecDepth 20000 in
theorem bkX3_mark_20 {w : zW} {Γ : zC} {N S : Nat} {Rt : zR} (X : zm_X w Γ mX3_mark N S Rt) : ∀ lv st h, (zi_push (.int 0) (zm_V w Γ 21)) lv st h → zm_V w Γ 20 lv st h := (zs_iconst X (by decide) dX3_mark_20 (fun _ _ _ h => h))
set_option maxRecDepth 20000 in
theorem bkX3_mark_21 {w : zW} {Γ : zC} {N S : Nat} {Rt : zR} (X : zm_X w Γ mX3_mark N S Rt) : ∀ lv st h, (zi_cs w mX3_refusalOf 2 N S (zi_sti 4 (zi_lda 3 (zi_nul (zi_ldi 4 (zi_iret Rt)) (zi_ldi 4 (zi_if (fun x => x = 0) (zi_lda 0 (zi_cv w mX3_takeBeamsAway 3 1 N S (zi_lda 3 (zi_gf 2 9 (zi_sti 5 (zi_lda 3 (zi_ldi 2 (zi_pf 2 9 .int (zi_ldi 5 (zi_iret Rt)))))))))) (zi_ldi 4 (zi_iret Rt)))))))) lv st h → zm_V w Γ 21 lv st h := (zs_cs X (M' := mX3_refusalOf) (n := 2) kd_X3_refusalOf ki_X3 (by decide +kernel) (by decide) kw_X3_70 ks_X3_refusalOf dX3_mark_21 (zs_istore X (by decide) dX3_mark_24 (zs_aload_n X rfl dX3_mark_26 (zs_ifnull X dX3_mark_27 (by decide) (zs_iload X dX3_mark_35 (zs_iret X rfl dX3_mark_37)) (zs_iload X dX3_mark_30 (zs_if_eq X dX3_mark_32 (by decide) (zs_aload_n X rfl dX3_mark_38 (zs_cv X (M' := mX3_takeBeamsAway) (n := 0) kd_X3_takeBeamsAway ki_X3 (by decide +kernel) (by decide) kw_X3_80 rfl ks_X3_takeBeamsAway kl_X3_takeBeamsAway dX3_mark_39 (zs_aload_n X rfl dX3_mark_42 (zs_gf X (ci := 2) rfl (by decide) zm_in2 kw_X3_86 dX3_mark_43 (zs_istore X (by decide) dX3_mark_46 (zs_aload_n X rfl dX3_mark_48 (zs_iload_n X rfl dX3_mark_49 (zs_pf X (ci := 2) rfl (by decide) zm_in2 kw_X3_86 tyX2 tyX2_ok nmX2 rfl rfl dX3_mark_50 (zs_iload X dX3_mark_53 (zs_iret X rfl dX3_mark_55)))))))))) (zs_iload X dX3_mark_35 (zs_iret X rfl dX3_mark_37))))))))
set_option maxRecDepth 20000 in
theorem bkX3_broken_0 {w : zW} {Γ : zC} {N S : Nat} {Rt : zR} (X : zm_X w Γ mX3_broken N S Rt) : ∀ lv st h, (zi_lda 0 (zi_ldi 1 (zi_cv w mX3_eventAt 3 2 N S (zi_sta 4 (zi_lda 4 (zi_ldi 2 (zi_push (.int 2) (zi_ic (fun x y => x < y) (zm_V w Γ 23) (zi_ldi 2 (zi_push (.int 4) (zi_ic (fun x y => y < x) (zm_V w Γ 23) (zi_push (.int 1) (zm_V w Γ 24))))))))))))) lv st h → zm_V w Γ 0 lv st h := (zs_aload_n X rfl dX3_broken_0 (zs_iload_n X rfl dX3_broken_1 (zs_cv X (M' := mX3_eventAt) (n := 1) kd_X3_eventAt ki_X3 (by decide +kernel) (by decide) kw_X3_62 rfl ks_X3_eventAt kl_X3_eventAt dX3_broken_2 (zs_astore X (by decide) dX3_broken_5 (zs_aload X dX3_broken_7 (zs_iload_n X rfl dX3_broken_9 (zs_iconst X (by decide) dX3_broken_10 (zs_icmp_lt X dX3_broken_11 (by decide) (fun _ _ _ h => h) (zs_iload_n X rfl dX3_broken_14 (zs_iconst X (by decide) dX3_broken_15 (zs_icmp_gt X dX3_broken_16 (by decide) (fun _ _ _ h => h) (zs_iconst X (by decide) dX3_broken_19 (zs_goto X dX3_broken_20 (by decide) (fun _ _ _ h => h))))))))))))))
set_option maxRecDepth 20000 in
theorem bkX3_broken_23 {w : zW} {Γ : zC} {N S : Nat} {Rt : zR} (X : zm_X w Γ mX3_broken N S Rt) : ∀ lv st h, (zi_push (.int 0) (zm_V w Γ 24)) lv st h → zm_V w Γ 23 lv st h := (zs_iconst X (by decide) dX3_broken_23 (fun _ _ _ h => h))
set_option maxRecDepth 20000 in
theorem bkX3_broken_24 {w : zW} {Γ : zC} {N S : Nat} {Rt : zR} (X : zm_X w Γ mX3_broken N S Rt) : ∀ lv st h, (zi_cs w mX3_refusalOf 2 N S (zi_sti 5 (zi_lda 4 (zi_nul (zi_ldi 5 (zi_iret Rt)) (zi_ldi 5 (zi_if (fun x => x = 0) (zi_lda 0 (zi_cv w mX3_takeBeamsAway 3 1 N S (zi_lda 4 (zi_ldi 2 (zi_cv w mX2_isBroken 2 2 N S (zi_if (fun x => x = 0) (zi_push (.int 0) (zm_V w Γ 60)) (zi_push (.int 1) (zm_V w Γ 60)))))))) (zi_ldi 5 (zi_iret Rt)))))))) lv st h → zm_V w Γ 24 lv st h := (zs_cs X (M' := mX3_refusalOf) (n := 2) kd_X3_refusalOf ki_X3 (by decide +kernel) (by decide) kw_X3_70 ks_X3_refusalOf dX3_broken_24 (zs_istore X (by decide) dX3_broken_27 (zs_aload X dX3_broken_29 (zs_ifnull X dX3_broken_31 (by decide) (zs_iload X dX3_broken_39 (zs_iret X rfl dX3_broken_41)) (zs_iload X dX3_broken_34 (zs_if_eq X dX3_broken_36 (by decide) (zs_aload_n X rfl dX3_broken_42 (zs_cv X (M' := mX3_takeBeamsAway) (n := 0) kd_X3_takeBeamsAway ki_X3 (by decide +kernel) (by decide) kw_X3_80 rfl ks_X3_takeBeamsAway kl_X3_takeBeamsAway dX3_broken_43 (zs_aload X dX3_broken_46 (zs_iload_n X rfl dX3_broken_48 (zs_cv X (M' := mX2_isBroken) (n := 1) kd_X2_isBroken ki_X2 (by decide +kernel) (by decide) kw_X3_89 rfl ks_X2_isBroken kl_X2_isBroken dX3_broken_49 (zs_if_eq X dX3_broken_52 (by decide) (zs_iconst X (by decide) dX3_broken_59 (fun _ _ _ h => h)) (zs_iconst X (by decide) dX3_broken_55 (zs_goto X dX3_broken_56 (by decide) (fun _ _ _ h => h))))))))) (zs_iload X dX3_broken_39 (zs_iret X rfl dX3_broken_41))))))))
set_option maxRecDepth 20000 in
theorem bkX3_broken_60 {w : zW} {Γ : zC} {N S : Nat} {Rt : zR} (X : zm_X w Γ mX3_broken N S Rt) : ∀ lv st h, (zi_sti 6 (zi_lda 4 (zi_ldi 2 (zi_ldi 3 (zi_cv w mX2_setBroken 2 3 N S (zi_ldi 6 (zi_iret Rt))))))) lv st h → zm_V w Γ 60 lv st h := (zs_istore X (by decide) dX3_broken_60 (zs_aload X dX3_broken_62 (zs_iload_n X rfl dX3_broken_64 (zs_iload_n X rfl dX3_broken_65 (zs_cv X (M' := mX2_setBroken) (n := 2) kd_X2_setBroken ki_X2 (by decide +kernel) (by decide) kw_X3_92 rfl ks_X2_setBroken kl_X2_setBroken dX3_broken_66 (zs_iload X dX3_broken_69 (zs_iret X rfl dX3_broken_71)))))))
set_option maxRecDepth 20000 in
theorem bkX3_over_0 {w : zW} {Γ : zC} {N S : Nat} {Rt : zR} (X : zm_X w Γ mX3_over N S Rt) : ∀ lv st h, (zi_lda 0 (zi_cv w mX3_takeBeamsAway 3 1 N S (zi_lda 0 (zi_gf 3 7 (zi_if (fun x => x = 0) (zi_push (.int 0) (zi_sti 2 (zi_lda 0 (zi_ldi 1 (zi_pf 3 7 .boolean (zi_ldi 2 (zi_iret Rt))))))) (zi_push (.int 1) (zi_sti 2 (zi_lda 0 (zi_ldi 1 (zi_pf 3 7 .boolean (zi_ldi 2 (zi_iret Rt)))))))))))) lv st h → zm_V w Γ 0 lv st h := (zs_aload_n X rfl dX3_over_0 (zs_cv X (M' := mX3_takeBeamsAway) (n := 0) kd_X3_takeBeamsAway ki_X3 (by decide +kernel) (by decide) kw_X3_80 rfl ks_X3_takeBeamsAway kl_X3_takeBeamsAway dX3_over_1 (zs_aload_n X rfl dX3_over_4 (zs_gf X (ci := 3) rfl (by decide) zm_in3 kw_X3_96 dX3_over_5 (zs_if_eq X dX3_over_8 (by decide) (zs_iconst X (by decide) dX3_over_15 (zs_istore_n X rfl (by decide) dX3_over_16 (zs_aload_n X rfl dX3_over_17 (zs_iload_n X rfl dX3_over_18 (zs_pf X (ci := 3) rfl (by decide) zm_in3 kw_X3_96 tyX3 tyX3_ok nmX3 rfl rfl dX3_over_19 (zs_iload_n X rfl dX3_over_22 (zs_iret X rfl dX3_over_23))))))) (zs_iconst X (by decide) dX3_over_11 (zs_goto X dX3_over_12 (by decide) (zs_istore_n X rfl (by decide) dX3_over_16 (zs_aload_n X rfl dX3_over_17 (zs_iload_n X rfl dX3_over_18 (zs_pf X (ci := 3) rfl (by decide) zm_in3 kw_X3_96 tyX3 tyX3_ok nmX3 rfl rfl dX3_over_19 (zs_iload_n X rfl dX3_over_22 (zs_iret X rfl dX3_over_23)))))))))))))
set_option maxRecDepth 20000 in
theorem bkX3_group_0 {w : zW} {Γ : zC} {N S : Nat} {Rt : zR} (X : zm_X w Γ mX3_group N S Rt) : ∀ lv st h, (zi_lda 0 (zi_cv w mX3_takeBeamsAway 3 1 N S (zi_lda 0 (zi_push (.int 0) (zi_pf 3 6 .int (zi_push (.int 0) (zi_sti 1 (zm_V w Γ 11)))))))) lv st h → zm_V w Γ 0 lv st h := (zs_aload_n X rfl dX3_group_0 (zs_cv X (M' := mX3_takeBeamsAway) (n := 0) kd_X3_takeBeamsAway ki_X3 (by decide +kernel) (by decide) kw_X3_80 rfl ks_X3_takeBeamsAway kl_X3_takeBeamsAway dX3_group_1 (zs_aload_n X rfl dX3_group_4 (zs_iconst X (by decide) dX3_group_5 (zs_pf X (ci := 3) rfl (by decide) zm_in3 kw_X3_100 tyX3 tyX3_ok nmX3 rfl rfl dX3_group_6 (zs_iconst X (by decide) dX3_group_9 (zs_istore_n X rfl (by decide) dX3_group_10 (fun _ _ _ h => h))))))))
set_option maxRecDepth 20000 in
theorem bkX3_group_11 {w : zW} {Γ : zC} {N S : Nat} {Rt : zR} (X : zm_X w Γ mX3_group N S Rt) : ∀ lv st h, (zi_ldi 1 (zi_lda 0 (zi_gf 3 3 (zi_len 0 (zi_ic (fun x y => y ≤ x) (zi_lda 0 (zi_gf 3 5 (zi_iret Rt))) (zi_lda 0 (zi_ldi 1 (zi_cv w mX3_groupVoice 3 2 N S (zi_inc 1 1 (zm_V w Γ 11)))))))))) lv st h → zm_V w Γ 11 lv st h := (zs_iload_n X rfl dX3_group_11 (zs_aload_n X rfl dX3_group_12 (zs_gf X (ci := 3) rfl (by decide) zm_in3 kw_X3_28 dX3_group_13 (zs_alen X (fun _ => rfl) dX3_group_16 (zs_icmp_ge X dX3_group_17 (by decide) (zs_aload_n X rfl dX3_group_31 (zs_gf X (ci := 3) rfl (by decide) zm_in3 kw_X3_106 dX3_group_32 (zs_iret X rfl dX3_group_35))) (zs_aload_n X rfl dX3_group_20 (zs_iload_n X rfl dX3_group_21 (zs_cv X (M' := mX3_groupVoice) (n := 1) kd_X3_groupVoice ki_X3 (by decide +kernel) (by decide) kw_X3_103 rfl ks_X3_groupVoice kl_X3_groupVoice dX3_group_22 (zs_iinc X (by decide) (by decide) dX3_group_25 (zs_goto X dX3_group_28 (by decide) (fun _ _ _ h => h)))))))))))
set_option maxRecDepth 20000 in
theorem bkX3_beam_0 {w : zW} {Γ : zC} {N S : Nat} {Rt : zR} (X : zm_X w Γ mX3_beam N S Rt) : ∀ lv st h, (zi_lda 0 (zi_ldi 1 (zi_cv w mX3_beamAt 3 2 N S (zi_sta 3 (zi_lda 3 (zi_nul (zi_push (.int (-1002)) (zi_iret Rt)) (zi_ldi 2 (zi_sw [(0, (zi_lda 3 (zi_gf 1 1 (zi_iret Rt)))), (1, (zi_lda 3 (zi_cv w mX1_greatestLevel 1 1 N S (zi_iret Rt)))), (2, (zi_lda 3 (zi_gf 1 2 (zi_iret Rt)))), (3, (zi_lda 3 (zi_gf 1 3 (zi_iret Rt)))), (4, (zi_lda 3 (zi_gf 1 4 (zi_iret Rt)))), (5, (zi_lda 3 (zi_gf 1 5 (zi_iret Rt)))), (6, (zi_lda 3 (zi_gf 1 7 (zi_if (fun x => x = 0) (zi_push (.int 0) (zi_iret Rt)) (zi_push (.int 1) (zi_iret Rt)))))), (7, (zi_lda 3 (zi_gf 1 6 (zi_iret Rt))))] (zi_push (.int (-1003)) (zi_iret Rt)))))))))) lv st h → zm_V w Γ 0 lv st h := (zs_aload_n X rfl dX3_beam_0 (zs_iload_n X rfl dX3_beam_1 (zs_cv X (M' := mX3_beamAt) (n := 1) kd_X3_beamAt ki_X3 (by decide +kernel) (by decide) kw_X3_109 rfl ks_X3_beamAt kl_X3_beamAt dX3_beam_2 (zs_astore_n X rfl (by decide) dX3_beam_5 (zs_aload_n X rfl dX3_beam_6 (zs_ifnonnull X dX3_beam_7 (by decide) (zs_iload_n X rfl dX3_beam_14 (zs_tsw X dX3_beam_15 (by decide) (zm_tk_cons (by decide) (by decide) (zs_aload_n X rfl dX3_beam_60 (zs_gf X (ci := 1) rfl (by decide) zm_in1 kw_X3_113 dX3_beam_61 (zs_iret X rfl dX3_beam_64))) (zm_tk_cons (by decide) (by decide) (zs_aload_n X rfl dX3_beam_65 (zs_cv X (M' := mX1_greatestLevel) (n := 0) kd_X1_greatestLevel ki_X1 (by decide +kernel) (by decide) kw_X3_116 rfl ks_X1_greatestLevel kl_X1_greatestLevel dX3_beam_66 (zs_iret X rfl dX3_beam_69))) (zm_tk_cons (by decide) (by decide) (zs_aload_n X rfl dX3_beam_70 (zs_gf X (ci := 1) rfl (by decide) zm_in1 kw_X3_120 dX3_beam_71 (zs_iret X rfl dX3_beam_74))) (zm_tk_cons (by decide) (by decide) (zs_aload_n X rfl dX3_beam_75 (zs_gf X (ci := 1) rfl (by decide) zm_in1 kw_X3_123 dX3_beam_76 (zs_iret X rfl dX3_beam_79))) (zm_tk_cons (by decide) (by decide) (zs_aload_n X rfl dX3_beam_80 (zs_gf X (ci := 1) rfl (by decide) zm_in1 kw_X3_126 dX3_beam_81 (zs_iret X rfl dX3_beam_84))) (zm_tk_cons (by decide) (by decide) (zs_aload_n X rfl dX3_beam_85 (zs_gf X (ci := 1) rfl (by decide) zm_in1 kw_X3_129 dX3_beam_86 (zs_iret X rfl dX3_beam_89))) (zm_tk_cons (by decide) (by decide) (zs_aload_n X rfl dX3_beam_90 (zs_gf X (ci := 1) rfl (by decide) zm_in1 kw_X3_132 dX3_beam_91 (zs_if_eq X dX3_beam_94 (by decide) (zs_iconst X (by decide) dX3_beam_101 (zs_iret X rfl dX3_beam_102)) (zs_iconst X (by decide) dX3_beam_97 (zs_goto X dX3_beam_98 (by decide) (zs_iret X rfl dX3_beam_102)))))) (zm_tk_cons (by decide) (by decide) (zs_aload_n X rfl dX3_beam_103 (zs_gf X (ci := 1) rfl (by decide) zm_in1 kw_X3_135 dX3_beam_104 (zs_iret X rfl dX3_beam_107))) zm_tk_nil)))))))) (by decide) (zs_sipush X (by decide) dX3_beam_108 (zs_iret X rfl dX3_beam_111)))) (zs_sipush X (by decide) dX3_beam_10 (zs_iret X rfl dX3_beam_13))))))))
set_option maxRecDepth 20000 in
theorem bkX3_member_0 {w : zW} {Γ : zC} {N S : Nat} {Rt : zR} (X : zm_X w Γ mX3_member N S Rt) : ∀ lv st h, (zi_lda 0 (zi_ldi 1 (zi_cv w mX3_beamAt 3 2 N S (zi_sta 3 (zi_lda 3 (zi_nul (zi_push (.int (-1002)) (zi_iret Rt)) (zi_lda 3 (zi_ldi 2 (zi_cv w mX1_has 1 2 N S (zi_if (fun x => x = 0) (zi_push (.int (-1001)) (zi_iret Rt)) (zi_lda 3 (zi_gf 1 0 (zi_ldi 2 (zi_aa 2 (zi_gf 2 0 (zi_iret Rt)))))))))))))))) lv st h → zm_V w Γ 0 lv st h := (zs_aload_n X rfl dX3_member_0 (zs_iload_n X rfl dX3_member_1 (zs_cv X (M' := mX3_beamAt) (n := 1) kd_X3_beamAt ki_X3 (by decide +kernel) (by decide) kw_X3_109 rfl ks_X3_beamAt kl_X3_beamAt dX3_member_2 (zs_astore_n X rfl (by decide) dX3_member_5 (zs_aload_n X rfl dX3_member_6 (zs_ifnonnull X dX3_member_7 (by decide) (zs_aload_n X rfl dX3_member_14 (zs_iload_n X rfl dX3_member_15 (zs_cv X (M' := mX1_has) (n := 1) kd_X1_has ki_X1 (by decide +kernel) (by decide) kw_X3_138 rfl ks_X1_has kl_X1_has dX3_member_16 (zs_if_eq X dX3_member_19 (by decide) (zs_sipush X (by decide) dX3_member_34 (zs_iret X rfl dX3_member_37)) (zs_aload_n X rfl dX3_member_22 (zs_gf X (ci := 1) rfl (by decide) zm_in1 kw_X3_141 dX3_member_23 (zs_iload_n X rfl dX3_member_26 (zs_aald X (fun _ => rfl) dX3_member_27 (zs_gf X (ci := 2) rfl (by decide) zm_in2 kw_X3_144 dX3_member_28 (zs_goto X dX3_member_31 (by decide) (zs_iret X rfl dX3_member_37))))))))))) (zs_sipush X (by decide) dX3_member_10 (zs_iret X rfl dX3_member_13))))))))
set_option maxRecDepth 20000 in
theorem bkX3_badness_0 {w : zW} {Γ : zC} {N S : Nat} {Rt : zR} (X : zm_X w Γ mX3_badness N S Rt) : ∀ lv st h, (zi_lda 0 (zi_ldi 1 (zi_cv w mX3_beamAt 3 2 N S (zi_sta 2 (zi_lda 2 (zi_nul (zi_push (.long (-1)) (zi_lret Rt)) (zi_lda 2 (zi_gf 1 8 (zi_lret Rt))))))))) lv st h → zm_V w Γ 0 lv st h := (zs_aload_n X rfl dX3_badness_0 (zs_iload_n X rfl dX3_badness_1 (zs_cv X (M' := mX3_beamAt) (n := 1) kd_X3_beamAt ki_X3 (by decide +kernel) (by decide) kw_X3_109 rfl ks_X3_beamAt kl_X3_beamAt dX3_badness_2 (zs_astore_n X rfl (by decide) dX3_badness_5 (zs_aload_n X rfl dX3_badness_6 (zs_ifnonnull X dX3_badness_7 (by decide) (zs_aload_n X rfl dX3_badness_16 (zs_gf X (ci := 1) rfl (by decide) zm_in1 kw_X3_149 dX3_badness_17 (zs_lret X rfl dX3_badness_20))) (zs_ldc2 X kw_X3_147 dX3_badness_10 (zs_goto X dX3_badness_13 (by decide) (zs_lret X rfl dX3_badness_20)))))))))
set_option maxRecDepth 20000 in
theorem bkX3_other_0 {w : zW} {Γ : zC} {N S : Nat} {Rt : zR} (X : zm_X w Γ mX3_other N S Rt) : ∀ lv st h, (zi_lda 0 (zi_ldi 1 (zi_cv w mX3_beamAt 3 2 N S (zi_sta 4 (zi_ldi 2 (zi_push (.int (-200)) (zi_ic (fun x y => x < y) (zm_V w Γ 37) (zi_ldi 2 (zi_push (.int 200) (zi_ic (fun x y => y < x) (zm_V w Γ 37) (zi_ldi 3 (zi_push (.int (-6)) (zi_ic (fun x y => x < y) (zm_V w Γ 37) (zi_ldi 3 (zi_push (.int 6) (zi_ic (fun x y => y < x) (zm_V w Γ 37) (zi_push (.int 1) (zm_V w Γ 38)))))))))))))))))) lv st h → zm_V w Γ 0 lv st h := (zs_aload_n X rfl dX3_other_0 (zs_iload_n X rfl dX3_other_1 (zs_cv X (M' := mX3_beamAt) (n := 1) kd_X3_beamAt ki_X3 (by decide +kernel) (by decide) kw_X3_109 rfl ks_X3_beamAt kl_X3_beamAt dX3_other_2 (zs_astore X (by decide) dX3_other_5 (zs_iload_n X rfl dX3_other_7 (zs_sipush X (by decide) dX3_other_8 (zs_icmp_lt X dX3_other_11 (by decide) (fun _ _ _ h => h) (zs_iload_n X rfl dX3_other_14 (zs_sipush X (by decide) dX3_other_15 (zs_icmp_gt X dX3_other_18 (by decide) (fun _ _ _ h => h) (zs_iload_n X rfl dX3_other_21 (zs_bipush X (by decide) dX3_other_22 (zs_icmp_lt X dX3_other_24 (by decide) (fun _ _ _ h => h) (zs_iload_n X rfl dX3_other_27 (zs_bipush X (by decide) dX3_other_28 (zs_icmp_gt X dX3_other_30 (by decide) (fun _ _ _ h => h) (zs_iconst X (by decide) dX3_other_33 (zs_goto X dX3_other_34 (by decide) (fun _ _ _ h => h)))))))))))))))))))
set_option maxRecDepth 20000 in
theorem bkX3_other_37 {w : zW} {Γ : zC} {N S : Nat} {Rt : zR} (X : zm_X w Γ mX3_other N S Rt) : ∀ lv st h, (zi_push (.int 0) (zm_V w Γ 38)) lv st h → zm_V w Γ 37 lv st h := (zs_iconst X (by decide) dX3_other_37 (fun _ _ _ h => h))
set_option maxRecDepth 20000 in
theorem bkX3_other_38 {w : zW} {Γ : zC} {N S : Nat} {Rt : zR} (X : zm_X w Γ mX3_other N S Rt) : ∀ lv st h, (zi_sti 5 (zi_lda 4 (zi_nul (zi_push (.long (-1)) (zi_lret Rt)) (zi_ldi 5 (zi_if (fun x => x = 0) (zi_push (.long (-1)) (zi_lret Rt)) (zi_lda 4 (zi_ldi 2 (zi_ldi 3 (zi_cv w mX1_badnessAt 1 3 N S (zi_lret Rt)))))))))) lv st h → zm_V w Γ 38 lv st h := (zs_istore X (by decide) dX3_other_38 (zs_aload X dX3_other_40 (zs_ifnull X dX3_other_42 (by decide) (zs_ldc2 X kw_X3_147 dX3_other_50 (zs_goto X dX3_other_53 (by decide) (zs_lret X rfl dX3_other_63))) (zs_iload X dX3_other_45 (zs_if_ne X dX3_other_47 (by decide) (zs_aload X dX3_other_56 (zs_iload_n X rfl dX3_other_58 (zs_iload_n X rfl dX3_other_59 (zs_cv X (M' := mX1_badnessAt) (n := 2) kd_X1_badnessAt ki_X1 (by decide +kernel) (by decide) kw_X3_153 rfl ks_X1_badnessAt kl_X1_badnessAt dX3_other_60 (zs_lret X rfl dX3_other_63))))) (zs_ldc2 X kw_X3_147 dX3_other_50 (zs_goto X dX3_other_53 (by decide) (zs_lret X rfl dX3_other_63))))))))
