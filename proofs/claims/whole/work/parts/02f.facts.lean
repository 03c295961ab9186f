set_option maxRecDepth 20000 in
theorem kw_L_7 : Cond.methodLink RL 7 yX3_share ∈ zm_tb := List.mem_of_getElem? (i := 690) rfl
set_option maxRecDepth 20000 in
theorem kw_L_8 : Cond.classLink RL 8 RX3 ∈ zm_tb := List.mem_of_getElem? (i := 0) rfl
set_option maxRecDepth 20000 in
theorem kw_L_13 : Cond.classLink RL 13 "java/lang/ArithmeticException" ∈ zm_tb := List.mem_of_getElem? (i := 689) rfl
set_option maxRecDepth 20000 in
theorem kw_L_15 : Cond.methodLink RL 15 yX3_init ∈ zm_tb := List.mem_of_getElem? (i := 7) rfl
set_option maxRecDepth 20000 in
theorem kw_L_16 : Cond.classLink RL 16 RX4 ∈ zm_tb := List.mem_of_getElem? (i := 3) rfl
set_option maxRecDepth 20000 in
theorem kw_L_18 : Cond.methodLink RL 18 yX4_init ∈ zm_tb := List.mem_of_getElem? (i := 67) rfl
set_option maxRecDepth 20000 in
theorem kw_L_19 : Cond.methodLink RL 19 yX3_meter ∈ zm_tb := List.mem_of_getElem? (i := 107) rfl
set_option maxRecDepth 20000 in
theorem kw_L_23 : Cond.methodLink RL 23 yX4_meter ∈ zm_tb := List.mem_of_getElem? (i := 120) rfl
set_option maxRecDepth 20000 in
theorem kw_L_24 : Cond.methodLink RL 24 yX3_note ∈ zm_tb := List.mem_of_getElem? (i := 132) rfl
set_option maxRecDepth 20000 in
theorem kw_L_28 : Cond.methodLink RL 28 yX4_note ∈ zm_tb := List.mem_of_getElem? (i := 195) rfl
set_option maxRecDepth 20000 in
theorem kw_L_29 : Cond.methodLink RL 29 yX3_pause ∈ zm_tb := List.mem_of_getElem? (i := 207) rfl
set_option maxRecDepth 20000 in
theorem kw_L_32 : Cond.methodLink RL 32 yX4_pause ∈ zm_tb := List.mem_of_getElem? (i := 211) rfl
set_option maxRecDepth 20000 in
theorem kw_L_33 : Cond.methodLink RL 33 yX3_also ∈ zm_tb := List.mem_of_getElem? (i := 215) rfl
set_option maxRecDepth 20000 in
theorem kw_L_37 : Cond.methodLink RL 37 yX4_also ∈ zm_tb := List.mem_of_getElem? (i := 231) rfl
set_option maxRecDepth 20000 in
theorem kw_L_38 : Cond.methodLink RL 38 yX3_staff ∈ zm_tb := List.mem_of_getElem? (i := 239) rfl
set_option maxRecDepth 20000 in
theorem kw_L_41 : Cond.methodLink RL 41 yX4_staff ∈ zm_tb := List.mem_of_getElem? (i := 244) rfl
set_option maxRecDepth 20000 in
theorem kw_L_42 : Cond.methodLink RL 42 yX3_mark ∈ zm_tb := List.mem_of_getElem? (i := 248) rfl
set_option maxRecDepth 20000 in
theorem kw_L_45 : Cond.methodLink RL 45 yX4_mark ∈ zm_tb := List.mem_of_getElem? (i := 253) rfl
set_option maxRecDepth 20000 in
theorem kw_L_46 : Cond.methodLink RL 46 yX3_broken ∈ zm_tb := List.mem_of_getElem? (i := 257) rfl
set_option maxRecDepth 20000 in
theorem kw_L_50 : Cond.methodLink RL 50 yX4_broken ∈ zm_tb := List.mem_of_getElem? (i := 269) rfl
set_option maxRecDepth 20000 in
theorem kw_L_51 : Cond.methodLink RL 51 yX3_over ∈ zm_tb := List.mem_of_getElem? (i := 274) rfl
set_option maxRecDepth 20000 in
theorem kw_L_55 : Cond.methodLink RL 55 yX4_over ∈ zm_tb := List.mem_of_getElem? (i := 279) rfl
set_option maxRecDepth 20000 in
theorem kw_L_56 : Cond.methodLink RL 56 yX3_group ∈ zm_tb := List.mem_of_getElem? (i := 283) rfl
set_option maxRecDepth 20000 in
theorem kw_L_60 : Cond.methodLink RL 60 yX4_group ∈ zm_tb := List.mem_of_getElem? (i := 431) rfl
set_option maxRecDepth 20000 in
theorem kw_L_61 : Cond.methodLink RL 61 yX3_beam ∈ zm_tb := List.mem_of_getElem? (i := 524) rfl
set_option maxRecDepth 20000 in
theorem kw_L_64 : Cond.methodLink RL 64 yX4_beam ∈ zm_tb := List.mem_of_getElem? (i := 543) rfl
set_option maxRecDepth 20000 in
theorem kw_L_65 : Cond.methodLink RL 65 yX3_member ∈ zm_tb := List.mem_of_getElem? (i := 555) rfl
set_option maxRecDepth 20000 in
theorem kw_L_68 : Cond.methodLink RL 68 yX4_member ∈ zm_tb := List.mem_of_getElem? (i := 561) rfl
set_option maxRecDepth 20000 in
theorem kw_L_69 : Cond.methodLink RL 69 yX3_badness ∈ zm_tb := List.mem_of_getElem? (i := 565) rfl
set_option maxRecDepth 20000 in
theorem kw_L_73 : Cond.methodLink RL 73 yX4_badness ∈ zm_tb := List.mem_of_getElem? (i := 571) rfl
set_option maxRecDepth 20000 in
theorem kw_L_74 : Cond.methodLink RL 74 yX3_other ∈ zm_tb := List.mem_of_getElem? (i := 575) rfl
set_option maxRecDepth 20000 in
theorem kw_L_78 : Cond.methodLink RL 78 yX4_other ∈ zm_tb := List.mem_of_getElem? (i := 580) rfl
set_option maxRecDepth 20000 in
theorem kw_L_79 : Cond.methodLink RL 79 yX3_stem ∈ zm_tb := List.mem_of_getElem? (i := 587) rfl
set_option maxRecDepth 20000 in
theorem kw_L_82 : Cond.methodLink RL 82 yX4_stem ∈ zm_tb := List.mem_of_getElem? (i := 605) rfl
set_option maxRecDepth 20000 in
theorem kw_L_83 : Cond.methodLink RL 83 yX3_level ∈ zm_tb := List.mem_of_getElem? (i := 617) rfl
set_option maxRecDepth 20000 in
theorem kw_L_86 : Cond.methodLink RL 86 yX4_level ∈ zm_tb := List.mem_of_getElem? (i := 634) rfl
set_option maxRecDepth 20000 in
theorem kw_L_87 : Cond.methodLink RL 87 yX3_feather ∈ zm_tb := List.mem_of_getElem? (i := 638) rfl
set_option maxRecDepth 20000 in
theorem kw_L_90 : Cond.methodLink RL 90 yX4_feather ∈ zm_tb := List.mem_of_getElem? (i := 642) rfl
set_option maxRecDepth 20000 in
theorem kw_L_91 : Cond.methodLink RL 91 yX3_lane ∈ zm_tb := List.mem_of_getElem? (i := 646) rfl
set_option maxRecDepth 20000 in
theorem kw_L_94 : Cond.methodLink RL 94 yX4_lane ∈ zm_tb := List.mem_of_getElem? (i := 655) rfl
set_option maxRecDepth 20000 in
theorem kw_L_95 : Cond.methodLink RL 95 yX3_rest ∈ zm_tb := List.mem_of_getElem? (i := 663) rfl
set_option maxRecDepth 20000 in
theorem kw_L_99 : Cond.methodLink RL 99 yX4_rest ∈ zm_tb := List.mem_of_getElem? (i := 681) rfl
set_option maxRecDepth 20000 in
theorem kw_L_100 : Cond.methodLink RL 100 yL_share ∈ zm_tb := List.mem_of_getElem? (i := 685) rfl
set_option maxRecDepth 20000 in
theorem kw_L_105 : Cond.methodLink RL 105 yX4_share ∈ zm_tb := List.mem_of_getElem? (i := 704) rfl
set_option maxRecDepth 20000 in
theorem kw_L_106 : Cond.methodLink RL 106 yX4_thrown ∈ zm_tb := List.mem_of_getElem? (i := 708) rfl
set_option maxRecDepth 20000 in
theorem kw_L_109 : Cond.methodLink RL 109 yX3_event ∈ zm_tb := List.mem_of_getElem? (i := 712) rfl
set_option maxRecDepth 20000 in
theorem kw_L_112 : Cond.methodLink RL 112 yX4_event ∈ zm_tb := List.mem_of_getElem? (i := 716) rfl
set_option maxRecDepth 20000 in
theorem kw_L_113 : Cond.methodLink RL 113 yX3_count ∈ zm_tb := List.mem_of_getElem? (i := 720) rfl
set_option maxRecDepth 20000 in
theorem kw_L_116 : Cond.methodLink RL 116 yX4_count ∈ zm_tb := List.mem_of_getElem? (i := 724) rfl
set_option maxRecDepth 20000 in
theorem kw_L_117 : Cond.methodLink RL 117 yX3_clear ∈ zm_tb := List.mem_of_getElem? (i := 728) rfl
set_option maxRecDepth 20000 in
theorem kw_L_120 : Cond.methodLink RL 120 yX4_clear ∈ zm_tb := List.mem_of_getElem? (i := 732) rfl
set_option maxRecDepth 20000 in
theorem kw_X0_3 : Cond.methodLink RX0 3 objectInit ∈ zm_tb := List.mem_of_getElem? (i := 30) rfl
set_option maxRecDepth 20000 in
theorem kw_X0_9 : Cond.fieldLink RX0 9 (TX0 0).1 (TX0 0).2.1 (TX0 0).2.2.1 ∈ zm_tb := List.mem_of_getElem? (i := 31) rfl
set_option maxRecDepth 20000 in
theorem kw_X0_15 : Cond.methodLink RX0 15 yX0_set ∈ zm_tb := List.mem_of_getElem? (i := 32) rfl
set_option maxRecDepth 20000 in
theorem kw_X0_19 : Cond.methodLink RX0 19 yX0_unitOf ∈ zm_tb := List.mem_of_getElem? (i := 39) rfl
set_option maxRecDepth 20000 in
theorem kw_X0_23 : Cond.methodLink RX0 23 yX0_digitsAddUp ∈ zm_tb := List.mem_of_getElem? (i := 116) rfl
set_option maxRecDepth 20000 in
theorem kw_X0_27 : Cond.fieldLink RX0 27 (TX0 3).1 (TX0 3).2.1 (TX0 3).2.2.1 ∈ zm_tb := List.mem_of_getElem? (i := 36) rfl
set_option maxRecDepth 20000 in
theorem kw_X0_31 : Cond.fieldLink RX0 31 (TX0 2).1 (TX0 2).2.1 (TX0 2).2.2.1 ∈ zm_tb := List.mem_of_getElem? (i := 37) rfl
set_option maxRecDepth 20000 in
theorem kw_X0_34 : Cond.fieldLink RX0 34 (TX0 1).1 (TX0 1).2.1 (TX0 1).2.2.1 ∈ zm_tb := List.mem_of_getElem? (i := 38) rfl
set_option maxRecDepth 20000 in
theorem kw_X0_37 : Cond.methodLink RX0 37 yX0_addUsualGroups ∈ zm_tb := List.mem_of_getElem? (i := 42) rfl
set_option maxRecDepth 20000 in
theorem kw_X0_41 : Cond.methodLink RX0 41 yX0_addToldGroups ∈ zm_tb := List.mem_of_getElem? (i := 54) rfl
set_option maxRecDepth 20000 in
theorem kw_X0_45 : Cond.methodLink RX0 45 Lib.Math.max.name ∈ zm_tb := List.mem_of_getElem? (i := 46) rfl
set_option maxRecDepth 20000 in
theorem kw_X0_51 : Cond.methodLink RX0 51 yX0_addGroup ∈ zm_tb := List.mem_of_getElem? (i := 50) rfl
set_option maxRecDepth 20000 in
theorem kw_X0_54 : Cond.methodLink RX0 54 yX0_offsetAt ∈ zm_tb := List.mem_of_getElem? (i := 321) rfl
set_option maxRecDepth 20000 in
theorem kw_X1_3 : Cond.methodLink RX1 3 objectInit ∈ zm_tb := List.mem_of_getElem? (i := 64) rfl
set_option maxRecDepth 20000 in
theorem kw_X1_9 : Cond.classLink RX1 9 RX2 ∈ zm_tb := List.mem_of_getElem? (i := 65) rfl
set_option maxRecDepth 20000 in
theorem kw_X1_11 : Cond.fieldLink RX1 11 (TX1 0).1 (TX1 0).2.1 (TX1 0).2.2.1 ∈ zm_tb := List.mem_of_getElem? (i := 66) rfl
set_option maxRecDepth 20000 in
theorem kw_X1_17 : Cond.fieldLink RX1 17 (TX1 1).1 (TX1 1).2.1 (TX1 1).2.2.1 ∈ zm_tb := List.mem_of_getElem? (i := 165) rfl
set_option maxRecDepth 20000 in
theorem kw_X1_21 : Cond.fieldLink RX1 21 (TX1 6).1 (TX1 6).2.1 (TX1 6).2.2.1 ∈ zm_tb := List.mem_of_getElem? (i := 302) rfl
set_option maxRecDepth 20000 in
theorem kw_X1_24 : Cond.fieldLink RX1 24 (TX2 10).1 (TX2 10).2.1 (TX2 10).2.2.1 ∈ zm_tb := List.mem_of_getElem? (i := 166) rfl
set_option maxRecDepth 20000 in
theorem kw_X1_27 : Cond.fieldLink RX1 27 (TX2 11).1 (TX2 11).2.1 (TX2 11).2.2.1 ∈ zm_tb := List.mem_of_getElem? (i := 426) rfl
set_option maxRecDepth 20000 in
theorem kw_X1_30 : Cond.methodLink RX1 30 yX2_levels ∈ zm_tb := List.mem_of_getElem? (i := 542) rfl
set_option maxRecDepth 20000 in
theorem kw_X1_34 : Cond.methodLink RX1 34 Lib.Math.max.name ∈ zm_tb := List.mem_of_getElem? (i := 351) rfl
set_option maxRecDepth 20000 in
theorem kw_X1_40 : Cond.methodLink RX1 40 yX1_isOnBothStaves ∈ zm_tb := List.mem_of_getElem? (i := 336) rfl
set_option maxRecDepth 20000 in
theorem kw_X1_44 : Cond.methodLink RX1 44 yX2_wayAlone ∈ zm_tb := List.mem_of_getElem? (i := 340) rfl
set_option maxRecDepth 20000 in
theorem kw_X1_48 : Cond.methodLink RX1 48 yX1_wayByHeads ∈ zm_tb := List.mem_of_getElem? (i := 344) rfl
set_option maxRecDepth 20000 in
theorem kw_X1_51 : Cond.fieldLink RX1 51 (TX1 2).1 (TX1 2).2.1 (TX1 2).2.2.1 ∈ zm_tb := List.mem_of_getElem? (i := 334) rfl
set_option maxRecDepth 20000 in
theorem kw_X1_54 : Cond.fieldLink RX1 54 (TX2 8).1 (TX2 8).2.1 (TX2 8).2.2.1 ∈ zm_tb := List.mem_of_getElem? (i := 335) rfl
set_option maxRecDepth 20000 in
theorem kw_X1_57 : Cond.methodLink RX1 57 yX2_aim ∈ zm_tb := List.mem_of_getElem? (i := 352) rfl
set_option maxRecDepth 20000 in
theorem kw_X1_61 : Cond.fieldLink RX1 61 (TX2 6).1 (TX2 6).2.1 (TX2 6).2.2.1 ∈ zm_tb := List.mem_of_getElem? (i := 348) rfl
set_option maxRecDepth 20000 in
theorem kw_X1_64 : Cond.fieldLink RX1 64 (TX2 7).1 (TX2 7).2.1 (TX2 7).2.2.1 ∈ zm_tb := List.mem_of_getElem? (i := 349) rfl
set_option maxRecDepth 20000 in
theorem kw_X1_67 : Cond.methodLink RX1 67 Lib.Math.min.name ∈ zm_tb := List.mem_of_getElem? (i := 350) rfl
set_option maxRecDepth 20000 in
theorem kw_X1_70 : Cond.fieldLink RX1 70 (TX2 13).1 (TX2 13).2.1 (TX2 13).2.2.1 ∈ zm_tb := List.mem_of_getElem? (i := 376) rfl
set_option maxRecDepth 20000 in
theorem kw_X1_73 : Cond.methodLink RX1 73 yX1_has ∈ zm_tb := List.mem_of_getElem? (i := 379) rfl
set_option maxRecDepth 20000 in
theorem kw_X1_77 : Cond.methodLink RX1 77 yX1_isInnerFarther ∈ zm_tb := List.mem_of_getElem? (i := 383) rfl
set_option maxRecDepth 20000 in
theorem kw_X1_81 : Cond.fieldLink RX1 81 (TX1 7).1 (TX1 7).2.1 (TX1 7).2.2.1 ∈ zm_tb := List.mem_of_getElem? (i := 377) rfl
set_option maxRecDepth 20000 in
theorem kw_X1_85 : Cond.fieldLink RX1 85 (TX1 5).1 (TX1 5).2.1 (TX1 5).2.2.1 ∈ zm_tb := List.mem_of_getElem? (i := 378) rfl
set_option maxRecDepth 20000 in
theorem kw_X1_88 : Cond.methodLink RX1 88 yX1_levelHeight ∈ zm_tb := List.mem_of_getElem? (i := 393) rfl
set_option maxRecDepth 20000 in
theorem kw_X1_91 : Cond.constantLong RX1 91 (-1) ∈ zm_tb := List.mem_of_getElem? (i := 391) rfl
set_option maxRecDepth 20000 in
theorem kw_X1_93 : Cond.fieldLink RX1 93 (TX1 8).1 (TX1 8).2.1 (TX1 8).2.2.1 ∈ zm_tb := List.mem_of_getElem? (i := 392) rfl
set_option maxRecDepth 20000 in
theorem kw_X1_97 : Cond.methodLink RX1 97 yX1_slantBadness ∈ zm_tb := List.mem_of_getElem? (i := 398) rfl
set_option maxRecDepth 20000 in
theorem kw_X1_101 : Cond.methodLink RX1 101 yX1_tryHeights ∈ zm_tb := List.mem_of_getElem? (i := 403) rfl
set_option maxRecDepth 20000 in
theorem kw_X1_105 : Cond.methodLink RX1 105 yX1_badnessAt ∈ zm_tb := List.mem_of_getElem? (i := 409) rfl
set_option maxRecDepth 20000 in
theorem kw_X1_109 : Cond.fieldLink RX1 109 (TX1 3).1 (TX1 3).2.1 (TX1 3).2.2.1 ∈ zm_tb := List.mem_of_getElem? (i := 407) rfl
set_option maxRecDepth 20000 in
theorem kw_X1_112 : Cond.fieldLink RX1 112 (TX1 4).1 (TX1 4).2.1 (TX1 4).2.2.1 ∈ zm_tb := List.mem_of_getElem? (i := 408) rfl
set_option maxRecDepth 20000 in
theorem kw_X1_115 : Cond.fieldLink RX1 115 (TX2 15).1 (TX2 15).2.1 (TX2 15).2.2.1 ∈ zm_tb := List.mem_of_getElem? (i := 397) rfl
set_option maxRecDepth 20000 in
theorem kw_X1_118 : Cond.constantLong RX1 118 (8) ∈ zm_tb := List.mem_of_getElem? (i := 402) rfl
set_option maxRecDepth 20000 in
theorem kw_X1_120 : Cond.methodLink RX1 120 yX1_wedgeBadness ∈ zm_tb := List.mem_of_getElem? (i := 414) rfl
set_option maxRecDepth 20000 in
theorem kw_X1_127 : Cond.methodLink RX1 127 yX2_lengthTo ∈ zm_tb := List.mem_of_getElem? (i := 421) rfl
set_option maxRecDepth 20000 in
theorem kw_X1_130 : Cond.fieldLink RX1 130 (TX2 14).1 (TX2 14).2.1 (TX2 14).2.2.1 ∈ zm_tb := List.mem_of_getElem? (i := 413) rfl
set_option maxRecDepth 20000 in
theorem kw_X1_133 : Cond.methodLink RX1 133 yX2_middle ∈ zm_tb := List.mem_of_getElem? (i := 418) rfl
set_option maxRecDepth 20000 in
theorem kw_X1_136 : Cond.methodLink RX1 136 yX1_heightAt ∈ zm_tb := List.mem_of_getElem? (i := 654) rfl
set_option maxRecDepth 20000 in
theorem kw_X1_139 : Cond.methodLink RX1 139 yX1_greatestLevel ∈ zm_tb := List.mem_of_getElem? (i := 675) rfl
set_option maxRecDepth 20000 in
theorem kw_X1_142 : Cond.methodLink RX1 142 yX1_laneAt ∈ zm_tb := List.mem_of_getElem? (i := 676) rfl
set_option maxRecDepth 20000 in
theorem kw_X1_145 : Cond.methodLink RX1 145 yJ9_floorMod_7cf53 ∈ zm_tb := List.mem_of_getElem? (i := 677) rfl
set_option maxRecDepth 20000 in
theorem kw_X1_148 : Cond.methodLink RX1 148 yX1_hangsBack ∈ zm_tb := List.mem_of_getElem? (i := 625) rfl
set_option maxRecDepth 20000 in
theorem kw_X1_151 : Cond.methodLink RX1 151 yX2_isBroken ∈ zm_tb := List.mem_of_getElem? (i := 629) rfl
set_option maxRecDepth 20000 in
theorem kw_X2_3 : Cond.methodLink RX2 3 objectInit ∈ zm_tb := List.mem_of_getElem? (i := 60) rfl
set_option maxRecDepth 20000 in
theorem kw_X2_9 : Cond.fieldLink RX2 9 (TX2 0).1 (TX2 0).2.1 (TX2 0).2.2.1 ∈ zm_tb := List.mem_of_getElem? (i := 171) rfl
set_option maxRecDepth 20000 in
theorem kw_X2_15 : Cond.fieldLink RX2 15 (TX2 1).1 (TX2 1).2.1 (TX2 1).2.2.1 ∈ zm_tb := List.mem_of_getElem? (i := 172) rfl
set_option maxRecDepth 20000 in
theorem kw_X2_18 : Cond.fieldLink RX2 18 (TX2 2).1 (TX2 2).2.1 (TX2 2).2.2.1 ∈ zm_tb := List.mem_of_getElem? (i := 173) rfl
set_option maxRecDepth 20000 in
theorem kw_X2_21 : Cond.fieldLink RX2 21 (TX2 5).1 (TX2 5).2.1 (TX2 5).2.2.1 ∈ zm_tb := List.mem_of_getElem? (i := 174) rfl
set_option maxRecDepth 20000 in
theorem kw_X2_24 : Cond.fieldLink RX2 24 (TX2 16).1 (TX2 16).2.1 (TX2 16).2.2.1 ∈ zm_tb := List.mem_of_getElem? (i := 175) rfl
set_option maxRecDepth 20000 in
theorem kw_X2_27 : Cond.fieldLink RX2 27 (TX2 8).1 (TX2 8).2.1 (TX2 8).2.2.1 ∈ zm_tb := List.mem_of_getElem? (i := 176) rfl
set_option maxRecDepth 20000 in
theorem kw_X2_30 : Cond.fieldLink RX2 30 (TX2 9).1 (TX2 9).2.1 (TX2 9).2.2.1 ∈ zm_tb := List.mem_of_getElem? (i := 177) rfl
set_option maxRecDepth 20000 in
theorem kw_X2_33 : Cond.fieldLink RX2 33 (TX2 17).1 (TX2 17).2.1 (TX2 17).2.2.1 ∈ zm_tb := List.mem_of_getElem? (i := 178) rfl
set_option maxRecDepth 20000 in
theorem kw_X2_36 : Cond.fieldLink RX2 36 (TX2 10).1 (TX2 10).2.1 (TX2 10).2.2.1 ∈ zm_tb := List.mem_of_getElem? (i := 179) rfl
set_option maxRecDepth 20000 in
theorem kw_X2_39 : Cond.fieldLink RX2 39 (TX2 11).1 (TX2 11).2.1 (TX2 11).2.2.1 ∈ zm_tb := List.mem_of_getElem? (i := 180) rfl
set_option maxRecDepth 20000 in
theorem kw_X2_42 : Cond.methodLink RX2 42 Lib.Math.max.name ∈ zm_tb := List.mem_of_getElem? (i := 194) rfl
set_option maxRecDepth 20000 in
theorem kw_X2_48 : Cond.fieldLink RX2 48 (TX2 6).1 (TX2 6).2.1 (TX2 6).2.2.1 ∈ zm_tb := List.mem_of_getElem? (i := 189) rfl
set_option maxRecDepth 20000 in
theorem kw_X2_51 : Cond.methodLink RX2 51 Lib.Math.min.name ∈ zm_tb := List.mem_of_getElem? (i := 190) rfl
set_option maxRecDepth 20000 in
theorem kw_X2_54 : Cond.fieldLink RX2 54 (TX2 7).1 (TX2 7).2.1 (TX2 7).2.2.1 ∈ zm_tb := List.mem_of_getElem? (i := 193) rfl
set_option maxRecDepth 20000 in
theorem kw_X2_57 : Cond.methodLink RX2 57 yX2_levels ∈ zm_tb := List.mem_of_getElem? (i := 360) rfl
set_option maxRecDepth 20000 in
theorem kw_X2_61 : Cond.fieldLink RX2 61 (TX2 12).1 (TX2 12).2.1 (TX2 12).2.2.1 ∈ zm_tb := List.mem_of_getElem? (i := 356) rfl
set_option maxRecDepth 20000 in
theorem kw_X2_64 : Cond.methodLink RX2 64 yX2_middle ∈ zm_tb := List.mem_of_getElem? (i := 364) rfl
set_option maxRecDepth 20000 in
theorem kw_X2_67 : Cond.fieldLink RX2 67 (TX2 13).1 (TX2 13).2.1 (TX2 13).2.2.1 ∈ zm_tb := List.mem_of_getElem? (i := 357) rfl
set_option maxRecDepth 20000 in
theorem kw_X2_70 : Cond.fieldLink RX2 70 (TX2 14).1 (TX2 14).2.1 (TX2 14).2.2.1 ∈ zm_tb := List.mem_of_getElem? (i := 358) rfl
set_option maxRecDepth 20000 in
theorem kw_X2_73 : Cond.fieldLink RX2 73 (TX2 15).1 (TX2 15).2.1 (TX2 15).2.2.1 ∈ zm_tb := List.mem_of_getElem? (i := 359) rfl
set_option maxRecDepth 20000 in
theorem kw_X2_76 : Cond.methodLink RX2 76 yX2_lengthTo ∈ zm_tb := List.mem_of_getElem? (i := 368) rfl
set_option maxRecDepth 20000 in
theorem kw_X3_3 : Cond.methodLink RX3 3 objectInit ∈ zm_tb := List.mem_of_getElem? (i := 10) rfl
set_option maxRecDepth 20000 in
theorem kw_X3_9 : Cond.classLink RX3 9 RX0 ∈ zm_tb := List.mem_of_getElem? (i := 13) rfl
set_option maxRecDepth 20000 in
theorem kw_X3_11 : Cond.methodLink RX3 11 yX0_init ∈ zm_tb := List.mem_of_getElem? (i := 27) rfl
set_option maxRecDepth 20000 in
theorem kw_X3_12 : Cond.fieldLink RX3 12 (TX3 0).1 (TX3 0).2.1 (TX3 0).2.2.1 ∈ zm_tb := List.mem_of_getElem? (i := 16) rfl
set_option maxRecDepth 20000 in
theorem kw_X3_16 : Cond.classLink RX3 16 RX2 ∈ zm_tb := List.mem_of_getElem? (i := 17) rfl
set_option maxRecDepth 20000 in
theorem kw_X3_18 : Cond.fieldLink RX3 18 (TX3 1).1 (TX3 1).2.1 (TX3 1).2.2.1 ∈ zm_tb := List.mem_of_getElem? (i := 18) rfl
set_option maxRecDepth 20000 in
theorem kw_X3_22 : Cond.classLink RX3 22 RX1 ∈ zm_tb := List.mem_of_getElem? (i := 19) rfl
set_option maxRecDepth 20000 in
theorem kw_X3_24 : Cond.fieldLink RX3 24 (TX3 2).1 (TX3 2).2.1 (TX3 2).2.2.1 ∈ zm_tb := List.mem_of_getElem? (i := 20) rfl
set_option maxRecDepth 20000 in
theorem kw_X3_28 : Cond.fieldLink RX3 28 (TX3 3).1 (TX3 3).2.1 (TX3 3).2.2.1 ∈ zm_tb := List.mem_of_getElem? (i := 22) rfl
set_option maxRecDepth 20000 in
theorem kw_X3_33 : Cond.methodLink RX3 33 yX1_init ∈ zm_tb := List.mem_of_getElem? (i := 61) rfl
set_option maxRecDepth 20000 in
theorem kw_X3_36 : Cond.methodLink RX3 36 yX0_isMeter ∈ zm_tb := List.mem_of_getElem? (i := 113) rfl
set_option maxRecDepth 20000 in
theorem kw_X3_40 : Cond.fieldLink RX3 40 (TX3 4).1 (TX3 4).2.1 (TX3 4).2.2.1 ∈ zm_tb := List.mem_of_getElem? (i := 111) rfl
set_option maxRecDepth 20000 in
theorem kw_X3_44 : Cond.methodLink RX3 44 yX0_set ∈ zm_tb := List.mem_of_getElem? (i := 119) rfl
set_option maxRecDepth 20000 in
theorem kw_X3_48 : Cond.fieldLink RX3 48 (TX0 1).1 (TX0 1).2.1 (TX0 1).2.2.1 ∈ zm_tb := List.mem_of_getElem? (i := 112) rfl
set_option maxRecDepth 20000 in
theorem kw_X3_51 : Cond.methodLink RX3 51 yX3_isPlace ∈ zm_tb := List.mem_of_getElem? (i := 136) rfl
set_option maxRecDepth 20000 in
theorem kw_X3_55 : Cond.methodLink RX3 55 yX3_isTiming ∈ zm_tb := List.mem_of_getElem? (i := 139) rfl
set_option maxRecDepth 20000 in
theorem kw_X3_58 : Cond.methodLink RX3 58 yX3_append ∈ zm_tb := List.mem_of_getElem? (i := 142) rfl
set_option maxRecDepth 20000 in
theorem kw_X3_62 : Cond.methodLink RX3 62 yX3_eventAt ∈ zm_tb := List.mem_of_getElem? (i := 181) rfl
set_option maxRecDepth 20000 in
theorem kw_X3_66 : Cond.methodLink RX3 66 yX2_addHead ∈ zm_tb := List.mem_of_getElem? (i := 185) rfl
set_option maxRecDepth 20000 in
theorem kw_X3_70 : Cond.methodLink RX3 70 yX3_refusalOf ∈ zm_tb := List.mem_of_getElem? (i := 220) rfl
set_option maxRecDepth 20000 in
theorem kw_X3_74 : Cond.methodLink RX3 74 yX2_hasHead ∈ zm_tb := List.mem_of_getElem? (i := 227) rfl
set_option maxRecDepth 20000 in
theorem kw_X3_77 : Cond.fieldLink RX3 77 (TX2 5).1 (TX2 5).2.1 (TX2 5).2.2.1 ∈ zm_tb := List.mem_of_getElem? (i := 219) rfl
set_option maxRecDepth 20000 in
theorem kw_X3_80 : Cond.methodLink RX3 80 yX3_takeBeamsAway ∈ zm_tb := List.mem_of_getElem? (i := 156) rfl
set_option maxRecDepth 20000 in
theorem kw_X3_83 : Cond.fieldLink RX3 83 (TX2 8).1 (TX2 8).2.1 (TX2 8).2.2.1 ∈ zm_tb := List.mem_of_getElem? (i := 243) rfl
set_option maxRecDepth 20000 in
theorem kw_X3_86 : Cond.fieldLink RX3 86 (TX2 9).1 (TX2 9).2.1 (TX2 9).2.2.1 ∈ zm_tb := List.mem_of_getElem? (i := 252) rfl
set_option maxRecDepth 20000 in
theorem kw_X3_89 : Cond.methodLink RX3 89 yX2_isBroken ∈ zm_tb := List.mem_of_getElem? (i := 261) rfl
set_option maxRecDepth 20000 in
theorem kw_X3_92 : Cond.methodLink RX3 92 yX2_setBroken ∈ zm_tb := List.mem_of_getElem? (i := 265) rfl
set_option maxRecDepth 20000 in
theorem kw_X3_96 : Cond.fieldLink RX3 96 (TX3 7).1 (TX3 7).2.1 (TX3 7).2.2.1 ∈ zm_tb := List.mem_of_getElem? (i := 278) rfl
set_option maxRecDepth 20000 in
theorem kw_X3_100 : Cond.fieldLink RX3 100 (TX3 6).1 (TX3 6).2.1 (TX3 6).2.2.1 ∈ zm_tb := List.mem_of_getElem? (i := 287) rfl
set_option maxRecDepth 20000 in
theorem kw_X3_103 : Cond.methodLink RX3 103 yX3_groupVoice ∈ zm_tb := List.mem_of_getElem? (i := 288) rfl
set_option maxRecDepth 20000 in
theorem kw_X3_106 : Cond.fieldLink RX3 106 (TX3 5).1 (TX3 5).2.1 (TX3 5).2.2.1 ∈ zm_tb := List.mem_of_getElem? (i := 160) rfl
set_option maxRecDepth 20000 in
theorem kw_X3_109 : Cond.methodLink RX3 109 yX3_beamAt ∈ zm_tb := List.mem_of_getElem? (i := 534) rfl
set_option maxRecDepth 20000 in
theorem kw_X3_113 : Cond.fieldLink RX3 113 (TX1 1).1 (TX1 1).2.1 (TX1 1).2.2.1 ∈ zm_tb := List.mem_of_getElem? (i := 311) rfl
set_option maxRecDepth 20000 in
theorem kw_X3_116 : Cond.methodLink RX3 116 yX1_greatestLevel ∈ zm_tb := List.mem_of_getElem? (i := 538) rfl
set_option maxRecDepth 20000 in
theorem kw_X3_120 : Cond.fieldLink RX3 120 (TX1 2).1 (TX1 2).2.1 (TX1 2).2.2.1 ∈ zm_tb := List.mem_of_getElem? (i := 528) rfl
set_option maxRecDepth 20000 in
theorem kw_X3_123 : Cond.fieldLink RX3 123 (TX1 3).1 (TX1 3).2.1 (TX1 3).2.2.1 ∈ zm_tb := List.mem_of_getElem? (i := 529) rfl
set_option maxRecDepth 20000 in
theorem kw_X3_126 : Cond.fieldLink RX3 126 (TX1 4).1 (TX1 4).2.1 (TX1 4).2.2.1 ∈ zm_tb := List.mem_of_getElem? (i := 530) rfl
set_option maxRecDepth 20000 in
theorem kw_X3_129 : Cond.fieldLink RX3 129 (TX1 5).1 (TX1 5).2.1 (TX1 5).2.2.1 ∈ zm_tb := List.mem_of_getElem? (i := 531) rfl
set_option maxRecDepth 20000 in
theorem kw_X3_132 : Cond.fieldLink RX3 132 (TX1 7).1 (TX1 7).2.1 (TX1 7).2.2.1 ∈ zm_tb := List.mem_of_getElem? (i := 532) rfl
set_option maxRecDepth 20000 in
theorem kw_X3_135 : Cond.fieldLink RX3 135 (TX1 6).1 (TX1 6).2.1 (TX1 6).2.2.1 ∈ zm_tb := List.mem_of_getElem? (i := 533) rfl
set_option maxRecDepth 20000 in
theorem kw_X3_138 : Cond.methodLink RX3 138 yX1_has ∈ zm_tb := List.mem_of_getElem? (i := 560) rfl
set_option maxRecDepth 20000 in
theorem kw_X3_141 : Cond.fieldLink RX3 141 (TX1 0).1 (TX1 0).2.1 (TX1 0).2.2.1 ∈ zm_tb := List.mem_of_getElem? (i := 312) rfl
set_option maxRecDepth 20000 in
theorem kw_X3_144 : Cond.fieldLink RX3 144 (TX2 0).1 (TX2 0).2.1 (TX2 0).2.2.1 ∈ zm_tb := List.mem_of_getElem? (i := 559) rfl
set_option maxRecDepth 20000 in
theorem kw_X3_147 : Cond.constantLong RX3 147 (-1) ∈ zm_tb := List.mem_of_getElem? (i := 569) rfl
set_option maxRecDepth 20000 in
theorem kw_X3_149 : Cond.fieldLink RX3 149 (TX1 8).1 (TX1 8).2.1 (TX1 8).2.2.1 ∈ zm_tb := List.mem_of_getElem? (i := 570) rfl
set_option maxRecDepth 20000 in
theorem kw_X3_153 : Cond.methodLink RX3 153 yX1_badnessAt ∈ zm_tb := List.mem_of_getElem? (i := 579) rfl
set_option maxRecDepth 20000 in
theorem kw_X3_157 : Cond.fieldLink RX3 157 (TX2 10).1 (TX2 10).2.1 (TX2 10).2.2.1 ∈ zm_tb := List.mem_of_getElem? (i := 591) rfl
set_option maxRecDepth 20000 in
theorem kw_X3_160 : Cond.fieldLink RX3 160 (TX2 2).1 (TX2 2).2.1 (TX2 2).2.2.1 ∈ zm_tb := List.mem_of_getElem? (i := 592) rfl
set_option maxRecDepth 20000 in
theorem kw_X3_163 : Cond.methodLink RX3 163 yX3_isTwoVoiced ∈ zm_tb := List.mem_of_getElem? (i := 326) rfl
set_option maxRecDepth 20000 in
theorem kw_X3_167 : Cond.methodLink RX3 167 yX2_wayAlone ∈ zm_tb := List.mem_of_getElem? (i := 597) rfl
set_option maxRecDepth 20000 in
theorem kw_X3_171 : Cond.methodLink RX3 171 yX2_aim ∈ zm_tb := List.mem_of_getElem? (i := 598) rfl
set_option maxRecDepth 20000 in
theorem kw_X3_174 : Cond.fieldLink RX3 174 (TX2 13).1 (TX2 13).2.1 (TX2 13).2.2.1 ∈ zm_tb := List.mem_of_getElem? (i := 593) rfl
set_option maxRecDepth 20000 in
theorem kw_X3_177 : Cond.fieldLink RX3 177 (TX2 12).1 (TX2 12).2.1 (TX2 12).2.2.1 ∈ zm_tb := List.mem_of_getElem? (i := 594) rfl
set_option maxRecDepth 20000 in
theorem kw_X3_178 : Cond.fieldLink RX3 178 (TX2 14).1 (TX2 14).2.1 (TX2 14).2.2.1 ∈ zm_tb := List.mem_of_getElem? (i := 595) rfl
set_option maxRecDepth 20000 in
theorem kw_X3_181 : Cond.fieldLink RX3 181 (TX2 11).1 (TX2 11).2.1 (TX2 11).2.2.1 ∈ zm_tb := List.mem_of_getElem? (i := 596) rfl
set_option maxRecDepth 20000 in
theorem kw_X3_184 : Cond.methodLink RX3 184 yX1_heightAt ∈ zm_tb := List.mem_of_getElem? (i := 599) rfl
set_option maxRecDepth 20000 in
theorem kw_X3_188 : Cond.methodLink RX3 188 yX2_lengthTo ∈ zm_tb := List.mem_of_getElem? (i := 603) rfl
set_option maxRecDepth 20000 in
theorem kw_X3_191 : Cond.methodLink RX3 191 yX2_levels ∈ zm_tb := List.mem_of_getElem? (i := 604) rfl
set_option maxRecDepth 20000 in
theorem kw_X3_194 : Cond.methodLink RX3 194 yX1_sidesAt ∈ zm_tb := List.mem_of_getElem? (i := 621) rfl
set_option maxRecDepth 20000 in
theorem kw_X3_198 : Cond.methodLink RX3 198 yX3_stubOf ∈ zm_tb := List.mem_of_getElem? (i := 630) rfl
set_option maxRecDepth 20000 in
theorem kw_X3_202 : Cond.methodLink RX3 202 yX1_laneAt ∈ zm_tb := List.mem_of_getElem? (i := 650) rfl
set_option maxRecDepth 20000 in
theorem kw_X3_205 : Cond.methodLink RX3 205 yX2_isRest ∈ zm_tb := List.mem_of_getElem? (i := 223) rfl
set_option maxRecDepth 20000 in
theorem kw_X3_208 : Cond.fieldLink RX3 208 (TX2 1).1 (TX2 1).2.1 (TX2 1).2.2.1 ∈ zm_tb := List.mem_of_getElem? (i := 292) rfl
set_option maxRecDepth 20000 in
theorem kw_X3_211 : Cond.methodLink RX3 211 yX3_noteBeside ∈ zm_tb := List.mem_of_getElem? (i := 667) rfl
set_option maxRecDepth 20000 in
theorem kw_X3_215 : Cond.methodLink RX3 215 yX1_clearOf ∈ zm_tb := List.mem_of_getElem? (i := 671) rfl
set_option maxRecDepth 20000 in
theorem kw_X3_218 : Cond.classLink RX3 218 "java/lang/ArithmeticException" ∈ zm_tb := List.mem_of_getElem? (i := 694) rfl
set_option maxRecDepth 20000 in
theorem kw_X3_225 : Cond.methodLink RX3 225 yX1_countWith ∈ zm_tb := List.mem_of_getElem? (i := 696) rfl
set_option maxRecDepth 20000 in
theorem kw_X3_230 : Cond.methodLink RX3 230 yX1_lengthsWith ∈ zm_tb := List.mem_of_getElem? (i := 700) rfl
set_option maxRecDepth 20000 in
theorem kw_X3_234 : Cond.fieldLink RX3 234 (TX2 3).1 (TX2 3).2.1 (TX2 3).2.2.1 ∈ zm_tb := List.mem_of_getElem? (i := 147) rfl
set_option maxRecDepth 20000 in
theorem kw_X3_237 : Cond.fieldLink RX3 237 (TX2 4).1 (TX2 4).2.1 (TX2 4).2.2.1 ∈ zm_tb := List.mem_of_getElem? (i := 148) rfl
set_option maxRecDepth 20000 in
theorem kw_X3_240 : Cond.methodLink RX3 240 yX0_barAt ∈ zm_tb := List.mem_of_getElem? (i := 313) rfl
set_option maxRecDepth 20000 in
theorem kw_X3_243 : Cond.methodLink RX3 243 yX0_groupAt ∈ zm_tb := List.mem_of_getElem? (i := 317) rfl
set_option maxRecDepth 20000 in
theorem kw_X3_246 : Cond.fieldLink RX3 246 (TX0 2).1 (TX0 2).2.1 (TX0 2).2.2.1 ∈ zm_tb := List.mem_of_getElem? (i := 146) rfl
set_option maxRecDepth 20000 in
theorem kw_X3_247 : Cond.methodLink RX3 247 yX2_ticksOf ∈ zm_tb := List.mem_of_getElem? (i := 149) rfl
set_option maxRecDepth 20000 in
theorem kw_X3_250 : Cond.methodLink RX3 250 yX0_offsetAt ∈ zm_tb := List.mem_of_getElem? (i := 152) rfl
set_option maxRecDepth 20000 in
theorem kw_X3_253 : Cond.methodLink RX3 253 yX2_reset ∈ zm_tb := List.mem_of_getElem? (i := 167) rfl
set_option maxRecDepth 20000 in
theorem kw_X3_256 : Cond.methodLink RX3 256 yX1_release ∈ zm_tb := List.mem_of_getElem? (i := 161) rfl
set_option maxRecDepth 20000 in
theorem kw_X3_259 : Cond.methodLink RX3 259 yX3_freshRow ∈ zm_tb := List.mem_of_getElem? (i := 293) rfl
set_option maxRecDepth 20000 in
theorem kw_X3_263 : Cond.methodLink RX3 263 yX2_isShort ∈ zm_tb := List.mem_of_getElem? (i := 303) rfl
set_option maxRecDepth 20000 in
theorem kw_X3_266 : Cond.methodLink RX3 266 yX3_goesOn ∈ zm_tb := List.mem_of_getElem? (i := 307) rfl
set_option maxRecDepth 20000 in
theorem kw_X3_270 : Cond.methodLink RX3 270 yX3_finish ∈ zm_tb := List.mem_of_getElem? (i := 322) rfl
set_option maxRecDepth 20000 in
theorem kw_X3_274 : Cond.methodLink RX3 274 yX1_add ∈ zm_tb := List.mem_of_getElem? (i := 427) rfl
set_option maxRecDepth 20000 in
theorem kw_X3_277 : Cond.methodLink RX3 277 Lib.Math.min.name ∈ zm_tb := List.mem_of_getElem? (i := 297) rfl
set_option maxRecDepth 20000 in
theorem kw_X3_282 : Cond.methodLink RX3 282 yX1_empty ∈ zm_tb := List.mem_of_getElem? (i := 298) rfl
set_option maxRecDepth 20000 in
theorem kw_X3_285 : Cond.methodLink RX3 285 yX1_aimStems ∈ zm_tb := List.mem_of_getElem? (i := 330) rfl
set_option maxRecDepth 20000 in
theorem kw_X3_289 : Cond.methodLink RX3 289 yX1_judgeSlope ∈ zm_tb := List.mem_of_getElem? (i := 372) rfl
set_option maxRecDepth 20000 in
theorem kw_X3_292 : Cond.methodLink RX3 292 yX1_findPlace ∈ zm_tb := List.mem_of_getElem? (i := 387) rfl
set_option maxRecDepth 20000 in
theorem kw_X3_295 : Cond.methodLink RX3 295 yX1_hold ∈ zm_tb := List.mem_of_getElem? (i := 422) rfl
set_option maxRecDepth 20000 in
theorem kw_X4_1 : Cond.methodLink RX4 1 objectInit ∈ zm_tb := List.mem_of_getElem? (i := 70) rfl
set_option maxRecDepth 20000 in
theorem kw_X4_7 : Cond.fieldLink RX4 7 (TX4 4).1 (TX4 4).2.1 (TX4 4).2.2.1 ∈ zm_tb := List.mem_of_getElem? (i := 71) rfl
set_option maxRecDepth 20000 in
theorem kw_X4_13 : Cond.fieldLink RX4 13 (TX4 6).1 (TX4 6).2.1 (TX4 6).2.2.1 ∈ zm_tb := List.mem_of_getElem? (i := 72) rfl
set_option maxRecDepth 20000 in
theorem kw_X4_16 : Cond.fieldLink RX4 16 (TX4 7).1 (TX4 7).2.1 (TX4 7).2.2.1 ∈ zm_tb := List.mem_of_getElem? (i := 73) rfl
set_option maxRecDepth 20000 in
theorem kw_X4_19 : Cond.fieldLink RX4 19 (TX4 8).1 (TX4 8).2.1 (TX4 8).2.2.1 ∈ zm_tb := List.mem_of_getElem? (i := 74) rfl
set_option maxRecDepth 20000 in
theorem kw_X4_22 : Cond.fieldLink RX4 22 (TX4 9).1 (TX4 9).2.1 (TX4 9).2.2.1 ∈ zm_tb := List.mem_of_getElem? (i := 75) rfl
set_option maxRecDepth 20000 in
theorem kw_X4_25 : Cond.fieldLink RX4 25 (TX4 10).1 (TX4 10).2.1 (TX4 10).2.2.1 ∈ zm_tb := List.mem_of_getElem? (i := 76) rfl
set_option maxRecDepth 20000 in
theorem kw_X4_28 : Cond.fieldLink RX4 28 (TX4 11).1 (TX4 11).2.1 (TX4 11).2.2.1 ∈ zm_tb := List.mem_of_getElem? (i := 77) rfl
set_option maxRecDepth 20000 in
theorem kw_X4_31 : Cond.fieldLink RX4 31 (TX4 12).1 (TX4 12).2.1 (TX4 12).2.2.1 ∈ zm_tb := List.mem_of_getElem? (i := 78) rfl
set_option maxRecDepth 20000 in
theorem kw_X4_34 : Cond.fieldLink RX4 34 (TX4 13).1 (TX4 13).2.1 (TX4 13).2.2.1 ∈ zm_tb := List.mem_of_getElem? (i := 79) rfl
set_option maxRecDepth 20000 in
theorem kw_X4_37 : Cond.fieldLink RX4 37 (TX4 14).1 (TX4 14).2.1 (TX4 14).2.2.1 ∈ zm_tb := List.mem_of_getElem? (i := 80) rfl
set_option maxRecDepth 20000 in
theorem kw_X4_40 : Cond.fieldLink RX4 40 (TX4 15).1 (TX4 15).2.1 (TX4 15).2.2.1 ∈ zm_tb := List.mem_of_getElem? (i := 81) rfl
set_option maxRecDepth 20000 in
theorem kw_X4_43 : Cond.fieldLink RX4 43 (TX4 16).1 (TX4 16).2.1 (TX4 16).2.2.1 ∈ zm_tb := List.mem_of_getElem? (i := 82) rfl
set_option maxRecDepth 20000 in
theorem kw_X4_46 : Cond.fieldLink RX4 46 (TX4 20).1 (TX4 20).2.1 (TX4 20).2.2.1 ∈ zm_tb := List.mem_of_getElem? (i := 83) rfl
set_option maxRecDepth 20000 in
theorem kw_X4_49 : Cond.fieldLink RX4 49 (TX4 21).1 (TX4 21).2.1 (TX4 21).2.2.1 ∈ zm_tb := List.mem_of_getElem? (i := 84) rfl
set_option maxRecDepth 20000 in
theorem kw_X4_52 : Cond.fieldLink RX4 52 (TX4 22).1 (TX4 22).2.1 (TX4 22).2.2.1 ∈ zm_tb := List.mem_of_getElem? (i := 85) rfl
set_option maxRecDepth 20000 in
theorem kw_X4_55 : Cond.fieldLink RX4 55 (TX4 23).1 (TX4 23).2.1 (TX4 23).2.2.1 ∈ zm_tb := List.mem_of_getElem? (i := 86) rfl
set_option maxRecDepth 20000 in
theorem kw_X4_58 : Cond.fieldLink RX4 58 (TX4 24).1 (TX4 24).2.1 (TX4 24).2.2.1 ∈ zm_tb := List.mem_of_getElem? (i := 87) rfl
set_option maxRecDepth 20000 in
theorem kw_X4_61 : Cond.fieldLink RX4 61 (TX4 25).1 (TX4 25).2.1 (TX4 25).2.2.1 ∈ zm_tb := List.mem_of_getElem? (i := 88) rfl
set_option maxRecDepth 20000 in
theorem kw_X4_64 : Cond.fieldLink RX4 64 (TX4 26).1 (TX4 26).2.1 (TX4 26).2.2.1 ∈ zm_tb := List.mem_of_getElem? (i := 89) rfl
set_option maxRecDepth 20000 in
theorem kw_X4_67 : Cond.fieldLink RX4 67 (TX4 27).1 (TX4 27).2.1 (TX4 27).2.2.1 ∈ zm_tb := List.mem_of_getElem? (i := 90) rfl
set_option maxRecDepth 20000 in
theorem kw_X4_70 : Cond.fieldLink RX4 70 (TX4 28).1 (TX4 28).2.1 (TX4 28).2.2.1 ∈ zm_tb := List.mem_of_getElem? (i := 91) rfl
set_option maxRecDepth 20000 in
theorem kw_X4_74 : Cond.methodLink RX4 74 yX4_begin ∈ zm_tb := List.mem_of_getElem? (i := 92) rfl
set_option maxRecDepth 20000 in
theorem kw_X4_77 : Cond.fieldLink RX4 77 (TX4 0).1 (TX4 0).2.1 (TX4 0).2.2.1 ∈ zm_tb := List.mem_of_getElem? (i := 124) rfl
set_option maxRecDepth 20000 in
theorem kw_X4_81 : Cond.fieldLink RX4 81 (TX4 5).1 (TX4 5).2.1 (TX4 5).2.2.1 ∈ zm_tb := List.mem_of_getElem? (i := 96) rfl
set_option maxRecDepth 20000 in
theorem kw_X4_84 : Cond.fieldLink RX4 84 (TX4 17).1 (TX4 17).2.1 (TX4 17).2.2.1 ∈ zm_tb := List.mem_of_getElem? (i := 97) rfl
set_option maxRecDepth 20000 in
theorem kw_X4_88 : Cond.fieldLink RX4 88 (TX4 18).1 (TX4 18).2.1 (TX4 18).2.2.1 ∈ zm_tb := List.mem_of_getElem? (i := 98) rfl
set_option maxRecDepth 20000 in
theorem kw_X4_91 : Cond.fieldLink RX4 91 (TX4 19).1 (TX4 19).2.1 (TX4 19).2.2.1 ∈ zm_tb := List.mem_of_getElem? (i := 99) rfl
set_option maxRecDepth 20000 in
theorem kw_X4_94 : Cond.methodLink RX4 94 yX4_measure ∈ zm_tb := List.mem_of_getElem? (i := 100) rfl
set_option maxRecDepth 20000 in
theorem kw_X4_98 : Cond.fieldLink RX4 98 (TX4 1).1 (TX4 1).2.1 (TX4 1).2.2.1 ∈ zm_tb := List.mem_of_getElem? (i := 104) rfl
set_option maxRecDepth 20000 in
theorem kw_X4_101 : Cond.fieldLink RX4 101 (TX4 2).1 (TX4 2).2.1 (TX4 2).2.2.1 ∈ zm_tb := List.mem_of_getElem? (i := 105) rfl
set_option maxRecDepth 20000 in
theorem kw_X4_104 : Cond.fieldLink RX4 104 (TX4 3).1 (TX4 3).2.1 (TX4 3).2.2.1 ∈ zm_tb := List.mem_of_getElem? (i := 106) rfl
set_option maxRecDepth 20000 in
theorem kw_X4_107 : Cond.constantLong RX4 107 (16) ∈ zm_tb := List.mem_of_getElem? (i := 125) rfl
set_option maxRecDepth 20000 in
theorem kw_X4_109 : Cond.methodLink RX4 109 yX4_in ∈ zm_tb := List.mem_of_getElem? (i := 126) rfl
set_option maxRecDepth 20000 in
theorem kw_X4_113 : Cond.methodLink RX4 113 yX4_isSo ∈ zm_tb := List.mem_of_getElem? (i := 129) rfl
set_option maxRecDepth 20000 in
theorem kw_X4_117 : Cond.constantLong RX4 117 (6) ∈ zm_tb := List.mem_of_getElem? (i := 203) rfl
set_option maxRecDepth 20000 in
theorem kw_X4_119 : Cond.constantLong RX4 119 (2) ∈ zm_tb := List.mem_of_getElem? (i := 204) rfl
set_option maxRecDepth 20000 in
theorem kw_X4_121 : Cond.constantLong RX4 121 (-12) ∈ zm_tb := List.mem_of_getElem? (i := 205) rfl
set_option maxRecDepth 20000 in
theorem kw_X4_123 : Cond.constantLong RX4 123 (12) ∈ zm_tb := List.mem_of_getElem? (i := 206) rfl
set_option maxRecDepth 20000 in
theorem kw_X4_125 : Cond.methodLink RX4 125 yX4_comes ∈ zm_tb := List.mem_of_getElem? (i := 199) rfl
set_option maxRecDepth 20000 in
theorem kw_X4_129 : Cond.methodLink RX4 129 yX4_isEvent ∈ zm_tb := List.mem_of_getElem? (i := 235) rfl
set_option maxRecDepth 20000 in
theorem kw_X4_133 : Cond.constantLong RX4 133 (4) ∈ zm_tb := List.mem_of_getElem? (i := 273) rfl
set_option maxRecDepth 20000 in
theorem kw_X4_135 : Cond.methodLink RX4 135 yX4_middle ∈ zm_tb := List.mem_of_getElem? (i := 482) rfl
set_option maxRecDepth 20000 in
theorem kw_X4_139 : Cond.methodLink RX4 139 yX4_highest ∈ zm_tb := List.mem_of_getElem? (i := 454) rfl
set_option maxRecDepth 20000 in
theorem kw_X4_142 : Cond.methodLink RX4 142 yX4_lowest ∈ zm_tb := List.mem_of_getElem? (i := 458) rfl
set_option maxRecDepth 20000 in
theorem kw_X4_145 : Cond.methodLink RX4 145 yX4_levels ∈ zm_tb := List.mem_of_getElem? (i := 494) rfl
set_option maxRecDepth 20000 in
theorem kw_X4_148 : Cond.methodLink RX4 148 yX4_more ∈ zm_tb := List.mem_of_getElem? (i := 490) rfl
set_option maxRecDepth 20000 in
theorem kw_X4_151 : Cond.methodLink RX4 151 yX4_near ∈ zm_tb := List.mem_of_getElem? (i := 478) rfl
set_option maxRecDepth 20000 in
theorem kw_X4_155 : Cond.methodLink RX4 155 yX4_isShort ∈ zm_tb := List.mem_of_getElem? (i := 435) rfl
set_option maxRecDepth 20000 in
theorem kw_X4_158 : Cond.methodLink RX4 158 yX4_groupOf ∈ zm_tb := List.mem_of_getElem? (i := 438) rfl
set_option maxRecDepth 20000 in
theorem kw_X4_161 : Cond.methodLink RX4 161 yX4_ends ∈ zm_tb := List.mem_of_getElem? (i := 442) rfl
set_option maxRecDepth 20000 in
theorem kw_X4_165 : Cond.methodLink RX4 165 yX4_direction ∈ zm_tb := List.mem_of_getElem? (i := 446) rfl
set_option maxRecDepth 20000 in
theorem kw_X4_168 : Cond.methodLink RX4 168 yX4_isFlat ∈ zm_tb := List.mem_of_getElem? (i := 466) rfl
set_option maxRecDepth 20000 in
theorem kw_X4_171 : Cond.methodLink RX4 171 yX4_nearAt ∈ zm_tb := List.mem_of_getElem? (i := 470) rfl
set_option maxRecDepth 20000 in
theorem kw_X4_174 : Cond.methodLink RX4 174 yX4_find ∈ zm_tb := List.mem_of_getElem? (i := 485) rfl
set_option maxRecDepth 20000 in
theorem kw_X4_177 : Cond.methodLink RX4 177 yX4_noteAt ∈ zm_tb := List.mem_of_getElem? (i := 450) rfl
set_option maxRecDepth 20000 in
theorem kw_X4_180 : Cond.methodLink RX4 180 yX4_alone ∈ zm_tb := List.mem_of_getElem? (i := 462) rfl
set_option maxRecDepth 20000 in
theorem kw_X4_183 : Cond.methodLink RX4 183 yX4_upAt ∈ zm_tb := List.mem_of_getElem? (i := 474) rfl
set_option maxRecDepth 20000 in
theorem kw_X4_186 : Cond.methodLink RX4 186 yX4_rounded ∈ zm_tb := List.mem_of_getElem? (i := 512) rfl
set_option maxRecDepth 20000 in
theorem kw_X4_189 : Cond.methodLink RX4 189 yX4_heightAt ∈ zm_tb := List.mem_of_getElem? (i := 508) rfl
set_option maxRecDepth 20000 in
theorem kw_X4_193 : Cond.constantLong RX4 193 (-8) ∈ zm_tb := List.mem_of_getElem? (i := 523) rfl
set_option maxRecDepth 20000 in
theorem kw_X4_195 : Cond.constantLong RX4 195 (8) ∈ zm_tb := List.mem_of_getElem? (i := 502) rfl
set_option maxRecDepth 20000 in
theorem kw_X4_197 : Cond.methodLink RX4 197 yX4_lengthAt ∈ zm_tb := List.mem_of_getElem? (i := 504) rfl
set_option maxRecDepth 20000 in
theorem kw_X4_200 : Cond.constantLong RX4 200 (-1) ∈ zm_tb := List.mem_of_getElem? (i := 489) rfl
set_option maxRecDepth 20000 in
theorem kw_X4_202 : Cond.methodLink RX4 202 yX4_want ∈ zm_tb := List.mem_of_getElem? (i := 515) rfl
set_option maxRecDepth 20000 in
theorem kw_X4_206 : Cond.methodLink RX4 206 yX4_isWedge ∈ zm_tb := List.mem_of_getElem? (i := 519) rfl
set_option maxRecDepth 20000 in
theorem kw_X4_209 : Cond.constantLong RX4 209 (25) ∈ zm_tb := List.mem_of_getElem? (i := 503) rfl
set_option maxRecDepth 20000 in
theorem kw_X4_211 : Cond.methodLink RX4 211 yX4_badnessOf ∈ zm_tb := List.mem_of_getElem? (i := 498) rfl
set_option maxRecDepth 20000 in
theorem kw_X4_215 : Cond.methodLink RX4 215 yX4_isBeam ∈ zm_tb := List.mem_of_getElem? (i := 547) rfl
set_option maxRecDepth 20000 in
theorem kw_X4_218 : Cond.methodLink RX4 218 yX4_greatest ∈ zm_tb := List.mem_of_getElem? (i := 551) rfl
set_option maxRecDepth 20000 in
theorem kw_X4_221 : Cond.constantLong RX4 221 (-200) ∈ zm_tb := List.mem_of_getElem? (i := 584) rfl
set_option maxRecDepth 20000 in
theorem kw_X4_223 : Cond.constantLong RX4 223 (200) ∈ zm_tb := List.mem_of_getElem? (i := 585) rfl
set_option maxRecDepth 20000 in
theorem kw_X4_225 : Cond.constantLong RX4 225 (-6) ∈ zm_tb := List.mem_of_getElem? (i := 586) rfl
set_option maxRecDepth 20000 in
theorem kw_X4_227 : Cond.methodLink RX4 227 yX4_beamOf ∈ zm_tb := List.mem_of_getElem? (i := 609) rfl
set_option maxRecDepth 20000 in
theorem kw_X4_230 : Cond.methodLink RX4 230 yX4_placeIn ∈ zm_tb := List.mem_of_getElem? (i := 613) rfl
set_option maxRecDepth 20000 in
theorem kw_X4_233 : Cond.methodLink RX4 233 yX4_laneAt ∈ zm_tb := List.mem_of_getElem? (i := 659) rfl
set_option maxRecDepth 20000 in
theorem kd_X3_init : Cond.code yX3_init cX3_init 3 none ∈ zm_tb := List.mem_of_getElem? (i := 9) rfl
set_option maxRecDepth 20000 in
theorem ks_X3_init : Cond.instanceMethod yX3_init ∈ zm_tb := List.mem_of_getElem? (i := 8) rfl
set_option maxRecDepth 20000 in
theorem kd_X0_init : Cond.code yX0_init cX0_init 1 none ∈ zm_tb := List.mem_of_getElem? (i := 29) rfl
set_option maxRecDepth 20000 in
theorem ks_X0_init : Cond.instanceMethod yX0_init ∈ zm_tb := List.mem_of_getElem? (i := 28) rfl
set_option maxRecDepth 20000 in
theorem kd_X0_set : Cond.code yX0_set cX0_set 4 none ∈ zm_tb := List.mem_of_getElem? (i := 35) rfl
set_option maxRecDepth 20000 in
theorem ks_X0_set : Cond.instanceMethod yX0_set ∈ zm_tb := List.mem_of_getElem? (i := 33) rfl
set_option maxRecDepth 20000 in
theorem kl_X0_set : Cond.selects RX0 yX0_set yX0_set ∈ zm_tb := List.mem_of_getElem? (i := 34) rfl
set_option maxRecDepth 20000 in
theorem kd_X0_unitOf : Cond.code yX0_unitOf cX0_unitOf 1 (some .int) ∈ zm_tb := List.mem_of_getElem? (i := 41) rfl
set_option maxRecDepth 20000 in
theorem ks_X0_unitOf : Cond.static yX0_unitOf ∈ zm_tb := List.mem_of_getElem? (i := 40) rfl
set_option maxRecDepth 20000 in
theorem kd_X0_addUsualGroups : Cond.code yX0_addUsualGroups cX0_addUsualGroups 6 none ∈ zm_tb := List.mem_of_getElem? (i := 45) rfl
set_option maxRecDepth 20000 in
theorem ks_X0_addUsualGroups : Cond.instanceMethod yX0_addUsualGroups ∈ zm_tb := List.mem_of_getElem? (i := 43) rfl
set_option maxRecDepth 20000 in
theorem kl_X0_addUsualGroups : Cond.selects RX0 yX0_addUsualGroups yX0_addUsualGroups ∈ zm_tb := List.mem_of_getElem? (i := 44) rfl
set_option maxRecDepth 20000 in
theorem kd_X0_addGroup : Cond.code yX0_addGroup cX0_addGroup 3 none ∈ zm_tb := List.mem_of_getElem? (i := 53) rfl
set_option maxRecDepth 20000 in
theorem ks_X0_addGroup : Cond.instanceMethod yX0_addGroup ∈ zm_tb := List.mem_of_getElem? (i := 51) rfl
set_option maxRecDepth 20000 in
theorem kl_X0_addGroup : Cond.selects RX0 yX0_addGroup yX0_addGroup ∈ zm_tb := List.mem_of_getElem? (i := 52) rfl
set_option maxRecDepth 20000 in
theorem kd_X0_addToldGroups : Cond.code yX0_addToldGroups cX0_addToldGroups 4 none ∈ zm_tb := List.mem_of_getElem? (i := 57) rfl
set_option maxRecDepth 20000 in
theorem ks_X0_addToldGroups : Cond.instanceMethod yX0_addToldGroups ∈ zm_tb := List.mem_of_getElem? (i := 55) rfl
set_option maxRecDepth 20000 in
theorem kl_X0_addToldGroups : Cond.selects RX0 yX0_addToldGroups yX0_addToldGroups ∈ zm_tb := List.mem_of_getElem? (i := 56) rfl
set_option maxRecDepth 20000 in
theorem kd_X2_init : Cond.code yX2_init cX2_init 1 none ∈ zm_tb := List.mem_of_getElem? (i := 59) rfl
set_option maxRecDepth 20000 in
theorem ks_X2_init : Cond.instanceMethod yX2_init ∈ zm_tb := List.mem_of_getElem? (i := 58) rfl
set_option maxRecDepth 20000 in
theorem kd_X1_init : Cond.code yX1_init cX1_init 3 none ∈ zm_tb := List.mem_of_getElem? (i := 63) rfl
set_option maxRecDepth 20000 in
theorem ks_X1_init : Cond.instanceMethod yX1_init ∈ zm_tb := List.mem_of_getElem? (i := 62) rfl
set_option maxRecDepth 20000 in
theorem kd_X4_init : Cond.code yX4_init cX4_init 1 none ∈ zm_tb := List.mem_of_getElem? (i := 69) rfl
set_option maxRecDepth 20000 in
theorem ks_X4_init : Cond.instanceMethod yX4_init ∈ zm_tb := List.mem_of_getElem? (i := 68) rfl
set_option maxRecDepth 20000 in
theorem kd_X4_begin : Cond.code yX4_begin cX4_begin 1 none ∈ zm_tb := List.mem_of_getElem? (i := 95) rfl
set_option maxRecDepth 20000 in
theorem ks_X4_begin : Cond.instanceMethod yX4_begin ∈ zm_tb := List.mem_of_getElem? (i := 93) rfl
set_option maxRecDepth 20000 in
theorem kl_X4_begin : Cond.selects RX4 yX4_begin yX4_begin ∈ zm_tb := List.mem_of_getElem? (i := 94) rfl
set_option maxRecDepth 20000 in
theorem kd_X4_measure : Cond.code yX4_measure cX4_measure 10 (some .boolean) ∈ zm_tb := List.mem_of_getElem? (i := 103) rfl
set_option maxRecDepth 20000 in
theorem ks_X4_measure : Cond.instanceMethod yX4_measure ∈ zm_tb := List.mem_of_getElem? (i := 101) rfl
set_option maxRecDepth 20000 in
theorem kl_X4_measure : Cond.selects RX4 yX4_measure yX4_measure ∈ zm_tb := List.mem_of_getElem? (i := 102) rfl
set_option maxRecDepth 20000 in
theorem kd_X3_meter : Cond.code yX3_meter cX3_meter 4 (some .int) ∈ zm_tb := List.mem_of_getElem? (i := 110) rfl
set_option maxRecDepth 20000 in
theorem ks_X3_meter : Cond.instanceMethod yX3_meter ∈ zm_tb := List.mem_of_getElem? (i := 108) rfl
set_option maxRecDepth 20000 in
theorem kl_X3_meter : Cond.selects RX3 yX3_meter yX3_meter ∈ zm_tb := List.mem_of_getElem? (i := 109) rfl
set_option maxRecDepth 20000 in
theorem kd_X0_isMeter : Cond.code yX0_isMeter cX0_isMeter 3 (some .boolean) ∈ zm_tb := List.mem_of_getElem? (i := 115) rfl
set_option maxRecDepth 20000 in
theorem ks_X0_isMeter : Cond.static yX0_isMeter ∈ zm_tb := List.mem_of_getElem? (i := 114) rfl
set_option maxRecDepth 20000 in
theorem kd_X0_digitsAddUp : Cond.code yX0_digitsAddUp cX0_digitsAddUp 4 (some .boolean) ∈ zm_tb := List.mem_of_getElem? (i := 118) rfl
set_option maxRecDepth 20000 in
theorem ks_X0_digitsAddUp : Cond.static yX0_digitsAddUp ∈ zm_tb := List.mem_of_getElem? (i := 117) rfl
set_option maxRecDepth 20000 in
theorem kd_X4_meter : Cond.code yX4_meter cX4_meter 4 (some .int) ∈ zm_tb := List.mem_of_getElem? (i := 123) rfl
set_option maxRecDepth 20000 in
theorem ks_X4_meter : Cond.instanceMethod yX4_meter ∈ zm_tb := List.mem_of_getElem? (i := 121) rfl
set_option maxRecDepth 20000 in
theorem kl_X4_meter : Cond.selects RX4 yX4_meter yX4_meter ∈ zm_tb := List.mem_of_getElem? (i := 122) rfl
set_option maxRecDepth 20000 in
theorem kd_X4_in : Cond.code yX4_in cX4_in 6 (some .boolean) ∈ zm_tb := List.mem_of_getElem? (i := 128) rfl
set_option maxRecDepth 20000 in
theorem ks_X4_in : Cond.static yX4_in ∈ zm_tb := List.mem_of_getElem? (i := 127) rfl
set_option maxRecDepth 20000 in
theorem kd_X4_isSo : Cond.code yX4_isSo cX4_isSo 5 (some .boolean) ∈ zm_tb := List.mem_of_getElem? (i := 131) rfl
set_option maxRecDepth 20000 in
theorem ks_X4_isSo : Cond.static yX4_isSo ∈ zm_tb := List.mem_of_getElem? (i := 130) rfl
set_option maxRecDepth 20000 in
theorem kd_X3_note : Cond.code yX3_note cX3_note 7 (some .int) ∈ zm_tb := List.mem_of_getElem? (i := 135) rfl
set_option maxRecDepth 20000 in
theorem ks_X3_note : Cond.instanceMethod yX3_note ∈ zm_tb := List.mem_of_getElem? (i := 133) rfl
set_option maxRecDepth 20000 in
theorem kl_X3_note : Cond.selects RX3 yX3_note yX3_note ∈ zm_tb := List.mem_of_getElem? (i := 134) rfl
set_option maxRecDepth 20000 in
theorem kd_X3_isPlace : Cond.code yX3_isPlace cX3_isPlace 1 (some .boolean) ∈ zm_tb := List.mem_of_getElem? (i := 138) rfl
set_option maxRecDepth 20000 in
theorem ks_X3_isPlace : Cond.static yX3_isPlace ∈ zm_tb := List.mem_of_getElem? (i := 137) rfl
set_option maxRecDepth 20000 in
theorem kd_X3_isTiming : Cond.code yX3_isTiming cX3_isTiming 3 (some .boolean) ∈ zm_tb := List.mem_of_getElem? (i := 141) rfl
set_option maxRecDepth 20000 in
theorem ks_X3_isTiming : Cond.static yX3_isTiming ∈ zm_tb := List.mem_of_getElem? (i := 140) rfl
set_option maxRecDepth 20000 in
theorem kd_X3_append : Cond.code yX3_append cX3_append 7 (some .int) ∈ zm_tb := List.mem_of_getElem? (i := 145) rfl
set_option maxRecDepth 20000 in
theorem ks_X3_append : Cond.instanceMethod yX3_append ∈ zm_tb := List.mem_of_getElem? (i := 143) rfl
set_option maxRecDepth 20000 in
theorem kl_X3_append : Cond.selects RX3 yX3_append yX3_append ∈ zm_tb := List.mem_of_getElem? (i := 144) rfl
set_option maxRecDepth 20000 in
theorem kd_X2_ticksOf : Cond.code yX2_ticksOf cX2_ticksOf 3 (some .int) ∈ zm_tb := List.mem_of_getElem? (i := 151) rfl
set_option maxRecDepth 20000 in
theorem ks_X2_ticksOf : Cond.static yX2_ticksOf ∈ zm_tb := List.mem_of_getElem? (i := 150) rfl
set_option maxRecDepth 20000 in
theorem kd_X0_offsetAt : Cond.code yX0_offsetAt cX0_offsetAt 2 (some .int) ∈ zm_tb := List.mem_of_getElem? (i := 155) rfl
set_option maxRecDepth 20000 in
theorem ks_X0_offsetAt : Cond.instanceMethod yX0_offsetAt ∈ zm_tb := List.mem_of_getElem? (i := 153) rfl
set_option maxRecDepth 20000 in
theorem kl_X0_offsetAt : Cond.selects RX0 yX0_offsetAt yX0_offsetAt ∈ zm_tb := List.mem_of_getElem? (i := 154) rfl
set_option maxRecDepth 20000 in
theorem kd_X3_takeBeamsAway : Cond.code yX3_takeBeamsAway cX3_takeBeamsAway 2 none ∈ zm_tb := List.mem_of_getElem? (i := 159) rfl
set_option maxRecDepth 20000 in
theorem ks_X3_takeBeamsAway : Cond.instanceMethod yX3_takeBeamsAway ∈ zm_tb := List.mem_of_getElem? (i := 157) rfl
set_option maxRecDepth 20000 in
theorem kl_X3_takeBeamsAway : Cond.selects RX3 yX3_takeBeamsAway yX3_takeBeamsAway ∈ zm_tb := List.mem_of_getElem? (i := 158) rfl
set_option maxRecDepth 20000 in
theorem kd_X1_release : Cond.code yX1_release cX1_release 2 none ∈ zm_tb := List.mem_of_getElem? (i := 164) rfl
set_option maxRecDepth 20000 in
theorem ks_X1_release : Cond.instanceMethod yX1_release ∈ zm_tb := List.mem_of_getElem? (i := 162) rfl
set_option maxRecDepth 20000 in
theorem kl_X1_release : Cond.selects RX1 yX1_release yX1_release ∈ zm_tb := List.mem_of_getElem? (i := 163) rfl
set_option maxRecDepth 20000 in
theorem kd_X2_reset : Cond.code yX2_reset cX2_reset 4 none ∈ zm_tb := List.mem_of_getElem? (i := 170) rfl
set_option maxRecDepth 20000 in
theorem ks_X2_reset : Cond.instanceMethod yX2_reset ∈ zm_tb := List.mem_of_getElem? (i := 168) rfl
set_option maxRecDepth 20000 in
theorem kl_X2_reset : Cond.selects RX2 yX2_reset yX2_reset ∈ zm_tb := List.mem_of_getElem? (i := 169) rfl
set_option maxRecDepth 20000 in
theorem kd_X3_eventAt : Cond.code yX3_eventAt cX3_eventAt 2 (some (.object "StemBeams$Event")) ∈ zm_tb := List.mem_of_getElem? (i := 184) rfl
set_option maxRecDepth 20000 in
theorem ks_X3_eventAt : Cond.instanceMethod yX3_eventAt ∈ zm_tb := List.mem_of_getElem? (i := 182) rfl
set_option maxRecDepth 20000 in
theorem kl_X3_eventAt : Cond.selects RX3 yX3_eventAt yX3_eventAt ∈ zm_tb := List.mem_of_getElem? (i := 183) rfl
set_option maxRecDepth 20000 in
theorem kd_X2_addHead : Cond.code yX2_addHead cX2_addHead 2 none ∈ zm_tb := List.mem_of_getElem? (i := 188) rfl
set_option maxRecDepth 20000 in
theorem ks_X2_addHead : Cond.instanceMethod yX2_addHead ∈ zm_tb := List.mem_of_getElem? (i := 186) rfl
set_option maxRecDepth 20000 in
theorem kl_X2_addHead : Cond.selects RX2 yX2_addHead yX2_addHead ∈ zm_tb := List.mem_of_getElem? (i := 187) rfl
set_option maxRecDepth 20000 in
theorem kd_X4_note : Cond.code yX4_note cX4_note 5 (some .int) ∈ zm_tb := List.mem_of_getElem? (i := 198) rfl
set_option maxRecDepth 20000 in
theorem ks_X4_note : Cond.instanceMethod yX4_note ∈ zm_tb := List.mem_of_getElem? (i := 196) rfl
set_option maxRecDepth 20000 in
theorem kl_X4_note : Cond.selects RX4 yX4_note yX4_note ∈ zm_tb := List.mem_of_getElem? (i := 197) rfl
set_option maxRecDepth 20000 in
theorem kd_X4_comes : Cond.code yX4_comes cX4_comes 9 (some .int) ∈ zm_tb := List.mem_of_getElem? (i := 202) rfl
set_option maxRecDepth 20000 in
theorem ks_X4_comes : Cond.instanceMethod yX4_comes ∈ zm_tb := List.mem_of_getElem? (i := 200) rfl
set_option maxRecDepth 20000 in
theorem kl_X4_comes : Cond.selects RX4 yX4_comes yX4_comes ∈ zm_tb := List.mem_of_getElem? (i := 201) rfl
set_option maxRecDepth 20000 in
theorem kd_X3_pause : Cond.code yX3_pause cX3_pause 4 (some .int) ∈ zm_tb := List.mem_of_getElem? (i := 210) rfl
set_option maxRecDepth 20000 in
theorem ks_X3_pause : Cond.instanceMethod yX3_pause ∈ zm_tb := List.mem_of_getElem? (i := 208) rfl
set_option maxRecDepth 20000 in
theorem kl_X3_pause : Cond.selects RX3 yX3_pause yX3_pause ∈ zm_tb := List.mem_of_getElem? (i := 209) rfl
set_option maxRecDepth 20000 in
theorem kd_X4_pause : Cond.code yX4_pause cX4_pause 4 (some .int) ∈ zm_tb := List.mem_of_getElem? (i := 214) rfl
set_option maxRecDepth 20000 in
theorem ks_X4_pause : Cond.instanceMethod yX4_pause ∈ zm_tb := List.mem_of_getElem? (i := 212) rfl
set_option maxRecDepth 20000 in
theorem kl_X4_pause : Cond.selects RX4 yX4_pause yX4_pause ∈ zm_tb := List.mem_of_getElem? (i := 213) rfl
set_option maxRecDepth 20000 in
theorem kd_X3_also : Cond.code yX3_also cX3_also 5 (some .int) ∈ zm_tb := List.mem_of_getElem? (i := 218) rfl
set_option maxRecDepth 20000 in
theorem ks_X3_also : Cond.instanceMethod yX3_also ∈ zm_tb := List.mem_of_getElem? (i := 216) rfl
set_option maxRecDepth 20000 in
theorem kl_X3_also : Cond.selects RX3 yX3_also yX3_also ∈ zm_tb := List.mem_of_getElem? (i := 217) rfl
set_option maxRecDepth 20000 in
theorem kd_X3_refusalOf : Cond.code yX3_refusalOf cX3_refusalOf 2 (some .int) ∈ zm_tb := List.mem_of_getElem? (i := 222) rfl
set_option maxRecDepth 20000 in
theorem ks_X3_refusalOf : Cond.static yX3_refusalOf ∈ zm_tb := List.mem_of_getElem? (i := 221) rfl
set_option maxRecDepth 20000 in
theorem kd_X2_isRest : Cond.code yX2_isRest cX2_isRest 1 (some .boolean) ∈ zm_tb := List.mem_of_getElem? (i := 226) rfl
set_option maxRecDepth 20000 in
theorem ks_X2_isRest : Cond.instanceMethod yX2_isRest ∈ zm_tb := List.mem_of_getElem? (i := 224) rfl
set_option maxRecDepth 20000 in
theorem kl_X2_isRest : Cond.selects RX2 yX2_isRest yX2_isRest ∈ zm_tb := List.mem_of_getElem? (i := 225) rfl
set_option maxRecDepth 20000 in
theorem kd_X2_hasHead : Cond.code yX2_hasHead cX2_hasHead 2 (some .boolean) ∈ zm_tb := List.mem_of_getElem? (i := 230) rfl
set_option maxRecDepth 20000 in
theorem ks_X2_hasHead : Cond.instanceMethod yX2_hasHead ∈ zm_tb := List.mem_of_getElem? (i := 228) rfl
set_option maxRecDepth 20000 in
theorem kl_X2_hasHead : Cond.selects RX2 yX2_hasHead yX2_hasHead ∈ zm_tb := List.mem_of_getElem? (i := 229) rfl
set_option maxRecDepth 20000 in
theorem kd_X4_also : Cond.code yX4_also cX4_also 5 (some .int) ∈ zm_tb := List.mem_of_getElem? (i := 234) rfl
set_option maxRecDepth 20000 in
theorem ks_X4_also : Cond.instanceMethod yX4_also ∈ zm_tb := List.mem_of_getElem? (i := 232) rfl
set_option maxRecDepth 20000 in
theorem kl_X4_also : Cond.selects RX4 yX4_also yX4_also ∈ zm_tb := List.mem_of_getElem? (i := 233) rfl
set_option maxRecDepth 20000 in
theorem kd_X4_isEvent : Cond.code yX4_isEvent cX4_isEvent 2 (some .boolean) ∈ zm_tb := List.mem_of_getElem? (i := 238) rfl
set_option maxRecDepth 20000 in
theorem ks_X4_isEvent : Cond.instanceMethod yX4_isEvent ∈ zm_tb := List.mem_of_getElem? (i := 236) rfl
set_option maxRecDepth 20000 in
theorem kl_X4_isEvent : Cond.selects RX4 yX4_isEvent yX4_isEvent ∈ zm_tb := List.mem_of_getElem? (i := 237) rfl
set_option maxRecDepth 20000 in
theorem kd_X3_staff : Cond.code yX3_staff cX3_staff 6 (some .int) ∈ zm_tb := List.mem_of_getElem? (i := 242) rfl
set_option maxRecDepth 20000 in
theorem ks_X3_staff : Cond.instanceMethod yX3_staff ∈ zm_tb := List.mem_of_getElem? (i := 240) rfl
set_option maxRecDepth 20000 in
theorem kl_X3_staff : Cond.selects RX3 yX3_staff yX3_staff ∈ zm_tb := List.mem_of_getElem? (i := 241) rfl
set_option maxRecDepth 20000 in
theorem kd_X4_staff : Cond.code yX4_staff cX4_staff 4 (some .int) ∈ zm_tb := List.mem_of_getElem? (i := 247) rfl
set_option maxRecDepth 20000 in
theorem ks_X4_staff : Cond.instanceMethod yX4_staff ∈ zm_tb := List.mem_of_getElem? (i := 245) rfl
set_option maxRecDepth 20000 in
theorem kl_X4_staff : Cond.selects RX4 yX4_staff yX4_staff ∈ zm_tb := List.mem_of_getElem? (i := 246) rfl
set_option maxRecDepth 20000 in
theorem kd_X3_mark : Cond.code yX3_mark cX3_mark 6 (some .int) ∈ zm_tb := List.mem_of_getElem? (i := 251) rfl
set_option maxRecDepth 20000 in
theorem ks_X3_mark : Cond.instanceMethod yX3_mark ∈ zm_tb := List.mem_of_getElem? (i := 249) rfl
set_option maxRecDepth 20000 in
theorem kl_X3_mark : Cond.selects RX3 yX3_mark yX3_mark ∈ zm_tb := List.mem_of_getElem? (i := 250) rfl
set_option maxRecDepth 20000 in
theorem kd_X4_mark : Cond.code yX4_mark cX4_mark 4 (some .int) ∈ zm_tb := List.mem_of_getElem? (i := 256) rfl
set_option maxRecDepth 20000 in
theorem ks_X4_mark : Cond.instanceMethod yX4_mark ∈ zm_tb := List.mem_of_getElem? (i := 254) rfl
set_option maxRecDepth 20000 in
theorem kl_X4_mark : Cond.selects RX4 yX4_mark yX4_mark ∈ zm_tb := List.mem_of_getElem? (i := 255) rfl
set_option maxRecDepth 20000 in
theorem kd_X3_broken : Cond.code yX3_broken cX3_broken 7 (some .int) ∈ zm_tb := List.mem_of_getElem? (i := 260) rfl
set_option maxRecDepth 20000 in
theorem ks_X3_broken : Cond.instanceMethod yX3_broken ∈ zm_tb := List.mem_of_getElem? (i := 258) rfl
set_option maxRecDepth 20000 in
theorem kl_X3_broken : Cond.selects RX3 yX3_broken yX3_broken ∈ zm_tb := List.mem_of_getElem? (i := 259) rfl
set_option maxRecDepth 20000 in
theorem kd_X2_isBroken : Cond.code yX2_isBroken cX2_isBroken 2 (some .boolean) ∈ zm_tb := List.mem_of_getElem? (i := 264) rfl
set_option maxRecDepth 20000 in
theorem ks_X2_isBroken : Cond.instanceMethod yX2_isBroken ∈ zm_tb := List.mem_of_getElem? (i := 262) rfl
set_option maxRecDepth 20000 in
theorem kl_X2_isBroken : Cond.selects RX2 yX2_isBroken yX2_isBroken ∈ zm_tb := List.mem_of_getElem? (i := 263) rfl
set_option maxRecDepth 20000 in
theorem kd_X2_setBroken : Cond.code yX2_setBroken cX2_setBroken 4 none ∈ zm_tb := List.mem_of_getElem? (i := 268) rfl
set_option maxRecDepth 20000 in
theorem ks_X2_setBroken : Cond.instanceMethod yX2_setBroken ∈ zm_tb := List.mem_of_getElem? (i := 266) rfl
set_option maxRecDepth 20000 in
theorem kl_X2_setBroken : Cond.selects RX2 yX2_setBroken yX2_setBroken ∈ zm_tb := List.mem_of_getElem? (i := 267) rfl
set_option maxRecDepth 20000 in
theorem kd_X4_broken : Cond.code yX4_broken cX4_broken 5 (some .int) ∈ zm_tb := List.mem_of_getElem? (i := 272) rfl
set_option maxRecDepth 20000 in
theorem ks_X4_broken : Cond.instanceMethod yX4_broken ∈ zm_tb := List.mem_of_getElem? (i := 270) rfl
set_option maxRecDepth 20000 in
theorem kl_X4_broken : Cond.selects RX4 yX4_broken yX4_broken ∈ zm_tb := List.mem_of_getElem? (i := 271) rfl
set_option maxRecDepth 20000 in
theorem kd_X3_over : Cond.code yX3_over cX3_over 3 (some .int) ∈ zm_tb := List.mem_of_getElem? (i := 277) rfl
set_option maxRecDepth 20000 in
theorem ks_X3_over : Cond.instanceMethod yX3_over ∈ zm_tb := List.mem_of_getElem? (i := 275) rfl
set_option maxRecDepth 20000 in
theorem kl_X3_over : Cond.selects RX3 yX3_over yX3_over ∈ zm_tb := List.mem_of_getElem? (i := 276) rfl
set_option maxRecDepth 20000 in
theorem kd_X4_over : Cond.code yX4_over cX4_over 3 (some .int) ∈ zm_tb := List.mem_of_getElem? (i := 282) rfl
set_option maxRecDepth 20000 in
theorem ks_X4_over : Cond.instanceMethod yX4_over ∈ zm_tb := List.mem_of_getElem? (i := 280) rfl
set_option maxRecDepth 20000 in
theorem kl_X4_over : Cond.selects RX4 yX4_over yX4_over ∈ zm_tb := List.mem_of_getElem? (i := 281) rfl
set_option maxRecDepth 20000 in
theorem kd_X3_group : Cond.code yX3_group cX3_group 2 (some .int) ∈ zm_tb := List.mem_of_getElem? (i := 286) rfl
set_option maxRecDepth 20000 in
theorem ks_X3_group : Cond.instanceMethod yX3_group ∈ zm_tb := List.mem_of_getElem? (i := 284) rfl
set_option maxRecDepth 20000 in
theorem kl_X3_group : Cond.selects RX3 yX3_group yX3_group ∈ zm_tb := List.mem_of_getElem? (i := 285) rfl
set_option maxRecDepth 20000 in
theorem kd_X3_groupVoice : Cond.code yX3_groupVoice cX3_groupVoice 6 none ∈ zm_tb := List.mem_of_getElem? (i := 291) rfl
set_option maxRecDepth 20000 in
theorem ks_X3_groupVoice : Cond.instanceMethod yX3_groupVoice ∈ zm_tb := List.mem_of_getElem? (i := 289) rfl
set_option maxRecDepth 20000 in
theorem kl_X3_groupVoice : Cond.selects RX3 yX3_groupVoice yX3_groupVoice ∈ zm_tb := List.mem_of_getElem? (i := 290) rfl
set_option maxRecDepth 20000 in
theorem kd_X3_freshRow : Cond.code yX3_freshRow cX3_freshRow 2 (some (.object "StemBeams$Beam")) ∈ zm_tb := List.mem_of_getElem? (i := 296) rfl
set_option maxRecDepth 20000 in
theorem ks_X3_freshRow : Cond.instanceMethod yX3_freshRow ∈ zm_tb := List.mem_of_getElem? (i := 294) rfl
set_option maxRecDepth 20000 in
theorem kl_X3_freshRow : Cond.selects RX3 yX3_freshRow yX3_freshRow ∈ zm_tb := List.mem_of_getElem? (i := 295) rfl
set_option maxRecDepth 20000 in
theorem kd_X1_empty : Cond.code yX1_empty cX1_empty 1 none ∈ zm_tb := List.mem_of_getElem? (i := 301) rfl
set_option maxRecDepth 20000 in
theorem ks_X1_empty : Cond.instanceMethod yX1_empty ∈ zm_tb := List.mem_of_getElem? (i := 299) rfl
set_option maxRecDepth 20000 in
theorem kl_X1_empty : Cond.selects RX1 yX1_empty yX1_empty ∈ zm_tb := List.mem_of_getElem? (i := 300) rfl
set_option maxRecDepth 20000 in
theorem kd_X2_isShort : Cond.code yX2_isShort cX2_isShort 1 (some .boolean) ∈ zm_tb := List.mem_of_getElem? (i := 306) rfl
set_option maxRecDepth 20000 in
theorem ks_X2_isShort : Cond.instanceMethod yX2_isShort ∈ zm_tb := List.mem_of_getElem? (i := 304) rfl
set_option maxRecDepth 20000 in
theorem kl_X2_isShort : Cond.selects RX2 yX2_isShort yX2_isShort ∈ zm_tb := List.mem_of_getElem? (i := 305) rfl
set_option maxRecDepth 20000 in
theorem kd_X3_goesOn : Cond.code yX3_goesOn cX3_goesOn 5 (some .boolean) ∈ zm_tb := List.mem_of_getElem? (i := 310) rfl
set_option maxRecDepth 20000 in
theorem ks_X3_goesOn : Cond.instanceMethod yX3_goesOn ∈ zm_tb := List.mem_of_getElem? (i := 308) rfl
set_option maxRecDepth 20000 in
theorem kl_X3_goesOn : Cond.selects RX3 yX3_goesOn yX3_goesOn ∈ zm_tb := List.mem_of_getElem? (i := 309) rfl
set_option maxRecDepth 20000 in
theorem kd_X0_barAt : Cond.code yX0_barAt cX0_barAt 2 (some .int) ∈ zm_tb := List.mem_of_getElem? (i := 316) rfl
set_option maxRecDepth 20000 in
theorem ks_X0_barAt : Cond.instanceMethod yX0_barAt ∈ zm_tb := List.mem_of_getElem? (i := 314) rfl
set_option maxRecDepth 20000 in
theorem kl_X0_barAt : Cond.selects RX0 yX0_barAt yX0_barAt ∈ zm_tb := List.mem_of_getElem? (i := 315) rfl
set_option maxRecDepth 20000 in
theorem kd_X0_groupAt : Cond.code yX0_groupAt cX0_groupAt 4 (some .int) ∈ zm_tb := List.mem_of_getElem? (i := 320) rfl
set_option maxRecDepth 20000 in
theorem ks_X0_groupAt : Cond.instanceMethod yX0_groupAt ∈ zm_tb := List.mem_of_getElem? (i := 318) rfl
set_option maxRecDepth 20000 in
theorem kl_X0_groupAt : Cond.selects RX0 yX0_groupAt yX0_groupAt ∈ zm_tb := List.mem_of_getElem? (i := 319) rfl
set_option maxRecDepth 20000 in
theorem kd_X3_finish : Cond.code yX3_finish cX3_finish 2 none ∈ zm_tb := List.mem_of_getElem? (i := 325) rfl
set_option maxRecDepth 20000 in
theorem ks_X3_finish : Cond.instanceMethod yX3_finish ∈ zm_tb := List.mem_of_getElem? (i := 323) rfl
set_option maxRecDepth 20000 in
theorem kl_X3_finish : Cond.selects RX3 yX3_finish yX3_finish ∈ zm_tb := List.mem_of_getElem? (i := 324) rfl
set_option maxRecDepth 20000 in
theorem kd_X3_isTwoVoiced : Cond.code yX3_isTwoVoiced cX3_isTwoVoiced 1 (some .boolean) ∈ zm_tb := List.mem_of_getElem? (i := 329) rfl
set_option maxRecDepth 20000 in
theorem ks_X3_isTwoVoiced : Cond.instanceMethod yX3_isTwoVoiced ∈ zm_tb := List.mem_of_getElem? (i := 327) rfl
set_option maxRecDepth 20000 in
theorem kl_X3_isTwoVoiced : Cond.selects RX3 yX3_isTwoVoiced yX3_isTwoVoiced ∈ zm_tb := List.mem_of_getElem? (i := 328) rfl
set_option maxRecDepth 20000 in
theorem kd_X1_aimStems : Cond.code yX1_aimStems cX1_aimStems 4 none ∈ zm_tb := List.mem_of_getElem? (i := 333) rfl
set_option maxRecDepth 20000 in
theorem ks_X1_aimStems : Cond.instanceMethod yX1_aimStems ∈ zm_tb := List.mem_of_getElem? (i := 331) rfl
set_option maxRecDepth 20000 in
theorem kl_X1_aimStems : Cond.selects RX1 yX1_aimStems yX1_aimStems ∈ zm_tb := List.mem_of_getElem? (i := 332) rfl
set_option maxRecDepth 20000 in
theorem kd_X1_isOnBothStaves : Cond.code yX1_isOnBothStaves cX1_isOnBothStaves 3 (some .boolean) ∈ zm_tb := List.mem_of_getElem? (i := 339) rfl
set_option maxRecDepth 20000 in
theorem ks_X1_isOnBothStaves : Cond.instanceMethod yX1_isOnBothStaves ∈ zm_tb := List.mem_of_getElem? (i := 337) rfl
set_option maxRecDepth 20000 in
theorem kl_X1_isOnBothStaves : Cond.selects RX1 yX1_isOnBothStaves yX1_isOnBothStaves ∈ zm_tb := List.mem_of_getElem? (i := 338) rfl
set_option maxRecDepth 20000 in
theorem kd_X2_wayAlone : Cond.code yX2_wayAlone cX2_wayAlone 2 (some .int) ∈ zm_tb := List.mem_of_getElem? (i := 343) rfl
set_option maxRecDepth 20000 in
theorem ks_X2_wayAlone : Cond.instanceMethod yX2_wayAlone ∈ zm_tb := List.mem_of_getElem? (i := 341) rfl
set_option maxRecDepth 20000 in
theorem kl_X2_wayAlone : Cond.selects RX2 yX2_wayAlone yX2_wayAlone ∈ zm_tb := List.mem_of_getElem? (i := 342) rfl
set_option maxRecDepth 20000 in
theorem kd_X1_wayByHeads : Cond.code yX1_wayByHeads cX1_wayByHeads 5 (some .int) ∈ zm_tb := List.mem_of_getElem? (i := 347) rfl
set_option maxRecDepth 20000 in
theorem ks_X1_wayByHeads : Cond.instanceMethod yX1_wayByHeads ∈ zm_tb := List.mem_of_getElem? (i := 345) rfl
set_option maxRecDepth 20000 in
theorem kl_X1_wayByHeads : Cond.selects RX1 yX1_wayByHeads yX1_wayByHeads ∈ zm_tb := List.mem_of_getElem? (i := 346) rfl
set_option maxRecDepth 20000 in
theorem kd_X2_aim : Cond.code yX2_aim cX2_aim 5 none ∈ zm_tb := List.mem_of_getElem? (i := 355) rfl
set_option maxRecDepth 20000 in
theorem ks_X2_aim : Cond.instanceMethod yX2_aim ∈ zm_tb := List.mem_of_getElem? (i := 353) rfl
set_option maxRecDepth 20000 in
theorem kl_X2_aim : Cond.selects RX2 yX2_aim yX2_aim ∈ zm_tb := List.mem_of_getElem? (i := 354) rfl
set_option maxRecDepth 20000 in
theorem kd_X2_levels : Cond.code yX2_levels cX2_levels 1 (some .int) ∈ zm_tb := List.mem_of_getElem? (i := 363) rfl
set_option maxRecDepth 20000 in
theorem ks_X2_levels : Cond.instanceMethod yX2_levels ∈ zm_tb := List.mem_of_getElem? (i := 361) rfl
set_option maxRecDepth 20000 in
theorem kl_X2_levels : Cond.selects RX2 yX2_levels yX2_levels ∈ zm_tb := List.mem_of_getElem? (i := 362) rfl
set_option maxRecDepth 20000 in
theorem kd_X2_middle : Cond.code yX2_middle cX2_middle 1 (some .int) ∈ zm_tb := List.mem_of_getElem? (i := 367) rfl
set_option maxRecDepth 20000 in
theorem ks_X2_middle : Cond.instanceMethod yX2_middle ∈ zm_tb := List.mem_of_getElem? (i := 365) rfl
set_option maxRecDepth 20000 in
theorem kl_X2_middle : Cond.selects RX2 yX2_middle yX2_middle ∈ zm_tb := List.mem_of_getElem? (i := 366) rfl
set_option maxRecDepth 20000 in
theorem kd_X2_lengthTo : Cond.code yX2_lengthTo cX2_lengthTo 2 (some .int) ∈ zm_tb := List.mem_of_getElem? (i := 371) rfl
set_option maxRecDepth 20000 in
theorem ks_X2_lengthTo : Cond.instanceMethod yX2_lengthTo ∈ zm_tb := List.mem_of_getElem? (i := 369) rfl
set_option maxRecDepth 20000 in
theorem kl_X2_lengthTo : Cond.selects RX2 yX2_lengthTo yX2_lengthTo ∈ zm_tb := List.mem_of_getElem? (i := 370) rfl
set_option maxRecDepth 20000 in
theorem kd_X1_judgeSlope : Cond.code yX1_judgeSlope cX1_judgeSlope 3 none ∈ zm_tb := List.mem_of_getElem? (i := 375) rfl
set_option maxRecDepth 20000 in
theorem ks_X1_judgeSlope : Cond.instanceMethod yX1_judgeSlope ∈ zm_tb := List.mem_of_getElem? (i := 373) rfl
set_option maxRecDepth 20000 in
theorem kl_X1_judgeSlope : Cond.selects RX1 yX1_judgeSlope yX1_judgeSlope ∈ zm_tb := List.mem_of_getElem? (i := 374) rfl
set_option maxRecDepth 20000 in
theorem kd_X1_has : Cond.code yX1_has cX1_has 2 (some .boolean) ∈ zm_tb := List.mem_of_getElem? (i := 382) rfl
set_option maxRecDepth 20000 in
theorem ks_X1_has : Cond.instanceMethod yX1_has ∈ zm_tb := List.mem_of_getElem? (i := 380) rfl
set_option maxRecDepth 20000 in
theorem kl_X1_has : Cond.selects RX1 yX1_has yX1_has ∈ zm_tb := List.mem_of_getElem? (i := 381) rfl
set_option maxRecDepth 20000 in
theorem kd_X1_isInnerFarther : Cond.code yX1_isInnerFarther cX1_isInnerFarther 6 (some .boolean) ∈ zm_tb := List.mem_of_getElem? (i := 386) rfl
set_option maxRecDepth 20000 in
theorem ks_X1_isInnerFarther : Cond.instanceMethod yX1_isInnerFarther ∈ zm_tb := List.mem_of_getElem? (i := 384) rfl
set_option maxRecDepth 20000 in
theorem kl_X1_isInnerFarther : Cond.selects RX1 yX1_isInnerFarther yX1_isInnerFarther ∈ zm_tb := List.mem_of_getElem? (i := 385) rfl
set_option maxRecDepth 20000 in
theorem kd_X1_findPlace : Cond.code yX1_findPlace cX1_findPlace 5 (some .boolean) ∈ zm_tb := List.mem_of_getElem? (i := 390) rfl
set_option maxRecDepth 20000 in
theorem ks_X1_findPlace : Cond.instanceMethod yX1_findPlace ∈ zm_tb := List.mem_of_getElem? (i := 388) rfl
set_option maxRecDepth 20000 in
theorem kl_X1_findPlace : Cond.selects RX1 yX1_findPlace yX1_findPlace ∈ zm_tb := List.mem_of_getElem? (i := 389) rfl
set_option maxRecDepth 20000 in
theorem kd_X1_levelHeight : Cond.code yX1_levelHeight cX1_levelHeight 4 (some .int) ∈ zm_tb := List.mem_of_getElem? (i := 396) rfl
set_option maxRecDepth 20000 in
theorem ks_X1_levelHeight : Cond.instanceMethod yX1_levelHeight ∈ zm_tb := List.mem_of_getElem? (i := 394) rfl
set_option maxRecDepth 20000 in
theorem kl_X1_levelHeight : Cond.selects RX1 yX1_levelHeight yX1_levelHeight ∈ zm_tb := List.mem_of_getElem? (i := 395) rfl
set_option maxRecDepth 20000 in
theorem kd_X1_slantBadness : Cond.code yX1_slantBadness cX1_slantBadness 4 (some .long) ∈ zm_tb := List.mem_of_getElem? (i := 401) rfl
set_option maxRecDepth 20000 in
theorem ks_X1_slantBadness : Cond.instanceMethod yX1_slantBadness ∈ zm_tb := List.mem_of_getElem? (i := 399) rfl
set_option maxRecDepth 20000 in
theorem kl_X1_slantBadness : Cond.selects RX1 yX1_slantBadness yX1_slantBadness ∈ zm_tb := List.mem_of_getElem? (i := 400) rfl
set_option maxRecDepth 20000 in
theorem kd_X1_tryHeights : Cond.code yX1_tryHeights cX1_tryHeights 9 none ∈ zm_tb := List.mem_of_getElem? (i := 406) rfl
set_option maxRecDepth 20000 in
theorem ks_X1_tryHeights : Cond.instanceMethod yX1_tryHeights ∈ zm_tb := List.mem_of_getElem? (i := 404) rfl
set_option maxRecDepth 20000 in
theorem kl_X1_tryHeights : Cond.selects RX1 yX1_tryHeights yX1_tryHeights ∈ zm_tb := List.mem_of_getElem? (i := 405) rfl
set_option maxRecDepth 20000 in
theorem kd_X1_badnessAt : Cond.code yX1_badnessAt cX1_badnessAt 9 (some .long) ∈ zm_tb := List.mem_of_getElem? (i := 412) rfl
set_option maxRecDepth 20000 in
theorem ks_X1_badnessAt : Cond.instanceMethod yX1_badnessAt ∈ zm_tb := List.mem_of_getElem? (i := 410) rfl
set_option maxRecDepth 20000 in
theorem kl_X1_badnessAt : Cond.selects RX1 yX1_badnessAt yX1_badnessAt ∈ zm_tb := List.mem_of_getElem? (i := 411) rfl
set_option maxRecDepth 20000 in
theorem kd_X1_wedgeBadness : Cond.code yX1_wedgeBadness cX1_wedgeBadness 3 (some .int) ∈ zm_tb := List.mem_of_getElem? (i := 417) rfl
set_option maxRecDepth 20000 in
theorem ks_X1_wedgeBadness : Cond.instanceMethod yX1_wedgeBadness ∈ zm_tb := List.mem_of_getElem? (i := 415) rfl
set_option maxRecDepth 20000 in
theorem kl_X1_wedgeBadness : Cond.selects RX1 yX1_wedgeBadness yX1_wedgeBadness ∈ zm_tb := List.mem_of_getElem? (i := 416) rfl
set_option maxRecDepth 20000 in
theorem kd_X3_rounded : Cond.code yX3_rounded cX3_rounded 2 (some .int) ∈ zm_tb := List.mem_of_getElem? (i := 420) rfl
set_option maxRecDepth 20000 in
theorem ks_X3_rounded : Cond.static yX3_rounded ∈ zm_tb := List.mem_of_getElem? (i := 419) rfl
set_option maxRecDepth 20000 in
theorem kd_X1_hold : Cond.code yX1_hold cX1_hold 3 none ∈ zm_tb := List.mem_of_getElem? (i := 425) rfl
set_option maxRecDepth 20000 in
theorem ks_X1_hold : Cond.instanceMethod yX1_hold ∈ zm_tb := List.mem_of_getElem? (i := 423) rfl
set_option maxRecDepth 20000 in
theorem kl_X1_hold : Cond.selects RX1 yX1_hold yX1_hold ∈ zm_tb := List.mem_of_getElem? (i := 424) rfl
set_option maxRecDepth 20000 in
theorem kd_X1_add : Cond.code yX1_add cX1_add 2 none ∈ zm_tb := List.mem_of_getElem? (i := 430) rfl
set_option maxRecDepth 20000 in
theorem ks_X1_add : Cond.instanceMethod yX1_add ∈ zm_tb := List.mem_of_getElem? (i := 428) rfl
set_option maxRecDepth 20000 in
theorem kl_X1_add : Cond.selects RX1 yX1_add yX1_add ∈ zm_tb := List.mem_of_getElem? (i := 429) rfl
set_option maxRecDepth 20000 in
theorem kd_X4_group : Cond.code yX4_group cX4_group 9 (some .int) ∈ zm_tb := List.mem_of_getElem? (i := 434) rfl
set_option maxRecDepth 20000 in
theorem ks_X4_group : Cond.instanceMethod yX4_group ∈ zm_tb := List.mem_of_getElem? (i := 432) rfl
set_option maxRecDepth 20000 in
theorem kl_X4_group : Cond.selects RX4 yX4_group yX4_group ∈ zm_tb := List.mem_of_getElem? (i := 433) rfl
set_option maxRecDepth 20000 in
theorem kd_X4_isShort : Cond.code yX4_isShort cX4_isShort 1 (some .boolean) ∈ zm_tb := List.mem_of_getElem? (i := 437) rfl
set_option maxRecDepth 20000 in
theorem ks_X4_isShort : Cond.static yX4_isShort ∈ zm_tb := List.mem_of_getElem? (i := 436) rfl
set_option maxRecDepth 20000 in
theorem kd_X4_groupOf : Cond.code yX4_groupOf cX4_groupOf 5 (some .int) ∈ zm_tb := List.mem_of_getElem? (i := 441) rfl
set_option maxRecDepth 20000 in
theorem ks_X4_groupOf : Cond.instanceMethod yX4_groupOf ∈ zm_tb := List.mem_of_getElem? (i := 439) rfl
set_option maxRecDepth 20000 in
theorem kl_X4_groupOf : Cond.selects RX4 yX4_groupOf yX4_groupOf ∈ zm_tb := List.mem_of_getElem? (i := 440) rfl
set_option maxRecDepth 20000 in
theorem kd_X4_ends : Cond.code yX4_ends cX4_ends 4 none ∈ zm_tb := List.mem_of_getElem? (i := 445) rfl
set_option maxRecDepth 20000 in
theorem ks_X4_ends : Cond.instanceMethod yX4_ends ∈ zm_tb := List.mem_of_getElem? (i := 443) rfl
set_option maxRecDepth 20000 in
theorem kl_X4_ends : Cond.selects RX4 yX4_ends yX4_ends ∈ zm_tb := List.mem_of_getElem? (i := 444) rfl
set_option maxRecDepth 20000 in
theorem kd_X4_direction : Cond.code yX4_direction cX4_direction 9 (some .int) ∈ zm_tb := List.mem_of_getElem? (i := 449) rfl
set_option maxRecDepth 20000 in
theorem ks_X4_direction : Cond.instanceMethod yX4_direction ∈ zm_tb := List.mem_of_getElem? (i := 447) rfl
set_option maxRecDepth 20000 in
theorem kl_X4_direction : Cond.selects RX4 yX4_direction yX4_direction ∈ zm_tb := List.mem_of_getElem? (i := 448) rfl
set_option maxRecDepth 20000 in
theorem kd_X4_noteAt : Cond.code yX4_noteAt cX4_noteAt 3 (some .int) ∈ zm_tb := List.mem_of_getElem? (i := 453) rfl
set_option maxRecDepth 20000 in
theorem ks_X4_noteAt : Cond.instanceMethod yX4_noteAt ∈ zm_tb := List.mem_of_getElem? (i := 451) rfl
set_option maxRecDepth 20000 in
theorem kl_X4_noteAt : Cond.selects RX4 yX4_noteAt yX4_noteAt ∈ zm_tb := List.mem_of_getElem? (i := 452) rfl
set_option maxRecDepth 20000 in
theorem kd_X4_highest : Cond.code yX4_highest cX4_highest 4 (some .int) ∈ zm_tb := List.mem_of_getElem? (i := 457) rfl
set_option maxRecDepth 20000 in
theorem ks_X4_highest : Cond.instanceMethod yX4_highest ∈ zm_tb := List.mem_of_getElem? (i := 455) rfl
set_option maxRecDepth 20000 in
theorem kl_X4_highest : Cond.selects RX4 yX4_highest yX4_highest ∈ zm_tb := List.mem_of_getElem? (i := 456) rfl
set_option maxRecDepth 20000 in
theorem kd_X4_lowest : Cond.code yX4_lowest cX4_lowest 4 (some .int) ∈ zm_tb := List.mem_of_getElem? (i := 461) rfl
set_option maxRecDepth 20000 in
theorem ks_X4_lowest : Cond.instanceMethod yX4_lowest ∈ zm_tb := List.mem_of_getElem? (i := 459) rfl
set_option maxRecDepth 20000 in
theorem kl_X4_lowest : Cond.selects RX4 yX4_lowest yX4_lowest ∈ zm_tb := List.mem_of_getElem? (i := 460) rfl
set_option maxRecDepth 20000 in
theorem kd_X4_alone : Cond.code yX4_alone cX4_alone 2 (some .int) ∈ zm_tb := List.mem_of_getElem? (i := 465) rfl
set_option maxRecDepth 20000 in
theorem ks_X4_alone : Cond.instanceMethod yX4_alone ∈ zm_tb := List.mem_of_getElem? (i := 463) rfl
set_option maxRecDepth 20000 in
theorem kl_X4_alone : Cond.selects RX4 yX4_alone yX4_alone ∈ zm_tb := List.mem_of_getElem? (i := 464) rfl
set_option maxRecDepth 20000 in
theorem kd_X4_isFlat : Cond.code yX4_isFlat cX4_isFlat 7 (some .boolean) ∈ zm_tb := List.mem_of_getElem? (i := 469) rfl
set_option maxRecDepth 20000 in
theorem ks_X4_isFlat : Cond.instanceMethod yX4_isFlat ∈ zm_tb := List.mem_of_getElem? (i := 467) rfl
set_option maxRecDepth 20000 in
theorem kl_X4_isFlat : Cond.selects RX4 yX4_isFlat yX4_isFlat ∈ zm_tb := List.mem_of_getElem? (i := 468) rfl
set_option maxRecDepth 20000 in
theorem kd_X4_nearAt : Cond.code yX4_nearAt cX4_nearAt 3 (some .int) ∈ zm_tb := List.mem_of_getElem? (i := 473) rfl
set_option maxRecDepth 20000 in
theorem ks_X4_nearAt : Cond.instanceMethod yX4_nearAt ∈ zm_tb := List.mem_of_getElem? (i := 471) rfl
set_option maxRecDepth 20000 in
theorem kl_X4_nearAt : Cond.selects RX4 yX4_nearAt yX4_nearAt ∈ zm_tb := List.mem_of_getElem? (i := 472) rfl
set_option maxRecDepth 20000 in
theorem kd_X4_upAt : Cond.code yX4_upAt cX4_upAt 3 (some .int) ∈ zm_tb := List.mem_of_getElem? (i := 477) rfl
set_option maxRecDepth 20000 in
theorem ks_X4_upAt : Cond.instanceMethod yX4_upAt ∈ zm_tb := List.mem_of_getElem? (i := 475) rfl
set_option maxRecDepth 20000 in
theorem kl_X4_upAt : Cond.selects RX4 yX4_upAt yX4_upAt ∈ zm_tb := List.mem_of_getElem? (i := 476) rfl
set_option maxRecDepth 20000 in
theorem kd_X4_near : Cond.code yX4_near cX4_near 3 (some .int) ∈ zm_tb := List.mem_of_getElem? (i := 481) rfl
set_option maxRecDepth 20000 in
theorem ks_X4_near : Cond.instanceMethod yX4_near ∈ zm_tb := List.mem_of_getElem? (i := 479) rfl
set_option maxRecDepth 20000 in
theorem kl_X4_near : Cond.selects RX4 yX4_near yX4_near ∈ zm_tb := List.mem_of_getElem? (i := 480) rfl
set_option maxRecDepth 20000 in
theorem kd_X4_middle : Cond.code yX4_middle cX4_middle 1 (some .int) ∈ zm_tb := List.mem_of_getElem? (i := 484) rfl
set_option maxRecDepth 20000 in
theorem ks_X4_middle : Cond.static yX4_middle ∈ zm_tb := List.mem_of_getElem? (i := 483) rfl
set_option maxRecDepth 20000 in
theorem kd_X4_find : Cond.code yX4_find cX4_find 9 (some .boolean) ∈ zm_tb := List.mem_of_getElem? (i := 488) rfl
set_option maxRecDepth 20000 in
theorem ks_X4_find : Cond.instanceMethod yX4_find ∈ zm_tb := List.mem_of_getElem? (i := 486) rfl
set_option maxRecDepth 20000 in
theorem kl_X4_find : Cond.selects RX4 yX4_find yX4_find ∈ zm_tb := List.mem_of_getElem? (i := 487) rfl
set_option maxRecDepth 20000 in
theorem kd_X4_more : Cond.code yX4_more cX4_more 2 (some .int) ∈ zm_tb := List.mem_of_getElem? (i := 493) rfl
set_option maxRecDepth 20000 in
theorem ks_X4_more : Cond.instanceMethod yX4_more ∈ zm_tb := List.mem_of_getElem? (i := 491) rfl
set_option maxRecDepth 20000 in
theorem kl_X4_more : Cond.selects RX4 yX4_more yX4_more ∈ zm_tb := List.mem_of_getElem? (i := 492) rfl
set_option maxRecDepth 20000 in
theorem kd_X4_levels : Cond.code yX4_levels cX4_levels 2 (some .int) ∈ zm_tb := List.mem_of_getElem? (i := 497) rfl
set_option maxRecDepth 20000 in
theorem ks_X4_levels : Cond.instanceMethod yX4_levels ∈ zm_tb := List.mem_of_getElem? (i := 495) rfl
set_option maxRecDepth 20000 in
theorem kl_X4_levels : Cond.selects RX4 yX4_levels yX4_levels ∈ zm_tb := List.mem_of_getElem? (i := 496) rfl
set_option maxRecDepth 20000 in
theorem kd_X4_badnessOf : Cond.code yX4_badnessOf cX4_badnessOf 11 (some .long) ∈ zm_tb := List.mem_of_getElem? (i := 501) rfl
set_option maxRecDepth 20000 in
theorem ks_X4_badnessOf : Cond.instanceMethod yX4_badnessOf ∈ zm_tb := List.mem_of_getElem? (i := 499) rfl
set_option maxRecDepth 20000 in
theorem kl_X4_badnessOf : Cond.selects RX4 yX4_badnessOf yX4_badnessOf ∈ zm_tb := List.mem_of_getElem? (i := 500) rfl
set_option maxRecDepth 20000 in
theorem kd_X4_lengthAt : Cond.code yX4_lengthAt cX4_lengthAt 5 (some .int) ∈ zm_tb := List.mem_of_getElem? (i := 507) rfl
set_option maxRecDepth 20000 in
theorem ks_X4_lengthAt : Cond.instanceMethod yX4_lengthAt ∈ zm_tb := List.mem_of_getElem? (i := 505) rfl
set_option maxRecDepth 20000 in
theorem kl_X4_lengthAt : Cond.selects RX4 yX4_lengthAt yX4_lengthAt ∈ zm_tb := List.mem_of_getElem? (i := 506) rfl
set_option maxRecDepth 20000 in
theorem kd_X4_heightAt : Cond.code yX4_heightAt cX4_heightAt 5 (some .int) ∈ zm_tb := List.mem_of_getElem? (i := 511) rfl
set_option maxRecDepth 20000 in
theorem ks_X4_heightAt : Cond.instanceMethod yX4_heightAt ∈ zm_tb := List.mem_of_getElem? (i := 509) rfl
set_option maxRecDepth 20000 in
theorem kl_X4_heightAt : Cond.selects RX4 yX4_heightAt yX4_heightAt ∈ zm_tb := List.mem_of_getElem? (i := 510) rfl
set_option maxRecDepth 20000 in
theorem kd_X4_rounded : Cond.code yX4_rounded cX4_rounded 4 (some .int) ∈ zm_tb := List.mem_of_getElem? (i := 514) rfl
set_option maxRecDepth 20000 in
theorem ks_X4_rounded : Cond.static yX4_rounded ∈ zm_tb := List.mem_of_getElem? (i := 513) rfl
set_option maxRecDepth 20000 in
theorem kd_X4_want : Cond.code yX4_want cX4_want 6 (some .int) ∈ zm_tb := List.mem_of_getElem? (i := 518) rfl
set_option maxRecDepth 20000 in
theorem ks_X4_want : Cond.instanceMethod yX4_want ∈ zm_tb := List.mem_of_getElem? (i := 516) rfl
set_option maxRecDepth 20000 in
theorem kl_X4_want : Cond.selects RX4 yX4_want yX4_want ∈ zm_tb := List.mem_of_getElem? (i := 517) rfl
set_option maxRecDepth 20000 in
theorem kd_X4_isWedge : Cond.code yX4_isWedge cX4_isWedge 4 (some .boolean) ∈ zm_tb := List.mem_of_getElem? (i := 522) rfl
set_option maxRecDepth 20000 in
theorem ks_X4_isWedge : Cond.instanceMethod yX4_isWedge ∈ zm_tb := List.mem_of_getElem? (i := 520) rfl
set_option maxRecDepth 20000 in
theorem kl_X4_isWedge : Cond.selects RX4 yX4_isWedge yX4_isWedge ∈ zm_tb := List.mem_of_getElem? (i := 521) rfl
set_option maxRecDepth 20000 in
theorem kd_X3_beam : Cond.code yX3_beam cX3_beam 4 (some .int) ∈ zm_tb := List.mem_of_getElem? (i := 527) rfl
set_option maxRecDepth 20000 in
theorem ks_X3_beam : Cond.instanceMethod yX3_beam ∈ zm_tb := List.mem_of_getElem? (i := 525) rfl
set_option maxRecDepth 20000 in
theorem kl_X3_beam : Cond.selects RX3 yX3_beam yX3_beam ∈ zm_tb := List.mem_of_getElem? (i := 526) rfl
set_option maxRecDepth 20000 in
theorem kd_X3_beamAt : Cond.code yX3_beamAt cX3_beamAt 2 (some (.object "StemBeams$Beam")) ∈ zm_tb := List.mem_of_getElem? (i := 537) rfl
set_option maxRecDepth 20000 in
theorem ks_X3_beamAt : Cond.instanceMethod yX3_beamAt ∈ zm_tb := List.mem_of_getElem? (i := 535) rfl
set_option maxRecDepth 20000 in
theorem kl_X3_beamAt : Cond.selects RX3 yX3_beamAt yX3_beamAt ∈ zm_tb := List.mem_of_getElem? (i := 536) rfl
set_option maxRecDepth 20000 in
theorem kd_X1_greatestLevel : Cond.code yX1_greatestLevel cX1_greatestLevel 3 (some .int) ∈ zm_tb := List.mem_of_getElem? (i := 541) rfl
set_option maxRecDepth 20000 in
theorem ks_X1_greatestLevel : Cond.instanceMethod yX1_greatestLevel ∈ zm_tb := List.mem_of_getElem? (i := 539) rfl
set_option maxRecDepth 20000 in
theorem kl_X1_greatestLevel : Cond.selects RX1 yX1_greatestLevel yX1_greatestLevel ∈ zm_tb := List.mem_of_getElem? (i := 540) rfl
set_option maxRecDepth 20000 in
theorem kd_X4_beam : Cond.code yX4_beam cX4_beam 3 (some .int) ∈ zm_tb := List.mem_of_getElem? (i := 546) rfl
set_option maxRecDepth 20000 in
theorem ks_X4_beam : Cond.instanceMethod yX4_beam ∈ zm_tb := List.mem_of_getElem? (i := 544) rfl
set_option maxRecDepth 20000 in
theorem kl_X4_beam : Cond.selects RX4 yX4_beam yX4_beam ∈ zm_tb := List.mem_of_getElem? (i := 545) rfl
set_option maxRecDepth 20000 in
theorem kd_X4_isBeam : Cond.code yX4_isBeam cX4_isBeam 2 (some .boolean) ∈ zm_tb := List.mem_of_getElem? (i := 550) rfl
set_option maxRecDepth 20000 in
theorem ks_X4_isBeam : Cond.instanceMethod yX4_isBeam ∈ zm_tb := List.mem_of_getElem? (i := 548) rfl
set_option maxRecDepth 20000 in
theorem kl_X4_isBeam : Cond.selects RX4 yX4_isBeam yX4_isBeam ∈ zm_tb := List.mem_of_getElem? (i := 549) rfl
set_option maxRecDepth 20000 in
theorem kd_X4_greatest : Cond.code yX4_greatest cX4_greatest 4 (some .int) ∈ zm_tb := List.mem_of_getElem? (i := 554) rfl
set_option maxRecDepth 20000 in
theorem ks_X4_greatest : Cond.instanceMethod yX4_greatest ∈ zm_tb := List.mem_of_getElem? (i := 552) rfl
set_option maxRecDepth 20000 in
theorem kl_X4_greatest : Cond.selects RX4 yX4_greatest yX4_greatest ∈ zm_tb := List.mem_of_getElem? (i := 553) rfl
set_option maxRecDepth 20000 in
theorem kd_X3_member : Cond.code yX3_member cX3_member 4 (some .int) ∈ zm_tb := List.mem_of_getElem? (i := 558) rfl
set_option maxRecDepth 20000 in
theorem ks_X3_member : Cond.instanceMethod yX3_member ∈ zm_tb := List.mem_of_getElem? (i := 556) rfl
set_option maxRecDepth 20000 in
theorem kl_X3_member : Cond.selects RX3 yX3_member yX3_member ∈ zm_tb := List.mem_of_getElem? (i := 557) rfl
set_option maxRecDepth 20000 in
theorem kd_X4_member : Cond.code yX4_member cX4_member 3 (some .int) ∈ zm_tb := List.mem_of_getElem? (i := 564) rfl
set_option maxRecDepth 20000 in
theorem ks_X4_member : Cond.instanceMethod yX4_member ∈ zm_tb := List.mem_of_getElem? (i := 562) rfl
set_option maxRecDepth 20000 in
theorem kl_X4_member : Cond.selects RX4 yX4_member yX4_member ∈ zm_tb := List.mem_of_getElem? (i := 563) rfl
set_option maxRecDepth 20000 in
theorem kd_X3_badness : Cond.code yX3_badness cX3_badness 3 (some .long) ∈ zm_tb := List.mem_of_getElem? (i := 568) rfl
set_option maxRecDepth 20000 in
theorem ks_X3_badness : Cond.instanceMethod yX3_badness ∈ zm_tb := List.mem_of_getElem? (i := 566) rfl
set_option maxRecDepth 20000 in
theorem kl_X3_badness : Cond.selects RX3 yX3_badness yX3_badness ∈ zm_tb := List.mem_of_getElem? (i := 567) rfl
set_option maxRecDepth 20000 in
theorem kd_X4_badness : Cond.code yX4_badness cX4_badness 2 (some .long) ∈ zm_tb := List.mem_of_getElem? (i := 574) rfl
set_option maxRecDepth 20000 in
theorem ks_X4_badness : Cond.instanceMethod yX4_badness ∈ zm_tb := List.mem_of_getElem? (i := 572) rfl
set_option maxRecDepth 20000 in
theorem kl_X4_badness : Cond.selects RX4 yX4_badness yX4_badness ∈ zm_tb := List.mem_of_getElem? (i := 573) rfl
set_option maxRecDepth 20000 in
theorem kd_X3_other : Cond.code yX3_other cX3_other 6 (some .long) ∈ zm_tb := List.mem_of_getElem? (i := 578) rfl
set_option maxRecDepth 20000 in
theorem ks_X3_other : Cond.instanceMethod yX3_other ∈ zm_tb := List.mem_of_getElem? (i := 576) rfl
set_option maxRecDepth 20000 in
theorem kl_X3_other : Cond.selects RX3 yX3_other yX3_other ∈ zm_tb := List.mem_of_getElem? (i := 577) rfl
set_option maxRecDepth 20000 in
theorem kd_X4_other : Cond.code yX4_other cX4_other 4 (some .long) ∈ zm_tb := List.mem_of_getElem? (i := 583) rfl
set_option maxRecDepth 20000 in
theorem ks_X4_other : Cond.instanceMethod yX4_other ∈ zm_tb := List.mem_of_getElem? (i := 581) rfl
set_option maxRecDepth 20000 in
theorem kl_X4_other : Cond.selects RX4 yX4_other yX4_other ∈ zm_tb := List.mem_of_getElem? (i := 582) rfl
set_option maxRecDepth 20000 in
theorem kd_X3_stem : Cond.code yX3_stem cX3_stem 7 (some .int) ∈ zm_tb := List.mem_of_getElem? (i := 590) rfl
set_option maxRecDepth 20000 in
theorem ks_X3_stem : Cond.instanceMethod yX3_stem ∈ zm_tb := List.mem_of_getElem? (i := 588) rfl
set_option maxRecDepth 20000 in
theorem kl_X3_stem : Cond.selects RX3 yX3_stem yX3_stem ∈ zm_tb := List.mem_of_getElem? (i := 589) rfl
set_option maxRecDepth 20000 in
theorem kd_X1_heightAt : Cond.code yX1_heightAt cX1_heightAt 2 (some .int) ∈ zm_tb := List.mem_of_getElem? (i := 602) rfl
set_option maxRecDepth 20000 in
theorem ks_X1_heightAt : Cond.instanceMethod yX1_heightAt ∈ zm_tb := List.mem_of_getElem? (i := 600) rfl
set_option maxRecDepth 20000 in
theorem kl_X1_heightAt : Cond.selects RX1 yX1_heightAt yX1_heightAt ∈ zm_tb := List.mem_of_getElem? (i := 601) rfl
set_option maxRecDepth 20000 in
theorem kd_X4_stem : Cond.code yX4_stem cX4_stem 6 (some .int) ∈ zm_tb := List.mem_of_getElem? (i := 608) rfl
set_option maxRecDepth 20000 in
theorem ks_X4_stem : Cond.instanceMethod yX4_stem ∈ zm_tb := List.mem_of_getElem? (i := 606) rfl
set_option maxRecDepth 20000 in
theorem kl_X4_stem : Cond.selects RX4 yX4_stem yX4_stem ∈ zm_tb := List.mem_of_getElem? (i := 607) rfl
set_option maxRecDepth 20000 in
theorem kd_X4_beamOf : Cond.code yX4_beamOf cX4_beamOf 5 (some .int) ∈ zm_tb := List.mem_of_getElem? (i := 612) rfl
set_option maxRecDepth 20000 in
theorem ks_X4_beamOf : Cond.instanceMethod yX4_beamOf ∈ zm_tb := List.mem_of_getElem? (i := 610) rfl
set_option maxRecDepth 20000 in
theorem kl_X4_beamOf : Cond.selects RX4 yX4_beamOf yX4_beamOf ∈ zm_tb := List.mem_of_getElem? (i := 611) rfl
set_option maxRecDepth 20000 in
theorem kd_X4_placeIn : Cond.code yX4_placeIn cX4_placeIn 5 (some .int) ∈ zm_tb := List.mem_of_getElem? (i := 616) rfl
set_option maxRecDepth 20000 in
theorem ks_X4_placeIn : Cond.instanceMethod yX4_placeIn ∈ zm_tb := List.mem_of_getElem? (i := 614) rfl
set_option maxRecDepth 20000 in
theorem kl_X4_placeIn : Cond.selects RX4 yX4_placeIn yX4_placeIn ∈ zm_tb := List.mem_of_getElem? (i := 615) rfl
set_option maxRecDepth 20000 in
theorem kd_X3_level : Cond.code yX3_level cX3_level 7 (some .int) ∈ zm_tb := List.mem_of_getElem? (i := 620) rfl
set_option maxRecDepth 20000 in
theorem ks_X3_level : Cond.instanceMethod yX3_level ∈ zm_tb := List.mem_of_getElem? (i := 618) rfl
set_option maxRecDepth 20000 in
theorem kl_X3_level : Cond.selects RX3 yX3_level yX3_level ∈ zm_tb := List.mem_of_getElem? (i := 619) rfl
set_option maxRecDepth 20000 in
theorem kd_X1_sidesAt : Cond.code yX1_sidesAt cX1_sidesAt 3 (some .int) ∈ zm_tb := List.mem_of_getElem? (i := 624) rfl
set_option maxRecDepth 20000 in
theorem ks_X1_sidesAt : Cond.instanceMethod yX1_sidesAt ∈ zm_tb := List.mem_of_getElem? (i := 622) rfl
set_option maxRecDepth 20000 in
theorem kl_X1_sidesAt : Cond.selects RX1 yX1_sidesAt yX1_sidesAt ∈ zm_tb := List.mem_of_getElem? (i := 623) rfl
set_option maxRecDepth 20000 in
theorem kd_X1_hangsBack : Cond.code yX1_hangsBack cX1_hangsBack 3 (some .boolean) ∈ zm_tb := List.mem_of_getElem? (i := 628) rfl
set_option maxRecDepth 20000 in
theorem ks_X1_hangsBack : Cond.instanceMethod yX1_hangsBack ∈ zm_tb := List.mem_of_getElem? (i := 626) rfl
set_option maxRecDepth 20000 in
theorem kl_X1_hangsBack : Cond.selects RX1 yX1_hangsBack yX1_hangsBack ∈ zm_tb := List.mem_of_getElem? (i := 627) rfl
set_option maxRecDepth 20000 in
theorem kd_X3_stubOf : Cond.code yX3_stubOf cX3_stubOf 4 (some .int) ∈ zm_tb := List.mem_of_getElem? (i := 633) rfl
set_option maxRecDepth 20000 in
theorem ks_X3_stubOf : Cond.instanceMethod yX3_stubOf ∈ zm_tb := List.mem_of_getElem? (i := 631) rfl
set_option maxRecDepth 20000 in
theorem kl_X3_stubOf : Cond.selects RX3 yX3_stubOf yX3_stubOf ∈ zm_tb := List.mem_of_getElem? (i := 632) rfl
set_option maxRecDepth 20000 in
theorem kd_X4_level : Cond.code yX4_level cX4_level 7 (some .int) ∈ zm_tb := List.mem_of_getElem? (i := 637) rfl
set_option maxRecDepth 20000 in
theorem ks_X4_level : Cond.instanceMethod yX4_level ∈ zm_tb := List.mem_of_getElem? (i := 635) rfl
set_option maxRecDepth 20000 in
theorem kl_X4_level : Cond.selects RX4 yX4_level yX4_level ∈ zm_tb := List.mem_of_getElem? (i := 636) rfl
set_option maxRecDepth 20000 in
theorem kd_X3_feather : Cond.code yX3_feather cX3_feather 5 (some .int) ∈ zm_tb := List.mem_of_getElem? (i := 641) rfl
set_option maxRecDepth 20000 in
theorem ks_X3_feather : Cond.instanceMethod yX3_feather ∈ zm_tb := List.mem_of_getElem? (i := 639) rfl
set_option maxRecDepth 20000 in
theorem kl_X3_feather : Cond.selects RX3 yX3_feather yX3_feather ∈ zm_tb := List.mem_of_getElem? (i := 640) rfl
set_option maxRecDepth 20000 in
theorem kd_X4_feather : Cond.code yX4_feather cX4_feather 4 (some .int) ∈ zm_tb := List.mem_of_getElem? (i := 645) rfl
set_option maxRecDepth 20000 in
theorem ks_X4_feather : Cond.instanceMethod yX4_feather ∈ zm_tb := List.mem_of_getElem? (i := 643) rfl
set_option maxRecDepth 20000 in
theorem kl_X4_feather : Cond.selects RX4 yX4_feather yX4_feather ∈ zm_tb := List.mem_of_getElem? (i := 644) rfl
set_option maxRecDepth 20000 in
theorem kd_X3_lane : Cond.code yX3_lane cX3_lane 5 (some .int) ∈ zm_tb := List.mem_of_getElem? (i := 649) rfl
set_option maxRecDepth 20000 in
theorem ks_X3_lane : Cond.instanceMethod yX3_lane ∈ zm_tb := List.mem_of_getElem? (i := 647) rfl
set_option maxRecDepth 20000 in
theorem kl_X3_lane : Cond.selects RX3 yX3_lane yX3_lane ∈ zm_tb := List.mem_of_getElem? (i := 648) rfl
set_option maxRecDepth 20000 in
theorem kd_X1_laneAt : Cond.code yX1_laneAt cX1_laneAt 5 (some .int) ∈ zm_tb := List.mem_of_getElem? (i := 653) rfl
set_option maxRecDepth 20000 in
theorem ks_X1_laneAt : Cond.instanceMethod yX1_laneAt ∈ zm_tb := List.mem_of_getElem? (i := 651) rfl
set_option maxRecDepth 20000 in
theorem kl_X1_laneAt : Cond.selects RX1 yX1_laneAt yX1_laneAt ∈ zm_tb := List.mem_of_getElem? (i := 652) rfl
set_option maxRecDepth 20000 in
theorem kd_X4_lane : Cond.code yX4_lane cX4_lane 4 (some .int) ∈ zm_tb := List.mem_of_getElem? (i := 658) rfl
set_option maxRecDepth 20000 in
theorem ks_X4_lane : Cond.instanceMethod yX4_lane ∈ zm_tb := List.mem_of_getElem? (i := 656) rfl
set_option maxRecDepth 20000 in
theorem kl_X4_lane : Cond.selects RX4 yX4_lane yX4_lane ∈ zm_tb := List.mem_of_getElem? (i := 657) rfl
set_option maxRecDepth 20000 in
theorem kd_X4_laneAt : Cond.code yX4_laneAt cX4_laneAt 6 (some .int) ∈ zm_tb := List.mem_of_getElem? (i := 662) rfl
set_option maxRecDepth 20000 in
theorem ks_X4_laneAt : Cond.instanceMethod yX4_laneAt ∈ zm_tb := List.mem_of_getElem? (i := 660) rfl
set_option maxRecDepth 20000 in
theorem kl_X4_laneAt : Cond.selects RX4 yX4_laneAt yX4_laneAt ∈ zm_tb := List.mem_of_getElem? (i := 661) rfl
set_option maxRecDepth 20000 in
theorem kd_X3_rest : Cond.code yX3_rest cX3_rest 7 (some .int) ∈ zm_tb := List.mem_of_getElem? (i := 666) rfl
set_option maxRecDepth 20000 in
theorem ks_X3_rest : Cond.instanceMethod yX3_rest ∈ zm_tb := List.mem_of_getElem? (i := 664) rfl
set_option maxRecDepth 20000 in
theorem kl_X3_rest : Cond.selects RX3 yX3_rest yX3_rest ∈ zm_tb := List.mem_of_getElem? (i := 665) rfl
set_option maxRecDepth 20000 in
theorem kd_X3_noteBeside : Cond.code yX3_noteBeside cX3_noteBeside 6 (some (.object "StemBeams$Event")) ∈ zm_tb := List.mem_of_getElem? (i := 670) rfl
set_option maxRecDepth 20000 in
theorem ks_X3_noteBeside : Cond.instanceMethod yX3_noteBeside ∈ zm_tb := List.mem_of_getElem? (i := 668) rfl
set_option maxRecDepth 20000 in
theorem kl_X3_noteBeside : Cond.selects RX3 yX3_noteBeside yX3_noteBeside ∈ zm_tb := List.mem_of_getElem? (i := 669) rfl
set_option maxRecDepth 20000 in
theorem kd_X1_clearOf : Cond.code yX1_clearOf cX1_clearOf 5 (some .int) ∈ zm_tb := List.mem_of_getElem? (i := 674) rfl
set_option maxRecDepth 20000 in
theorem ks_X1_clearOf : Cond.instanceMethod yX1_clearOf ∈ zm_tb := List.mem_of_getElem? (i := 672) rfl
set_option maxRecDepth 20000 in
theorem kl_X1_clearOf : Cond.selects RX1 yX1_clearOf yX1_clearOf ∈ zm_tb := List.mem_of_getElem? (i := 673) rfl
set_option maxRecDepth 20000 in
theorem kd_J9_floorMod_7cf53 : Cond.code yJ9_floorMod_7cf53 cJ9_floorMod_7cf53 3 (some .int) ∈ zm_tb := List.mem_of_getElem? (i := 680) rfl
set_option maxRecDepth 20000 in
theorem ks_J9_floorMod_7cf53 : Cond.static yJ9_floorMod_7cf53 ∈ zm_tb := List.mem_of_getElem? (i := 678) rfl
set_option maxRecDepth 20000 in
theorem kd_X4_rest : Cond.code yX4_rest cX4_rest 8 (some .int) ∈ zm_tb := List.mem_of_getElem? (i := 684) rfl
set_option maxRecDepth 20000 in
theorem ks_X4_rest : Cond.instanceMethod yX4_rest ∈ zm_tb := List.mem_of_getElem? (i := 682) rfl
set_option maxRecDepth 20000 in
theorem kl_X4_rest : Cond.selects RX4 yX4_rest yX4_rest ∈ zm_tb := List.mem_of_getElem? (i := 683) rfl
set_option maxRecDepth 20000 in
theorem kd_X3_share : Cond.code yX3_share cX3_share 5 (some .long) ∈ zm_tb := List.mem_of_getElem? (i := 693) rfl
set_option maxRecDepth 20000 in
theorem ks_X3_share : Cond.instanceMethod yX3_share ∈ zm_tb := List.mem_of_getElem? (i := 691) rfl
set_option maxRecDepth 20000 in
theorem kl_X3_share : Cond.selects RX3 yX3_share yX3_share ∈ zm_tb := List.mem_of_getElem? (i := 692) rfl
set_option maxRecDepth 20000 in
theorem kd_X1_countWith : Cond.code yX1_countWith cX1_countWith 4 (some .int) ∈ zm_tb := List.mem_of_getElem? (i := 699) rfl
set_option maxRecDepth 20000 in
theorem ks_X1_countWith : Cond.instanceMethod yX1_countWith ∈ zm_tb := List.mem_of_getElem? (i := 697) rfl
set_option maxRecDepth 20000 in
theorem kl_X1_countWith : Cond.selects RX1 yX1_countWith yX1_countWith ∈ zm_tb := List.mem_of_getElem? (i := 698) rfl
set_option maxRecDepth 20000 in
theorem kd_X1_lengthsWith : Cond.code yX1_lengthsWith cX1_lengthsWith 5 (some .long) ∈ zm_tb := List.mem_of_getElem? (i := 703) rfl
set_option maxRecDepth 20000 in
theorem ks_X1_lengthsWith : Cond.instanceMethod yX1_lengthsWith ∈ zm_tb := List.mem_of_getElem? (i := 701) rfl
set_option maxRecDepth 20000 in
theorem kl_X1_lengthsWith : Cond.selects RX1 yX1_lengthsWith yX1_lengthsWith ∈ zm_tb := List.mem_of_getElem? (i := 702) rfl
set_option maxRecDepth 20000 in
theorem kd_X4_share : Cond.code yX4_share cX4_share 7 (some .long) ∈ zm_tb := List.mem_of_getElem? (i := 707) rfl
set_option maxRecDepth 20000 in
theorem ks_X4_share : Cond.instanceMethod yX4_share ∈ zm_tb := List.mem_of_getElem? (i := 705) rfl
set_option maxRecDepth 20000 in
theorem kl_X4_share : Cond.selects RX4 yX4_share yX4_share ∈ zm_tb := List.mem_of_getElem? (i := 706) rfl
set_option maxRecDepth 20000 in
theorem kd_X4_thrown : Cond.code yX4_thrown cX4_thrown 1 (some .int) ∈ zm_tb := List.mem_of_getElem? (i := 711) rfl
set_option maxRecDepth 20000 in
theorem ks_X4_thrown : Cond.instanceMethod yX4_thrown ∈ zm_tb := List.mem_of_getElem? (i := 709) rfl
set_option maxRecDepth 20000 in
theorem kl_X4_thrown : Cond.selects RX4 yX4_thrown yX4_thrown ∈ zm_tb := List.mem_of_getElem? (i := 710) rfl
set_option maxRecDepth 20000 in
theorem kd_X3_event : Cond.code yX3_event cX3_event 4 (some .int) ∈ zm_tb := List.mem_of_getElem? (i := 715) rfl
set_option maxRecDepth 20000 in
theorem ks_X3_event : Cond.instanceMethod yX3_event ∈ zm_tb := List.mem_of_getElem? (i := 713) rfl
set_option maxRecDepth 20000 in
theorem kl_X3_event : Cond.selects RX3 yX3_event yX3_event ∈ zm_tb := List.mem_of_getElem? (i := 714) rfl
set_option maxRecDepth 20000 in
theorem kd_X4_event : Cond.code yX4_event cX4_event 3 (some .int) ∈ zm_tb := List.mem_of_getElem? (i := 719) rfl
set_option maxRecDepth 20000 in
theorem ks_X4_event : Cond.instanceMethod yX4_event ∈ zm_tb := List.mem_of_getElem? (i := 717) rfl
set_option maxRecDepth 20000 in
theorem kl_X4_event : Cond.selects RX4 yX4_event yX4_event ∈ zm_tb := List.mem_of_getElem? (i := 718) rfl
set_option maxRecDepth 20000 in
theorem kd_X3_count : Cond.code yX3_count cX3_count 2 (some .int) ∈ zm_tb := List.mem_of_getElem? (i := 723) rfl
set_option maxRecDepth 20000 in
theorem ks_X3_count : Cond.instanceMethod yX3_count ∈ zm_tb := List.mem_of_getElem? (i := 721) rfl
set_option maxRecDepth 20000 in
theorem kl_X3_count : Cond.selects RX3 yX3_count yX3_count ∈ zm_tb := List.mem_of_getElem? (i := 722) rfl
set_option maxRecDepth 20000 in
theorem kd_X4_count : Cond.code yX4_count cX4_count 2 (some .int) ∈ zm_tb := List.mem_of_getElem? (i := 727) rfl
set_option maxRecDepth 20000 in
theorem ks_X4_count : Cond.instanceMethod yX4_count ∈ zm_tb := List.mem_of_getElem? (i := 725) rfl
set_option maxRecDepth 20000 in
theorem kl_X4_count : Cond.selects RX4 yX4_count yX4_count ∈ zm_tb := List.mem_of_getElem? (i := 726) rfl
set_option maxRecDepth 20000 in
theorem kd_X3_clear : Cond.code yX3_clear cX3_clear 2 (some .int) ∈ zm_tb := List.mem_of_getElem? (i := 731) rfl
set_option maxRecDepth 20000 in
theorem ks_X3_clear : Cond.instanceMethod yX3_clear ∈ zm_tb := List.mem_of_getElem? (i := 729) rfl
set_option maxRecDepth 20000 in
theorem kl_X3_clear : Cond.selects RX3 yX3_clear yX3_clear ∈ zm_tb := List.mem_of_getElem? (i := 730) rfl
set_option maxRecDepth 20000 in
theorem kd_X4_clear : Cond.code yX4_clear cX4_clear 2 (some .int) ∈ zm_tb := List.mem_of_getElem? (i := 735) rfl
set_option maxRecDepth 20000 in
theorem ks_X4_clear : Cond.instanceMethod yX4_clear ∈ zm_tb := List.mem_of_getElem? (i := 733) rfl
set_option maxRecDepth 20000 in
theorem kl_X4_clear : Cond.selects RX4 yX4_clear yX4_clear ∈ zm_tb := List.mem_of_getElem? (i := 734) rfl
set_option maxRecDepth 20000 in
theorem ki_X0 : Cond.initialized RX0 ∈ zm_tb := List.mem_of_getElem? (i := 15) rfl
set_option maxRecDepth 20000 in
theorem kn_X0 : Cond.instantiable RX0 4 ∈ zm_tb := List.mem_of_getElem? (i := 14) rfl
set_option maxRecDepth 20000 in
theorem ki_X1 : Cond.initialized RX1 ∈ zm_tb := List.mem_of_getElem? (i := 26) rfl
set_option maxRecDepth 20000 in
theorem kn_X1 : Cond.instantiable RX1 9 ∈ zm_tb := List.mem_of_getElem? (i := 25) rfl
set_option maxRecDepth 20000 in
theorem ki_X2 : Cond.initialized RX2 ∈ zm_tb := List.mem_of_getElem? (i := 24) rfl
set_option maxRecDepth 20000 in
theorem kn_X2 : Cond.instantiable RX2 18 ∈ zm_tb := List.mem_of_getElem? (i := 23) rfl
set_option maxRecDepth 20000 in
theorem ki_X3 : Cond.initialized RX3 ∈ zm_tb := List.mem_of_getElem? (i := 2) rfl
set_option maxRecDepth 20000 in
theorem kn_X3 : Cond.instantiable RX3 8 ∈ zm_tb := List.mem_of_getElem? (i := 1) rfl
set_option maxRecDepth 20000 in
theorem ki_X4 : Cond.initialized RX4 ∈ zm_tb := List.mem_of_getElem? (i := 5) rfl
set_option maxRecDepth 20000 in
theorem kn_X4 : Cond.instantiable RX4 29 ∈ zm_tb := List.mem_of_getElem? (i := 4) rfl
set_option maxRecDepth 20000 in
theorem ki_J9 : Cond.initialized RJ9 ∈ zm_tb := List.mem_of_getElem? (i := 679) rfl
set_option maxRecDepth 20000 in
theorem ki_L : Cond.initialized RL ∈ zm_tb := List.mem_of_getElem? (i := 687) rfl
set_option maxRecDepth 20000 in
theorem ka_int : Cond.arrayClass .int ∈ zm_tb := List.mem_of_getElem? (i := 21) rfl
set_option maxRecDepth 20000 in
theorem ka_long : Cond.arrayClass .long ∈ zm_tb := List.mem_of_getElem? (i := 6) rfl
set_option maxRecDepth 20000 in
theorem km_mx1 : Cond.static Lib.Math.max.name ∈ zm_tb := List.mem_of_getElem? (i := 47) rfl
set_option maxRecDepth 20000 in
theorem km_mn1 : Cond.static Lib.Math.min.name ∈ zm_tb := List.mem_of_getElem? (i := 191) rfl
set_option maxRecDepth 20000 in
theorem kz_X3_32 : Cond.methodLinkNest RX3 32 yX2_init "StemBeams" ∈ zm_nw := by simp [zm_nw]
set_option maxRecDepth 20000 in
theorem kz_X1_124 : Cond.methodLinkNest RX1 124 yX3_rounded "StemBeams" ∈ zm_nw := by simp [zm_nw]
set_option maxRecDepth 20000 in
theorem km_2 : Cond.initialized "java/lang/Math" ∈ zm_tb := List.mem_of_getElem? (i := 48) rfl
set_option maxRecDepth 20000 in
theorem km_mx3 : Cond.code Lib.Math.max.name Lib.Math.max.code 2 (some .int) ∈ zm_tb := List.mem_of_getElem? (i := 49) rfl
set_option maxRecDepth 20000 in
theorem km_mn3 : Cond.code Lib.Math.min.name Lib.Math.min.code 2 (some .int) ∈ zm_tb := List.mem_of_getElem? (i := 192) rfl
set_option maxRecDepth 20000 in
theorem ko_1 : Cond.instanceMethod objectInit ∈ zm_tb := List.mem_of_getElem? (i := 11) rfl
set_option maxRecDepth 20000 in
theorem ko_2 : Cond.code objectInit ⟨#[0xb1]⟩ 1 none ∈ zm_tb := List.mem_of_getElem? (i := 12) rfl
