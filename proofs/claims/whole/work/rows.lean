section
-- ===== PART A: goes FIRST, ahead of the names: the tables' words, and 'selects' of the private methods out of them =====
/-- a private method of a class that the tables say can be made, by its rows of tables_1 -/
def lw_okq (q : MethodName × Nat) : Prop := (q.1.cls ≠ "java/lang/invoke/MethodHandle" ∧ q.1.cls ≠ "java/lang/invoke/VarHandle") ∧ Cond.instantiable q.1.cls q.2 ∈ tables_1 ∧ Cond.privateMethod q.1 ∈ tables_1 ∧ Cond.instanceMethod q.1 ∈ tables_1
theorem lw_p0 : lw_okq (⟨"StemBeams$Bars", "addUsualGroups", "(II)V"⟩, 4) := ⟨⟨by decide +kernel, by decide +kernel⟩, List.mem_of_getElem? (i := 20) (by decide +kernel), List.mem_of_getElem? (i := 33) (by decide +kernel), List.mem_of_getElem? (i := 34) (by decide +kernel)⟩
theorem lw_p1 : lw_okq (⟨"StemBeams$Bars", "addGroup", "(I)V"⟩, 4) := ⟨⟨by decide +kernel, by decide +kernel⟩, List.mem_of_getElem? (i := 20) (by decide +kernel), List.mem_of_getElem? (i := 40) (by decide +kernel), List.mem_of_getElem? (i := 41) (by decide +kernel)⟩
theorem lw_p2 : lw_okq (⟨"StemBeams$Bars", "addToldGroups", "(I)V"⟩, 4) := ⟨⟨by decide +kernel, by decide +kernel⟩, List.mem_of_getElem? (i := 20) (by decide +kernel), List.mem_of_getElem? (i := 44) (by decide +kernel), List.mem_of_getElem? (i := 45) (by decide +kernel)⟩
theorem lw_p3 : lw_okq (⟨"StemBeams", "append", "(III)I"⟩, 8) := ⟨⟨by decide +kernel, by decide +kernel⟩, List.mem_of_getElem? (i := 12) (by decide +kernel), List.mem_of_getElem? (i := 236) (by decide +kernel), List.mem_of_getElem? (i := 237) (by decide +kernel)⟩
theorem lw_p4 : lw_okq (⟨"StemBeams", "takeBeamsAway", "()V"⟩, 8) := ⟨⟨by decide +kernel, by decide +kernel⟩, List.mem_of_getElem? (i := 12) (by decide +kernel), List.mem_of_getElem? (i := 247) (by decide +kernel), List.mem_of_getElem? (i := 248) (by decide +kernel)⟩
theorem lw_p5 : lw_okq (⟨"StemBeams", "eventAt", "(I)LStemBeams$Event;"⟩, 8) := ⟨⟨by decide +kernel, by decide +kernel⟩, List.mem_of_getElem? (i := 12) (by decide +kernel), List.mem_of_getElem? (i := 259) (by decide +kernel), List.mem_of_getElem? (i := 260) (by decide +kernel)⟩
theorem lw_p6 : lw_okq (⟨"StemBeams", "groupVoice", "(I)V"⟩, 8) := ⟨⟨by decide +kernel, by decide +kernel⟩, List.mem_of_getElem? (i := 12) (by decide +kernel), List.mem_of_getElem? (i := 318) (by decide +kernel), List.mem_of_getElem? (i := 319) (by decide +kernel)⟩
theorem lw_p7 : lw_okq (⟨"StemBeams", "freshRow", "()LStemBeams$Beam;"⟩, 8) := ⟨⟨by decide +kernel, by decide +kernel⟩, List.mem_of_getElem? (i := 12) (by decide +kernel), List.mem_of_getElem? (i := 322) (by decide +kernel), List.mem_of_getElem? (i := 323) (by decide +kernel)⟩
theorem lw_p8 : lw_okq (⟨"StemBeams", "goesOn", "(LStemBeams$Beam;LStemBeams$Event;)Z"⟩, 8) := ⟨⟨by decide +kernel, by decide +kernel⟩, List.mem_of_getElem? (i := 12) (by decide +kernel), List.mem_of_getElem? (i := 335) (by decide +kernel), List.mem_of_getElem? (i := 336) (by decide +kernel)⟩
theorem lw_p9 : lw_okq (⟨"StemBeams", "finish", "(LStemBeams$Beam;)V"⟩, 8) := ⟨⟨by decide +kernel, by decide +kernel⟩, List.mem_of_getElem? (i := 12) (by decide +kernel), List.mem_of_getElem? (i := 348) (by decide +kernel), List.mem_of_getElem? (i := 349) (by decide +kernel)⟩
theorem lw_p10 : lw_okq (⟨"StemBeams", "isTwoVoiced", "()Z"⟩, 8) := ⟨⟨by decide +kernel, by decide +kernel⟩, List.mem_of_getElem? (i := 12) (by decide +kernel), List.mem_of_getElem? (i := 352) (by decide +kernel), List.mem_of_getElem? (i := 353) (by decide +kernel)⟩
theorem lw_p11 : lw_okq (⟨"StemBeams$Beam", "isOnBothStaves", "()Z"⟩, 9) := ⟨⟨by decide +kernel, by decide +kernel⟩, List.mem_of_getElem? (i := 146) (by decide +kernel), List.mem_of_getElem? (i := 360) (by decide +kernel), List.mem_of_getElem? (i := 361) (by decide +kernel)⟩
theorem lw_p12 : lw_okq (⟨"StemBeams$Beam", "wayByHeads", "()I"⟩, 9) := ⟨⟨by decide +kernel, by decide +kernel⟩, List.mem_of_getElem? (i := 146) (by decide +kernel), List.mem_of_getElem? (i := 368) (by decide +kernel), List.mem_of_getElem? (i := 369) (by decide +kernel)⟩
theorem lw_p13 : lw_okq (⟨"StemBeams$Beam", "isInnerFarther", "(II)Z"⟩, 9) := ⟨⟨by decide +kernel, by decide +kernel⟩, List.mem_of_getElem? (i := 146) (by decide +kernel), List.mem_of_getElem? (i := 398) (by decide +kernel), List.mem_of_getElem? (i := 399) (by decide +kernel)⟩
theorem lw_p14 : lw_okq (⟨"StemBeams$Beam", "levelHeight", "()I"⟩, 9) := ⟨⟨by decide +kernel, by decide +kernel⟩, List.mem_of_getElem? (i := 146) (by decide +kernel), List.mem_of_getElem? (i := 406) (by decide +kernel), List.mem_of_getElem? (i := 407) (by decide +kernel)⟩
theorem lw_p15 : lw_okq (⟨"StemBeams$Beam", "slantBadness", "(I)J"⟩, 9) := ⟨⟨by decide +kernel, by decide +kernel⟩, List.mem_of_getElem? (i := 146) (by decide +kernel), List.mem_of_getElem? (i := 411) (by decide +kernel), List.mem_of_getElem? (i := 412) (by decide +kernel)⟩
def lw_privs_1 : List (MethodName × Nat) := [(⟨"StemBeams$Bars", "addUsualGroups", "(II)V"⟩, 4), (⟨"StemBeams$Bars", "addGroup", "(I)V"⟩, 4), (⟨"StemBeams$Bars", "addToldGroups", "(I)V"⟩, 4), (⟨"StemBeams", "append", "(III)I"⟩, 8), (⟨"StemBeams", "takeBeamsAway", "()V"⟩, 8), (⟨"StemBeams", "eventAt", "(I)LStemBeams$Event;"⟩, 8), (⟨"StemBeams", "groupVoice", "(I)V"⟩, 8), (⟨"StemBeams", "freshRow", "()LStemBeams$Beam;"⟩, 8), (⟨"StemBeams", "goesOn", "(LStemBeams$Beam;LStemBeams$Event;)Z"⟩, 8), (⟨"StemBeams", "finish", "(LStemBeams$Beam;)V"⟩, 8), (⟨"StemBeams", "isTwoVoiced", "()Z"⟩, 8), (⟨"StemBeams$Beam", "isOnBothStaves", "()Z"⟩, 9), (⟨"StemBeams$Beam", "wayByHeads", "()I"⟩, 9), (⟨"StemBeams$Beam", "isInnerFarther", "(II)Z"⟩, 9), (⟨"StemBeams$Beam", "levelHeight", "()I"⟩, 9), (⟨"StemBeams$Beam", "slantBadness", "(I)J"⟩, 9)]
theorem lw_r1 : ∀ q ∈ lw_privs_1, lw_okq q := List.forall_mem_cons.mpr ⟨lw_p0, List.forall_mem_cons.mpr ⟨lw_p1, List.forall_mem_cons.mpr ⟨lw_p2, List.forall_mem_cons.mpr ⟨lw_p3, List.forall_mem_cons.mpr ⟨lw_p4, List.forall_mem_cons.mpr ⟨lw_p5, List.forall_mem_cons.mpr ⟨lw_p6, List.forall_mem_cons.mpr ⟨lw_p7, List.forall_mem_cons.mpr ⟨lw_p8, List.forall_mem_cons.mpr ⟨lw_p9, List.forall_mem_cons.mpr ⟨lw_p10, List.forall_mem_cons.mpr ⟨lw_p11, List.forall_mem_cons.mpr ⟨lw_p12, List.forall_mem_cons.mpr ⟨lw_p13, List.forall_mem_cons.mpr ⟨lw_p14, List.forall_mem_cons.mpr ⟨lw_p15, fun _ h => absurd h List.not_mem_nil⟩⟩⟩⟩⟩⟩⟩⟩⟩⟩⟩⟩⟩⟩⟩⟩
theorem lw_p16 : lw_okq (⟨"StemBeams$Beam", "tryHeights", "(II)V"⟩, 9) := ⟨⟨by decide +kernel, by decide +kernel⟩, List.mem_of_getElem? (i := 146) (by decide +kernel), List.mem_of_getElem? (i := 416) (by decide +kernel), List.mem_of_getElem? (i := 417) (by decide +kernel)⟩
theorem lw_p17 : lw_okq (⟨"StemBeams$Beam", "wedgeBadness", "(I)I"⟩, 9) := ⟨⟨by decide +kernel, by decide +kernel⟩, List.mem_of_getElem? (i := 146) (by decide +kernel), List.mem_of_getElem? (i := 424) (by decide +kernel), List.mem_of_getElem? (i := 425) (by decide +kernel)⟩
theorem lw_p18 : lw_okq (⟨"StemBeams", "beamAt", "(I)LStemBeams$Beam;"⟩, 8) := ⟨⟨by decide +kernel, by decide +kernel⟩, List.mem_of_getElem? (i := 12) (by decide +kernel), List.mem_of_getElem? (i := 445) (by decide +kernel), List.mem_of_getElem? (i := 446) (by decide +kernel)⟩
theorem lw_p19 : lw_okq (⟨"StemBeams$Beam", "hangsBack", "(II)Z"⟩, 9) := ⟨⟨by decide +kernel, by decide +kernel⟩, List.mem_of_getElem? (i := 146) (by decide +kernel), List.mem_of_getElem? (i := 489) (by decide +kernel), List.mem_of_getElem? (i := 490) (by decide +kernel)⟩
theorem lw_p20 : lw_okq (⟨"StemBeams", "stubOf", "(LStemBeams$Event;LStemBeams$Beam;)I"⟩, 8) := ⟨⟨by decide +kernel, by decide +kernel⟩, List.mem_of_getElem? (i := 12) (by decide +kernel), List.mem_of_getElem? (i := 494) (by decide +kernel), List.mem_of_getElem? (i := 495) (by decide +kernel)⟩
theorem lw_p21 : lw_okq (⟨"StemBeams", "noteBeside", "(LStemBeams$Event;I)LStemBeams$Event;"⟩, 8) := ⟨⟨by decide +kernel, by decide +kernel⟩, List.mem_of_getElem? (i := 12) (by decide +kernel), List.mem_of_getElem? (i := 515) (by decide +kernel), List.mem_of_getElem? (i := 516) (by decide +kernel)⟩
theorem lw_p22 : lw_okq (⟨"java/lang/Throwable", "fillInStackTrace", "(I)Ljava/lang/Throwable;"⟩, 6) := ⟨⟨by decide +kernel, by decide +kernel⟩, List.mem_of_getElem? (i := 584) (by decide +kernel), List.mem_of_getElem? (i := 582) (by decide +kernel), List.mem_of_getElem? (i := 583) (by decide +kernel)⟩
theorem lw_p23 : lw_okq (⟨"StemBeamsModel", "begin", "()V"⟩, 29) := ⟨⟨by decide +kernel, by decide +kernel⟩, List.mem_of_getElem? (i := 623) (by decide +kernel), List.mem_of_getElem? (i := 629) (by decide +kernel), List.mem_of_getElem? (i := 630) (by decide +kernel)⟩
theorem lw_p24 : lw_okq (⟨"StemBeamsModel", "measure", "(III)Z"⟩, 29) := ⟨⟨by decide +kernel, by decide +kernel⟩, List.mem_of_getElem? (i := 623) (by decide +kernel), List.mem_of_getElem? (i := 633) (by decide +kernel), List.mem_of_getElem? (i := 634) (by decide +kernel)⟩
theorem lw_p25 : lw_okq (⟨"StemBeamsModel", "comes", "(IIIII)I"⟩, 29) := ⟨⟨by decide +kernel, by decide +kernel⟩, List.mem_of_getElem? (i := 623) (by decide +kernel), List.mem_of_getElem? (i := 745) (by decide +kernel), List.mem_of_getElem? (i := 746) (by decide +kernel)⟩
theorem lw_p26 : lw_okq (⟨"StemBeamsModel", "isEvent", "(I)Z"⟩, 29) := ⟨⟨by decide +kernel, by decide +kernel⟩, List.mem_of_getElem? (i := 623) (by decide +kernel), List.mem_of_getElem? (i := 761) (by decide +kernel), List.mem_of_getElem? (i := 762) (by decide +kernel)⟩
theorem lw_p27 : lw_okq (⟨"StemBeamsModel", "groupOf", "(I)I"⟩, 29) := ⟨⟨by decide +kernel, by decide +kernel⟩, List.mem_of_getElem? (i := 623) (by decide +kernel), List.mem_of_getElem? (i := 789) (by decide +kernel), List.mem_of_getElem? (i := 790) (by decide +kernel)⟩
theorem lw_p28 : lw_okq (⟨"StemBeamsModel", "ends", "(I)V"⟩, 29) := ⟨⟨by decide +kernel, by decide +kernel⟩, List.mem_of_getElem? (i := 623) (by decide +kernel), List.mem_of_getElem? (i := 793) (by decide +kernel), List.mem_of_getElem? (i := 794) (by decide +kernel)⟩
theorem lw_p29 : lw_okq (⟨"StemBeamsModel", "direction", "(I)I"⟩, 29) := ⟨⟨by decide +kernel, by decide +kernel⟩, List.mem_of_getElem? (i := 623) (by decide +kernel), List.mem_of_getElem? (i := 797) (by decide +kernel), List.mem_of_getElem? (i := 798) (by decide +kernel)⟩
theorem lw_p30 : lw_okq (⟨"StemBeamsModel", "noteAt", "(II)I"⟩, 29) := ⟨⟨by decide +kernel, by decide +kernel⟩, List.mem_of_getElem? (i := 623) (by decide +kernel), List.mem_of_getElem? (i := 801) (by decide +kernel), List.mem_of_getElem? (i := 802) (by decide +kernel)⟩
theorem lw_p31 : lw_okq (⟨"StemBeamsModel", "highest", "(I)I"⟩, 29) := ⟨⟨by decide +kernel, by decide +kernel⟩, List.mem_of_getElem? (i := 623) (by decide +kernel), List.mem_of_getElem? (i := 805) (by decide +kernel), List.mem_of_getElem? (i := 806) (by decide +kernel)⟩
def lw_privs_2 : List (MethodName × Nat) := [(⟨"StemBeams$Beam", "tryHeights", "(II)V"⟩, 9), (⟨"StemBeams$Beam", "wedgeBadness", "(I)I"⟩, 9), (⟨"StemBeams", "beamAt", "(I)LStemBeams$Beam;"⟩, 8), (⟨"StemBeams$Beam", "hangsBack", "(II)Z"⟩, 9), (⟨"StemBeams", "stubOf", "(LStemBeams$Event;LStemBeams$Beam;)I"⟩, 8), (⟨"StemBeams", "noteBeside", "(LStemBeams$Event;I)LStemBeams$Event;"⟩, 8), (⟨"java/lang/Throwable", "fillInStackTrace", "(I)Ljava/lang/Throwable;"⟩, 6), (⟨"StemBeamsModel", "begin", "()V"⟩, 29), (⟨"StemBeamsModel", "measure", "(III)Z"⟩, 29), (⟨"StemBeamsModel", "comes", "(IIIII)I"⟩, 29), (⟨"StemBeamsModel", "isEvent", "(I)Z"⟩, 29), (⟨"StemBeamsModel", "groupOf", "(I)I"⟩, 29), (⟨"StemBeamsModel", "ends", "(I)V"⟩, 29), (⟨"StemBeamsModel", "direction", "(I)I"⟩, 29), (⟨"StemBeamsModel", "noteAt", "(II)I"⟩, 29), (⟨"StemBeamsModel", "highest", "(I)I"⟩, 29)]
theorem lw_r2 : ∀ q ∈ lw_privs_2, lw_okq q := List.forall_mem_cons.mpr ⟨lw_p16, List.forall_mem_cons.mpr ⟨lw_p17, List.forall_mem_cons.mpr ⟨lw_p18, List.forall_mem_cons.mpr ⟨lw_p19, List.forall_mem_cons.mpr ⟨lw_p20, List.forall_mem_cons.mpr ⟨lw_p21, List.forall_mem_cons.mpr ⟨lw_p22, List.forall_mem_cons.mpr ⟨lw_p23, List.forall_mem_cons.mpr ⟨lw_p24, List.forall_mem_cons.mpr ⟨lw_p25, List.forall_mem_cons.mpr ⟨lw_p26, List.forall_mem_cons.mpr ⟨lw_p27, List.forall_mem_cons.mpr ⟨lw_p28, List.forall_mem_cons.mpr ⟨lw_p29, List.forall_mem_cons.mpr ⟨lw_p30, List.forall_mem_cons.mpr ⟨lw_p31, fun _ h => absurd h List.not_mem_nil⟩⟩⟩⟩⟩⟩⟩⟩⟩⟩⟩⟩⟩⟩⟩⟩
theorem lw_p32 : lw_okq (⟨"StemBeamsModel", "lowest", "(I)I"⟩, 29) := ⟨⟨by decide +kernel, by decide +kernel⟩, List.mem_of_getElem? (i := 623) (by decide +kernel), List.mem_of_getElem? (i := 809) (by decide +kernel), List.mem_of_getElem? (i := 810) (by decide +kernel)⟩
theorem lw_p33 : lw_okq (⟨"StemBeamsModel", "alone", "(I)I"⟩, 29) := ⟨⟨by decide +kernel, by decide +kernel⟩, List.mem_of_getElem? (i := 623) (by decide +kernel), List.mem_of_getElem? (i := 813) (by decide +kernel), List.mem_of_getElem? (i := 814) (by decide +kernel)⟩
theorem lw_p34 : lw_okq (⟨"StemBeamsModel", "isFlat", "(I)Z"⟩, 29) := ⟨⟨by decide +kernel, by decide +kernel⟩, List.mem_of_getElem? (i := 623) (by decide +kernel), List.mem_of_getElem? (i := 817) (by decide +kernel), List.mem_of_getElem? (i := 818) (by decide +kernel)⟩
theorem lw_p35 : lw_okq (⟨"StemBeamsModel", "nearAt", "(II)I"⟩, 29) := ⟨⟨by decide +kernel, by decide +kernel⟩, List.mem_of_getElem? (i := 623) (by decide +kernel), List.mem_of_getElem? (i := 821) (by decide +kernel), List.mem_of_getElem? (i := 822) (by decide +kernel)⟩
theorem lw_p36 : lw_okq (⟨"StemBeamsModel", "upAt", "(II)I"⟩, 29) := ⟨⟨by decide +kernel, by decide +kernel⟩, List.mem_of_getElem? (i := 623) (by decide +kernel), List.mem_of_getElem? (i := 825) (by decide +kernel), List.mem_of_getElem? (i := 826) (by decide +kernel)⟩
theorem lw_p37 : lw_okq (⟨"StemBeamsModel", "near", "(II)I"⟩, 29) := ⟨⟨by decide +kernel, by decide +kernel⟩, List.mem_of_getElem? (i := 623) (by decide +kernel), List.mem_of_getElem? (i := 829) (by decide +kernel), List.mem_of_getElem? (i := 830) (by decide +kernel)⟩
theorem lw_p38 : lw_okq (⟨"StemBeamsModel", "find", "(I)Z"⟩, 29) := ⟨⟨by decide +kernel, by decide +kernel⟩, List.mem_of_getElem? (i := 623) (by decide +kernel), List.mem_of_getElem? (i := 836) (by decide +kernel), List.mem_of_getElem? (i := 837) (by decide +kernel)⟩
theorem lw_p39 : lw_okq (⟨"StemBeamsModel", "more", "(I)I"⟩, 29) := ⟨⟨by decide +kernel, by decide +kernel⟩, List.mem_of_getElem? (i := 623) (by decide +kernel), List.mem_of_getElem? (i := 840) (by decide +kernel), List.mem_of_getElem? (i := 841) (by decide +kernel)⟩
theorem lw_p40 : lw_okq (⟨"StemBeamsModel", "levels", "(I)I"⟩, 29) := ⟨⟨by decide +kernel, by decide +kernel⟩, List.mem_of_getElem? (i := 623) (by decide +kernel), List.mem_of_getElem? (i := 844) (by decide +kernel), List.mem_of_getElem? (i := 845) (by decide +kernel)⟩
theorem lw_p41 : lw_okq (⟨"StemBeamsModel", "badnessOf", "(III)J"⟩, 29) := ⟨⟨by decide +kernel, by decide +kernel⟩, List.mem_of_getElem? (i := 623) (by decide +kernel), List.mem_of_getElem? (i := 849) (by decide +kernel), List.mem_of_getElem? (i := 850) (by decide +kernel)⟩
theorem lw_p42 : lw_okq (⟨"StemBeamsModel", "lengthAt", "(IIII)I"⟩, 29) := ⟨⟨by decide +kernel, by decide +kernel⟩, List.mem_of_getElem? (i := 623) (by decide +kernel), List.mem_of_getElem? (i := 854) (by decide +kernel), List.mem_of_getElem? (i := 855) (by decide +kernel)⟩
theorem lw_p43 : lw_okq (⟨"StemBeamsModel", "heightAt", "(IIII)I"⟩, 29) := ⟨⟨by decide +kernel, by decide +kernel⟩, List.mem_of_getElem? (i := 623) (by decide +kernel), List.mem_of_getElem? (i := 858) (by decide +kernel), List.mem_of_getElem? (i := 859) (by decide +kernel)⟩
theorem lw_p44 : lw_okq (⟨"StemBeamsModel", "want", "(IIZ)I"⟩, 29) := ⟨⟨by decide +kernel, by decide +kernel⟩, List.mem_of_getElem? (i := 623) (by decide +kernel), List.mem_of_getElem? (i := 865) (by decide +kernel), List.mem_of_getElem? (i := 866) (by decide +kernel)⟩
theorem lw_p45 : lw_okq (⟨"StemBeamsModel", "isWedge", "(II)Z"⟩, 29) := ⟨⟨by decide +kernel, by decide +kernel⟩, List.mem_of_getElem? (i := 623) (by decide +kernel), List.mem_of_getElem? (i := 869) (by decide +kernel), List.mem_of_getElem? (i := 870) (by decide +kernel)⟩
theorem lw_p46 : lw_okq (⟨"StemBeamsModel", "isBeam", "(I)Z"⟩, 29) := ⟨⟨by decide +kernel, by decide +kernel⟩, List.mem_of_getElem? (i := 623) (by decide +kernel), List.mem_of_getElem? (i := 879) (by decide +kernel), List.mem_of_getElem? (i := 880) (by decide +kernel)⟩
theorem lw_p47 : lw_okq (⟨"StemBeamsModel", "greatest", "(I)I"⟩, 29) := ⟨⟨by decide +kernel, by decide +kernel⟩, List.mem_of_getElem? (i := 623) (by decide +kernel), List.mem_of_getElem? (i := 883) (by decide +kernel), List.mem_of_getElem? (i := 884) (by decide +kernel)⟩
def lw_privs_3 : List (MethodName × Nat) := [(⟨"StemBeamsModel", "lowest", "(I)I"⟩, 29), (⟨"StemBeamsModel", "alone", "(I)I"⟩, 29), (⟨"StemBeamsModel", "isFlat", "(I)Z"⟩, 29), (⟨"StemBeamsModel", "nearAt", "(II)I"⟩, 29), (⟨"StemBeamsModel", "upAt", "(II)I"⟩, 29), (⟨"StemBeamsModel", "near", "(II)I"⟩, 29), (⟨"StemBeamsModel", "find", "(I)Z"⟩, 29), (⟨"StemBeamsModel", "more", "(I)I"⟩, 29), (⟨"StemBeamsModel", "levels", "(I)I"⟩, 29), (⟨"StemBeamsModel", "badnessOf", "(III)J"⟩, 29), (⟨"StemBeamsModel", "lengthAt", "(IIII)I"⟩, 29), (⟨"StemBeamsModel", "heightAt", "(IIII)I"⟩, 29), (⟨"StemBeamsModel", "want", "(IIZ)I"⟩, 29), (⟨"StemBeamsModel", "isWedge", "(II)Z"⟩, 29), (⟨"StemBeamsModel", "isBeam", "(I)Z"⟩, 29), (⟨"StemBeamsModel", "greatest", "(I)I"⟩, 29)]
theorem lw_r3 : ∀ q ∈ lw_privs_3, lw_okq q := List.forall_mem_cons.mpr ⟨lw_p32, List.forall_mem_cons.mpr ⟨lw_p33, List.forall_mem_cons.mpr ⟨lw_p34, List.forall_mem_cons.mpr ⟨lw_p35, List.forall_mem_cons.mpr ⟨lw_p36, List.forall_mem_cons.mpr ⟨lw_p37, List.forall_mem_cons.mpr ⟨lw_p38, List.forall_mem_cons.mpr ⟨lw_p39, List.forall_mem_cons.mpr ⟨lw_p40, List.forall_mem_cons.mpr ⟨lw_p41, List.forall_mem_cons.mpr ⟨lw_p42, List.forall_mem_cons.mpr ⟨lw_p43, List.forall_mem_cons.mpr ⟨lw_p44, List.forall_mem_cons.mpr ⟨lw_p45, List.forall_mem_cons.mpr ⟨lw_p46, List.forall_mem_cons.mpr ⟨lw_p47, fun _ h => absurd h List.not_mem_nil⟩⟩⟩⟩⟩⟩⟩⟩⟩⟩⟩⟩⟩⟩⟩⟩
theorem lw_p48 : lw_okq (⟨"StemBeamsModel", "beamOf", "(I)I"⟩, 29) := ⟨⟨by decide +kernel, by decide +kernel⟩, List.mem_of_getElem? (i := 623) (by decide +kernel), List.mem_of_getElem? (i := 906) (by decide +kernel), List.mem_of_getElem? (i := 907) (by decide +kernel)⟩
theorem lw_p49 : lw_okq (⟨"StemBeamsModel", "placeIn", "(II)I"⟩, 29) := ⟨⟨by decide +kernel, by decide +kernel⟩, List.mem_of_getElem? (i := 623) (by decide +kernel), List.mem_of_getElem? (i := 910) (by decide +kernel), List.mem_of_getElem? (i := 911) (by decide +kernel)⟩
theorem lw_p50 : lw_okq (⟨"StemBeamsModel", "laneAt", "(III)I"⟩, 29) := ⟨⟨by decide +kernel, by decide +kernel⟩, List.mem_of_getElem? (i := 623) (by decide +kernel), List.mem_of_getElem? (i := 926) (by decide +kernel), List.mem_of_getElem? (i := 927) (by decide +kernel)⟩
def lw_privs_4 : List (MethodName × Nat) := [(⟨"StemBeamsModel", "beamOf", "(I)I"⟩, 29), (⟨"StemBeamsModel", "placeIn", "(II)I"⟩, 29), (⟨"StemBeamsModel", "laneAt", "(III)I"⟩, 29)]
theorem lw_r4 : ∀ q ∈ lw_privs_4, lw_okq q := List.forall_mem_cons.mpr ⟨lw_p48, List.forall_mem_cons.mpr ⟨lw_p49, List.forall_mem_cons.mpr ⟨lw_p50, fun _ h => absurd h List.not_mem_nil⟩⟩⟩
def lw_privs : List (MethodName × Nat) := lw_privs_1 ++ (lw_privs_2 ++ (lw_privs_3 ++ (lw_privs_4)))
def lw_tbl : List Cond := k2_sels lw_privs ++ tables_1
theorem lw_privs_ok : ∀ q ∈ lw_privs, lw_okq q := by
  show ∀ q ∈ lw_privs_1 ++ (lw_privs_2 ++ (lw_privs_3 ++ (lw_privs_4))), lw_okq q
  exact List.forall_mem_append.mpr ⟨lw_r1, List.forall_mem_append.mpr ⟨lw_r2, List.forall_mem_append.mpr ⟨lw_r3, lw_r4⟩⟩⟩
end
section
def RX0 : String := "StemBeams$Bars"
def TX0 : u_T := fun k => match k with
  | 0 => ("StemBeams$Bars", "groupEnds", "[I", true)
  | 1 => ("StemBeams$Bars", "groupCount", "I", false)
  | 2 => ("StemBeams$Bars", "ticks", "I", false)
  | _ => ("StemBeams$Bars", "unit", "I", false)
def tyX0 : Nat → FieldType := fun k => match k with
  | 0 => .array .int
  | 1 => .int
  | 2 => .int
  | _ => .int
abbrev wsX00 : List Cond := u_ws RX0 TX0 4
theorem nmX0 : ∀ a, a < 4 → ∀ b, b < 4 → a ≠ b → (TX0 a).2.1 ≠ (TX0 b).2.1 := by decide +kernel
theorem tyX0_ok : ∀ k, k < 4 → parseFieldDescriptor (TX0 k).2.2.1 = some (tyX0 k) := by decide +kernel
abbrev cX0_init : ByteArray := prog_2_method_1_code
def yX0_init : MethodName := ⟨RX0, "<init>", "()V"⟩
abbrev cX0_isMeter : ByteArray := prog_2_method_2_code
def yX0_isMeter : MethodName := ⟨RX0, "isMeter", "(III)Z"⟩
abbrev cX0_unitOf : ByteArray := prog_2_method_3_code
def yX0_unitOf : MethodName := ⟨RX0, "unitOf", "(I)I"⟩
abbrev cX0_digitsAddUp : ByteArray := prog_2_method_4_code
def yX0_digitsAddUp : MethodName := ⟨RX0, "digitsAddUp", "(II)Z"⟩
abbrev cX0_set : ByteArray := prog_2_method_5_code
def yX0_set : MethodName := ⟨RX0, "set", "(III)V"⟩
abbrev cX0_addUsualGroups : ByteArray := prog_2_method_6_code
def yX0_addUsualGroups : MethodName := ⟨RX0, "addUsualGroups", "(II)V"⟩
abbrev cX0_addToldGroups : ByteArray := prog_2_method_7_code
def yX0_addToldGroups : MethodName := ⟨RX0, "addToldGroups", "(I)V"⟩
abbrev cX0_addGroup : ByteArray := prog_2_method_8_code
def yX0_addGroup : MethodName := ⟨RX0, "addGroup", "(I)V"⟩
abbrev cX0_barAt : ByteArray := prog_2_method_9_code
def yX0_barAt : MethodName := ⟨RX0, "barAt", "(I)I"⟩
abbrev cX0_offsetAt : ByteArray := prog_2_method_10_code
def yX0_offsetAt : MethodName := ⟨RX0, "offsetAt", "(I)I"⟩
abbrev cX0_groupAt : ByteArray := prog_2_method_11_code
def yX0_groupAt : MethodName := ⟨RX0, "groupAt", "(I)I"⟩
def RX1 : String := "StemBeams$Beam"
def TX1 : u_T := fun k => match k with
  | 0 => ("StemBeams$Beam", "notes", "[LStemBeams$Event;", true)
  | 1 => ("StemBeams$Beam", "size", "I", false)
  | 2 => ("StemBeams$Beam", "way", "I", false)
  | 3 => ("StemBeams$Beam", "first", "I", false)
  | 4 => ("StemBeams$Beam", "slant", "I", false)
  | 5 => ("StemBeams$Beam", "ideal", "I", false)
  | 6 => ("StemBeams$Beam", "feathered", "I", false)
  | 7 => ("StemBeams$Beam", "flat", "Z", false)
  | _ => ("StemBeams$Beam", "bad", "J", false)
def tyX1 : Nat → FieldType := fun k => match k with
  | 0 => .array (.object "StemBeams$Event")
  | 1 => .int
  | 2 => .int
  | 3 => .int
  | 4 => .int
  | 5 => .int
  | 6 => .int
  | 7 => .boolean
  | _ => .long
abbrev wsX10 : List Cond := u_ws RX1 TX1 9
theorem nmX1 : ∀ a, a < 9 → ∀ b, b < 9 → a ≠ b → (TX1 a).2.1 ≠ (TX1 b).2.1 := by decide +kernel
theorem tyX1_ok : ∀ k, k < 9 → parseFieldDescriptor (TX1 k).2.2.1 = some (tyX1 k) := by decide +kernel
abbrev cX1_init : ByteArray := prog_3_method_1_code
def yX1_init : MethodName := ⟨RX1, "<init>", "(LStemBeams$Event;)V"⟩
abbrev cX1_empty : ByteArray := prog_3_method_2_code
def yX1_empty : MethodName := ⟨RX1, "empty", "()V"⟩
abbrev cX1_add : ByteArray := prog_3_method_3_code
def yX1_add : MethodName := ⟨RX1, "add", "(LStemBeams$Event;)V"⟩
abbrev cX1_has : ByteArray := prog_3_method_4_code
def yX1_has : MethodName := ⟨RX1, "has", "(I)Z"⟩
abbrev cX1_hold : ByteArray := prog_3_method_5_code
def yX1_hold : MethodName := ⟨RX1, "hold", "(I)V"⟩
abbrev cX1_release : ByteArray := prog_3_method_6_code
def yX1_release : MethodName := ⟨RX1, "release", "()V"⟩
abbrev cX1_greatestLevel : ByteArray := prog_3_method_7_code
def yX1_greatestLevel : MethodName := ⟨RX1, "greatestLevel", "()I"⟩
abbrev cX1_aimStems : ByteArray := prog_3_method_8_code
def yX1_aimStems : MethodName := ⟨RX1, "aimStems", "(Z)V"⟩
abbrev cX1_isOnBothStaves : ByteArray := prog_3_method_9_code
def yX1_isOnBothStaves : MethodName := ⟨RX1, "isOnBothStaves", "()Z"⟩
abbrev cX1_wayByHeads : ByteArray := prog_3_method_10_code
def yX1_wayByHeads : MethodName := ⟨RX1, "wayByHeads", "()I"⟩
abbrev cX1_judgeSlope : ByteArray := prog_3_method_11_code
def yX1_judgeSlope : MethodName := ⟨RX1, "judgeSlope", "()V"⟩
abbrev cX1_isInnerFarther : ByteArray := prog_3_method_12_code
def yX1_isInnerFarther : MethodName := ⟨RX1, "isInnerFarther", "(II)Z"⟩
abbrev cX1_findPlace : ByteArray := prog_3_method_13_code
def yX1_findPlace : MethodName := ⟨RX1, "findPlace", "()Z"⟩
abbrev cX1_tryHeights : ByteArray := prog_3_method_14_code
def yX1_tryHeights : MethodName := ⟨RX1, "tryHeights", "(II)V"⟩
abbrev cX1_levelHeight : ByteArray := prog_3_method_15_code
def yX1_levelHeight : MethodName := ⟨RX1, "levelHeight", "()I"⟩
abbrev cX1_slantBadness : ByteArray := prog_3_method_16_code
def yX1_slantBadness : MethodName := ⟨RX1, "slantBadness", "(I)J"⟩
abbrev cX1_badnessAt : ByteArray := prog_3_method_17_code
def yX1_badnessAt : MethodName := ⟨RX1, "badnessAt", "(II)J"⟩
abbrev cX1_wedgeBadness : ByteArray := prog_3_method_18_code
def yX1_wedgeBadness : MethodName := ⟨RX1, "wedgeBadness", "(I)I"⟩
abbrev cX1_heightAt : ByteArray := prog_3_method_19_code
def yX1_heightAt : MethodName := ⟨RX1, "heightAt", "(I)I"⟩
abbrev cX1_laneAt : ByteArray := prog_3_method_20_code
def yX1_laneAt : MethodName := ⟨RX1, "laneAt", "(II)I"⟩
abbrev cX1_clearOf : ByteArray := prog_3_method_21_code
def yX1_clearOf : MethodName := ⟨RX1, "clearOf", "(II)I"⟩
abbrev cX1_sidesAt : ByteArray := prog_3_method_22_code
def yX1_sidesAt : MethodName := ⟨RX1, "sidesAt", "(II)I"⟩
abbrev cX1_hangsBack : ByteArray := prog_3_method_23_code
def yX1_hangsBack : MethodName := ⟨RX1, "hangsBack", "(II)Z"⟩
abbrev cX1_countWith : ByteArray := prog_3_method_24_code
def yX1_countWith : MethodName := ⟨RX1, "countWith", "(I)I"⟩
abbrev cX1_lengthsWith : ByteArray := prog_3_method_25_code
def yX1_lengthsWith : MethodName := ⟨RX1, "lengthsWith", "(I)J"⟩
def RX2 : String := "StemBeams$Event"
def TX2 : u_T := fun k => match k with
  | 0 => ("StemBeams$Event", "number", "I", false)
  | 1 => ("StemBeams$Event", "voice", "I", false)
  | 2 => ("StemBeams$Event", "value", "I", false)
  | 3 => ("StemBeams$Event", "begin", "I", false)
  | 4 => ("StemBeams$Event", "ticks", "I", false)
  | 5 => ("StemBeams$Event", "heads", "I", false)
  | 6 => ("StemBeams$Event", "lowest", "I", false)
  | 7 => ("StemBeams$Event", "highest", "I", false)
  | 8 => ("StemBeams$Event", "onStaff", "I", false)
  | 9 => ("StemBeams$Event", "marking", "I", false)
  | 10 => ("StemBeams$Event", "beamNumber", "I", false)
  | 11 => ("StemBeams$Event", "inBeam", "I", false)
  | 12 => ("StemBeams$Event", "way", "I", false)
  | 13 => ("StemBeams$Event", "near", "I", false)
  | 14 => ("StemBeams$Event", "want", "I", false)
  | 15 => ("StemBeams$Event", "least", "I", false)
  | 16 => ("StemBeams$Event", "placesTaken", "I", false)
  | _ => ("StemBeams$Event", "levelsBroken", "I", false)
def tyX2 : Nat → FieldType := fun k => match k with
  | 0 => .int
  | 1 => .int
  | 2 => .int
  | 3 => .int
  | 4 => .int
  | 5 => .int
  | 6 => .int
  | 7 => .int
  | 8 => .int
  | 9 => .int
  | 10 => .int
  | 11 => .int
  | 12 => .int
  | 13 => .int
  | 14 => .int
  | 15 => .int
  | 16 => .int
  | _ => .int
abbrev wsX20 : List Cond := u_ws RX2 TX2 18
theorem nmX2 : ∀ a, a < 18 → ∀ b, b < 18 → a ≠ b → (TX2 a).2.1 ≠ (TX2 b).2.1 := by decide +kernel
theorem tyX2_ok : ∀ k, k < 18 → parseFieldDescriptor (TX2 k).2.2.1 = some (tyX2 k) := by decide +kernel
abbrev cX2_init : ByteArray := prog_4_method_1_code
def yX2_init : MethodName := ⟨RX2, "<init>", "()V"⟩
abbrev cX2_ticksOf : ByteArray := prog_4_method_2_code
def yX2_ticksOf : MethodName := ⟨RX2, "ticksOf", "(II)I"⟩
abbrev cX2_reset : ByteArray := prog_4_method_3_code
def yX2_reset : MethodName := ⟨RX2, "reset", "(III)V"⟩
abbrev cX2_isRest : ByteArray := prog_4_method_4_code
def yX2_isRest : MethodName := ⟨RX2, "isRest", "()Z"⟩
abbrev cX2_isShort : ByteArray := prog_4_method_5_code
def yX2_isShort : MethodName := ⟨RX2, "isShort", "()Z"⟩
abbrev cX2_levels : ByteArray := prog_4_method_6_code
def yX2_levels : MethodName := ⟨RX2, "levels", "()I"⟩
abbrev cX2_hasHead : ByteArray := prog_4_method_7_code
def yX2_hasHead : MethodName := ⟨RX2, "hasHead", "(I)Z"⟩
abbrev cX2_addHead : ByteArray := prog_4_method_8_code
def yX2_addHead : MethodName := ⟨RX2, "addHead", "(I)V"⟩
abbrev cX2_isBroken : ByteArray := prog_4_method_9_code
def yX2_isBroken : MethodName := ⟨RX2, "isBroken", "(I)Z"⟩
abbrev cX2_setBroken : ByteArray := prog_4_method_10_code
def yX2_setBroken : MethodName := ⟨RX2, "setBroken", "(IZ)V"⟩
abbrev cX2_middle : ByteArray := prog_4_method_11_code
def yX2_middle : MethodName := ⟨RX2, "middle", "()I"⟩
abbrev cX2_wayAlone : ByteArray := prog_4_method_12_code
def yX2_wayAlone : MethodName := ⟨RX2, "wayAlone", "(Z)I"⟩
abbrev cX2_aim : ByteArray := prog_4_method_13_code
def yX2_aim : MethodName := ⟨RX2, "aim", "(IZ)V"⟩
abbrev cX2_lengthTo : ByteArray := prog_4_method_14_code
def yX2_lengthTo : MethodName := ⟨RX2, "lengthTo", "(I)I"⟩
def RX3 : String := "StemBeams"
def TX3 : u_T := fun k => match k with
  | 0 => ("StemBeams", "bars", "LStemBeams$Bars;", true)
  | 1 => ("StemBeams", "events", "[LStemBeams$Event;", true)
  | 2 => ("StemBeams", "beams", "[LStemBeams$Beam;", true)
  | 3 => ("StemBeams", "voiceTicks", "[I", true)
  | 4 => ("StemBeams", "eventCount", "I", false)
  | 5 => ("StemBeams", "beamCount", "I", false)
  | 6 => ("StemBeams", "openCount", "I", false)
  | _ => ("StemBeams", "overRests", "Z", false)
def tyX3 : Nat → FieldType := fun k => match k with
  | 0 => .object "StemBeams$Bars"
  | 1 => .array (.object "StemBeams$Event")
  | 2 => .array (.object "StemBeams$Beam")
  | 3 => .array .int
  | 4 => .int
  | 5 => .int
  | 6 => .int
  | _ => .boolean
abbrev wsX30 : List Cond := u_ws RX3 TX3 8
theorem nmX3 : ∀ a, a < 8 → ∀ b, b < 8 → a ≠ b → (TX3 a).2.1 ≠ (TX3 b).2.1 := by decide +kernel
theorem tyX3_ok : ∀ k, k < 8 → parseFieldDescriptor (TX3 k).2.2.1 = some (tyX3 k) := by decide +kernel
abbrev cX3_init : ByteArray := prog_1_method_1_code
def yX3_init : MethodName := ⟨RX3, "<init>", "()V"⟩
abbrev cX3_meter : ByteArray := prog_1_method_2_code
def yX3_meter : MethodName := ⟨RX3, "meter", "(III)I"⟩
abbrev cX3_note : ByteArray := prog_1_method_3_code
def yX3_note : MethodName := ⟨RX3, "note", "(IIII)I"⟩
abbrev cX3_pause : ByteArray := prog_1_method_4_code
def yX3_pause : MethodName := ⟨RX3, "pause", "(III)I"⟩
abbrev cX3_also : ByteArray := prog_1_method_5_code
def yX3_also : MethodName := ⟨RX3, "also", "(II)I"⟩
abbrev cX3_staff : ByteArray := prog_1_method_6_code
def yX3_staff : MethodName := ⟨RX3, "staff", "(II)I"⟩
abbrev cX3_mark : ByteArray := prog_1_method_7_code
def yX3_mark : MethodName := ⟨RX3, "mark", "(II)I"⟩
abbrev cX3_broken : ByteArray := prog_1_method_8_code
def yX3_broken : MethodName := ⟨RX3, "broken", "(IIZ)I"⟩
abbrev cX3_over : ByteArray := prog_1_method_9_code
def yX3_over : MethodName := ⟨RX3, "over", "(Z)I"⟩
abbrev cX3_group : ByteArray := prog_1_method_10_code
def yX3_group : MethodName := ⟨RX3, "group", "()I"⟩
abbrev cX3_beam : ByteArray := prog_1_method_11_code
def yX3_beam : MethodName := ⟨RX3, "beam", "(II)I"⟩
abbrev cX3_member : ByteArray := prog_1_method_12_code
def yX3_member : MethodName := ⟨RX3, "member", "(II)I"⟩
abbrev cX3_badness : ByteArray := prog_1_method_13_code
def yX3_badness : MethodName := ⟨RX3, "badness", "(I)J"⟩
abbrev cX3_other : ByteArray := prog_1_method_14_code
def yX3_other : MethodName := ⟨RX3, "other", "(III)J"⟩
abbrev cX3_stem : ByteArray := prog_1_method_15_code
def yX3_stem : MethodName := ⟨RX3, "stem", "(II)I"⟩
abbrev cX3_level : ByteArray := prog_1_method_16_code
def yX3_level : MethodName := ⟨RX3, "level", "(II)I"⟩
abbrev cX3_feather : ByteArray := prog_1_method_17_code
def yX3_feather : MethodName := ⟨RX3, "feather", "(II)I"⟩
abbrev cX3_lane : ByteArray := prog_1_method_18_code
def yX3_lane : MethodName := ⟨RX3, "lane", "(III)I"⟩
abbrev cX3_rest : ByteArray := prog_1_method_19_code
def yX3_rest : MethodName := ⟨RX3, "rest", "(I)I"⟩
abbrev cX3_share : ByteArray := prog_1_method_20_code
def yX3_share : MethodName := ⟨RX3, "share", "(II)J"⟩
abbrev cX3_event : ByteArray := prog_1_method_21_code
def yX3_event : MethodName := ⟨RX3, "event", "(II)I"⟩
abbrev cX3_count : ByteArray := prog_1_method_22_code
def yX3_count : MethodName := ⟨RX3, "count", "(I)I"⟩
abbrev cX3_clear : ByteArray := prog_1_method_23_code
def yX3_clear : MethodName := ⟨RX3, "clear", "()I"⟩
abbrev cX3_isPlace : ByteArray := prog_1_method_24_code
def yX3_isPlace : MethodName := ⟨RX3, "isPlace", "(I)Z"⟩
abbrev cX3_isTiming : ByteArray := prog_1_method_25_code
def yX3_isTiming : MethodName := ⟨RX3, "isTiming", "(III)Z"⟩
abbrev cX3_rounded : ByteArray := prog_1_method_26_code
def yX3_rounded : MethodName := ⟨RX3, "rounded", "(II)I"⟩
abbrev cX3_eventAt : ByteArray := prog_1_method_27_code
def yX3_eventAt : MethodName := ⟨RX3, "eventAt", "(I)LStemBeams$Event;"⟩
abbrev cX3_beamAt : ByteArray := prog_1_method_28_code
def yX3_beamAt : MethodName := ⟨RX3, "beamAt", "(I)LStemBeams$Beam;"⟩
abbrev cX3_refusalOf : ByteArray := prog_1_method_29_code
def yX3_refusalOf : MethodName := ⟨RX3, "refusalOf", "(LStemBeams$Event;Z)I"⟩
abbrev cX3_isTwoVoiced : ByteArray := prog_1_method_30_code
def yX3_isTwoVoiced : MethodName := ⟨RX3, "isTwoVoiced", "()Z"⟩
abbrev cX3_append : ByteArray := prog_1_method_31_code
def yX3_append : MethodName := ⟨RX3, "append", "(III)I"⟩
abbrev cX3_takeBeamsAway : ByteArray := prog_1_method_32_code
def yX3_takeBeamsAway : MethodName := ⟨RX3, "takeBeamsAway", "()V"⟩
abbrev cX3_groupVoice : ByteArray := prog_1_method_33_code
def yX3_groupVoice : MethodName := ⟨RX3, "groupVoice", "(I)V"⟩
abbrev cX3_freshRow : ByteArray := prog_1_method_34_code
def yX3_freshRow : MethodName := ⟨RX3, "freshRow", "()LStemBeams$Beam;"⟩
abbrev cX3_goesOn : ByteArray := prog_1_method_35_code
def yX3_goesOn : MethodName := ⟨RX3, "goesOn", "(LStemBeams$Beam;LStemBeams$Event;)Z"⟩
abbrev cX3_finish : ByteArray := prog_1_method_36_code
def yX3_finish : MethodName := ⟨RX3, "finish", "(LStemBeams$Beam;)V"⟩
abbrev cX3_stubOf : ByteArray := prog_1_method_37_code
def yX3_stubOf : MethodName := ⟨RX3, "stubOf", "(LStemBeams$Event;LStemBeams$Beam;)I"⟩
abbrev cX3_noteBeside : ByteArray := prog_1_method_38_code
def yX3_noteBeside : MethodName := ⟨RX3, "noteBeside", "(LStemBeams$Event;I)LStemBeams$Event;"⟩
def RX4 : String := "StemBeamsModel"
def TX4 : u_T := fun k => match k with
  | 0 => ("StemBeamsModel", "thrown", "I", false)
  | 1 => ("StemBeamsModel", "unit", "I", false)
  | 2 => ("StemBeamsModel", "bar", "I", false)
  | 3 => ("StemBeamsModel", "groups", "I", false)
  | 4 => ("StemBeamsModel", "groupAt", "[I", true)
  | 5 => ("StemBeamsModel", "events", "I", false)
  | 6 => ("StemBeamsModel", "isRest", "[I", true)
  | 7 => ("StemBeamsModel", "voices", "[I", true)
  | 8 => ("StemBeamsModel", "values", "[I", true)
  | 9 => ("StemBeamsModel", "begins", "[I", true)
  | 10 => ("StemBeamsModel", "ticks", "[I", true)
  | 11 => ("StemBeamsModel", "staves", "[I", true)
  | 12 => ("StemBeamsModel", "marks", "[I", true)
  | 13 => ("StemBeamsModel", "breaks", "[I", true)
  | 14 => ("StemBeamsModel", "heads", "[I", true)
  | 15 => ("StemBeamsModel", "headMany", "[I", true)
  | 16 => ("StemBeamsModel", "gone", "[I", true)
  | 17 => ("StemBeamsModel", "overRests", "Z", false)
  | 18 => ("StemBeamsModel", "beams", "I", false)
  | 19 => ("StemBeamsModel", "open", "I", false)
  | 20 => ("StemBeamsModel", "many", "[I", true)
  | 21 => ("StemBeamsModel", "notes", "[I", true)
  | 22 => ("StemBeamsModel", "way", "[I", true)
  | 23 => ("StemBeamsModel", "from", "[I", true)
  | 24 => ("StemBeamsModel", "slant", "[I", true)
  | 25 => ("StemBeamsModel", "ideal", "[I", true)
  | 26 => ("StemBeamsModel", "flat", "[I", true)
  | 27 => ("StemBeamsModel", "feathers", "[I", true)
  | _ => ("StemBeamsModel", "bad", "[J", true)
def tyX4 : Nat → FieldType := fun k => match k with
  | 0 => .int
  | 1 => .int
  | 2 => .int
  | 3 => .int
  | 4 => .array .int
  | 5 => .int
  | 6 => .array .int
  | 7 => .array .int
  | 8 => .array .int
  | 9 => .array .int
  | 10 => .array .int
  | 11 => .array .int
  | 12 => .array .int
  | 13 => .array .int
  | 14 => .array .int
  | 15 => .array .int
  | 16 => .array .int
  | 17 => .boolean
  | 18 => .int
  | 19 => .int
  | 20 => .array .int
  | 21 => .array .int
  | 22 => .array .int
  | 23 => .array .int
  | 24 => .array .int
  | 25 => .array .int
  | 26 => .array .int
  | 27 => .array .int
  | _ => .array .long
abbrev wsX40 : List Cond := u_ws RX4 TX4 29
theorem nmX4 : ∀ a, a < 29 → ∀ b, b < 29 → a ≠ b → (TX4 a).2.1 ≠ (TX4 b).2.1 := by decide +kernel
theorem tyX4_ok : ∀ k, k < 29 → parseFieldDescriptor (TX4 k).2.2.1 = some (tyX4 k) := by decide +kernel
abbrev cX4_init : ByteArray := prog_6_method_1_code
def yX4_init : MethodName := ⟨RX4, "<init>", "()V"⟩
abbrev cX4_thrown : ByteArray := prog_6_method_2_code
def yX4_thrown : MethodName := ⟨RX4, "thrown", "()I"⟩
abbrev cX4_in : ByteArray := prog_6_method_3_code
def yX4_in : MethodName := ⟨RX4, "in", "(JJJ)Z"⟩
abbrev cX4_rounded : ByteArray := prog_6_method_4_code
def yX4_rounded : MethodName := ⟨RX4, "rounded", "(II)I"⟩
abbrev cX4_begin : ByteArray := prog_6_method_5_code
def yX4_begin : MethodName := ⟨RX4, "begin", "()V"⟩
abbrev cX4_measure : ByteArray := prog_6_method_6_code
def yX4_measure : MethodName := ⟨RX4, "measure", "(III)Z"⟩
abbrev cX4_meter : ByteArray := prog_6_method_7_code
def yX4_meter : MethodName := ⟨RX4, "meter", "(III)I"⟩
abbrev cX4_isSo : ByteArray := prog_6_method_8_code
def yX4_isSo : MethodName := ⟨RX4, "isSo", "(II)Z"⟩
abbrev cX4_comes : ByteArray := prog_6_method_9_code
def yX4_comes : MethodName := ⟨RX4, "comes", "(IIIII)I"⟩
abbrev cX4_note : ByteArray := prog_6_method_10_code
def yX4_note : MethodName := ⟨RX4, "note", "(IIII)I"⟩
abbrev cX4_pause : ByteArray := prog_6_method_11_code
def yX4_pause : MethodName := ⟨RX4, "pause", "(III)I"⟩
abbrev cX4_isEvent : ByteArray := prog_6_method_12_code
def yX4_isEvent : MethodName := ⟨RX4, "isEvent", "(I)Z"⟩
abbrev cX4_also : ByteArray := prog_6_method_13_code
def yX4_also : MethodName := ⟨RX4, "also", "(II)I"⟩
abbrev cX4_staff : ByteArray := prog_6_method_14_code
def yX4_staff : MethodName := ⟨RX4, "staff", "(II)I"⟩
abbrev cX4_mark : ByteArray := prog_6_method_15_code
def yX4_mark : MethodName := ⟨RX4, "mark", "(II)I"⟩
abbrev cX4_broken : ByteArray := prog_6_method_16_code
def yX4_broken : MethodName := ⟨RX4, "broken", "(IIZ)I"⟩
abbrev cX4_over : ByteArray := prog_6_method_17_code
def yX4_over : MethodName := ⟨RX4, "over", "(Z)I"⟩
abbrev cX4_groupOf : ByteArray := prog_6_method_18_code
def yX4_groupOf : MethodName := ⟨RX4, "groupOf", "(I)I"⟩
abbrev cX4_middle : ByteArray := prog_6_method_19_code
def yX4_middle : MethodName := ⟨RX4, "middle", "(I)I"⟩
abbrev cX4_highest : ByteArray := prog_6_method_20_code
def yX4_highest : MethodName := ⟨RX4, "highest", "(I)I"⟩
abbrev cX4_lowest : ByteArray := prog_6_method_21_code
def yX4_lowest : MethodName := ⟨RX4, "lowest", "(I)I"⟩
abbrev cX4_near : ByteArray := prog_6_method_22_code
def yX4_near : MethodName := ⟨RX4, "near", "(II)I"⟩
abbrev cX4_levels : ByteArray := prog_6_method_23_code
def yX4_levels : MethodName := ⟨RX4, "levels", "(I)I"⟩
abbrev cX4_more : ByteArray := prog_6_method_24_code
def yX4_more : MethodName := ⟨RX4, "more", "(I)I"⟩
abbrev cX4_want : ByteArray := prog_6_method_25_code
def yX4_want : MethodName := ⟨RX4, "want", "(IIZ)I"⟩
abbrev cX4_alone : ByteArray := prog_6_method_26_code
def yX4_alone : MethodName := ⟨RX4, "alone", "(I)I"⟩
abbrev cX4_isShort : ByteArray := prog_6_method_27_code
def yX4_isShort : MethodName := ⟨RX4, "isShort", "(I)Z"⟩
abbrev cX4_group : ByteArray := prog_6_method_28_code
def yX4_group : MethodName := ⟨RX4, "group", "()I"⟩
abbrev cX4_ends : ByteArray := prog_6_method_29_code
def yX4_ends : MethodName := ⟨RX4, "ends", "(I)V"⟩
abbrev cX4_noteAt : ByteArray := prog_6_method_30_code
def yX4_noteAt : MethodName := ⟨RX4, "noteAt", "(II)I"⟩
abbrev cX4_direction : ByteArray := prog_6_method_31_code
def yX4_direction : MethodName := ⟨RX4, "direction", "(I)I"⟩
abbrev cX4_upAt : ByteArray := prog_6_method_32_code
def yX4_upAt : MethodName := ⟨RX4, "upAt", "(II)I"⟩
abbrev cX4_nearAt : ByteArray := prog_6_method_33_code
def yX4_nearAt : MethodName := ⟨RX4, "nearAt", "(II)I"⟩
abbrev cX4_isFlat : ByteArray := prog_6_method_34_code
def yX4_isFlat : MethodName := ⟨RX4, "isFlat", "(I)Z"⟩
abbrev cX4_heightAt : ByteArray := prog_6_method_35_code
def yX4_heightAt : MethodName := ⟨RX4, "heightAt", "(IIII)I"⟩
abbrev cX4_lengthAt : ByteArray := prog_6_method_36_code
def yX4_lengthAt : MethodName := ⟨RX4, "lengthAt", "(IIII)I"⟩
abbrev cX4_isWedge : ByteArray := prog_6_method_37_code
def yX4_isWedge : MethodName := ⟨RX4, "isWedge", "(II)Z"⟩
abbrev cX4_badnessOf : ByteArray := prog_6_method_38_code
def yX4_badnessOf : MethodName := ⟨RX4, "badnessOf", "(III)J"⟩
abbrev cX4_find : ByteArray := prog_6_method_39_code
def yX4_find : MethodName := ⟨RX4, "find", "(I)Z"⟩
abbrev cX4_isBeam : ByteArray := prog_6_method_40_code
def yX4_isBeam : MethodName := ⟨RX4, "isBeam", "(I)Z"⟩
abbrev cX4_greatest : ByteArray := prog_6_method_41_code
def yX4_greatest : MethodName := ⟨RX4, "greatest", "(I)I"⟩
abbrev cX4_beam : ByteArray := prog_6_method_42_code
def yX4_beam : MethodName := ⟨RX4, "beam", "(II)I"⟩
abbrev cX4_member : ByteArray := prog_6_method_43_code
def yX4_member : MethodName := ⟨RX4, "member", "(II)I"⟩
abbrev cX4_badness : ByteArray := prog_6_method_44_code
def yX4_badness : MethodName := ⟨RX4, "badness", "(I)J"⟩
abbrev cX4_other : ByteArray := prog_6_method_45_code
def yX4_other : MethodName := ⟨RX4, "other", "(III)J"⟩
abbrev cX4_beamOf : ByteArray := prog_6_method_46_code
def yX4_beamOf : MethodName := ⟨RX4, "beamOf", "(I)I"⟩
abbrev cX4_placeIn : ByteArray := prog_6_method_47_code
def yX4_placeIn : MethodName := ⟨RX4, "placeIn", "(II)I"⟩
abbrev cX4_stem : ByteArray := prog_6_method_48_code
def yX4_stem : MethodName := ⟨RX4, "stem", "(II)I"⟩
abbrev cX4_level : ByteArray := prog_6_method_49_code
def yX4_level : MethodName := ⟨RX4, "level", "(II)I"⟩
abbrev cX4_feather : ByteArray := prog_6_method_50_code
def yX4_feather : MethodName := ⟨RX4, "feather", "(II)I"⟩
abbrev cX4_laneAt : ByteArray := prog_6_method_51_code
def yX4_laneAt : MethodName := ⟨RX4, "laneAt", "(III)I"⟩
abbrev cX4_lane : ByteArray := prog_6_method_52_code
def yX4_lane : MethodName := ⟨RX4, "lane", "(III)I"⟩
abbrev cX4_rest : ByteArray := prog_6_method_53_code
def yX4_rest : MethodName := ⟨RX4, "rest", "(I)I"⟩
abbrev cX4_share : ByteArray := prog_6_method_54_code
def yX4_share : MethodName := ⟨RX4, "share", "(II)J"⟩
abbrev cX4_event : ByteArray := prog_6_method_55_code
def yX4_event : MethodName := ⟨RX4, "event", "(II)I"⟩
abbrev cX4_count : ByteArray := prog_6_method_56_code
def yX4_count : MethodName := ⟨RX4, "count", "(I)I"⟩
abbrev cX4_clear : ByteArray := prog_6_method_57_code
def yX4_clear : MethodName := ⟨RX4, "clear", "()I"⟩
def RJ9 : String := "java/lang/Math"
def TJ9 : u_T := fun k => match k with
  | _ => ("", "", "", false)
def tyJ9 : Nat → FieldType := fun k => match k with
  | _ => .int
abbrev wsJ90 : List Cond := u_ws RJ9 TJ9 0
theorem nmJ9 : ∀ a, a < 0 → ∀ b, b < 0 → a ≠ b → (TJ9 a).2.1 ≠ (TJ9 b).2.1 := by decide +kernel
theorem tyJ9_ok : ∀ k, k < 0 → parseFieldDescriptor (TJ9 k).2.2.1 = some (tyJ9 k) := by decide +kernel
abbrev cJ9_floorMod_7cf53 : ByteArray := prog_9_method_50_code
def yJ9_floorMod_7cf53 : MethodName := ⟨RJ9, "floorMod", "(II)I"⟩
abbrev cJ9_max_7cf53 : ByteArray := prog_9_method_65_code
def yJ9_max_7cf53 : MethodName := ⟨RJ9, "max", "(II)I"⟩
abbrev cJ9_min_7cf53 : ByteArray := prog_9_method_69_code
def yJ9_min_7cf53 : MethodName := ⟨RJ9, "min", "(II)I"⟩
def RJ0 : String := "java/lang/String"
def TJ0 : u_T := fun k => match k with
  | _ => ("", "", "", false)
def tyJ0 : Nat → FieldType := fun k => match k with
  | _ => .int
abbrev wsJ00 : List Cond := u_ws RJ0 TJ0 0
theorem nmJ0 : ∀ a, a < 0 → ∀ b, b < 0 → a ≠ b → (TJ0 a).2.1 ≠ (TJ0 b).2.1 := by decide +kernel
theorem tyJ0_ok : ∀ k, k < 0 → parseFieldDescriptor (TJ0 k).2.2.1 = some (tyJ0 k) := by decide +kernel
def RL : String := "StemBeamsLaw"
abbrev cL_share : ByteArray := method_3_code
def yL_share : MethodName := ⟨RL, "share", "(LStemBeams;II[J)I"⟩
abbrev cL_law : ByteArray := code
def yL_law : MethodName := ⟨RL, "law", "([I)Z"⟩
def wsL_law0_r1 : List Cond := [Cond.classLink RL 8 RX3, Cond.instantiable RX3 8, Cond.initialized RX3, Cond.classLink RL 16 RX4, Cond.instantiable RX4 29, Cond.initialized RX4, Cond.arrayClass .long, Cond.methodLink RL 15 yX3_init, Cond.instanceMethod yX3_init, Cond.code yX3_init cX3_init 3 none, Cond.methodLink RX3 3 objectInit, Cond.instanceMethod objectInit, Cond.code objectInit ⟨#[0xb1]⟩ 1 none, Cond.classLink RX3 9 RX0, Cond.instantiable RX0 4, Cond.initialized RX0, Cond.fieldLink RX3 12 "StemBeams" "bars" "LStemBeams$Bars;", Cond.classLink RX3 16 RX2, Cond.fieldLink RX3 18 "StemBeams" "events" "[LStemBeams$Event;", Cond.classLink RX3 22 RX1, Cond.fieldLink RX3 24 "StemBeams" "beams" "[LStemBeams$Beam;", Cond.arrayClass .int, Cond.fieldLink RX3 28 "StemBeams" "voiceTicks" "[I", Cond.instantiable RX2 18]
def wsL_law0_r2 : List Cond := [Cond.initialized RX2, Cond.instantiable RX1 9, Cond.initialized RX1, Cond.methodLink RX3 11 yX0_init, Cond.instanceMethod yX0_init, Cond.code yX0_init cX0_init 1 none, Cond.methodLink RX0 3 objectInit, Cond.fieldLink RX0 9 "StemBeams$Bars" "groupEnds" "[I", Cond.methodLink RX0 15 yX0_set, Cond.instanceMethod yX0_set, Cond.selects RX0 yX0_set yX0_set, Cond.code yX0_set cX0_set 4 none, Cond.fieldLink RX0 27 "StemBeams$Bars" "unit" "I", Cond.fieldLink RX0 31 "StemBeams$Bars" "ticks" "I", Cond.fieldLink RX0 34 "StemBeams$Bars" "groupCount" "I", Cond.methodLink RX0 19 yX0_unitOf, Cond.static yX0_unitOf, Cond.code yX0_unitOf cX0_unitOf 1 (some .int), Cond.methodLink RX0 37 yX0_addUsualGroups, Cond.instanceMethod yX0_addUsualGroups, Cond.selects RX0 yX0_addUsualGroups yX0_addUsualGroups, Cond.code yX0_addUsualGroups cX0_addUsualGroups 6 none, Cond.methodLink RX0 45 Lib.Math.max.name, Cond.static Lib.Math.max.name]
def wsL_law0_r3 : List Cond := [Cond.initialized "java/lang/Math", Cond.code Lib.Math.max.name Lib.Math.max.code 2 (some .int), Cond.methodLink RX0 51 yX0_addGroup, Cond.instanceMethod yX0_addGroup, Cond.selects RX0 yX0_addGroup yX0_addGroup, Cond.code yX0_addGroup cX0_addGroup 3 none, Cond.methodLink RX0 41 yX0_addToldGroups, Cond.instanceMethod yX0_addToldGroups, Cond.selects RX0 yX0_addToldGroups yX0_addToldGroups, Cond.code yX0_addToldGroups cX0_addToldGroups 4 none, Cond.instanceMethod yX2_init, Cond.code yX2_init cX2_init 1 none, Cond.methodLink RX2 3 objectInit, Cond.methodLink RX3 33 yX1_init, Cond.instanceMethod yX1_init, Cond.code yX1_init cX1_init 3 none, Cond.methodLink RX1 3 objectInit, Cond.classLink RX1 9 RX2, Cond.fieldLink RX1 11 "StemBeams$Beam" "notes" "[LStemBeams$Event;", Cond.methodLink RL 18 yX4_init, Cond.instanceMethod yX4_init, Cond.code yX4_init cX4_init 1 none, Cond.methodLink RX4 1 objectInit, Cond.fieldLink RX4 7 "StemBeamsModel" "groupAt" "[I"]
def wsL_law0_r4 : List Cond := [Cond.fieldLink RX4 13 "StemBeamsModel" "isRest" "[I", Cond.fieldLink RX4 16 "StemBeamsModel" "voices" "[I", Cond.fieldLink RX4 19 "StemBeamsModel" "values" "[I", Cond.fieldLink RX4 22 "StemBeamsModel" "begins" "[I", Cond.fieldLink RX4 25 "StemBeamsModel" "ticks" "[I", Cond.fieldLink RX4 28 "StemBeamsModel" "staves" "[I", Cond.fieldLink RX4 31 "StemBeamsModel" "marks" "[I", Cond.fieldLink RX4 34 "StemBeamsModel" "breaks" "[I", Cond.fieldLink RX4 37 "StemBeamsModel" "heads" "[I", Cond.fieldLink RX4 40 "StemBeamsModel" "headMany" "[I", Cond.fieldLink RX4 43 "StemBeamsModel" "gone" "[I", Cond.fieldLink RX4 46 "StemBeamsModel" "many" "[I", Cond.fieldLink RX4 49 "StemBeamsModel" "notes" "[I", Cond.fieldLink RX4 52 "StemBeamsModel" "way" "[I", Cond.fieldLink RX4 55 "StemBeamsModel" "from" "[I", Cond.fieldLink RX4 58 "StemBeamsModel" "slant" "[I", Cond.fieldLink RX4 61 "StemBeamsModel" "ideal" "[I", Cond.fieldLink RX4 64 "StemBeamsModel" "flat" "[I", Cond.fieldLink RX4 67 "StemBeamsModel" "feathers" "[I", Cond.fieldLink RX4 70 "StemBeamsModel" "bad" "[J", Cond.methodLink RX4 74 yX4_begin, Cond.instanceMethod yX4_begin, Cond.selects RX4 yX4_begin yX4_begin, Cond.code yX4_begin cX4_begin 1 none]
def wsL_law0_r5 : List Cond := [Cond.fieldLink RX4 81 "StemBeamsModel" "events" "I", Cond.fieldLink RX4 84 "StemBeamsModel" "overRests" "Z", Cond.fieldLink RX4 88 "StemBeamsModel" "beams" "I", Cond.fieldLink RX4 91 "StemBeamsModel" "open" "I", Cond.methodLink RX4 94 yX4_measure, Cond.instanceMethod yX4_measure, Cond.selects RX4 yX4_measure yX4_measure, Cond.code yX4_measure cX4_measure 10 (some .boolean), Cond.fieldLink RX4 98 "StemBeamsModel" "unit" "I", Cond.fieldLink RX4 101 "StemBeamsModel" "bar" "I", Cond.fieldLink RX4 104 "StemBeamsModel" "groups" "I", Cond.methodLink RL 19 yX3_meter, Cond.instanceMethod yX3_meter, Cond.selects RX3 yX3_meter yX3_meter, Cond.code yX3_meter cX3_meter 4 (some .int), Cond.fieldLink RX3 40 "StemBeams" "eventCount" "I", Cond.fieldLink RX3 48 "StemBeams$Bars" "groupCount" "I", Cond.methodLink RX3 36 yX0_isMeter, Cond.static yX0_isMeter, Cond.code yX0_isMeter cX0_isMeter 3 (some .boolean), Cond.methodLink RX0 23 yX0_digitsAddUp, Cond.static yX0_digitsAddUp, Cond.code yX0_digitsAddUp cX0_digitsAddUp 4 (some .boolean), Cond.methodLink RX3 44 yX0_set]
def wsL_law0_r6 : List Cond := [Cond.methodLink RL 23 yX4_meter, Cond.instanceMethod yX4_meter, Cond.selects RX4 yX4_meter yX4_meter, Cond.code yX4_meter cX4_meter 4 (some .int), Cond.fieldLink RX4 77 "StemBeamsModel" "thrown" "I", Cond.constantLong RX4 107 (16), Cond.methodLink RX4 109 yX4_in, Cond.static yX4_in, Cond.code yX4_in cX4_in 6 (some .boolean), Cond.methodLink RX4 113 yX4_isSo, Cond.static yX4_isSo, Cond.code yX4_isSo cX4_isSo 5 (some .boolean), Cond.methodLink RL 24 yX3_note, Cond.instanceMethod yX3_note, Cond.selects RX3 yX3_note yX3_note, Cond.code yX3_note cX3_note 7 (some .int), Cond.methodLink RX3 51 yX3_isPlace, Cond.static yX3_isPlace, Cond.code yX3_isPlace cX3_isPlace 1 (some .boolean), Cond.methodLink RX3 55 yX3_isTiming, Cond.static yX3_isTiming, Cond.code yX3_isTiming cX3_isTiming 3 (some .boolean), Cond.methodLink RX3 58 yX3_append, Cond.instanceMethod yX3_append]
def wsL_law0_r7 : List Cond := [Cond.selects RX3 yX3_append yX3_append, Cond.code yX3_append cX3_append 7 (some .int), Cond.fieldLink RX3 246 "StemBeams$Bars" "ticks" "I", Cond.fieldLink RX3 234 "StemBeams$Event" "begin" "I", Cond.fieldLink RX3 237 "StemBeams$Event" "ticks" "I", Cond.methodLink RX3 247 yX2_ticksOf, Cond.static yX2_ticksOf, Cond.code yX2_ticksOf cX2_ticksOf 3 (some .int), Cond.methodLink RX3 250 yX0_offsetAt, Cond.instanceMethod yX0_offsetAt, Cond.selects RX0 yX0_offsetAt yX0_offsetAt, Cond.code yX0_offsetAt cX0_offsetAt 2 (some .int), Cond.methodLink RX3 80 yX3_takeBeamsAway, Cond.instanceMethod yX3_takeBeamsAway, Cond.selects RX3 yX3_takeBeamsAway yX3_takeBeamsAway, Cond.code yX3_takeBeamsAway cX3_takeBeamsAway 2 none, Cond.fieldLink RX3 106 "StemBeams" "beamCount" "I", Cond.methodLink RX3 256 yX1_release, Cond.instanceMethod yX1_release, Cond.selects RX1 yX1_release yX1_release, Cond.code yX1_release cX1_release 2 none, Cond.fieldLink RX1 17 "StemBeams$Beam" "size" "I", Cond.fieldLink RX1 24 "StemBeams$Event" "beamNumber" "I", Cond.methodLink RX3 253 yX2_reset]
def wsL_law0_r8 : List Cond := [Cond.instanceMethod yX2_reset, Cond.selects RX2 yX2_reset yX2_reset, Cond.code yX2_reset cX2_reset 4 none, Cond.fieldLink RX2 9 "StemBeams$Event" "number" "I", Cond.fieldLink RX2 15 "StemBeams$Event" "voice" "I", Cond.fieldLink RX2 18 "StemBeams$Event" "value" "I", Cond.fieldLink RX2 21 "StemBeams$Event" "heads" "I", Cond.fieldLink RX2 24 "StemBeams$Event" "placesTaken" "I", Cond.fieldLink RX2 27 "StemBeams$Event" "onStaff" "I", Cond.fieldLink RX2 30 "StemBeams$Event" "marking" "I", Cond.fieldLink RX2 33 "StemBeams$Event" "levelsBroken" "I", Cond.fieldLink RX2 36 "StemBeams$Event" "beamNumber" "I", Cond.fieldLink RX2 39 "StemBeams$Event" "inBeam" "I", Cond.methodLink RX3 62 yX3_eventAt, Cond.instanceMethod yX3_eventAt, Cond.selects RX3 yX3_eventAt yX3_eventAt, Cond.code yX3_eventAt cX3_eventAt 2 (some (.object "StemBeams$Event")), Cond.methodLink RX3 66 yX2_addHead, Cond.instanceMethod yX2_addHead, Cond.selects RX2 yX2_addHead yX2_addHead, Cond.code yX2_addHead cX2_addHead 2 none, Cond.fieldLink RX2 48 "StemBeams$Event" "lowest" "I", Cond.methodLink RX2 51 Lib.Math.min.name, Cond.static Lib.Math.min.name]
def wsL_law0_r9 : List Cond := [Cond.code Lib.Math.min.name Lib.Math.min.code 2 (some .int), Cond.fieldLink RX2 54 "StemBeams$Event" "highest" "I", Cond.methodLink RX2 42 Lib.Math.max.name, Cond.methodLink RL 28 yX4_note, Cond.instanceMethod yX4_note, Cond.selects RX4 yX4_note yX4_note, Cond.code yX4_note cX4_note 5 (some .int), Cond.methodLink RX4 125 yX4_comes, Cond.instanceMethod yX4_comes, Cond.selects RX4 yX4_comes yX4_comes, Cond.code yX4_comes cX4_comes 9 (some .int), Cond.constantLong RX4 117 (6), Cond.constantLong RX4 119 (2), Cond.constantLong RX4 121 (-12), Cond.constantLong RX4 123 (12), Cond.methodLink RL 29 yX3_pause, Cond.instanceMethod yX3_pause, Cond.selects RX3 yX3_pause yX3_pause, Cond.code yX3_pause cX3_pause 4 (some .int), Cond.methodLink RL 32 yX4_pause, Cond.instanceMethod yX4_pause, Cond.selects RX4 yX4_pause yX4_pause, Cond.code yX4_pause cX4_pause 4 (some .int), Cond.methodLink RL 33 yX3_also]
def wsL_law0_r10 : List Cond := [Cond.instanceMethod yX3_also, Cond.selects RX3 yX3_also yX3_also, Cond.code yX3_also cX3_also 5 (some .int), Cond.fieldLink RX3 77 "StemBeams$Event" "heads" "I", Cond.methodLink RX3 70 yX3_refusalOf, Cond.static yX3_refusalOf, Cond.code yX3_refusalOf cX3_refusalOf 2 (some .int), Cond.methodLink RX3 205 yX2_isRest, Cond.instanceMethod yX2_isRest, Cond.selects RX2 yX2_isRest yX2_isRest, Cond.code yX2_isRest cX2_isRest 1 (some .boolean), Cond.methodLink RX3 74 yX2_hasHead, Cond.instanceMethod yX2_hasHead, Cond.selects RX2 yX2_hasHead yX2_hasHead, Cond.code yX2_hasHead cX2_hasHead 2 (some .boolean), Cond.methodLink RL 37 yX4_also, Cond.instanceMethod yX4_also, Cond.selects RX4 yX4_also yX4_also, Cond.code yX4_also cX4_also 5 (some .int), Cond.methodLink RX4 129 yX4_isEvent, Cond.instanceMethod yX4_isEvent, Cond.selects RX4 yX4_isEvent yX4_isEvent, Cond.code yX4_isEvent cX4_isEvent 2 (some .boolean), Cond.methodLink RL 38 yX3_staff]
def wsL_law0_r11 : List Cond := [Cond.instanceMethod yX3_staff, Cond.selects RX3 yX3_staff yX3_staff, Cond.code yX3_staff cX3_staff 6 (some .int), Cond.fieldLink RX3 83 "StemBeams$Event" "onStaff" "I", Cond.methodLink RL 41 yX4_staff, Cond.instanceMethod yX4_staff, Cond.selects RX4 yX4_staff yX4_staff, Cond.code yX4_staff cX4_staff 4 (some .int), Cond.methodLink RL 42 yX3_mark, Cond.instanceMethod yX3_mark, Cond.selects RX3 yX3_mark yX3_mark, Cond.code yX3_mark cX3_mark 6 (some .int), Cond.fieldLink RX3 86 "StemBeams$Event" "marking" "I", Cond.methodLink RL 45 yX4_mark, Cond.instanceMethod yX4_mark, Cond.selects RX4 yX4_mark yX4_mark, Cond.code yX4_mark cX4_mark 4 (some .int), Cond.methodLink RL 46 yX3_broken, Cond.instanceMethod yX3_broken, Cond.selects RX3 yX3_broken yX3_broken, Cond.code yX3_broken cX3_broken 7 (some .int), Cond.methodLink RX3 89 yX2_isBroken, Cond.instanceMethod yX2_isBroken, Cond.selects RX2 yX2_isBroken yX2_isBroken]
def wsL_law0_r12 : List Cond := [Cond.code yX2_isBroken cX2_isBroken 2 (some .boolean), Cond.methodLink RX3 92 yX2_setBroken, Cond.instanceMethod yX2_setBroken, Cond.selects RX2 yX2_setBroken yX2_setBroken, Cond.code yX2_setBroken cX2_setBroken 4 none, Cond.methodLink RL 50 yX4_broken, Cond.instanceMethod yX4_broken, Cond.selects RX4 yX4_broken yX4_broken, Cond.code yX4_broken cX4_broken 5 (some .int), Cond.constantLong RX4 133 (4), Cond.methodLink RL 51 yX3_over, Cond.instanceMethod yX3_over, Cond.selects RX3 yX3_over yX3_over, Cond.code yX3_over cX3_over 3 (some .int), Cond.fieldLink RX3 96 "StemBeams" "overRests" "Z", Cond.methodLink RL 55 yX4_over, Cond.instanceMethod yX4_over, Cond.selects RX4 yX4_over yX4_over, Cond.code yX4_over cX4_over 3 (some .int), Cond.methodLink RL 56 yX3_group, Cond.instanceMethod yX3_group, Cond.selects RX3 yX3_group yX3_group, Cond.code yX3_group cX3_group 2 (some .int), Cond.fieldLink RX3 100 "StemBeams" "openCount" "I"]
def wsL_law0_r13 : List Cond := [Cond.methodLink RX3 103 yX3_groupVoice, Cond.instanceMethod yX3_groupVoice, Cond.selects RX3 yX3_groupVoice yX3_groupVoice, Cond.code yX3_groupVoice cX3_groupVoice 6 none, Cond.fieldLink RX3 208 "StemBeams$Event" "voice" "I", Cond.methodLink RX3 259 yX3_freshRow, Cond.instanceMethod yX3_freshRow, Cond.selects RX3 yX3_freshRow yX3_freshRow, Cond.code yX3_freshRow cX3_freshRow 2 (some (.object "StemBeams$Beam")), Cond.methodLink RX3 277 Lib.Math.min.name, Cond.methodLink RX3 282 yX1_empty, Cond.instanceMethod yX1_empty, Cond.selects RX1 yX1_empty yX1_empty, Cond.code yX1_empty cX1_empty 1 none, Cond.fieldLink RX1 21 "StemBeams$Beam" "feathered" "I", Cond.methodLink RX3 263 yX2_isShort, Cond.instanceMethod yX2_isShort, Cond.selects RX2 yX2_isShort yX2_isShort, Cond.code yX2_isShort cX2_isShort 1 (some .boolean), Cond.methodLink RX3 266 yX3_goesOn, Cond.instanceMethod yX3_goesOn, Cond.selects RX3 yX3_goesOn yX3_goesOn, Cond.code yX3_goesOn cX3_goesOn 5 (some .boolean), Cond.fieldLink RX3 113 "StemBeams$Beam" "size" "I"]
def wsL_law0_r14 : List Cond := [Cond.fieldLink RX3 141 "StemBeams$Beam" "notes" "[LStemBeams$Event;", Cond.methodLink RX3 240 yX0_barAt, Cond.instanceMethod yX0_barAt, Cond.selects RX0 yX0_barAt yX0_barAt, Cond.code yX0_barAt cX0_barAt 2 (some .int), Cond.methodLink RX3 243 yX0_groupAt, Cond.instanceMethod yX0_groupAt, Cond.selects RX0 yX0_groupAt yX0_groupAt, Cond.code yX0_groupAt cX0_groupAt 4 (some .int), Cond.methodLink RX0 54 yX0_offsetAt, Cond.methodLink RX3 270 yX3_finish, Cond.instanceMethod yX3_finish, Cond.selects RX3 yX3_finish yX3_finish, Cond.code yX3_finish cX3_finish 2 none, Cond.methodLink RX3 163 yX3_isTwoVoiced, Cond.instanceMethod yX3_isTwoVoiced, Cond.selects RX3 yX3_isTwoVoiced yX3_isTwoVoiced, Cond.code yX3_isTwoVoiced cX3_isTwoVoiced 1 (some .boolean), Cond.methodLink RX3 285 yX1_aimStems, Cond.instanceMethod yX1_aimStems, Cond.selects RX1 yX1_aimStems yX1_aimStems, Cond.code yX1_aimStems cX1_aimStems 4 none, Cond.fieldLink RX1 51 "StemBeams$Beam" "way" "I", Cond.fieldLink RX1 54 "StemBeams$Event" "onStaff" "I"]
def wsL_law0_r15 : List Cond := [Cond.methodLink RX1 40 yX1_isOnBothStaves, Cond.instanceMethod yX1_isOnBothStaves, Cond.selects RX1 yX1_isOnBothStaves yX1_isOnBothStaves, Cond.code yX1_isOnBothStaves cX1_isOnBothStaves 3 (some .boolean), Cond.methodLink RX1 44 yX2_wayAlone, Cond.instanceMethod yX2_wayAlone, Cond.selects RX2 yX2_wayAlone yX2_wayAlone, Cond.code yX2_wayAlone cX2_wayAlone 2 (some .int), Cond.methodLink RX1 48 yX1_wayByHeads, Cond.instanceMethod yX1_wayByHeads, Cond.selects RX1 yX1_wayByHeads yX1_wayByHeads, Cond.code yX1_wayByHeads cX1_wayByHeads 5 (some .int), Cond.fieldLink RX1 61 "StemBeams$Event" "lowest" "I", Cond.fieldLink RX1 64 "StemBeams$Event" "highest" "I", Cond.methodLink RX1 67 Lib.Math.min.name, Cond.methodLink RX1 34 Lib.Math.max.name, Cond.methodLink RX1 57 yX2_aim, Cond.instanceMethod yX2_aim, Cond.selects RX2 yX2_aim yX2_aim, Cond.code yX2_aim cX2_aim 5 none, Cond.fieldLink RX2 61 "StemBeams$Event" "way" "I", Cond.fieldLink RX2 67 "StemBeams$Event" "near" "I", Cond.fieldLink RX2 70 "StemBeams$Event" "want" "I", Cond.fieldLink RX2 73 "StemBeams$Event" "least" "I"]
def wsL_law0_r16 : List Cond := [Cond.methodLink RX2 57 yX2_levels, Cond.instanceMethod yX2_levels, Cond.selects RX2 yX2_levels yX2_levels, Cond.code yX2_levels cX2_levels 1 (some .int), Cond.methodLink RX2 64 yX2_middle, Cond.instanceMethod yX2_middle, Cond.selects RX2 yX2_middle yX2_middle, Cond.code yX2_middle cX2_middle 1 (some .int), Cond.methodLink RX2 76 yX2_lengthTo, Cond.instanceMethod yX2_lengthTo, Cond.selects RX2 yX2_lengthTo yX2_lengthTo, Cond.code yX2_lengthTo cX2_lengthTo 2 (some .int), Cond.methodLink RX3 289 yX1_judgeSlope, Cond.instanceMethod yX1_judgeSlope, Cond.selects RX1 yX1_judgeSlope yX1_judgeSlope, Cond.code yX1_judgeSlope cX1_judgeSlope 3 none, Cond.fieldLink RX1 70 "StemBeams$Event" "near" "I", Cond.fieldLink RX1 81 "StemBeams$Beam" "flat" "Z", Cond.fieldLink RX1 85 "StemBeams$Beam" "ideal" "I", Cond.methodLink RX1 73 yX1_has, Cond.instanceMethod yX1_has, Cond.selects RX1 yX1_has yX1_has, Cond.code yX1_has cX1_has 2 (some .boolean), Cond.methodLink RX1 77 yX1_isInnerFarther]
def wsL_law0_r17 : List Cond := [Cond.instanceMethod yX1_isInnerFarther, Cond.selects RX1 yX1_isInnerFarther yX1_isInnerFarther, Cond.code yX1_isInnerFarther cX1_isInnerFarther 6 (some .boolean), Cond.methodLink RX3 292 yX1_findPlace, Cond.instanceMethod yX1_findPlace, Cond.selects RX1 yX1_findPlace yX1_findPlace, Cond.code yX1_findPlace cX1_findPlace 5 (some .boolean), Cond.constantLong RX1 91 (-1), Cond.fieldLink RX1 93 "StemBeams$Beam" "bad" "J", Cond.methodLink RX1 88 yX1_levelHeight, Cond.instanceMethod yX1_levelHeight, Cond.selects RX1 yX1_levelHeight yX1_levelHeight, Cond.code yX1_levelHeight cX1_levelHeight 4 (some .int), Cond.fieldLink RX1 115 "StemBeams$Event" "least" "I", Cond.methodLink RX1 97 yX1_slantBadness, Cond.instanceMethod yX1_slantBadness, Cond.selects RX1 yX1_slantBadness yX1_slantBadness, Cond.code yX1_slantBadness cX1_slantBadness 4 (some .long), Cond.constantLong RX1 118 (8), Cond.methodLink RX1 101 yX1_tryHeights, Cond.instanceMethod yX1_tryHeights, Cond.selects RX1 yX1_tryHeights yX1_tryHeights, Cond.code yX1_tryHeights cX1_tryHeights 9 none, Cond.fieldLink RX1 109 "StemBeams$Beam" "first" "I"]
def wsL_law0_r18 : List Cond := [Cond.fieldLink RX1 112 "StemBeams$Beam" "slant" "I", Cond.methodLink RX1 105 yX1_badnessAt, Cond.instanceMethod yX1_badnessAt, Cond.selects RX1 yX1_badnessAt yX1_badnessAt, Cond.code yX1_badnessAt cX1_badnessAt 9 (some .long), Cond.fieldLink RX1 130 "StemBeams$Event" "want" "I", Cond.methodLink RX1 120 yX1_wedgeBadness, Cond.instanceMethod yX1_wedgeBadness, Cond.selects RX1 yX1_wedgeBadness yX1_wedgeBadness, Cond.code yX1_wedgeBadness cX1_wedgeBadness 3 (some .int), Cond.methodLink RX1 133 yX2_middle, Cond.static yX3_rounded, Cond.code yX3_rounded cX3_rounded 2 (some .int), Cond.methodLink RX1 127 yX2_lengthTo, Cond.methodLink RX3 295 yX1_hold, Cond.instanceMethod yX1_hold, Cond.selects RX1 yX1_hold yX1_hold, Cond.code yX1_hold cX1_hold 3 none, Cond.fieldLink RX1 27 "StemBeams$Event" "inBeam" "I", Cond.methodLink RX3 274 yX1_add, Cond.instanceMethod yX1_add, Cond.selects RX1 yX1_add yX1_add, Cond.code yX1_add cX1_add 2 none, Cond.methodLink RL 60 yX4_group]
def wsL_law0_r19 : List Cond := [Cond.instanceMethod yX4_group, Cond.selects RX4 yX4_group yX4_group, Cond.code yX4_group cX4_group 9 (some .int), Cond.methodLink RX4 155 yX4_isShort, Cond.static yX4_isShort, Cond.code yX4_isShort cX4_isShort 1 (some .boolean), Cond.methodLink RX4 158 yX4_groupOf, Cond.instanceMethod yX4_groupOf, Cond.selects RX4 yX4_groupOf yX4_groupOf, Cond.code yX4_groupOf cX4_groupOf 5 (some .int), Cond.methodLink RX4 161 yX4_ends, Cond.instanceMethod yX4_ends, Cond.selects RX4 yX4_ends yX4_ends, Cond.code yX4_ends cX4_ends 4 none, Cond.methodLink RX4 165 yX4_direction, Cond.instanceMethod yX4_direction, Cond.selects RX4 yX4_direction yX4_direction, Cond.code yX4_direction cX4_direction 9 (some .int), Cond.methodLink RX4 177 yX4_noteAt, Cond.instanceMethod yX4_noteAt, Cond.selects RX4 yX4_noteAt yX4_noteAt, Cond.code yX4_noteAt cX4_noteAt 3 (some .int), Cond.methodLink RX4 139 yX4_highest, Cond.instanceMethod yX4_highest]
def wsL_law0_r20 : List Cond := [Cond.selects RX4 yX4_highest yX4_highest, Cond.code yX4_highest cX4_highest 4 (some .int), Cond.methodLink RX4 142 yX4_lowest, Cond.instanceMethod yX4_lowest, Cond.selects RX4 yX4_lowest yX4_lowest, Cond.code yX4_lowest cX4_lowest 4 (some .int), Cond.methodLink RX4 180 yX4_alone, Cond.instanceMethod yX4_alone, Cond.selects RX4 yX4_alone yX4_alone, Cond.code yX4_alone cX4_alone 2 (some .int), Cond.methodLink RX4 168 yX4_isFlat, Cond.instanceMethod yX4_isFlat, Cond.selects RX4 yX4_isFlat yX4_isFlat, Cond.code yX4_isFlat cX4_isFlat 7 (some .boolean), Cond.methodLink RX4 171 yX4_nearAt, Cond.instanceMethod yX4_nearAt, Cond.selects RX4 yX4_nearAt yX4_nearAt, Cond.code yX4_nearAt cX4_nearAt 3 (some .int), Cond.methodLink RX4 183 yX4_upAt, Cond.instanceMethod yX4_upAt, Cond.selects RX4 yX4_upAt yX4_upAt, Cond.code yX4_upAt cX4_upAt 3 (some .int), Cond.methodLink RX4 151 yX4_near, Cond.instanceMethod yX4_near]
def wsL_law0_r21 : List Cond := [Cond.selects RX4 yX4_near yX4_near, Cond.code yX4_near cX4_near 3 (some .int), Cond.methodLink RX4 135 yX4_middle, Cond.static yX4_middle, Cond.code yX4_middle cX4_middle 1 (some .int), Cond.methodLink RX4 174 yX4_find, Cond.instanceMethod yX4_find, Cond.selects RX4 yX4_find yX4_find, Cond.code yX4_find cX4_find 9 (some .boolean), Cond.constantLong RX4 200 (-1), Cond.methodLink RX4 148 yX4_more, Cond.instanceMethod yX4_more, Cond.selects RX4 yX4_more yX4_more, Cond.code yX4_more cX4_more 2 (some .int), Cond.methodLink RX4 145 yX4_levels, Cond.instanceMethod yX4_levels, Cond.selects RX4 yX4_levels yX4_levels, Cond.code yX4_levels cX4_levels 2 (some .int), Cond.methodLink RX4 211 yX4_badnessOf, Cond.instanceMethod yX4_badnessOf, Cond.selects RX4 yX4_badnessOf yX4_badnessOf, Cond.code yX4_badnessOf cX4_badnessOf 11 (some .long), Cond.constantLong RX4 195 (8), Cond.constantLong RX4 209 (25)]
def wsL_law0_r22 : List Cond := [Cond.methodLink RX4 197 yX4_lengthAt, Cond.instanceMethod yX4_lengthAt, Cond.selects RX4 yX4_lengthAt yX4_lengthAt, Cond.code yX4_lengthAt cX4_lengthAt 5 (some .int), Cond.methodLink RX4 189 yX4_heightAt, Cond.instanceMethod yX4_heightAt, Cond.selects RX4 yX4_heightAt yX4_heightAt, Cond.code yX4_heightAt cX4_heightAt 5 (some .int), Cond.methodLink RX4 186 yX4_rounded, Cond.static yX4_rounded, Cond.code yX4_rounded cX4_rounded 4 (some .int), Cond.methodLink RX4 202 yX4_want, Cond.instanceMethod yX4_want, Cond.selects RX4 yX4_want yX4_want, Cond.code yX4_want cX4_want 6 (some .int), Cond.methodLink RX4 206 yX4_isWedge, Cond.instanceMethod yX4_isWedge, Cond.selects RX4 yX4_isWedge yX4_isWedge, Cond.code yX4_isWedge cX4_isWedge 4 (some .boolean), Cond.constantLong RX4 193 (-8), Cond.methodLink RL 61 yX3_beam, Cond.instanceMethod yX3_beam, Cond.selects RX3 yX3_beam yX3_beam, Cond.code yX3_beam cX3_beam 4 (some .int)]
def wsL_law0_r23 : List Cond := [Cond.fieldLink RX3 120 "StemBeams$Beam" "way" "I", Cond.fieldLink RX3 123 "StemBeams$Beam" "first" "I", Cond.fieldLink RX3 126 "StemBeams$Beam" "slant" "I", Cond.fieldLink RX3 129 "StemBeams$Beam" "ideal" "I", Cond.fieldLink RX3 132 "StemBeams$Beam" "flat" "Z", Cond.fieldLink RX3 135 "StemBeams$Beam" "feathered" "I", Cond.methodLink RX3 109 yX3_beamAt, Cond.instanceMethod yX3_beamAt, Cond.selects RX3 yX3_beamAt yX3_beamAt, Cond.code yX3_beamAt cX3_beamAt 2 (some (.object "StemBeams$Beam")), Cond.methodLink RX3 116 yX1_greatestLevel, Cond.instanceMethod yX1_greatestLevel, Cond.selects RX1 yX1_greatestLevel yX1_greatestLevel, Cond.code yX1_greatestLevel cX1_greatestLevel 3 (some .int), Cond.methodLink RX1 30 yX2_levels, Cond.methodLink RL 64 yX4_beam, Cond.instanceMethod yX4_beam, Cond.selects RX4 yX4_beam yX4_beam, Cond.code yX4_beam cX4_beam 3 (some .int), Cond.methodLink RX4 215 yX4_isBeam, Cond.instanceMethod yX4_isBeam, Cond.selects RX4 yX4_isBeam yX4_isBeam, Cond.code yX4_isBeam cX4_isBeam 2 (some .boolean), Cond.methodLink RX4 218 yX4_greatest]
def wsL_law0_r24 : List Cond := [Cond.instanceMethod yX4_greatest, Cond.selects RX4 yX4_greatest yX4_greatest, Cond.code yX4_greatest cX4_greatest 4 (some .int), Cond.methodLink RL 65 yX3_member, Cond.instanceMethod yX3_member, Cond.selects RX3 yX3_member yX3_member, Cond.code yX3_member cX3_member 4 (some .int), Cond.fieldLink RX3 144 "StemBeams$Event" "number" "I", Cond.methodLink RX3 138 yX1_has, Cond.methodLink RL 68 yX4_member, Cond.instanceMethod yX4_member, Cond.selects RX4 yX4_member yX4_member, Cond.code yX4_member cX4_member 3 (some .int), Cond.methodLink RL 69 yX3_badness, Cond.instanceMethod yX3_badness, Cond.selects RX3 yX3_badness yX3_badness, Cond.code yX3_badness cX3_badness 3 (some .long), Cond.constantLong RX3 147 (-1), Cond.fieldLink RX3 149 "StemBeams$Beam" "bad" "J", Cond.methodLink RL 73 yX4_badness, Cond.instanceMethod yX4_badness, Cond.selects RX4 yX4_badness yX4_badness, Cond.code yX4_badness cX4_badness 2 (some .long), Cond.methodLink RL 74 yX3_other]
def wsL_law0_r25 : List Cond := [Cond.instanceMethod yX3_other, Cond.selects RX3 yX3_other yX3_other, Cond.code yX3_other cX3_other 6 (some .long), Cond.methodLink RX3 153 yX1_badnessAt, Cond.methodLink RL 78 yX4_other, Cond.instanceMethod yX4_other, Cond.selects RX4 yX4_other yX4_other, Cond.code yX4_other cX4_other 4 (some .long), Cond.constantLong RX4 221 (-200), Cond.constantLong RX4 223 (200), Cond.constantLong RX4 225 (-6), Cond.methodLink RL 79 yX3_stem, Cond.instanceMethod yX3_stem, Cond.selects RX3 yX3_stem yX3_stem, Cond.code yX3_stem cX3_stem 7 (some .int), Cond.fieldLink RX3 157 "StemBeams$Event" "beamNumber" "I", Cond.fieldLink RX3 160 "StemBeams$Event" "value" "I", Cond.fieldLink RX3 174 "StemBeams$Event" "near" "I", Cond.fieldLink RX3 177 "StemBeams$Event" "way" "I", Cond.fieldLink RX3 178 "StemBeams$Event" "want" "I", Cond.fieldLink RX3 181 "StemBeams$Event" "inBeam" "I", Cond.methodLink RX3 167 yX2_wayAlone, Cond.methodLink RX3 171 yX2_aim, Cond.methodLink RX3 184 yX1_heightAt]
def wsL_law0_r26 : List Cond := [Cond.instanceMethod yX1_heightAt, Cond.selects RX1 yX1_heightAt yX1_heightAt, Cond.code yX1_heightAt cX1_heightAt 2 (some .int), Cond.methodLink RX3 188 yX2_lengthTo, Cond.methodLink RX3 191 yX2_levels, Cond.methodLink RL 82 yX4_stem, Cond.instanceMethod yX4_stem, Cond.selects RX4 yX4_stem yX4_stem, Cond.code yX4_stem cX4_stem 6 (some .int), Cond.methodLink RX4 227 yX4_beamOf, Cond.instanceMethod yX4_beamOf, Cond.selects RX4 yX4_beamOf yX4_beamOf, Cond.code yX4_beamOf cX4_beamOf 5 (some .int), Cond.methodLink RX4 230 yX4_placeIn, Cond.instanceMethod yX4_placeIn, Cond.selects RX4 yX4_placeIn yX4_placeIn, Cond.code yX4_placeIn cX4_placeIn 5 (some .int), Cond.methodLink RL 83 yX3_level, Cond.instanceMethod yX3_level, Cond.selects RX3 yX3_level yX3_level, Cond.code yX3_level cX3_level 7 (some .int), Cond.methodLink RX3 194 yX1_sidesAt, Cond.instanceMethod yX1_sidesAt, Cond.selects RX1 yX1_sidesAt yX1_sidesAt]
def wsL_law0_r27 : List Cond := [Cond.code yX1_sidesAt cX1_sidesAt 3 (some .int), Cond.methodLink RX1 148 yX1_hangsBack, Cond.instanceMethod yX1_hangsBack, Cond.selects RX1 yX1_hangsBack yX1_hangsBack, Cond.code yX1_hangsBack cX1_hangsBack 3 (some .boolean), Cond.methodLink RX1 151 yX2_isBroken, Cond.methodLink RX3 198 yX3_stubOf, Cond.instanceMethod yX3_stubOf, Cond.selects RX3 yX3_stubOf yX3_stubOf, Cond.code yX3_stubOf cX3_stubOf 4 (some .int), Cond.methodLink RL 86 yX4_level, Cond.instanceMethod yX4_level, Cond.selects RX4 yX4_level yX4_level, Cond.code yX4_level cX4_level 7 (some .int), Cond.methodLink RL 87 yX3_feather, Cond.instanceMethod yX3_feather, Cond.selects RX3 yX3_feather yX3_feather, Cond.code yX3_feather cX3_feather 5 (some .int), Cond.methodLink RL 90 yX4_feather, Cond.instanceMethod yX4_feather, Cond.selects RX4 yX4_feather yX4_feather, Cond.code yX4_feather cX4_feather 4 (some .int), Cond.methodLink RL 91 yX3_lane, Cond.instanceMethod yX3_lane]
def wsL_law0_r28 : List Cond := [Cond.selects RX3 yX3_lane yX3_lane, Cond.code yX3_lane cX3_lane 5 (some .int), Cond.methodLink RX3 202 yX1_laneAt, Cond.instanceMethod yX1_laneAt, Cond.selects RX1 yX1_laneAt yX1_laneAt, Cond.code yX1_laneAt cX1_laneAt 5 (some .int), Cond.methodLink RX1 136 yX1_heightAt, Cond.methodLink RL 94 yX4_lane, Cond.instanceMethod yX4_lane, Cond.selects RX4 yX4_lane yX4_lane, Cond.code yX4_lane cX4_lane 4 (some .int), Cond.methodLink RX4 233 yX4_laneAt, Cond.instanceMethod yX4_laneAt, Cond.selects RX4 yX4_laneAt yX4_laneAt, Cond.code yX4_laneAt cX4_laneAt 6 (some .int), Cond.methodLink RL 95 yX3_rest, Cond.instanceMethod yX3_rest, Cond.selects RX3 yX3_rest yX3_rest, Cond.code yX3_rest cX3_rest 7 (some .int), Cond.methodLink RX3 211 yX3_noteBeside, Cond.instanceMethod yX3_noteBeside, Cond.selects RX3 yX3_noteBeside yX3_noteBeside, Cond.code yX3_noteBeside cX3_noteBeside 6 (some (.object "StemBeams$Event")), Cond.methodLink RX3 215 yX1_clearOf]
def wsL_law0_r29 : List Cond := [Cond.instanceMethod yX1_clearOf, Cond.selects RX1 yX1_clearOf yX1_clearOf, Cond.code yX1_clearOf cX1_clearOf 5 (some .int), Cond.methodLink RX1 139 yX1_greatestLevel, Cond.methodLink RX1 142 yX1_laneAt, Cond.methodLink RX1 145 yJ9_floorMod_7cf53, Cond.static yJ9_floorMod_7cf53, Cond.initialized RJ9, Cond.code yJ9_floorMod_7cf53 cJ9_floorMod_7cf53 3 (some .int), Cond.methodLink RL 99 yX4_rest, Cond.instanceMethod yX4_rest, Cond.selects RX4 yX4_rest yX4_rest, Cond.code yX4_rest cX4_rest 8 (some .int), Cond.methodLink RL 100 yL_share, Cond.static yL_share, Cond.initialized RL, Cond.codeWith yL_share cL_share 5 (some .int) [(0, 9, 12, 13)], Cond.classLink RL 13 "java/lang/ArithmeticException", Cond.methodLink RL 7 yX3_share, Cond.instanceMethod yX3_share, Cond.selects RX3 yX3_share yX3_share, Cond.code yX3_share cX3_share 5 (some .long), Cond.classLink RX3 218 "java/lang/ArithmeticException", Cond.initialized "java/lang/ArithmeticException"]
def wsL_law0_r30 : List Cond := [Cond.methodLink RX3 225 yX1_countWith, Cond.instanceMethod yX1_countWith, Cond.selects RX1 yX1_countWith yX1_countWith, Cond.code yX1_countWith cX1_countWith 4 (some .int), Cond.methodLink RX3 230 yX1_lengthsWith, Cond.instanceMethod yX1_lengthsWith, Cond.selects RX1 yX1_lengthsWith yX1_lengthsWith, Cond.code yX1_lengthsWith cX1_lengthsWith 5 (some .long), Cond.methodLink RL 105 yX4_share, Cond.instanceMethod yX4_share, Cond.selects RX4 yX4_share yX4_share, Cond.code yX4_share cX4_share 7 (some .long), Cond.methodLink RL 106 yX4_thrown, Cond.instanceMethod yX4_thrown, Cond.selects RX4 yX4_thrown yX4_thrown, Cond.code yX4_thrown cX4_thrown 1 (some .int), Cond.methodLink RL 109 yX3_event, Cond.instanceMethod yX3_event, Cond.selects RX3 yX3_event yX3_event, Cond.code yX3_event cX3_event 4 (some .int), Cond.methodLink RL 112 yX4_event, Cond.instanceMethod yX4_event, Cond.selects RX4 yX4_event yX4_event, Cond.code yX4_event cX4_event 3 (some .int)]
def wsL_law0_r31 : List Cond := [Cond.methodLink RL 113 yX3_count, Cond.instanceMethod yX3_count, Cond.selects RX3 yX3_count yX3_count, Cond.code yX3_count cX3_count 2 (some .int), Cond.methodLink RL 116 yX4_count, Cond.instanceMethod yX4_count, Cond.selects RX4 yX4_count yX4_count, Cond.code yX4_count cX4_count 2 (some .int), Cond.methodLink RL 117 yX3_clear, Cond.instanceMethod yX3_clear, Cond.selects RX3 yX3_clear yX3_clear, Cond.code yX3_clear cX3_clear 2 (some .int), Cond.methodLink RL 120 yX4_clear, Cond.instanceMethod yX4_clear, Cond.selects RX4 yX4_clear yX4_clear, Cond.code yX4_clear cX4_clear 2 (some .int)]
def wsL_law0 : List Cond := (wsL_law0_r1 ++ (wsL_law0_r2 ++ (wsL_law0_r3 ++ (wsL_law0_r4 ++ (wsL_law0_r5 ++ (wsL_law0_r6 ++ (wsL_law0_r7 ++ (wsL_law0_r8 ++ (wsL_law0_r9 ++ (wsL_law0_r10 ++ (wsL_law0_r11 ++ (wsL_law0_r12 ++ (wsL_law0_r13 ++ (wsL_law0_r14 ++ (wsL_law0_r15 ++ (wsL_law0_r16 ++ (wsL_law0_r17 ++ (wsL_law0_r18 ++ (wsL_law0_r19 ++ (wsL_law0_r20 ++ (wsL_law0_r21 ++ (wsL_law0_r22 ++ (wsL_law0_r23 ++ (wsL_law0_r24 ++ (wsL_law0_r25 ++ (wsL_law0_r26 ++ (wsL_law0_r27 ++ (wsL_law0_r28 ++ (wsL_law0_r29 ++ (wsL_law0_r30 ++ wsL_law0_r31)))))))))))))))))))))))))))))) ++ wsX30 ++ wsX40 ++ wsX00 ++ wsX20 ++ wsX10 ++ ([] : List Cond)
abbrev vwCl : List vw_C := [(RX0, TX0, 4), (RX1, TX1, 9), (RX2, TX2, 18), (RX3, TX3, 8), (RX4, TX4, 29)]
abbrev zm_tb : List Cond := wsL_law0
set_option maxRecDepth 20000 in
theorem zm_goodB : wsL_law0.all goodWord = true := by decide +kernel
theorem zm_good : ∀ q ∈ zm_tb, (q.onTables && q.keeps) = true ∨ ∃ ty, q = .arrayClass ty := fun q h => good_of_word (List.all_eq_true.mp zm_goodB q h)
def zm_tys (dA : Nat → ClassId) : List (ClassId × FieldType) := [(dA 0, .int), (dA 1, .long), (dA 2, .object RX2), (dA 3, .object RX1)]
def zm_nw : List Cond := [.methodLinkNest RX3 32 yX2_init "StemBeams", .methodLinkNest RX1 124 yX3_rounded "StemBeams", .arrayOver (.object RX2), .arrayOver (.object RX1)]
theorem zm_nwC {s U : State} (h : ∀ q ∈ zm_nw, va_Nw q s) (hv : s.vm = U.vm) : ∀ q ∈ zm_nw, va_Nw q U := by
  have hA : s.vm.Alike U.vm := hv ▸ Vm.Alike.refl s.vm
  intro q hq
  have hs := h q hq
  simp only [zm_nw, List.mem_cons, List.not_mem_nil, or_false] at hq
  rcases hq with rfl | rfl | rfl | rfl
  · exact va_Nw.same rfl hv hs
  · exact va_Nw.same rfl hv hs
  · exact va_AO.moved hA hs
  · exact va_AO.moved hA hs
theorem zm_nwW {s U : State} (h : ∀ q ∈ zm_nw, va_Nw q s) (hW : s.WarmedH U.vm) : ∀ q ∈ zm_nw, va_Nw q U := by
  intro q hq
  have hs := h q hq
  simp only [zm_nw, List.mem_cons, List.not_mem_nil, or_false] at hq
  rcases hq with rfl | rfl | rfl | rfl
  · exact va_Nw.warmM hW hs
  · exact va_Nw.warmM hW hs
  · exact va_AO.moved hW.alike hs
  · exact va_AO.moved hW.alike hs
theorem zm_in0 : ∀ q ∈ u_ws RX0 TX0 4, q ∈ zm_tb := by decide +kernel
theorem zm_in1 : ∀ q ∈ u_ws RX1 TX1 9, q ∈ zm_tb := by decide +kernel
theorem zm_in2 : ∀ q ∈ u_ws RX2 TX2 18, q ∈ zm_tb := by decide +kernel
theorem zm_in3 : ∀ q ∈ u_ws RX3 TX3 8, q ∈ zm_tb := by decide +kernel
theorem zm_in4 : ∀ q ∈ u_ws RX4 TX4 29, q ∈ zm_tb := by decide +kernel
end
section
/-! A small abstract machine over the kit's worlds: the heap is a function from addresses to cells; a block of bytecode is a
nest of combinators (zi_..) that says what must hold for it to go on; each has its row (zs_..) over the machine. -/
abbrev zO : Type := (Nat × vp_A) ⊕ (Nat × List Value)
abbrev zH : Type := (Nat → Option zO) × Nat × Nat
abbrev zL : Type := List (Option Value)
abbrev zB : Type := zL → List Value → zH → Prop
abbrev zK : Type := Nat → zB
abbrev zR : Type := Option Value → zH → Prop
/-- a method: name, code, locals, what it returns, frames and words of locals that its calls take -/
abbrev zM : Type := MethodName × ByteArray × Nat × Option FieldType × Nat × Nat
/-- launch, class numbers, array classes, the first address that is ours, the heap below it -/
abbrev zW : Type := Launch × va_G × (Nat → ClassId) × Nat × Heap
def zm_E (dA : Nat → ClassId) : zO → va_E
  | .inl (t, x) => .inl (dA t, x)
  | .inr o => .inr o
def zm_P (w : zW) (h : zH) (H : Heap) : Prop := H.size = h.2.1 ∧ w.2.2.2.1 ≤ h.2.1 ∧ (∀ q : Nat, q < w.2.2.2.1 → H[q]? = w.2.2.2.2[q]?) ∧ ∀ (a : Nat) (o : zO), h.1 a = some o → w.2.2.2.1 ≤ a ∧ va_at w.2.1 vwCl (a, zm_E w.2.2.1 o) H
def zm_up (f : Nat → Option zO) (a : Nat) (o : zO) : Nat → Option zO := fun b => if b = a then some o else f b
theorem zm_up_self (f : Nat → Option zO) (a : Nat) (o : zO) : zm_up f a o a = some o := by simp [zm_up]
theorem zm_up_ne (f : Nat → Option zO) {a b : Nat} (o : zO) (h : b ≠ a) : zm_up f a o b = f b := by simp [zm_up, h]
def zm_lv (ls : Array Slot) (nL : Nat) (lv : zL) : Prop := ls.size = nL ∧ lv_wf ls ∧ ∀ (i : Nat) (v : Value), lv[i]? = some (some v) → ls[i]? = some (.val v)
def zm_prs (lv : zL) : List (Nat × Value) := lv.zipIdx.filterMap (fun q => q.1.map (fun v => (q.2, v)))
theorem zm_prs_mem {lv : zL} {j : Nat} {w : Value} : (j, w) ∈ zm_prs lv ↔ lv[j]? = some (some w) := by
  unfold zm_prs
  rw [List.mem_filterMap]
  constructor
  · rintro ⟨⟨o, i⟩, h1, h2⟩
    rw [List.mem_zipIdx_iff_getElem?] at h1
    cases o with
    | none => simp at h2
    | some v =>
      simp at h2
      obtain ⟨rfl, rfl⟩ := h2
      exact h1
  · intro h
    exact ⟨(some w, j), List.mem_zipIdx_iff_getElem?.mpr h, rfl⟩
theorem zm_lv.has {ls : Array Slot} {nL : Nat} {lv : zL} (h : zm_lv ls nL lv) : lv_has ls nL (zm_prs lv) := ⟨h.1, h.2.1, fun q hq => h.2.2 q.1 q.2 (zm_prs_mem.mp hq)⟩
theorem zm_lv.of {ls : Array Slot} {nL : Nat} {lv : zL} {l : List (Nat × Value)} (h : lv_has ls nL l) (hl : ∀ j w, lv[j]? = some (some w) → (j, w) ∈ l) : zm_lv ls nL lv := ⟨h.1, h.2.1, fun i v hi => h.2.2 (i, v) (hl i v hi)⟩
/-- a long that would be cut by a store at i is gone -/
def zm_k (lv : zL) (i : Nat) : zL := match i with
  | 0 => lv
  | j + 1 => match lv[j]? with
    | some (some w) => if w.category = 2 then lv.set j none else lv
    | _ => lv
def zm_s1 (lv : zL) (i : Nat) (v : Value) : zL := (zm_k lv i).set i (some v)
def zm_s2 (lv : zL) (i : Nat) (v : Value) : zL := ((zm_k lv i).set (i + 1) none).set i (some v)
theorem zm_k_at {lv : zL} {i j : Nat} {w : Value} (h : (zm_k lv i)[j]? = some (some w)) : lv[j]? = some (some w) ∧ ¬ (j + 1 = i ∧ w.category = 2) := by
  cases i with
  | zero => exact ⟨h, fun q => by omega⟩
  | succ i =>
    simp only [zm_k] at h
    cases hl : lv[i]? with
    | none =>
      rw [hl] at h
      exact ⟨h, fun q => by
        have : j = i := by omega
        subst this
        rw [hl] at h
        cases h⟩
    | some o =>
      rw [hl] at h
      cases o with
      | none =>
        exact ⟨h, fun q => by
          have : j = i := by omega
          subst this
          simp only at h
          rw [hl] at h
          cases h⟩
      | some x =>
        simp only at h
        by_cases hc : x.category = 2
        · rw [if_pos hc, List.getElem?_set] at h
          by_cases hij : i = j
          · rw [if_pos hij] at h
            split at h <;> cases h
          · rw [if_neg hij] at h
            exact ⟨h, fun q => hij (by omega)⟩
        · rw [if_neg hc] at h
          refine ⟨h, fun q => ?_⟩
          have : j = i := by omega
          subst this
          rw [hl] at h
          cases h
          exact hc q.2
theorem zm_s1_at {lv : zL} {i j : Nat} {v w : Value} (h : (zm_s1 lv i v)[j]? = some (some w)) : (j, w) ∈ ((i, v) :: (zm_prs lv).filter (fun q => !(q.1 == i) && !(q.1 + 1 == i && q.2.category == 2))) := by
  unfold zm_s1 at h
  rw [List.getElem?_set] at h
  by_cases hij : i = j
  · rw [if_pos hij] at h
    split at h
    · cases h
      subst hij
      exact List.mem_cons_self
    · cases h
  · rw [if_neg hij] at h
    obtain ⟨h1, h2⟩ := zm_k_at h
    refine List.mem_cons_of_mem _ (List.mem_filter.mpr ⟨zm_prs_mem.mpr h1, ?_⟩)
    have h3 : ¬ j = i := fun q => hij q.symm
    simp only [Bool.and_eq_true, Bool.not_eq_true', beq_eq_false_iff_ne, ne_eq, Bool.and_eq_false_iff]
    refine ⟨h3, ?_⟩
    by_cases hj : j + 1 = i
    · exact Or.inr (fun q => h2 ⟨hj, q⟩)
    · exact Or.inl hj
theorem zm_s2_at {lv : zL} {i j : Nat} {v w : Value} (h : (zm_s2 lv i v)[j]? = some (some w)) : (j, w) ∈ ((i, v) :: (zm_prs lv).filter (fun q => !(q.1 == i) && (!(q.1 == i + 1) && !(q.1 + 1 == i && q.2.category == 2)))) := by
  unfold zm_s2 at h
  rw [List.getElem?_set] at h
  by_cases hij : i = j
  · rw [if_pos hij] at h
    split at h
    · cases h
      subst hij
      exact List.mem_cons_self
    · cases h
  · rw [if_neg hij, List.getElem?_set] at h
    by_cases hij2 : i + 1 = j
    · rw [if_pos hij2] at h
      split at h <;> cases h
    · rw [if_neg hij2] at h
      obtain ⟨h1, h2⟩ := zm_k_at h
      refine List.mem_cons_of_mem _ (List.mem_filter.mpr ⟨zm_prs_mem.mpr h1, ?_⟩)
      have h3 : ¬ j = i := fun q => hij q.symm
      have h4 : ¬ j = i + 1 := fun q => hij2 q.symm
      simp only [Bool.and_eq_true, Bool.not_eq_true', beq_eq_false_iff_ne, ne_eq, Bool.and_eq_false_iff]
      refine ⟨h3, h4, ?_⟩
      by_cases hj : j + 1 = i
      · exact Or.inr (fun q => h2 ⟨hj, q⟩)
      · exact Or.inl hj
/-! the combinators -/
def zi_push (v : Value) (K : zB) : zB := fun lv st h => K lv (v :: st) h
def zi_ldi (i : Nat) (K : zB) : zB := fun lv st h => match lv[i]? with
  | some (some (.int x)) => K lv (.int x :: st) h
  | _ => False
def zi_ldl (i : Nat) (K : zB) : zB := fun lv st h => match lv[i]? with
  | some (some (.long x)) => K lv (.long x :: st) h
  | _ => False
def zi_lda (i : Nat) (K : zB) : zB := fun lv st h => match lv[i]? with
  | some (some (.ref x)) => K lv (.ref x :: st) h
  | some (some .null) => K lv (.null :: st) h
  | _ => False
def zi_sti (i : Nat) (K : zB) : zB := fun lv st h => match st with
  | .int x :: r => K (zm_s1 lv i (.int x)) r h
  | _ => False
def zi_stl (i : Nat) (K : zB) : zB := fun lv st h => match st with
  | .long x :: r => K (zm_s2 lv i (.long x)) r h
  | _ => False
def zi_sta (i : Nat) (K : zB) : zB := fun lv st h => match st with
  | .ref x :: r => K (zm_s1 lv i (.ref x)) r h
  | .null :: r => K (zm_s1 lv i .null) r h
  | _ => False
def zi_inc (i : Nat) (d : Int32) (K : zB) : zB := fun lv st h => match lv[i]? with
  | some (some (.int x)) => K (zm_s1 lv i (.int (x + d))) st h
  | _ => False
def zi_b (f : Int32 → Int32 → Int32) (K : zB) : zB := fun lv st h => match st with
  | .int y :: .int x :: r => K lv (.int (f x y) :: r) h
  | _ => False
def zi_d (f : Int32 → Int32 → Int32) (K : zB) : zB := fun lv st h => match st with
  | .int y :: .int x :: r => ¬ y = 0 ∧ K lv (.int (f x y) :: r) h
  | _ => False
def zi_u (f : Int32 → Int32) (K : zB) : zB := fun lv st h => match st with
  | .int x :: r => K lv (.int (f x) :: r) h
  | _ => False
def zi_bl (f : Int64 → Int64 → Int64) (K : zB) : zB := fun lv st h => match st with
  | .long y :: .long x :: r => K lv (.long (f x y) :: r) h
  | _ => False
def zi_dl (f : Int64 → Int64 → Int64) (K : zB) : zB := fun lv st h => match st with
  | .long y :: .long x :: r => ¬ y = 0 ∧ K lv (.long (f x y) :: r) h
  | _ => False
def zi_ul (f : Int64 → Int64) (K : zB) : zB := fun lv st h => match st with
  | .long x :: r => K lv (.long (f x) :: r) h
  | _ => False
def zi_lcmp (K : zB) : zB := fun lv st h => match st with
  | .long y :: .long x :: r => K lv (.int (lg_cmp x y) :: r) h
  | _ => False
def zi_i2l (K : zB) : zB := fun lv st h => match st with
  | .int x :: r => K lv (.long x.toInt64 :: r) h
  | _ => False
def zi_l2i (K : zB) : zB := fun lv st h => match st with
  | .long x :: r => K lv (.int x.toInt32 :: r) h
  | _ => False
def zi_if (P : Int32 → Prop) (K1 K2 : zB) : zB := fun lv st h => match st with
  | .int x :: r => (P x → K1 lv r h) ∧ (¬ P x → K2 lv r h)
  | _ => False
def zi_ic (P : Int32 → Int32 → Prop) (K1 K2 : zB) : zB := fun lv st h => match st with
  | .int y :: .int x :: r => (P x y → K1 lv r h) ∧ (¬ P x y → K2 lv r h)
  | _ => False
/-- null goes to K1, else K2 -/
def zi_nul (K1 K2 : zB) : zB := fun lv st h => match st with
  | .null :: r => K1 lv r h
  | .ref _ :: r => K2 lv r h
  | _ => False
def zi_dup (K : zB) : zB := fun lv st h => match st with
  | v :: r => v.category = 1 ∧ K lv (v :: v :: r) h
  | _ => False
def zi_pop (K : zB) : zB := fun lv st h => match st with
  | v :: r => v.category = 1 ∧ K lv r h
  | _ => False
def zi_pop2 (K : zB) : zB := fun lv st h => match st with
  | v :: r => v.category = 2 ∧ K lv r h
  | _ => False
def zi_dup_x1 (K : zB) : zB := fun lv st h => match st with
  | v :: u :: r => v.category = 1 ∧ u.category = 1 ∧ K lv (v :: u :: v :: r) h
  | _ => False
def zi_dup_x2 (K : zB) : zB := fun lv st h => match st with
  | v :: u :: t :: r => v.category = 1 ∧ u.category = 1 ∧ t.category = 1 ∧ K lv (v :: u :: t :: v :: r) h
  | _ => False
def zi_dup2 (K : zB) : zB := fun lv st h => match st with
  | v :: u :: r => v.category = 1 ∧ u.category = 1 ∧ K lv (v :: u :: v :: u :: r) h
  | _ => False
def zi_dup2l (K : zB) : zB := fun lv st h => match st with
  | v :: r => v.category = 2 ∧ K lv (v :: v :: r) h
  | _ => False
def zi_dup2_x1l (K : zB) : zB := fun lv st h => match st with
  | v :: u :: r => v.category = 2 ∧ u.category = 1 ∧ K lv (v :: u :: v :: r) h
  | _ => False
def zi_gf (ci k : Nat) (K : zB) : zB := fun lv st h => match st with
  | .ref a :: r => match h.1 a with
    | some (.inr (c', fs)) => c' = ci ∧ (match fs[k]? with
      | some v => K lv (v :: r) h
      | none => False)
    | _ => False
  | _ => False
def zm_ft (ty : FieldType) (v : Value) : Prop := narrow ty v = v ∧ fits ty v = true
def zi_pf (ci k : Nat) (ty : FieldType) (K : zB) : zB := fun lv st h => match st with
  | v :: .ref a :: r => match h.1 a with
    | some (.inr (c', fs)) => c' = ci ∧ zm_ft ty v ∧ k < fs.length ∧ K lv r (zm_up h.1 a (.inr (c', fs.set k v)), h.2)
    | _ => False
  | _ => False
def zi_ia (t : Nat) (K : zB) : zB := fun lv st h => match st with
  | .int i :: .ref a :: r => match h.1 a with
    | some (.inl (t', n, .inl f)) => t' = t ∧ vp_in i n ∧ K lv (.int (f i.toNatClampNeg) :: r) h
    | _ => False
  | _ => False
def zi_is (t : Nat) (K : zB) : zB := fun lv st h => match st with
  | .int x :: .int i :: .ref a :: r => match h.1 a with
    | some (.inl (t', n, .inl f)) => t' = t ∧ vp_in i n ∧ K lv r (zm_up h.1 a (.inl (t', n, .inl (upd f i.toNatClampNeg x))), h.2)
    | _ => False
  | _ => False
def zi_la (t : Nat) (K : zB) : zB := fun lv st h => match st with
  | .int i :: .ref a :: r => match h.1 a with
    | some (.inl (t', n, .inr (.inl f))) => t' = t ∧ vp_in i n ∧ K lv (.long (f i.toNatClampNeg) :: r) h
    | _ => False
  | _ => False
def zi_lst (t : Nat) (K : zB) : zB := fun lv st h => match st with
  | .long x :: .int i :: .ref a :: r => match h.1 a with
    | some (.inl (t', n, .inr (.inl f))) => t' = t ∧ vp_in i n ∧ K lv r (zm_up h.1 a (.inl (t', n, .inr (.inl (vp_updL f i.toNatClampNeg x)))), h.2)
    | _ => False
  | _ => False
def zi_aa (t : Nat) (K : zB) : zB := fun lv st h => match st with
  | .int i :: .ref a :: r => match h.1 a with
    | some (.inl (t', n, .inr (.inr (.inr (.inr f))))) => t' = t ∧ vp_in i n ∧ K lv (va_rf (f i.toNatClampNeg) :: r) h
    | _ => False
  | _ => False
def zi_as (t ci : Nat) (K : zB) : zB := fun lv st h => match st with
  | .ref v :: .int i :: .ref a :: r => match h.1 a with
    | some (.inl (t', n, .inr (.inr (.inr (.inr f))))) => t' = t ∧ vp_in i n ∧ (∃ fs, h.1 v = some (.inr (ci, fs))) ∧ K lv r (zm_up h.1 a (.inl (t', n, .inr (.inr (.inr (.inr (va_up f i.toNatClampNeg (some v)))))))  , h.2)
    | _ => False
  | _ => False
def zi_len (t : Nat) (K : zB) : zB := fun lv st h => match st with
  | .ref a :: r => match h.1 a with
    | some (.inl (t', x)) => t' = t ∧ K lv (.int (Int32.ofNat x.1) :: r) h
    | _ => False
  | _ => False
def zi_new (N S ci nf : Nat) (fs : List Value) (K : zB) : zB := fun lv st h => h.2.1 + 1 ≤ N ∧ h.2.2 + nf ≤ S ∧ K lv (.ref h.2.1 :: st) (zm_up h.1 h.2.1 (.inr (ci, fs)), h.2.1 + 1, h.2.2 + nf)
def zi_na (N S t : Nat) (d : (Nat → Int32) ⊕ (Nat → Int64) ⊕ (Nat → UInt32) ⊕ (Nat → UInt64) ⊕ (Nat → Option Nat)) (K : zB) : zB := fun lv st h => match st with
  | .int n :: r => ¬ n < 0 ∧ n.toNatClampNeg ≤ 1000000 ∧ h.2.1 + 1 ≤ N ∧ h.2.2 + n.toNatClampNeg ≤ S ∧ K lv (.ref h.2.1 :: r) (zm_up h.1 h.2.1 (.inl (t, n.toNatClampNeg, d)), h.2.1 + 1, h.2.2 + n.toNatClampNeg)
  | _ => False
def zi_mx (N S : Nat) (K : zB) : zB := fun lv st h => match st with
  | .int y :: .int x :: r => (r.map fun v => v.category).sum ≤ 8 ∧ h.2.1 ≤ N ∧ h.2.2 ≤ S ∧ K lv (.int (if x < y then y else x) :: r) h
  | _ => False
def zi_mn (N S : Nat) (K : zB) : zB := fun lv st h => match st with
  | .int y :: .int x :: r => (r.map fun v => v.category).sum ≤ 8 ∧ h.2.1 ≤ N ∧ h.2.2 ≤ S ∧ K lv (.int (if y < x then y else x) :: r) h
  | _ => False
def zi_ret (Rt : zR) : zB := fun _ st h => match st with
  | [] => Rt none h
  | [v] => Rt (some v) h
  | _ => False
def zi_swx : List (Int32 × zB) → zB → Int32 → zB
  | [], d, _ => d
  | (k, K) :: cs, d, x => fun lv st h => (x = k → K lv st h) ∧ (¬ x = k → zi_swx cs d x lv st h)
def zi_sw (cs : List (Int32 × zB)) (d : zB) : zB := fun lv st h => match st with
  | .int x :: r => zi_swx cs d x lv r h
  | _ => False
end
section
def zm_ws (M : zM) : List Cond := .code M.1 M.2.1 M.2.2.1 M.2.2.2.1 :: zm_tb
def zm_U (w : zW) (h : zH) (U : State) : Prop := zm_P w h U.heap ∧ va_K w.2.1 vwCl (zm_tys w.2.2.1) U ∧ ∀ q ∈ zm_nw, va_Nw q U
def zm_Q (w : zW) (r : Option Value) (h : zH) : Array Value → State → Outcome → State → Prop := fun _ _ o t => o = .returned r ∧ zm_P w h t.heap
/-- a method's contract: from h with these arguments it returns r and leaves h' -/
def zm_C (w : zW) (M : zM) (As : List Value) (h : zH) (r : Option Value) (h' : zH) : Prop :=
  ∃ mc ms : Nat, h'.2.1 = h.2.1 + mc ∧ h'.2.2 = h.2.2 + ms ∧ Met w.1 M.1 (zm_ws M) { frames := M.2.2.2.2.1, cells := mc, slots := ms, locals := M.2.2.2.2.2 } (va_Pc As (zm_U w h)) (zm_Q w r h') mc ms (fun q => w.2.2.2.1 ≤ q)
abbrev zC : Type := Program × Env × Room × State × MethodId × Array Value × List Frame × Method × Code × zH × (State → Prop) × Nat
def zm_V (w : zW) : zC → zK := fun (p, e, R, s, m, args, below, meth, c, h0, Qw, nL) pc lv st h => ∀ (H : Heap) (locs : List Loc) (ls : Array Slot) (cells slots : Nat), zm_P w h H → (∀ q ∈ locs, w.2.2.2.1 ≤ q.base) → zm_lv ls nL lv → h.2.1 = h0.2.1 + cells → h.2.2 = h0.2.2 + slots → W p w.1 e R s m args below meth c H locs cells slots Qw (F0 m pc ls st)
/-- pc is an instruction that returns v -/
def zm_rt (M : zM) (pc : Nat) (v : Option Value) : Prop :=
  (v = none ∧ M.2.2.2.1 = none ∧ decode M.2.1 pc = .ok (.return_, 1)) ∨ (∃ x : Int32, v = some (.int x) ∧ M.2.2.2.1 = some .int ∧ decode M.2.1 pc = .ok (.ireturn, 1)) ∨ (∃ x : Int32, v = some (.int x) ∧ (x = 0 ∨ x = 1) ∧ M.2.2.2.1 = some .boolean ∧ decode M.2.1 pc = .ok (.ireturn, 1)) ∨ (∃ x : Int64, v = some (.long x) ∧ M.2.2.2.1 = some .long ∧ decode M.2.1 pc = .ok (.lreturn, 1)) ∨ (∃ (q : Value) (rt : FieldType), v = some q ∧ M.2.2.2.1 = some rt ∧ ((∃ n, rt = .object n) ∨ ∃ t, rt = .array t) ∧ (q = .null ∨ ∃ a, q = .ref a) ∧ decode M.2.1 pc = .ok (.areturn, 1))
def zm_X (w : zW) (Γ : zC) (M : zM) (N S : Nat) (Rt : zR) : Prop := match Γ with
  | (p, e, R, s, m, args, below, meth, c, h0, Qw, nL) => p.tables.exec = Jvm.exec ∧ c.code = M.2.1 ∧ c.maxLocals = M.2.2.1 ∧ nL = M.2.2.1 ∧ s.vm.findClass M.1.cls = some m.cls ∧ (∀ q ∈ zm_tb, q.before args s = true) ∧ va_K w.2.1 vwCl (zm_tys w.2.2.1) s ∧ (∀ q ∈ zm_nw, va_Nw q s) ∧ M.2.2.2.2.1 ≤ R.frames ∧ M.2.2.2.2.2 ≤ R.locals ∧ N ≤ h0.2.1 + R.cells ∧ S ≤ h0.2.2 + R.slots ∧ meth.name = M.1.name ∧ ∀ v h pc lv, Rt v h → zm_rt M pc v → zm_V w (p, e, R, s, m, args, below, meth, c, h0, Qw, nL) pc lv v.toList h
theorem zs_iconst {w : zW} {Γ : zC} {M : zM} {N S : Nat} {Rt : zR} (X : zm_X w Γ M N S Rt) {pc : Nat} {K : zB} {n : Int} {v : Int32} (hv : Int32.ofInt n = v) (hd : decode M.2.1 pc = .ok (.iconst n, 1)) (hK : ∀ lv st h, K lv st h → zm_V w Γ (pc + 1) lv st h) : ∀ lv st h, zi_push (.int v) K lv st h → zm_V w Γ pc lv st h := by
  intro lv st h hk
  obtain ⟨p, e, R, s, m, args, below, meth, c, h0, Qw, nL⟩ := Γ
  obtain ⟨hx, hb, hml, hnl, hown, hts, hKK, hNw, hfr, hlo, hN, hS, hnm, hrt⟩ := X
  intro H locs ls cells slots hP hL hl h1 h2
  exact lv_iconst hx hb hd hv (hK _ _ _ hk H locs ls cells slots hP hL hl h1 h2)
theorem zs_bipush {w : zW} {Γ : zC} {M : zM} {N S : Nat} {Rt : zR} (X : zm_X w Γ M N S Rt) {pc : Nat} {K : zB} {n : Int} {v : Int32} (hv : (Int8.ofInt n).toInt32 = v) (hd : decode M.2.1 pc = .ok (.bipush n, 2)) (hK : ∀ lv st h, K lv st h → zm_V w Γ (pc + 2) lv st h) : ∀ lv st h, zi_push (.int v) K lv st h → zm_V w Γ pc lv st h := by
  intro lv st h hk
  obtain ⟨p, e, R, s, m, args, below, meth, c, h0, Qw, nL⟩ := Γ
  obtain ⟨hx, hb, hml, hnl, hown, hts, hKK, hNw, hfr, hlo, hN, hS, hnm, hrt⟩ := X
  intro H locs ls cells slots hP hL hl h1 h2
  exact lv_bipush hx hb hd hv (hK _ _ _ hk H locs ls cells slots hP hL hl h1 h2)
theorem zs_sipush {w : zW} {Γ : zC} {M : zM} {N S : Nat} {Rt : zR} (X : zm_X w Γ M N S Rt) {pc : Nat} {K : zB} {n : Int} {v : Int32} (hv : (Int16.ofInt n).toInt32 = v) (hd : decode M.2.1 pc = .ok (.sipush n, 3)) (hK : ∀ lv st h, K lv st h → zm_V w Γ (pc + 3) lv st h) : ∀ lv st h, zi_push (.int v) K lv st h → zm_V w Γ pc lv st h := by
  intro lv st h hk
  obtain ⟨p, e, R, s, m, args, below, meth, c, h0, Qw, nL⟩ := Γ
  obtain ⟨hx, hb, hml, hnl, hown, hts, hKK, hNw, hfr, hlo, hN, hS, hnm, hrt⟩ := X
  intro H locs ls cells slots hP hL hl h1 h2
  exact lv_sipush hx hb hd hv (hK _ _ _ hk H locs ls cells slots hP hL hl h1 h2)
theorem zs_lconst {w : zW} {Γ : zC} {M : zM} {N S : Nat} {Rt : zR} (X : zm_X w Γ M N S Rt) {pc : Nat} {K : zB} {n : Fin 2} {v : Int64} (hv : Int64.ofNat (n : Nat) = v) (hd : decode M.2.1 pc = .ok (.lconst n, 1)) (hK : ∀ lv st h, K lv st h → zm_V w Γ (pc + 1) lv st h) : ∀ lv st h, zi_push (.long v) K lv st h → zm_V w Γ pc lv st h := by
  intro lv st h hk
  obtain ⟨p, e, R, s, m, args, below, meth, c, h0, Qw, nL⟩ := Γ
  obtain ⟨hx, hb, hml, hnl, hown, hts, hKK, hNw, hfr, hlo, hN, hS, hnm, hrt⟩ := X
  intro H locs ls cells slots hP hL hl h1 h2
  exact lv_lconst hx hb hd hv (hK _ _ _ hk H locs ls cells slots hP hL hl h1 h2)
theorem zs_ldc {w : zW} {Γ : zC} {M : zM} {N S : Nat} {Rt : zR} (X : zm_X w Γ M N S Rt) {pc : Nat} {K : zB} {i : Nat} {v : Int32} (hw : Cond.constant M.1.cls i v ∈ zm_tb) (hd : decode M.2.1 pc = .ok (.ldc i, 2)) (hK : ∀ lv st h, K lv st h → zm_V w Γ (pc + 2) lv st h) : ∀ lv st h, zi_push (.int v) K lv st h → zm_V w Γ pc lv st h := by
  intro lv st h hk
  obtain ⟨p, e, R, s, m, args, below, meth, c, h0, Qw, nL⟩ := Γ
  obtain ⟨hx, hb, hml, hnl, hown, hts, hKK, hNw, hfr, hlo, hN, hS, hnm, hrt⟩ := X
  intro H locs ls cells slots hP hL hl h1 h2
  exact lv_ldc hx hb hown (hts _ hw) hd (hK _ _ _ hk H locs ls cells slots hP hL hl h1 h2)
theorem zs_ldcw {w : zW} {Γ : zC} {M : zM} {N S : Nat} {Rt : zR} (X : zm_X w Γ M N S Rt) {pc : Nat} {K : zB} {i : Nat} {v : Int32} (hw : Cond.constant M.1.cls i v ∈ zm_tb) (hd : decode M.2.1 pc = .ok (.ldc_w i, 3)) (hK : ∀ lv st h, K lv st h → zm_V w Γ (pc + 3) lv st h) : ∀ lv st h, zi_push (.int v) K lv st h → zm_V w Γ pc lv st h := by
  intro lv st h hk
  obtain ⟨p, e, R, s, m, args, below, meth, c, h0, Qw, nL⟩ := Γ
  obtain ⟨hx, hb, hml, hnl, hown, hts, hKK, hNw, hfr, hlo, hN, hS, hnm, hrt⟩ := X
  intro H locs ls cells slots hP hL hl h1 h2
  exact lv_ldcw hx hb hown (hts _ hw) hd (hK _ _ _ hk H locs ls cells slots hP hL hl h1 h2)
theorem zs_ldc2 {w : zW} {Γ : zC} {M : zM} {N S : Nat} {Rt : zR} (X : zm_X w Γ M N S Rt) {pc : Nat} {K : zB} {i : Nat} {v : Int64} (hw : Cond.constantLong M.1.cls i v ∈ zm_tb) (hd : decode M.2.1 pc = .ok (.ldc2_w i, 3)) (hK : ∀ lv st h, K lv st h → zm_V w Γ (pc + 3) lv st h) : ∀ lv st h, zi_push (.long v) K lv st h → zm_V w Γ pc lv st h := by
  intro lv st h hk
  obtain ⟨p, e, R, s, m, args, below, meth, c, h0, Qw, nL⟩ := Γ
  obtain ⟨hx, hb, hml, hnl, hown, hts, hKK, hNw, hfr, hlo, hN, hS, hnm, hrt⟩ := X
  intro H locs ls cells slots hP hL hl h1 h2
  exact lv_ldc2 hx hb hown (hts _ hw) hd (hK _ _ _ hk H locs ls cells slots hP hL hl h1 h2)
theorem zs_null {w : zW} {Γ : zC} {M : zM} {N S : Nat} {Rt : zR} (X : zm_X w Γ M N S Rt) {pc : Nat} {K : zB}  (hd : decode M.2.1 pc = .ok (.aconst_null, 1)) (hK : ∀ lv st h, K lv st h → zm_V w Γ (pc + 1) lv st h) : ∀ lv st h, zi_push .null K lv st h → zm_V w Γ pc lv st h := by
  intro lv st h hk
  obtain ⟨p, e, R, s, m, args, below, meth, c, h0, Qw, nL⟩ := Γ
  obtain ⟨hx, hb, hml, hnl, hown, hts, hKK, hNw, hfr, hlo, hN, hS, hnm, hrt⟩ := X
  intro H locs ls cells slots hP hL hl h1 h2
  exact lv_null hx hb hd (hK _ _ _ hk H locs ls cells slots hP hL hl h1 h2)
theorem zs_iload_n {w : zW} {Γ : zC} {M : zM} {N S : Nat} {Rt : zR} (X : zm_X w Γ M N S Rt) {pc : Nat} {K : zB} {k : Fin 4} {i : Nat} (hi : (k : Nat) = i) (hd : decode M.2.1 pc = .ok (.iload_n k, 1)) (hK : ∀ lv st h, K lv st h → zm_V w Γ (pc + 1) lv st h) : ∀ lv st h, zi_ldi i K lv st h → zm_V w Γ pc lv st h := by
  intro lv st h hk
  obtain ⟨p, e, R, s, m, args, below, meth, c, h0, Qw, nL⟩ := Γ
  obtain ⟨hx, hb, hml, hnl, hown, hts, hKK, hNw, hfr, hlo, hN, hS, hnm, hrt⟩ := X
  unfold zi_ldi at hk
  split at hk
  · rename_i x hxx
    intro H locs ls cells slots hP hL hl h1 h2
    exact lv_iload_n hx hb hd hi (hl.2.2 _ _ hxx) (hK _ _ _ hk H locs ls cells slots hP hL hl h1 h2)
  · exact hk.elim
theorem zs_iload {w : zW} {Γ : zC} {M : zM} {N S : Nat} {Rt : zR} (X : zm_X w Γ M N S Rt) {pc : Nat} {K : zB} {i : Nat} (hd : decode M.2.1 pc = .ok (.iload i, 2)) (hK : ∀ lv st h, K lv st h → zm_V w Γ (pc + 2) lv st h) : ∀ lv st h, zi_ldi i K lv st h → zm_V w Γ pc lv st h := by
  intro lv st h hk
  obtain ⟨p, e, R, s, m, args, below, meth, c, h0, Qw, nL⟩ := Γ
  obtain ⟨hx, hb, hml, hnl, hown, hts, hKK, hNw, hfr, hlo, hN, hS, hnm, hrt⟩ := X
  unfold zi_ldi at hk
  split at hk
  · rename_i x hxx
    intro H locs ls cells slots hP hL hl h1 h2
    exact lv_iload hx hb hd (hl.2.2 _ _ hxx) (hK _ _ _ hk H locs ls cells slots hP hL hl h1 h2)
  · exact hk.elim
theorem zs_lload_n {w : zW} {Γ : zC} {M : zM} {N S : Nat} {Rt : zR} (X : zm_X w Γ M N S Rt) {pc : Nat} {K : zB} {k : Fin 4} {i : Nat} (hi : (k : Nat) = i) (hd : decode M.2.1 pc = .ok (.lload_n k, 1)) (hK : ∀ lv st h, K lv st h → zm_V w Γ (pc + 1) lv st h) : ∀ lv st h, zi_ldl i K lv st h → zm_V w Γ pc lv st h := by
  intro lv st h hk
  obtain ⟨p, e, R, s, m, args, below, meth, c, h0, Qw, nL⟩ := Γ
  obtain ⟨hx, hb, hml, hnl, hown, hts, hKK, hNw, hfr, hlo, hN, hS, hnm, hrt⟩ := X
  unfold zi_ldl at hk
  split at hk
  · rename_i x hxx
    intro H locs ls cells slots hP hL hl h1 h2
    exact lv_lload_n hx hb hd hi (hl.2.2 _ _ hxx) (hK _ _ _ hk H locs ls cells slots hP hL hl h1 h2)
  · exact hk.elim
theorem zs_lload {w : zW} {Γ : zC} {M : zM} {N S : Nat} {Rt : zR} (X : zm_X w Γ M N S Rt) {pc : Nat} {K : zB} {i : Nat} (hd : decode M.2.1 pc = .ok (.lload i, 2)) (hK : ∀ lv st h, K lv st h → zm_V w Γ (pc + 2) lv st h) : ∀ lv st h, zi_ldl i K lv st h → zm_V w Γ pc lv st h := by
  intro lv st h hk
  obtain ⟨p, e, R, s, m, args, below, meth, c, h0, Qw, nL⟩ := Γ
  obtain ⟨hx, hb, hml, hnl, hown, hts, hKK, hNw, hfr, hlo, hN, hS, hnm, hrt⟩ := X
  unfold zi_ldl at hk
  split at hk
  · rename_i x hxx
    intro H locs ls cells slots hP hL hl h1 h2
    exact lv_lload hx hb hd (hl.2.2 _ _ hxx) (hK _ _ _ hk H locs ls cells slots hP hL hl h1 h2)
  · exact hk.elim
theorem zs_aload_n {w : zW} {Γ : zC} {M : zM} {N S : Nat} {Rt : zR} (X : zm_X w Γ M N S Rt) {pc : Nat} {K : zB} {k : Fin 4} {i : Nat} (hi : (k : Nat) = i) (hd : decode M.2.1 pc = .ok (.aload_n k, 1)) (hK : ∀ lv st h, K lv st h → zm_V w Γ (pc + 1) lv st h) : ∀ lv st h, zi_lda i K lv st h → zm_V w Γ pc lv st h := by
  intro lv st h hk
  obtain ⟨p, e, R, s, m, args, below, meth, c, h0, Qw, nL⟩ := Γ
  obtain ⟨hx, hb, hml, hnl, hown, hts, hKK, hNw, hfr, hlo, hN, hS, hnm, hrt⟩ := X
  unfold zi_lda at hk
  split at hk
  · rename_i x hxx
    intro H locs ls cells slots hP hL hl h1 h2
    exact lv_aload_n hx hb hd hi (hl.2.2 _ _ hxx) (hK _ _ _ hk H locs ls cells slots hP hL hl h1 h2)
  · rename_i hxx
    intro H locs ls cells slots hP hL hl h1 h2
    exact lv_aload_nN hx hb hd hi (hl.2.2 _ _ hxx) (hK _ _ _ hk H locs ls cells slots hP hL hl h1 h2)
  · exact hk.elim
theorem zs_aload {w : zW} {Γ : zC} {M : zM} {N S : Nat} {Rt : zR} (X : zm_X w Γ M N S Rt) {pc : Nat} {K : zB} {i : Nat} (hd : decode M.2.1 pc = .ok (.aload i, 2)) (hK : ∀ lv st h, K lv st h → zm_V w Γ (pc + 2) lv st h) : ∀ lv st h, zi_lda i K lv st h → zm_V w Γ pc lv st h := by
  intro lv st h hk
  obtain ⟨p, e, R, s, m, args, below, meth, c, h0, Qw, nL⟩ := Γ
  obtain ⟨hx, hb, hml, hnl, hown, hts, hKK, hNw, hfr, hlo, hN, hS, hnm, hrt⟩ := X
  unfold zi_lda at hk
  split at hk
  · rename_i x hxx
    intro H locs ls cells slots hP hL hl h1 h2
    exact lv_aload hx hb hd (hl.2.2 _ _ hxx) (hK _ _ _ hk H locs ls cells slots hP hL hl h1 h2)
  · rename_i hxx
    intro H locs ls cells slots hP hL hl h1 h2
    exact lv_aloadN hx hb hd (hl.2.2 _ _ hxx) (hK _ _ _ hk H locs ls cells slots hP hL hl h1 h2)
  · exact hk.elim
theorem zs_istore_n {w : zW} {Γ : zC} {M : zM} {N S : Nat} {Rt : zR} (X : zm_X w Γ M N S Rt) {pc : Nat} {K : zB} {k : Fin 4} {i : Nat} (hi : (k : Nat) = i) (hn : i < M.2.2.1) (hd : decode M.2.1 pc = .ok (.istore_n k, 1)) (hK : ∀ lv st h, K lv st h → zm_V w Γ (pc + 1) lv st h) : ∀ lv st h, zi_sti i K lv st h → zm_V w Γ pc lv st h := by
  intro lv st h hk
  obtain ⟨p, e, R, s, m, args, below, meth, c, h0, Qw, nL⟩ := Γ
  obtain ⟨hx, hb, hml, hnl, hown, hts, hKK, hNw, hfr, hlo, hN, hS, hnm, hrt⟩ := X
  unfold zi_sti at hk
  split at hk
  · intro H locs ls cells slots hP hL hl h1 h2
    exact lv_istore_n hx hb hd hi hl.has (by rw [hnl]; exact hn) rfl (fun ls' hl' => hK _ _ _ hk H locs ls' cells slots hP hL (zm_lv.of hl' (fun j w hj => zm_s1_at hj)) h1 h2)
  · exact hk.elim
theorem zs_istore {w : zW} {Γ : zC} {M : zM} {N S : Nat} {Rt : zR} (X : zm_X w Γ M N S Rt) {pc : Nat} {K : zB} {i : Nat} (hn : i < M.2.2.1) (hd : decode M.2.1 pc = .ok (.istore i, 2)) (hK : ∀ lv st h, K lv st h → zm_V w Γ (pc + 2) lv st h) : ∀ lv st h, zi_sti i K lv st h → zm_V w Γ pc lv st h := by
  intro lv st h hk
  obtain ⟨p, e, R, s, m, args, below, meth, c, h0, Qw, nL⟩ := Γ
  obtain ⟨hx, hb, hml, hnl, hown, hts, hKK, hNw, hfr, hlo, hN, hS, hnm, hrt⟩ := X
  unfold zi_sti at hk
  split at hk
  · intro H locs ls cells slots hP hL hl h1 h2
    exact lv_istore hx hb hd hl.has (by rw [hnl]; exact hn) rfl (fun ls' hl' => hK _ _ _ hk H locs ls' cells slots hP hL (zm_lv.of hl' (fun j w hj => zm_s1_at hj)) h1 h2)
  · exact hk.elim
theorem zs_lstore_n {w : zW} {Γ : zC} {M : zM} {N S : Nat} {Rt : zR} (X : zm_X w Γ M N S Rt) {pc : Nat} {K : zB} {k : Fin 4} {i : Nat} (hi : (k : Nat) = i) (hn : i + 1 < M.2.2.1) (hd : decode M.2.1 pc = .ok (.lstore_n k, 1)) (hK : ∀ lv st h, K lv st h → zm_V w Γ (pc + 1) lv st h) : ∀ lv st h, zi_stl i K lv st h → zm_V w Γ pc lv st h := by
  intro lv st h hk
  obtain ⟨p, e, R, s, m, args, below, meth, c, h0, Qw, nL⟩ := Γ
  obtain ⟨hx, hb, hml, hnl, hown, hts, hKK, hNw, hfr, hlo, hN, hS, hnm, hrt⟩ := X
  unfold zi_stl at hk
  split at hk
  · intro H locs ls cells slots hP hL hl h1 h2
    exact lv_lstore_n hx hb hd hi hl.has (by rw [hnl]; exact hn) rfl (fun ls' hl' => hK _ _ _ hk H locs ls' cells slots hP hL (zm_lv.of hl' (fun j w hj => zm_s2_at hj)) h1 h2)
  · exact hk.elim
theorem zs_lstore {w : zW} {Γ : zC} {M : zM} {N S : Nat} {Rt : zR} (X : zm_X w Γ M N S Rt) {pc : Nat} {K : zB} {i : Nat} (hn : i + 1 < M.2.2.1) (hd : decode M.2.1 pc = .ok (.lstore i, 2)) (hK : ∀ lv st h, K lv st h → zm_V w Γ (pc + 2) lv st h) : ∀ lv st h, zi_stl i K lv st h → zm_V w Γ pc lv st h := by
  intro lv st h hk
  obtain ⟨p, e, R, s, m, args, below, meth, c, h0, Qw, nL⟩ := Γ
  obtain ⟨hx, hb, hml, hnl, hown, hts, hKK, hNw, hfr, hlo, hN, hS, hnm, hrt⟩ := X
  unfold zi_stl at hk
  split at hk
  · intro H locs ls cells slots hP hL hl h1 h2
    exact lv_lstore hx hb hd hl.has (by rw [hnl]; exact hn) rfl (fun ls' hl' => hK _ _ _ hk H locs ls' cells slots hP hL (zm_lv.of hl' (fun j w hj => zm_s2_at hj)) h1 h2)
  · exact hk.elim
theorem zs_astore_n {w : zW} {Γ : zC} {M : zM} {N S : Nat} {Rt : zR} (X : zm_X w Γ M N S Rt) {pc : Nat} {K : zB} {k : Fin 4} {i : Nat} (hi : (k : Nat) = i) (hn : i < M.2.2.1) (hd : decode M.2.1 pc = .ok (.astore_n k, 1)) (hK : ∀ lv st h, K lv st h → zm_V w Γ (pc + 1) lv st h) : ∀ lv st h, zi_sta i K lv st h → zm_V w Γ pc lv st h := by
  intro lv st h hk
  obtain ⟨p, e, R, s, m, args, below, meth, c, h0, Qw, nL⟩ := Γ
  obtain ⟨hx, hb, hml, hnl, hown, hts, hKK, hNw, hfr, hlo, hN, hS, hnm, hrt⟩ := X
  unfold zi_sta at hk
  split at hk
  · intro H locs ls cells slots hP hL hl h1 h2
    exact lv_astore_n hx hb hd hi hl.has (by rw [hnl]; exact hn) rfl (fun ls' hl' => hK _ _ _ hk H locs ls' cells slots hP hL (zm_lv.of hl' (fun j w hj => zm_s1_at hj)) h1 h2)
  · intro H locs ls cells slots hP hL hl h1 h2
    exact lv_astore_nN hx hb hd hi hl.has (by rw [hnl]; exact hn) rfl (fun ls' hl' => hK _ _ _ hk H locs ls' cells slots hP hL (zm_lv.of hl' (fun j w hj => zm_s1_at hj)) h1 h2)
  · exact hk.elim
theorem zs_astore {w : zW} {Γ : zC} {M : zM} {N S : Nat} {Rt : zR} (X : zm_X w Γ M N S Rt) {pc : Nat} {K : zB} {i : Nat} (hn : i < M.2.2.1) (hd : decode M.2.1 pc = .ok (.astore i, 2)) (hK : ∀ lv st h, K lv st h → zm_V w Γ (pc + 2) lv st h) : ∀ lv st h, zi_sta i K lv st h → zm_V w Γ pc lv st h := by
  intro lv st h hk
  obtain ⟨p, e, R, s, m, args, below, meth, c, h0, Qw, nL⟩ := Γ
  obtain ⟨hx, hb, hml, hnl, hown, hts, hKK, hNw, hfr, hlo, hN, hS, hnm, hrt⟩ := X
  unfold zi_sta at hk
  split at hk
  · intro H locs ls cells slots hP hL hl h1 h2
    exact lv_astore hx hb hd hl.has (by rw [hnl]; exact hn) rfl (fun ls' hl' => hK _ _ _ hk H locs ls' cells slots hP hL (zm_lv.of hl' (fun j w hj => zm_s1_at hj)) h1 h2)
  · intro H locs ls cells slots hP hL hl h1 h2
    exact lv_astoreN hx hb hd hl.has (by rw [hnl]; exact hn) rfl (fun ls' hl' => hK _ _ _ hk H locs ls' cells slots hP hL (zm_lv.of hl' (fun j w hj => zm_s1_at hj)) h1 h2)
  · exact hk.elim
theorem zs_iinc {w : zW} {Γ : zC} {M : zM} {N S : Nat} {Rt : zR} (X : zm_X w Γ M N S Rt) {pc : Nat} {K : zB} {i : Nat} {n : Int} {d : Int32} (hv : Int32.ofInt n = d) (hn : i < M.2.2.1) (hd : decode M.2.1 pc = .ok (.iinc i n, 3)) (hK : ∀ lv st h, K lv st h → zm_V w Γ (pc + 3) lv st h) : ∀ lv st h, zi_inc i d K lv st h → zm_V w Γ pc lv st h := by
  intro lv st h hk
  obtain ⟨p, e, R, s, m, args, below, meth, c, h0, Qw, nL⟩ := Γ
  obtain ⟨hx, hb, hml, hnl, hown, hts, hKK, hNw, hfr, hlo, hN, hS, hnm, hrt⟩ := X
  unfold zi_inc at hk
  split at hk
  · rename_i x hxx
    intro H locs ls cells slots hP hL hl h1 h2
    obtain ⟨k, hk'⟩ := List.getElem?_of_mem (zm_prs_mem.mpr hxx)
    exact lv_iinc hx hb hd hl.has hk' (by rw [hv]) (by rw [hnl]; exact hn) rfl (fun ls' hl' => hK _ _ _ hk H locs ls' cells slots hP hL (zm_lv.of hl' (fun j w hj => zm_s1_at hj)) h1 h2)
  · exact hk.elim
theorem zs_iadd {w : zW} {Γ : zC} {M : zM} {N S : Nat} {Rt : zR} (X : zm_X w Γ M N S Rt) {pc : Nat} {K : zB}  (hd : decode M.2.1 pc = .ok (.iadd, 1)) (hK : ∀ lv st h, K lv st h → zm_V w Γ (pc + 1) lv st h) : ∀ lv st h, zi_b (fun x y => x + y) K lv st h → zm_V w Γ pc lv st h := by
  intro lv st h hk
  obtain ⟨p, e, R, s, m, args, below, meth, c, h0, Qw, nL⟩ := Γ
  obtain ⟨hx, hb, hml, hnl, hown, hts, hKK, hNw, hfr, hlo, hN, hS, hnm, hrt⟩ := X
  unfold zi_b at hk
  split at hk
  · intro H locs ls cells slots hP hL hl h1 h2
    exact lv_iadd hx hb hd (hK _ _ _ hk H locs ls cells slots hP hL hl h1 h2)
  · exact hk.elim
theorem zs_isub {w : zW} {Γ : zC} {M : zM} {N S : Nat} {Rt : zR} (X : zm_X w Γ M N S Rt) {pc : Nat} {K : zB}  (hd : decode M.2.1 pc = .ok (.isub, 1)) (hK : ∀ lv st h, K lv st h → zm_V w Γ (pc + 1) lv st h) : ∀ lv st h, zi_b (fun x y => x - y) K lv st h → zm_V w Γ pc lv st h := by
  intro lv st h hk
  obtain ⟨p, e, R, s, m, args, below, meth, c, h0, Qw, nL⟩ := Γ
  obtain ⟨hx, hb, hml, hnl, hown, hts, hKK, hNw, hfr, hlo, hN, hS, hnm, hrt⟩ := X
  unfold zi_b at hk
  split at hk
  · intro H locs ls cells slots hP hL hl h1 h2
    exact lv_isub hx hb hd (hK _ _ _ hk H locs ls cells slots hP hL hl h1 h2)
  · exact hk.elim
theorem zs_imul {w : zW} {Γ : zC} {M : zM} {N S : Nat} {Rt : zR} (X : zm_X w Γ M N S Rt) {pc : Nat} {K : zB}  (hd : decode M.2.1 pc = .ok (.imul, 1)) (hK : ∀ lv st h, K lv st h → zm_V w Γ (pc + 1) lv st h) : ∀ lv st h, zi_b (fun x y => x * y) K lv st h → zm_V w Γ pc lv st h := by
  intro lv st h hk
  obtain ⟨p, e, R, s, m, args, below, meth, c, h0, Qw, nL⟩ := Γ
  obtain ⟨hx, hb, hml, hnl, hown, hts, hKK, hNw, hfr, hlo, hN, hS, hnm, hrt⟩ := X
  unfold zi_b at hk
  split at hk
  · intro H locs ls cells slots hP hL hl h1 h2
    exact lv_imul hx hb hd (hK _ _ _ hk H locs ls cells slots hP hL hl h1 h2)
  · exact hk.elim
theorem zs_iand {w : zW} {Γ : zC} {M : zM} {N S : Nat} {Rt : zR} (X : zm_X w Γ M N S Rt) {pc : Nat} {K : zB}  (hd : decode M.2.1 pc = .ok (.iand, 1)) (hK : ∀ lv st h, K lv st h → zm_V w Γ (pc + 1) lv st h) : ∀ lv st h, zi_b (fun x y => x &&& y) K lv st h → zm_V w Γ pc lv st h := by
  intro lv st h hk
  obtain ⟨p, e, R, s, m, args, below, meth, c, h0, Qw, nL⟩ := Γ
  obtain ⟨hx, hb, hml, hnl, hown, hts, hKK, hNw, hfr, hlo, hN, hS, hnm, hrt⟩ := X
  unfold zi_b at hk
  split at hk
  · intro H locs ls cells slots hP hL hl h1 h2
    exact lv_iand hx hb hd (hK _ _ _ hk H locs ls cells slots hP hL hl h1 h2)
  · exact hk.elim
theorem zs_ior {w : zW} {Γ : zC} {M : zM} {N S : Nat} {Rt : zR} (X : zm_X w Γ M N S Rt) {pc : Nat} {K : zB}  (hd : decode M.2.1 pc = .ok (.ior, 1)) (hK : ∀ lv st h, K lv st h → zm_V w Γ (pc + 1) lv st h) : ∀ lv st h, zi_b (fun x y => x ||| y) K lv st h → zm_V w Γ pc lv st h := by
  intro lv st h hk
  obtain ⟨p, e, R, s, m, args, below, meth, c, h0, Qw, nL⟩ := Γ
  obtain ⟨hx, hb, hml, hnl, hown, hts, hKK, hNw, hfr, hlo, hN, hS, hnm, hrt⟩ := X
  unfold zi_b at hk
  split at hk
  · intro H locs ls cells slots hP hL hl h1 h2
    exact lv_ior hx hb hd (hK _ _ _ hk H locs ls cells slots hP hL hl h1 h2)
  · exact hk.elim
theorem zs_ixor {w : zW} {Γ : zC} {M : zM} {N S : Nat} {Rt : zR} (X : zm_X w Γ M N S Rt) {pc : Nat} {K : zB}  (hd : decode M.2.1 pc = .ok (.ixor, 1)) (hK : ∀ lv st h, K lv st h → zm_V w Γ (pc + 1) lv st h) : ∀ lv st h, zi_b (fun x y => x ^^^ y) K lv st h → zm_V w Γ pc lv st h := by
  intro lv st h hk
  obtain ⟨p, e, R, s, m, args, below, meth, c, h0, Qw, nL⟩ := Γ
  obtain ⟨hx, hb, hml, hnl, hown, hts, hKK, hNw, hfr, hlo, hN, hS, hnm, hrt⟩ := X
  unfold zi_b at hk
  split at hk
  · intro H locs ls cells slots hP hL hl h1 h2
    exact lv_ixor hx hb hd (hK _ _ _ hk H locs ls cells slots hP hL hl h1 h2)
  · exact hk.elim
theorem zs_ishl {w : zW} {Γ : zC} {M : zM} {N S : Nat} {Rt : zR} (X : zm_X w Γ M N S Rt) {pc : Nat} {K : zB}  (hd : decode M.2.1 pc = .ok (.ishl, 1)) (hK : ∀ lv st h, K lv st h → zm_V w Γ (pc + 1) lv st h) : ∀ lv st h, zi_b (fun x y => x <<< (y &&& 31)) K lv st h → zm_V w Γ pc lv st h := by
  intro lv st h hk
  obtain ⟨p, e, R, s, m, args, below, meth, c, h0, Qw, nL⟩ := Γ
  obtain ⟨hx, hb, hml, hnl, hown, hts, hKK, hNw, hfr, hlo, hN, hS, hnm, hrt⟩ := X
  unfold zi_b at hk
  split at hk
  · intro H locs ls cells slots hP hL hl h1 h2
    exact lv_ishl hx hb hd (hK _ _ _ hk H locs ls cells slots hP hL hl h1 h2)
  · exact hk.elim
theorem zs_ishr {w : zW} {Γ : zC} {M : zM} {N S : Nat} {Rt : zR} (X : zm_X w Γ M N S Rt) {pc : Nat} {K : zB}  (hd : decode M.2.1 pc = .ok (.ishr, 1)) (hK : ∀ lv st h, K lv st h → zm_V w Γ (pc + 1) lv st h) : ∀ lv st h, zi_b (fun x y => x >>> (y &&& 31)) K lv st h → zm_V w Γ pc lv st h := by
  intro lv st h hk
  obtain ⟨p, e, R, s, m, args, below, meth, c, h0, Qw, nL⟩ := Γ
  obtain ⟨hx, hb, hml, hnl, hown, hts, hKK, hNw, hfr, hlo, hN, hS, hnm, hrt⟩ := X
  unfold zi_b at hk
  split at hk
  · intro H locs ls cells slots hP hL hl h1 h2
    exact lv_ishr hx hb hd (hK _ _ _ hk H locs ls cells slots hP hL hl h1 h2)
  · exact hk.elim
theorem zs_iushr {w : zW} {Γ : zC} {M : zM} {N S : Nat} {Rt : zR} (X : zm_X w Γ M N S Rt) {pc : Nat} {K : zB}  (hd : decode M.2.1 pc = .ok (.iushr, 1)) (hK : ∀ lv st h, K lv st h → zm_V w Γ (pc + 1) lv st h) : ∀ lv st h, zi_b (fun x y => (x.toUInt32 >>> (y.toUInt32 &&& Int32.toUInt32 31)).toInt32) K lv st h → zm_V w Γ pc lv st h := by
  intro lv st h hk
  obtain ⟨p, e, R, s, m, args, below, meth, c, h0, Qw, nL⟩ := Γ
  obtain ⟨hx, hb, hml, hnl, hown, hts, hKK, hNw, hfr, hlo, hN, hS, hnm, hrt⟩ := X
  unfold zi_b at hk
  split at hk
  · intro H locs ls cells slots hP hL hl h1 h2
    exact lv_iushr hx hb hd rfl (hK _ _ _ hk H locs ls cells slots hP hL hl h1 h2)
  · exact hk.elim
theorem zs_idiv {w : zW} {Γ : zC} {M : zM} {N S : Nat} {Rt : zR} (X : zm_X w Γ M N S Rt) {pc : Nat} {K : zB}  (hd : decode M.2.1 pc = .ok (.idiv, 1)) (hK : ∀ lv st h, K lv st h → zm_V w Γ (pc + 1) lv st h) : ∀ lv st h, zi_d (fun x y => x / y) K lv st h → zm_V w Γ pc lv st h := by
  intro lv st h hk
  obtain ⟨p, e, R, s, m, args, below, meth, c, h0, Qw, nL⟩ := Γ
  obtain ⟨hx, hb, hml, hnl, hown, hts, hKK, hNw, hfr, hlo, hN, hS, hnm, hrt⟩ := X
  unfold zi_d at hk
  split at hk
  · intro H locs ls cells slots hP hL hl h1 h2
    exact lv_idiv hx hb hd hk.1 (hK _ _ _ hk.2 H locs ls cells slots hP hL hl h1 h2)
  · exact hk.elim
theorem zs_irem {w : zW} {Γ : zC} {M : zM} {N S : Nat} {Rt : zR} (X : zm_X w Γ M N S Rt) {pc : Nat} {K : zB}  (hd : decode M.2.1 pc = .ok (.irem, 1)) (hK : ∀ lv st h, K lv st h → zm_V w Γ (pc + 1) lv st h) : ∀ lv st h, zi_d (fun x y => x - x / y * y) K lv st h → zm_V w Γ pc lv st h := by
  intro lv st h hk
  obtain ⟨p, e, R, s, m, args, below, meth, c, h0, Qw, nL⟩ := Γ
  obtain ⟨hx, hb, hml, hnl, hown, hts, hKK, hNw, hfr, hlo, hN, hS, hnm, hrt⟩ := X
  unfold zi_d at hk
  split at hk
  · intro H locs ls cells slots hP hL hl h1 h2
    exact lv_irem hx hb hd hk.1 (hK _ _ _ hk.2 H locs ls cells slots hP hL hl h1 h2)
  · exact hk.elim
theorem zs_ineg {w : zW} {Γ : zC} {M : zM} {N S : Nat} {Rt : zR} (X : zm_X w Γ M N S Rt) {pc : Nat} {K : zB}  (hd : decode M.2.1 pc = .ok (.ineg, 1)) (hK : ∀ lv st h, K lv st h → zm_V w Γ (pc + 1) lv st h) : ∀ lv st h, zi_u (fun x => -x) K lv st h → zm_V w Γ pc lv st h := by
  intro lv st h hk
  obtain ⟨p, e, R, s, m, args, below, meth, c, h0, Qw, nL⟩ := Γ
  obtain ⟨hx, hb, hml, hnl, hown, hts, hKK, hNw, hfr, hlo, hN, hS, hnm, hrt⟩ := X
  unfold zi_u at hk
  split at hk
  · intro H locs ls cells slots hP hL hl h1 h2
    exact lv_ineg hx hb hd (hK _ _ _ hk H locs ls cells slots hP hL hl h1 h2)
  · exact hk.elim
theorem zs_ladd {w : zW} {Γ : zC} {M : zM} {N S : Nat} {Rt : zR} (X : zm_X w Γ M N S Rt) {pc : Nat} {K : zB}  (hd : decode M.2.1 pc = .ok (.ladd, 1)) (hK : ∀ lv st h, K lv st h → zm_V w Γ (pc + 1) lv st h) : ∀ lv st h, zi_bl (fun x y => x + y) K lv st h → zm_V w Γ pc lv st h := by
  intro lv st h hk
  obtain ⟨p, e, R, s, m, args, below, meth, c, h0, Qw, nL⟩ := Γ
  obtain ⟨hx, hb, hml, hnl, hown, hts, hKK, hNw, hfr, hlo, hN, hS, hnm, hrt⟩ := X
  unfold zi_bl at hk
  split at hk
  · intro H locs ls cells slots hP hL hl h1 h2
    exact lv_ladd hx hb hd (hK _ _ _ hk H locs ls cells slots hP hL hl h1 h2)
  · exact hk.elim
theorem zs_lsub {w : zW} {Γ : zC} {M : zM} {N S : Nat} {Rt : zR} (X : zm_X w Γ M N S Rt) {pc : Nat} {K : zB}  (hd : decode M.2.1 pc = .ok (.lsub, 1)) (hK : ∀ lv st h, K lv st h → zm_V w Γ (pc + 1) lv st h) : ∀ lv st h, zi_bl (fun x y => x - y) K lv st h → zm_V w Γ pc lv st h := by
  intro lv st h hk
  obtain ⟨p, e, R, s, m, args, below, meth, c, h0, Qw, nL⟩ := Γ
  obtain ⟨hx, hb, hml, hnl, hown, hts, hKK, hNw, hfr, hlo, hN, hS, hnm, hrt⟩ := X
  unfold zi_bl at hk
  split at hk
  · intro H locs ls cells slots hP hL hl h1 h2
    exact lv_lsub hx hb hd (hK _ _ _ hk H locs ls cells slots hP hL hl h1 h2)
  · exact hk.elim
theorem zs_lmul {w : zW} {Γ : zC} {M : zM} {N S : Nat} {Rt : zR} (X : zm_X w Γ M N S Rt) {pc : Nat} {K : zB}  (hd : decode M.2.1 pc = .ok (.lmul, 1)) (hK : ∀ lv st h, K lv st h → zm_V w Γ (pc + 1) lv st h) : ∀ lv st h, zi_bl (fun x y => x * y) K lv st h → zm_V w Γ pc lv st h := by
  intro lv st h hk
  obtain ⟨p, e, R, s, m, args, below, meth, c, h0, Qw, nL⟩ := Γ
  obtain ⟨hx, hb, hml, hnl, hown, hts, hKK, hNw, hfr, hlo, hN, hS, hnm, hrt⟩ := X
  unfold zi_bl at hk
  split at hk
  · intro H locs ls cells slots hP hL hl h1 h2
    exact lv_lmul hx hb hd (hK _ _ _ hk H locs ls cells slots hP hL hl h1 h2)
  · exact hk.elim
theorem zs_land {w : zW} {Γ : zC} {M : zM} {N S : Nat} {Rt : zR} (X : zm_X w Γ M N S Rt) {pc : Nat} {K : zB}  (hd : decode M.2.1 pc = .ok (.land, 1)) (hK : ∀ lv st h, K lv st h → zm_V w Γ (pc + 1) lv st h) : ∀ lv st h, zi_bl (fun x y => x &&& y) K lv st h → zm_V w Γ pc lv st h := by
  intro lv st h hk
  obtain ⟨p, e, R, s, m, args, below, meth, c, h0, Qw, nL⟩ := Γ
  obtain ⟨hx, hb, hml, hnl, hown, hts, hKK, hNw, hfr, hlo, hN, hS, hnm, hrt⟩ := X
  unfold zi_bl at hk
  split at hk
  · intro H locs ls cells slots hP hL hl h1 h2
    exact lv_land hx hb hd (hK _ _ _ hk H locs ls cells slots hP hL hl h1 h2)
  · exact hk.elim
theorem zs_lor {w : zW} {Γ : zC} {M : zM} {N S : Nat} {Rt : zR} (X : zm_X w Γ M N S Rt) {pc : Nat} {K : zB}  (hd : decode M.2.1 pc = .ok (.lor, 1)) (hK : ∀ lv st h, K lv st h → zm_V w Γ (pc + 1) lv st h) : ∀ lv st h, zi_bl (fun x y => x ||| y) K lv st h → zm_V w Γ pc lv st h := by
  intro lv st h hk
  obtain ⟨p, e, R, s, m, args, below, meth, c, h0, Qw, nL⟩ := Γ
  obtain ⟨hx, hb, hml, hnl, hown, hts, hKK, hNw, hfr, hlo, hN, hS, hnm, hrt⟩ := X
  unfold zi_bl at hk
  split at hk
  · intro H locs ls cells slots hP hL hl h1 h2
    exact lv_lor hx hb hd (hK _ _ _ hk H locs ls cells slots hP hL hl h1 h2)
  · exact hk.elim
theorem zs_ldiv {w : zW} {Γ : zC} {M : zM} {N S : Nat} {Rt : zR} (X : zm_X w Γ M N S Rt) {pc : Nat} {K : zB}  (hd : decode M.2.1 pc = .ok (.ldiv, 1)) (hK : ∀ lv st h, K lv st h → zm_V w Γ (pc + 1) lv st h) : ∀ lv st h, zi_dl (fun x y => x / y) K lv st h → zm_V w Γ pc lv st h := by
  intro lv st h hk
  obtain ⟨p, e, R, s, m, args, below, meth, c, h0, Qw, nL⟩ := Γ
  obtain ⟨hx, hb, hml, hnl, hown, hts, hKK, hNw, hfr, hlo, hN, hS, hnm, hrt⟩ := X
  unfold zi_dl at hk
  split at hk
  · intro H locs ls cells slots hP hL hl h1 h2
    exact lv_ldiv hx hb hd hk.1 (hK _ _ _ hk.2 H locs ls cells slots hP hL hl h1 h2)
  · exact hk.elim
theorem zs_lrem {w : zW} {Γ : zC} {M : zM} {N S : Nat} {Rt : zR} (X : zm_X w Γ M N S Rt) {pc : Nat} {K : zB}  (hd : decode M.2.1 pc = .ok (.lrem, 1)) (hK : ∀ lv st h, K lv st h → zm_V w Γ (pc + 1) lv st h) : ∀ lv st h, zi_dl (fun x y => x - x / y * y) K lv st h → zm_V w Γ pc lv st h := by
  intro lv st h hk
  obtain ⟨p, e, R, s, m, args, below, meth, c, h0, Qw, nL⟩ := Γ
  obtain ⟨hx, hb, hml, hnl, hown, hts, hKK, hNw, hfr, hlo, hN, hS, hnm, hrt⟩ := X
  unfold zi_dl at hk
  split at hk
  · intro H locs ls cells slots hP hL hl h1 h2
    exact lv_lrem hx hb hd hk.1 (hK _ _ _ hk.2 H locs ls cells slots hP hL hl h1 h2)
  · exact hk.elim
theorem zs_lneg {w : zW} {Γ : zC} {M : zM} {N S : Nat} {Rt : zR} (X : zm_X w Γ M N S Rt) {pc : Nat} {K : zB}  (hd : decode M.2.1 pc = .ok (.lneg, 1)) (hK : ∀ lv st h, K lv st h → zm_V w Γ (pc + 1) lv st h) : ∀ lv st h, zi_ul (fun x => -x) K lv st h → zm_V w Γ pc lv st h := by
  intro lv st h hk
  obtain ⟨p, e, R, s, m, args, below, meth, c, h0, Qw, nL⟩ := Γ
  obtain ⟨hx, hb, hml, hnl, hown, hts, hKK, hNw, hfr, hlo, hN, hS, hnm, hrt⟩ := X
  unfold zi_ul at hk
  split at hk
  · intro H locs ls cells slots hP hL hl h1 h2
    exact lv_lneg hx hb hd (hK _ _ _ hk H locs ls cells slots hP hL hl h1 h2)
  · exact hk.elim
theorem zs_lcmp {w : zW} {Γ : zC} {M : zM} {N S : Nat} {Rt : zR} (X : zm_X w Γ M N S Rt) {pc : Nat} {K : zB}  (hd : decode M.2.1 pc = .ok (.lcmp, 1)) (hK : ∀ lv st h, K lv st h → zm_V w Γ (pc + 1) lv st h) : ∀ lv st h, zi_lcmp K lv st h → zm_V w Γ pc lv st h := by
  intro lv st h hk
  obtain ⟨p, e, R, s, m, args, below, meth, c, h0, Qw, nL⟩ := Γ
  obtain ⟨hx, hb, hml, hnl, hown, hts, hKK, hNw, hfr, hlo, hN, hS, hnm, hrt⟩ := X
  unfold zi_lcmp at hk
  split at hk
  · intro H locs ls cells slots hP hL hl h1 h2
    exact W.lcmp hx hb hd (hK _ _ _ hk H locs ls cells slots hP hL hl h1 h2)
  · exact hk.elim
theorem zs_i2l {w : zW} {Γ : zC} {M : zM} {N S : Nat} {Rt : zR} (X : zm_X w Γ M N S Rt) {pc : Nat} {K : zB}  (hd : decode M.2.1 pc = .ok (.i2l, 1)) (hK : ∀ lv st h, K lv st h → zm_V w Γ (pc + 1) lv st h) : ∀ lv st h, zi_i2l K lv st h → zm_V w Γ pc lv st h := by
  intro lv st h hk
  obtain ⟨p, e, R, s, m, args, below, meth, c, h0, Qw, nL⟩ := Γ
  obtain ⟨hx, hb, hml, hnl, hown, hts, hKK, hNw, hfr, hlo, hN, hS, hnm, hrt⟩ := X
  unfold zi_i2l at hk
  split at hk
  · intro H locs ls cells slots hP hL hl h1 h2
    exact lv_i2l hx hb hd rfl (hK _ _ _ hk H locs ls cells slots hP hL hl h1 h2)
  · exact hk.elim
theorem zs_l2i {w : zW} {Γ : zC} {M : zM} {N S : Nat} {Rt : zR} (X : zm_X w Γ M N S Rt) {pc : Nat} {K : zB}  (hd : decode M.2.1 pc = .ok (.l2i, 1)) (hK : ∀ lv st h, K lv st h → zm_V w Γ (pc + 1) lv st h) : ∀ lv st h, zi_l2i K lv st h → zm_V w Γ pc lv st h := by
  intro lv st h hk
  obtain ⟨p, e, R, s, m, args, below, meth, c, h0, Qw, nL⟩ := Γ
  obtain ⟨hx, hb, hml, hnl, hown, hts, hKK, hNw, hfr, hlo, hN, hS, hnm, hrt⟩ := X
  unfold zi_l2i at hk
  split at hk
  · intro H locs ls cells slots hP hL hl h1 h2
    exact lv_l2i hx hb hd rfl (hK _ _ _ hk H locs ls cells slots hP hL hl h1 h2)
  · exact hk.elim
theorem zs_dup {w : zW} {Γ : zC} {M : zM} {N S : Nat} {Rt : zR} (X : zm_X w Γ M N S Rt) {pc : Nat} {K : zB}  (hd : decode M.2.1 pc = .ok (.dup, 1)) (hK : ∀ lv st h, K lv st h → zm_V w Γ (pc + 1) lv st h) : ∀ lv st h, zi_dup K lv st h → zm_V w Γ pc lv st h := by
  intro lv st h hk
  obtain ⟨p, e, R, s, m, args, below, meth, c, h0, Qw, nL⟩ := Γ
  obtain ⟨hx, hb, hml, hnl, hown, hts, hKK, hNw, hfr, hlo, hN, hS, hnm, hrt⟩ := X
  unfold zi_dup at hk
  split at hk
  · intro H locs ls cells slots hP hL hl h1 h2
    exact lv_dup hx hb hd hk.1 (hK _ _ _ hk.2 H locs ls cells slots hP hL hl h1 h2)
  · exact hk.elim
theorem zs_pop {w : zW} {Γ : zC} {M : zM} {N S : Nat} {Rt : zR} (X : zm_X w Γ M N S Rt) {pc : Nat} {K : zB}  (hd : decode M.2.1 pc = .ok (.pop, 1)) (hK : ∀ lv st h, K lv st h → zm_V w Γ (pc + 1) lv st h) : ∀ lv st h, zi_pop K lv st h → zm_V w Γ pc lv st h := by
  intro lv st h hk
  obtain ⟨p, e, R, s, m, args, below, meth, c, h0, Qw, nL⟩ := Γ
  obtain ⟨hx, hb, hml, hnl, hown, hts, hKK, hNw, hfr, hlo, hN, hS, hnm, hrt⟩ := X
  unfold zi_pop at hk
  split at hk
  · intro H locs ls cells slots hP hL hl h1 h2
    exact lv_pop hx hb hd hk.1 (hK _ _ _ hk.2 H locs ls cells slots hP hL hl h1 h2)
  · exact hk.elim
theorem zs_pop2 {w : zW} {Γ : zC} {M : zM} {N S : Nat} {Rt : zR} (X : zm_X w Γ M N S Rt) {pc : Nat} {K : zB}  (hd : decode M.2.1 pc = .ok (.pop2, 1)) (hK : ∀ lv st h, K lv st h → zm_V w Γ (pc + 1) lv st h) : ∀ lv st h, zi_pop2 K lv st h → zm_V w Γ pc lv st h := by
  intro lv st h hk
  obtain ⟨p, e, R, s, m, args, below, meth, c, h0, Qw, nL⟩ := Γ
  obtain ⟨hx, hb, hml, hnl, hown, hts, hKK, hNw, hfr, hlo, hN, hS, hnm, hrt⟩ := X
  unfold zi_pop2 at hk
  split at hk
  · intro H locs ls cells slots hP hL hl h1 h2
    exact lv_pop2_2 hx hb hd hk.1 (hK _ _ _ hk.2 H locs ls cells slots hP hL hl h1 h2)
  · exact hk.elim
theorem zs_dup_x1 {w : zW} {Γ : zC} {M : zM} {N S : Nat} {Rt : zR} (X : zm_X w Γ M N S Rt) {pc : Nat} {K : zB}  (hd : decode M.2.1 pc = .ok (.dup_x1, 1)) (hK : ∀ lv st h, K lv st h → zm_V w Γ (pc + 1) lv st h) : ∀ lv st h, zi_dup_x1 K lv st h → zm_V w Γ pc lv st h := by
  intro lv st h hk
  obtain ⟨p, e, R, s, m, args, below, meth, c, h0, Qw, nL⟩ := Γ
  obtain ⟨hx, hb, hml, hnl, hown, hts, hKK, hNw, hfr, hlo, hN, hS, hnm, hrt⟩ := X
  unfold zi_dup_x1 at hk
  split at hk
  · intro H locs ls cells slots hP hL hl h1 h2
    exact lv_dup_x1 hx hb hd hk.1 hk.2.1 (hK _ _ _ hk.2.2 H locs ls cells slots hP hL hl h1 h2)
  · exact hk.elim
theorem zs_dup_x2 {w : zW} {Γ : zC} {M : zM} {N S : Nat} {Rt : zR} (X : zm_X w Γ M N S Rt) {pc : Nat} {K : zB}  (hd : decode M.2.1 pc = .ok (.dup_x2, 1)) (hK : ∀ lv st h, K lv st h → zm_V w Γ (pc + 1) lv st h) : ∀ lv st h, zi_dup_x2 K lv st h → zm_V w Γ pc lv st h := by
  intro lv st h hk
  obtain ⟨p, e, R, s, m, args, below, meth, c, h0, Qw, nL⟩ := Γ
  obtain ⟨hx, hb, hml, hnl, hown, hts, hKK, hNw, hfr, hlo, hN, hS, hnm, hrt⟩ := X
  unfold zi_dup_x2 at hk
  split at hk
  · intro H locs ls cells slots hP hL hl h1 h2
    exact lv_dup_x2 hx hb hd hk.1 hk.2.1 hk.2.2.1 (hK _ _ _ hk.2.2.2 H locs ls cells slots hP hL hl h1 h2)
  · exact hk.elim
theorem zs_dup2 {w : zW} {Γ : zC} {M : zM} {N S : Nat} {Rt : zR} (X : zm_X w Γ M N S Rt) {pc : Nat} {K : zB}  (hd : decode M.2.1 pc = .ok (.dup2, 1)) (hK : ∀ lv st h, K lv st h → zm_V w Γ (pc + 1) lv st h) : ∀ lv st h, zi_dup2 K lv st h → zm_V w Γ pc lv st h := by
  intro lv st h hk
  obtain ⟨p, e, R, s, m, args, below, meth, c, h0, Qw, nL⟩ := Γ
  obtain ⟨hx, hb, hml, hnl, hown, hts, hKK, hNw, hfr, hlo, hN, hS, hnm, hrt⟩ := X
  unfold zi_dup2 at hk
  split at hk
  · intro H locs ls cells slots hP hL hl h1 h2
    exact lv_dup2_11 hx hb hd hk.1 hk.2.1 (hK _ _ _ hk.2.2 H locs ls cells slots hP hL hl h1 h2)
  · exact hk.elim
theorem zs_dup2l {w : zW} {Γ : zC} {M : zM} {N S : Nat} {Rt : zR} (X : zm_X w Γ M N S Rt) {pc : Nat} {K : zB}  (hd : decode M.2.1 pc = .ok (.dup2, 1)) (hK : ∀ lv st h, K lv st h → zm_V w Γ (pc + 1) lv st h) : ∀ lv st h, zi_dup2l K lv st h → zm_V w Γ pc lv st h := by
  intro lv st h hk
  obtain ⟨p, e, R, s, m, args, below, meth, c, h0, Qw, nL⟩ := Γ
  obtain ⟨hx, hb, hml, hnl, hown, hts, hKK, hNw, hfr, hlo, hN, hS, hnm, hrt⟩ := X
  unfold zi_dup2l at hk
  split at hk
  · intro H locs ls cells slots hP hL hl h1 h2
    exact lv_dup2_2 hx hb hd hk.1 (hK _ _ _ hk.2 H locs ls cells slots hP hL hl h1 h2)
  · exact hk.elim
theorem zs_dup2_x1l {w : zW} {Γ : zC} {M : zM} {N S : Nat} {Rt : zR} (X : zm_X w Γ M N S Rt) {pc : Nat} {K : zB}  (hd : decode M.2.1 pc = .ok (.dup2_x1, 1)) (hK : ∀ lv st h, K lv st h → zm_V w Γ (pc + 1) lv st h) : ∀ lv st h, zi_dup2_x1l K lv st h → zm_V w Γ pc lv st h := by
  intro lv st h hk
  obtain ⟨p, e, R, s, m, args, below, meth, c, h0, Qw, nL⟩ := Γ
  obtain ⟨hx, hb, hml, hnl, hown, hts, hKK, hNw, hfr, hlo, hN, hS, hnm, hrt⟩ := X
  unfold zi_dup2_x1l at hk
  split at hk
  · intro H locs ls cells slots hP hL hl h1 h2
    exact lv_dup2_x1_2 hx hb hd hk.1 hk.2.1 (hK _ _ _ hk.2.2 H locs ls cells slots hP hL hl h1 h2)
  · exact hk.elim
theorem zs_if_eq {w : zW} {Γ : zC} {M : zM} {N S : Nat} {Rt : zR} (X : zm_X w Γ M N S Rt) {pc tgt : Nat} {off : Int} {K1 K2 : zB} (hd : decode M.2.1 pc = .ok (.ifCond .eq off, 3)) (ht : (pc : Int) + off = (tgt : Int)) (hK1 : ∀ lv st h, K1 lv st h → zm_V w Γ tgt lv st h) (hK2 : ∀ lv st h, K2 lv st h → zm_V w Γ (pc + 3) lv st h) : ∀ lv st h, zi_if (fun x => x = 0) K1 K2 lv st h → zm_V w Γ pc lv st h := by
  intro lv st h hk
  obtain ⟨p, e, R, s, m, args, below, meth, c, h0, Qw, nL⟩ := Γ
  obtain ⟨hx, hb, hml, hnl, hown, hts, hKK, hNw, hfr, hlo, hN, hS, hnm, hrt⟩ := X
  unfold zi_if at hk
  split at hk
  · intro H locs ls cells slots hP hL hl h1 h2
    exact lv_if_eq hx hb hd ht (fun q => hK1 _ _ _ (hk.1 q) H locs ls cells slots hP hL hl h1 h2) (fun q => hK2 _ _ _ (hk.2 q) H locs ls cells slots hP hL hl h1 h2)
  · exact hk.elim
theorem zs_icmp_eq {w : zW} {Γ : zC} {M : zM} {N S : Nat} {Rt : zR} (X : zm_X w Γ M N S Rt) {pc tgt : Nat} {off : Int} {K1 K2 : zB} (hd : decode M.2.1 pc = .ok (.if_icmp .eq off, 3)) (ht : (pc : Int) + off = (tgt : Int)) (hK1 : ∀ lv st h, K1 lv st h → zm_V w Γ tgt lv st h) (hK2 : ∀ lv st h, K2 lv st h → zm_V w Γ (pc + 3) lv st h) : ∀ lv st h, zi_ic (fun x y => x = y) K1 K2 lv st h → zm_V w Γ pc lv st h := by
  intro lv st h hk
  obtain ⟨p, e, R, s, m, args, below, meth, c, h0, Qw, nL⟩ := Γ
  obtain ⟨hx, hb, hml, hnl, hown, hts, hKK, hNw, hfr, hlo, hN, hS, hnm, hrt⟩ := X
  unfold zi_ic at hk
  split at hk
  · intro H locs ls cells slots hP hL hl h1 h2
    exact lv_icmp_eq hx hb hd ht (fun q => hK1 _ _ _ (hk.1 q) H locs ls cells slots hP hL hl h1 h2) (fun q => hK2 _ _ _ (hk.2 q) H locs ls cells slots hP hL hl h1 h2)
  · exact hk.elim
theorem zs_if_ne {w : zW} {Γ : zC} {M : zM} {N S : Nat} {Rt : zR} (X : zm_X w Γ M N S Rt) {pc tgt : Nat} {off : Int} {K1 K2 : zB} (hd : decode M.2.1 pc = .ok (.ifCond .ne off, 3)) (ht : (pc : Int) + off = (tgt : Int)) (hK1 : ∀ lv st h, K1 lv st h → zm_V w Γ tgt lv st h) (hK2 : ∀ lv st h, K2 lv st h → zm_V w Γ (pc + 3) lv st h) : ∀ lv st h, zi_if (fun x => x = 0) K2 K1 lv st h → zm_V w Γ pc lv st h := by
  intro lv st h hk
  obtain ⟨p, e, R, s, m, args, below, meth, c, h0, Qw, nL⟩ := Γ
  obtain ⟨hx, hb, hml, hnl, hown, hts, hKK, hNw, hfr, hlo, hN, hS, hnm, hrt⟩ := X
  unfold zi_if at hk
  split at hk
  · intro H locs ls cells slots hP hL hl h1 h2
    exact lv_if_ne hx hb hd ht (fun q => hK1 _ _ _ (hk.2 q) H locs ls cells slots hP hL hl h1 h2) (fun q => hK2 _ _ _ (hk.1 q) H locs ls cells slots hP hL hl h1 h2)
  · exact hk.elim
theorem zs_icmp_ne {w : zW} {Γ : zC} {M : zM} {N S : Nat} {Rt : zR} (X : zm_X w Γ M N S Rt) {pc tgt : Nat} {off : Int} {K1 K2 : zB} (hd : decode M.2.1 pc = .ok (.if_icmp .ne off, 3)) (ht : (pc : Int) + off = (tgt : Int)) (hK1 : ∀ lv st h, K1 lv st h → zm_V w Γ tgt lv st h) (hK2 : ∀ lv st h, K2 lv st h → zm_V w Γ (pc + 3) lv st h) : ∀ lv st h, zi_ic (fun x y => x = y) K2 K1 lv st h → zm_V w Γ pc lv st h := by
  intro lv st h hk
  obtain ⟨p, e, R, s, m, args, below, meth, c, h0, Qw, nL⟩ := Γ
  obtain ⟨hx, hb, hml, hnl, hown, hts, hKK, hNw, hfr, hlo, hN, hS, hnm, hrt⟩ := X
  unfold zi_ic at hk
  split at hk
  · intro H locs ls cells slots hP hL hl h1 h2
    exact lv_icmp_ne hx hb hd ht (fun q => hK1 _ _ _ (hk.2 q) H locs ls cells slots hP hL hl h1 h2) (fun q => hK2 _ _ _ (hk.1 q) H locs ls cells slots hP hL hl h1 h2)
  · exact hk.elim
theorem zs_if_lt {w : zW} {Γ : zC} {M : zM} {N S : Nat} {Rt : zR} (X : zm_X w Γ M N S Rt) {pc tgt : Nat} {off : Int} {K1 K2 : zB} (hd : decode M.2.1 pc = .ok (.ifCond .lt off, 3)) (ht : (pc : Int) + off = (tgt : Int)) (hK1 : ∀ lv st h, K1 lv st h → zm_V w Γ tgt lv st h) (hK2 : ∀ lv st h, K2 lv st h → zm_V w Γ (pc + 3) lv st h) : ∀ lv st h, zi_if (fun x => x < 0) K1 K2 lv st h → zm_V w Γ pc lv st h := by
  intro lv st h hk
  obtain ⟨p, e, R, s, m, args, below, meth, c, h0, Qw, nL⟩ := Γ
  obtain ⟨hx, hb, hml, hnl, hown, hts, hKK, hNw, hfr, hlo, hN, hS, hnm, hrt⟩ := X
  unfold zi_if at hk
  split at hk
  · intro H locs ls cells slots hP hL hl h1 h2
    exact lv_if_lt hx hb hd ht (fun q => hK1 _ _ _ (hk.1 q) H locs ls cells slots hP hL hl h1 h2) (fun q => hK2 _ _ _ (hk.2 q) H locs ls cells slots hP hL hl h1 h2)
  · exact hk.elim
theorem zs_icmp_lt {w : zW} {Γ : zC} {M : zM} {N S : Nat} {Rt : zR} (X : zm_X w Γ M N S Rt) {pc tgt : Nat} {off : Int} {K1 K2 : zB} (hd : decode M.2.1 pc = .ok (.if_icmp .lt off, 3)) (ht : (pc : Int) + off = (tgt : Int)) (hK1 : ∀ lv st h, K1 lv st h → zm_V w Γ tgt lv st h) (hK2 : ∀ lv st h, K2 lv st h → zm_V w Γ (pc + 3) lv st h) : ∀ lv st h, zi_ic (fun x y => x < y) K1 K2 lv st h → zm_V w Γ pc lv st h := by
  intro lv st h hk
  obtain ⟨p, e, R, s, m, args, below, meth, c, h0, Qw, nL⟩ := Γ
  obtain ⟨hx, hb, hml, hnl, hown, hts, hKK, hNw, hfr, hlo, hN, hS, hnm, hrt⟩ := X
  unfold zi_ic at hk
  split at hk
  · intro H locs ls cells slots hP hL hl h1 h2
    exact lv_icmp_lt hx hb hd ht (fun q => hK1 _ _ _ (hk.1 q) H locs ls cells slots hP hL hl h1 h2) (fun q => hK2 _ _ _ (hk.2 q) H locs ls cells slots hP hL hl h1 h2)
  · exact hk.elim
theorem zs_if_ge {w : zW} {Γ : zC} {M : zM} {N S : Nat} {Rt : zR} (X : zm_X w Γ M N S Rt) {pc tgt : Nat} {off : Int} {K1 K2 : zB} (hd : decode M.2.1 pc = .ok (.ifCond .ge off, 3)) (ht : (pc : Int) + off = (tgt : Int)) (hK1 : ∀ lv st h, K1 lv st h → zm_V w Γ tgt lv st h) (hK2 : ∀ lv st h, K2 lv st h → zm_V w Γ (pc + 3) lv st h) : ∀ lv st h, zi_if (fun x => 0 ≤ x) K1 K2 lv st h → zm_V w Γ pc lv st h := by
  intro lv st h hk
  obtain ⟨p, e, R, s, m, args, below, meth, c, h0, Qw, nL⟩ := Γ
  obtain ⟨hx, hb, hml, hnl, hown, hts, hKK, hNw, hfr, hlo, hN, hS, hnm, hrt⟩ := X
  unfold zi_if at hk
  split at hk
  · intro H locs ls cells slots hP hL hl h1 h2
    exact lv_if_ge hx hb hd ht (fun q => hK1 _ _ _ (hk.1 q) H locs ls cells slots hP hL hl h1 h2) (fun q => hK2 _ _ _ (hk.2 q) H locs ls cells slots hP hL hl h1 h2)
  · exact hk.elim
theorem zs_icmp_ge {w : zW} {Γ : zC} {M : zM} {N S : Nat} {Rt : zR} (X : zm_X w Γ M N S Rt) {pc tgt : Nat} {off : Int} {K1 K2 : zB} (hd : decode M.2.1 pc = .ok (.if_icmp .ge off, 3)) (ht : (pc : Int) + off = (tgt : Int)) (hK1 : ∀ lv st h, K1 lv st h → zm_V w Γ tgt lv st h) (hK2 : ∀ lv st h, K2 lv st h → zm_V w Γ (pc + 3) lv st h) : ∀ lv st h, zi_ic (fun x y => y ≤ x) K1 K2 lv st h → zm_V w Γ pc lv st h := by
  intro lv st h hk
  obtain ⟨p, e, R, s, m, args, below, meth, c, h0, Qw, nL⟩ := Γ
  obtain ⟨hx, hb, hml, hnl, hown, hts, hKK, hNw, hfr, hlo, hN, hS, hnm, hrt⟩ := X
  unfold zi_ic at hk
  split at hk
  · intro H locs ls cells slots hP hL hl h1 h2
    exact lv_icmp_ge hx hb hd ht (fun q => hK1 _ _ _ (hk.1 q) H locs ls cells slots hP hL hl h1 h2) (fun q => hK2 _ _ _ (hk.2 q) H locs ls cells slots hP hL hl h1 h2)
  · exact hk.elim
theorem zs_if_gt {w : zW} {Γ : zC} {M : zM} {N S : Nat} {Rt : zR} (X : zm_X w Γ M N S Rt) {pc tgt : Nat} {off : Int} {K1 K2 : zB} (hd : decode M.2.1 pc = .ok (.ifCond .gt off, 3)) (ht : (pc : Int) + off = (tgt : Int)) (hK1 : ∀ lv st h, K1 lv st h → zm_V w Γ tgt lv st h) (hK2 : ∀ lv st h, K2 lv st h → zm_V w Γ (pc + 3) lv st h) : ∀ lv st h, zi_if (fun x => 0 < x) K1 K2 lv st h → zm_V w Γ pc lv st h := by
  intro lv st h hk
  obtain ⟨p, e, R, s, m, args, below, meth, c, h0, Qw, nL⟩ := Γ
  obtain ⟨hx, hb, hml, hnl, hown, hts, hKK, hNw, hfr, hlo, hN, hS, hnm, hrt⟩ := X
  unfold zi_if at hk
  split at hk
  · intro H locs ls cells slots hP hL hl h1 h2
    exact lv_if_gt hx hb hd ht (fun q => hK1 _ _ _ (hk.1 q) H locs ls cells slots hP hL hl h1 h2) (fun q => hK2 _ _ _ (hk.2 q) H locs ls cells slots hP hL hl h1 h2)
  · exact hk.elim
theorem zs_icmp_gt {w : zW} {Γ : zC} {M : zM} {N S : Nat} {Rt : zR} (X : zm_X w Γ M N S Rt) {pc tgt : Nat} {off : Int} {K1 K2 : zB} (hd : decode M.2.1 pc = .ok (.if_icmp .gt off, 3)) (ht : (pc : Int) + off = (tgt : Int)) (hK1 : ∀ lv st h, K1 lv st h → zm_V w Γ tgt lv st h) (hK2 : ∀ lv st h, K2 lv st h → zm_V w Γ (pc + 3) lv st h) : ∀ lv st h, zi_ic (fun x y => y < x) K1 K2 lv st h → zm_V w Γ pc lv st h := by
  intro lv st h hk
  obtain ⟨p, e, R, s, m, args, below, meth, c, h0, Qw, nL⟩ := Γ
  obtain ⟨hx, hb, hml, hnl, hown, hts, hKK, hNw, hfr, hlo, hN, hS, hnm, hrt⟩ := X
  unfold zi_ic at hk
  split at hk
  · intro H locs ls cells slots hP hL hl h1 h2
    exact lv_icmp_gt hx hb hd ht (fun q => hK1 _ _ _ (hk.1 q) H locs ls cells slots hP hL hl h1 h2) (fun q => hK2 _ _ _ (hk.2 q) H locs ls cells slots hP hL hl h1 h2)
  · exact hk.elim
theorem zs_if_le {w : zW} {Γ : zC} {M : zM} {N S : Nat} {Rt : zR} (X : zm_X w Γ M N S Rt) {pc tgt : Nat} {off : Int} {K1 K2 : zB} (hd : decode M.2.1 pc = .ok (.ifCond .le off, 3)) (ht : (pc : Int) + off = (tgt : Int)) (hK1 : ∀ lv st h, K1 lv st h → zm_V w Γ tgt lv st h) (hK2 : ∀ lv st h, K2 lv st h → zm_V w Γ (pc + 3) lv st h) : ∀ lv st h, zi_if (fun x => x ≤ 0) K1 K2 lv st h → zm_V w Γ pc lv st h := by
  intro lv st h hk
  obtain ⟨p, e, R, s, m, args, below, meth, c, h0, Qw, nL⟩ := Γ
  obtain ⟨hx, hb, hml, hnl, hown, hts, hKK, hNw, hfr, hlo, hN, hS, hnm, hrt⟩ := X
  unfold zi_if at hk
  split at hk
  · intro H locs ls cells slots hP hL hl h1 h2
    exact lv_if_le hx hb hd ht (fun q => hK1 _ _ _ (hk.1 q) H locs ls cells slots hP hL hl h1 h2) (fun q => hK2 _ _ _ (hk.2 q) H locs ls cells slots hP hL hl h1 h2)
  · exact hk.elim
theorem zs_icmp_le {w : zW} {Γ : zC} {M : zM} {N S : Nat} {Rt : zR} (X : zm_X w Γ M N S Rt) {pc tgt : Nat} {off : Int} {K1 K2 : zB} (hd : decode M.2.1 pc = .ok (.if_icmp .le off, 3)) (ht : (pc : Int) + off = (tgt : Int)) (hK1 : ∀ lv st h, K1 lv st h → zm_V w Γ tgt lv st h) (hK2 : ∀ lv st h, K2 lv st h → zm_V w Γ (pc + 3) lv st h) : ∀ lv st h, zi_ic (fun x y => x ≤ y) K1 K2 lv st h → zm_V w Γ pc lv st h := by
  intro lv st h hk
  obtain ⟨p, e, R, s, m, args, below, meth, c, h0, Qw, nL⟩ := Γ
  obtain ⟨hx, hb, hml, hnl, hown, hts, hKK, hNw, hfr, hlo, hN, hS, hnm, hrt⟩ := X
  unfold zi_ic at hk
  split at hk
  · intro H locs ls cells slots hP hL hl h1 h2
    exact lv_icmp_le hx hb hd ht (fun q => hK1 _ _ _ (hk.1 q) H locs ls cells slots hP hL hl h1 h2) (fun q => hK2 _ _ _ (hk.2 q) H locs ls cells slots hP hL hl h1 h2)
  · exact hk.elim
theorem zs_goto {w : zW} {Γ : zC} {M : zM} {N S : Nat} {Rt : zR} (X : zm_X w Γ M N S Rt) {pc tgt : Nat} {off : Int} {K : zB} (hd : decode M.2.1 pc = .ok (.goto off, 3)) (ht : (pc : Int) + off = (tgt : Int)) (hK : ∀ lv st h, K lv st h → zm_V w Γ tgt lv st h) : ∀ lv st h, K lv st h → zm_V w Γ pc lv st h := by
  intro lv st h hk
  obtain ⟨p, e, R, s, m, args, below, meth, c, h0, Qw, nL⟩ := Γ
  obtain ⟨hx, hb, hml, hnl, hown, hts, hKK, hNw, hfr, hlo, hN, hS, hnm, hrt⟩ := X
  intro H locs ls cells slots hP hL hl h1 h2
  exact lv_goto hx hb hd ht (hK _ _ _ hk H locs ls cells slots hP hL hl h1 h2)
theorem zs_ifnull {w : zW} {Γ : zC} {M : zM} {N S : Nat} {Rt : zR} (X : zm_X w Γ M N S Rt) {pc tgt : Nat} {off : Int} {K1 K2 : zB} (hd : decode M.2.1 pc = .ok (.ifnull off, 3)) (ht : (pc : Int) + off = (tgt : Int)) (hK1 : ∀ lv st h, K1 lv st h → zm_V w Γ tgt lv st h) (hK2 : ∀ lv st h, K2 lv st h → zm_V w Γ (pc + 3) lv st h) : ∀ lv st h, zi_nul K1 K2 lv st h → zm_V w Γ pc lv st h := by
  intro lv st h hk
  obtain ⟨p, e, R, s, m, args, below, meth, c, h0, Qw, nL⟩ := Γ
  obtain ⟨hx, hb, hml, hnl, hown, hts, hKK, hNw, hfr, hlo, hN, hS, hnm, hrt⟩ := X
  unfold zi_nul at hk
  split at hk
  · intro H locs ls cells slots hP hL hl h1 h2
    exact lv_ifnullN hx hb hd ht (hK1 _ _ _ hk H locs ls cells slots hP hL hl h1 h2)
  · intro H locs ls cells slots hP hL hl h1 h2
    exact lv_ifnull hx hb hd (hK2 _ _ _ hk H locs ls cells slots hP hL hl h1 h2)
  · exact hk.elim
theorem zs_ifnonnull {w : zW} {Γ : zC} {M : zM} {N S : Nat} {Rt : zR} (X : zm_X w Γ M N S Rt) {pc tgt : Nat} {off : Int} {K1 K2 : zB} (hd : decode M.2.1 pc = .ok (.ifnonnull off, 3)) (ht : (pc : Int) + off = (tgt : Int)) (hK1 : ∀ lv st h, K1 lv st h → zm_V w Γ tgt lv st h) (hK2 : ∀ lv st h, K2 lv st h → zm_V w Γ (pc + 3) lv st h) : ∀ lv st h, zi_nul K2 K1 lv st h → zm_V w Γ pc lv st h := by
  intro lv st h hk
  obtain ⟨p, e, R, s, m, args, below, meth, c, h0, Qw, nL⟩ := Γ
  obtain ⟨hx, hb, hml, hnl, hown, hts, hKK, hNw, hfr, hlo, hN, hS, hnm, hrt⟩ := X
  unfold zi_nul at hk
  split at hk
  · intro H locs ls cells slots hP hL hl h1 h2
    exact lv_ifnonnullN hx hb hd (hK2 _ _ _ hk H locs ls cells slots hP hL hl h1 h2)
  · intro H locs ls cells slots hP hL hl h1 h2
    exact lv_ifnonnull hx hb hd ht (hK1 _ _ _ hk H locs ls cells slots hP hL hl h1 h2)
  · exact hk.elim
end
section
theorem zm_P.at {w : zW} {h : zH} {H : Heap} {a : Nat} {o : zO} (hP : zm_P w h H) (ha : h.1 a = some o) : va_at w.2.1 vwCl (a, zm_E w.2.2.1 o) H := (hP.2.2.2 a o ha).2
theorem zm_P.one {w : zW} {h : zH} {H : Heap} {a : Nat} {o : zO} (hP : zm_P w h H) (ha : h.1 a = some o) : va_P w.2.1 vwCl [(a, zm_E w.2.2.1 o)] H := by
  intro k q hk
  have hz : k < 1 := (List.getElem?_eq_some_iff.mp hk).1
  rw [show k = 0 by omega] at hk
  cases hk
  exact hP.at ha
theorem zm_P.set {w : zW} {h : zH} {H H1 : Heap} {a : Nat} {o : zO} (hP : zm_P w h H) (ha : w.2.2.2.1 ≤ a) (he : va_at w.2.1 vwCl (a, zm_E w.2.2.1 o) H1) (hz : H1.size = H.size) (hq : ∀ q : Nat, q ≠ a → H1[q]? = H[q]?) : zm_P w (zm_up h.1 a o, h.2) H1 := by
  refine ⟨hz.trans hP.1, hP.2.1, fun q hq' => ?_, fun b o' hb => ?_⟩
  · rw [hq q (by omega)]
    exact hP.2.2.1 q hq'
  · by_cases hba : b = a
    · subst hba
      have hb' : some o = some o' := (zm_up_self h.1 b o).symm.trans hb
      cases hb'
      exact ⟨ha, he⟩
    · have hb' : h.1 b = some o' := (zm_up_ne h.1 o hba).symm.trans hb
      exact ⟨(hP.2.2.2 b o' hb').1, (hP.2.2.2 b o' hb').2.kept (hq b hba)⟩
theorem zm_P.push {w : zW} {h : zH} {H H1 : Heap} {n : Nat} {o : zO} (hP : zm_P w h H) (he : va_at w.2.1 vwCl (H.size, zm_E w.2.2.1 o) H1) (hz : H1.size = H.size + 1) (hq : ∀ q : Nat, q < H.size → H1[q]? = H[q]?) : zm_P w (zm_up h.1 h.2.1 o, h.2.1 + 1, n) H1 := by
  have hs := hP.1
  have hB := hP.2.1
  refine ⟨by rw [hz, hs], Nat.le_trans hB (Nat.le_succ _), fun q hq' => ?_, fun b o' hb => ?_⟩
  · rw [hq q (by omega)]
    exact hP.2.2.1 q hq'
  · by_cases hba : b = h.2.1
    · subst hba
      have hb' : some o = some o' := (zm_up_self h.1 h.2.1 o).symm.trans hb
      cases hb'
      rw [hs] at he
      exact ⟨hB, he⟩
    · have hb' : h.1 b = some o' := (zm_up_ne h.1 o hba).symm.trans hb
      exact ⟨(hP.2.2.2 b o' hb').1, (hP.2.2.2 b o' hb').2.kept (hq b (hP.at hb').lt)⟩
theorem zm_locs {B a k : Nat} {locs : List Loc} (h : ∀ q ∈ locs, B ≤ q.base) (ha : B ≤ a) : ∀ q ∈ locs ++ [⟨a, k⟩], B ≤ q.base := by
  intro q hq
  rcases List.mem_append.mp hq with h1 | h1
  · exact h q h1
  · rw [List.mem_singleton.mp h1]
    exact ha
def zm_tk : Nat → List Value → List Value → List Value × List Value
  | 0, acc, st => (acc, st)
  | k + 1, acc, v :: st => zm_tk k (v :: acc) st
  | _ + 1, acc, [] => (acc, [])
theorem zm_tk_eq : ∀ (k : Nat) (acc st : List Value), (zm_tk k acc st).1 = (st.take k).reverse ++ acc ∧ (zm_tk k acc st).2 = st.drop k
  | 0, acc, st => by simp [zm_tk]
  | k + 1, acc, v :: st => by
    have h := zm_tk_eq k (v :: acc) st
    simp [zm_tk, h.1, h.2]
  | k + 1, acc, [] => by simp [zm_tk]
theorem zm_tk_st {k : Nat} {st As r : List Value} (h : zm_tk k [] st = (As, r)) : st = As.reverse ++ r := by
  have q := zm_tk_eq k [] st
  rw [h] at q
  obtain ⟨q1, q2⟩ := q
  simp only [List.append_nil] at q1
  dsimp only at q1 q2
  rw [q1, q2, List.reverse_reverse, List.take_append_drop]
def zi_cv (w : zW) (M' : zM) (ci k N S : Nat) (K : zB) : zB := fun lv st h => match zm_tk k [] st with
  | (.ref b :: As, r) => As.length + 1 = k ∧ (∃ fs, h.1 b = some (.inr (ci, fs))) ∧ (r.map fun v => v.category).sum ≤ 8 ∧ ∃ v h', zm_C w M' (.ref b :: As) h v h' ∧ h'.2.1 ≤ N ∧ h'.2.2 ≤ S ∧ K lv (v.toList ++ r) h'
  | _ => False
def zi_cs (w : zW) (M' : zM) (k N S : Nat) (K : zB) : zB := fun lv st h => match zm_tk k [] st with
  | (As, r) => As.length = k ∧ (r.map fun v => v.category).sum ≤ 8 ∧ ∃ v h', zm_C w M' As h v h' ∧ h'.2.1 ≤ N ∧ h'.2.2 ≤ S ∧ K lv (v.toList ++ r) h'
def zi_ci (w : zW) (M' : zM) (k N S : Nat) (K : zB) : zB := fun lv st h => match zm_tk k [] st with
  | (.ref b :: As, r) => As.length + 1 = k ∧ (r.map fun v => v.category).sum ≤ 8 ∧ ∃ v h', zm_C w M' (.ref b :: As) h v h' ∧ h'.2.1 ≤ N ∧ h'.2.2 ≤ S ∧ K lv (v.toList ++ r) h'
  | _ => False
def zi_obj (K : zB) : zB := fun lv st h => match st with
  | .ref _ :: r => (r.map fun v => v.category).sum ≤ 8 ∧ K lv r h
  | _ => False
theorem zs_gf {w : zW} {Γ : zC} {M : zM} {N S : Nat} {Rt : zR} (X : zm_X w Γ M N S Rt) {pc : Nat} {K : zB} {ci k idx NN : Nat} {C : String} {T : u_T} (hc : vwCl[ci]? = some (C, T, NN)) (hkN : k < NN) (hin : ∀ q ∈ u_ws C T NN, q ∈ zm_tb) (hlk : Cond.fieldLink M.1.cls idx (T k).1 (T k).2.1 (T k).2.2.1 ∈ zm_tb) (hd : decode M.2.1 pc = .ok (.getfield idx, 3)) (hK : ∀ lv st h, K lv st h → zm_V w Γ (pc + 3) lv st h) : ∀ lv st h, zi_gf ci k K lv st h → zm_V w Γ pc lv st h := by
  intro lv st h hk
  obtain ⟨p, e, R, s, m, args, below, meth, c, h0, Qw, nL⟩ := Γ
  obtain ⟨hx, hb, hml, hnl, hown, hts, hKK, hNw, hfr, hlo, hN, hS, hnm, hrt⟩ := X
  unfold zi_gf at hk
  split at hk
  · rename_i a r
    split at hk
    · rename_i c' fs ha
      obtain ⟨rfl, hk⟩ := hk
      split at hk
      · rename_i v hv
        intro H locs ls cells slots hP hL hl h1 h2
        exact va_get (D := w.2.1) (ws := [(a, .inr (c', fs))]) hx hb hts hin hown hKK (hP.one ha) 0 rfl hc k hkN (hts _ hlk) (fun _ q => q) hv hd (hK _ _ _ hk H locs ls cells slots hP hL hl h1 h2)
      · exact hk.elim
    · exact hk.elim
  · exact hk.elim
theorem zs_gfN {w : zW} {Γ : zC} {M : zM} {N S : Nat} {Rt : zR} (X : zm_X w Γ M N S Rt) {pc : Nat} {K : zB} {host : String} {ci k idx NN : Nat} {C : String} {T : u_T} (hc : vwCl[ci]? = some (C, T, NN)) (hkN : k < NN) (hin : ∀ q ∈ u_ws C T NN, q ∈ zm_tb) (hlk : Cond.fieldLinkNest M.1.cls idx (T k).1 (T k).2.1 (T k).2.2.1 host ∈ zm_nw) (hd : decode M.2.1 pc = .ok (.getfield idx, 3)) (hK : ∀ lv st h, K lv st h → zm_V w Γ (pc + 3) lv st h) : ∀ lv st h, zi_gf ci k K lv st h → zm_V w Γ pc lv st h := by
  intro lv st h hk
  obtain ⟨p, e, R, s, m, args, below, meth, c, h0, Qw, nL⟩ := Γ
  obtain ⟨hx, hb, hml, hnl, hown, hts, hKK, hNw, hfr, hlo, hN, hS, hnm, hrt⟩ := X
  unfold zi_gf at hk
  split at hk
  · rename_i a r
    split at hk
    · rename_i c' fs ha
      obtain ⟨rfl, hk⟩ := hk
      split at hk
      · rename_i v hv
        intro H locs ls cells slots hP hL hl h1 h2
        exact va_getN (D := w.2.1) (ws := [(a, .inr (c', fs))]) hx hb hts hin hown hKK (hP.one ha) 0 rfl hc k hkN (va_Nw.use rfl (hNw _ hlk)) (fun _ q => q) hv hd (hK _ _ _ hk H locs ls cells slots hP hL hl h1 h2)
      · exact hk.elim
    · exact hk.elim
  · exact hk.elim
theorem zs_pf {w : zW} {Γ : zC} {M : zM} {N S : Nat} {Rt : zR} (X : zm_X w Γ M N S Rt) {pc : Nat} {K : zB} {ci k idx NN : Nat} {C : String} {T : u_T} (hc : vwCl[ci]? = some (C, T, NN)) (hkN : k < NN) (hin : ∀ q ∈ u_ws C T NN, q ∈ zm_tb) (hlk : Cond.fieldLink M.1.cls idx (T k).1 (T k).2.1 (T k).2.2.1 ∈ zm_tb) (ty0 : Nat → FieldType) (hty : ∀ k, k < NN → parseFieldDescriptor (T k).2.2.1 = some (ty0 k)) (hnm' : ∀ a, a < NN → ∀ b, b < NN → a ≠ b → (T a).2.1 ≠ (T b).2.1) {ty : FieldType} (hdt : ty0 k = ty) (hfin : (T k).2.2.2 = false) (hd : decode M.2.1 pc = .ok (.putfield idx, 3)) (hK : ∀ lv st h, K lv st h → zm_V w Γ (pc + 3) lv st h) : ∀ lv st h, zi_pf ci k ty K lv st h → zm_V w Γ pc lv st h := by
  intro lv st h hk
  obtain ⟨p, e, R, s, m, args, below, meth, c, h0, Qw, nL⟩ := Γ
  obtain ⟨hx, hb, hml, hnl, hown, hts, hKK, hNw, hfr, hlo, hN, hS, hnm, hrt⟩ := X
  unfold zi_pf at hk
  split at hk
  · rename_i v a r
    split at hk
    · rename_i c' fs ha
      obtain ⟨rfl, ⟨hn, hfit⟩, hl', hk⟩ := hk
      intro H locs ls cells slots hP hL hl h1 h2
      have hap := va_apart (own := C) hts hin ty0 hty hnm' hKK hc
      obtain ⟨hBa, r', g1, cell, q1, q2, q3, q4⟩ := hP.2.2.2 a _ ha
      have hr : r' = (C, T, NN) := Option.some.inj (g1.symm.trans hc)
      subst hr
      obtain ⟨hSl, hfc, kC, hkC, hkind⟩ := hKK.1 _ _ hc
      obtain ⟨cf, kf, fi, f, hi, hsl⟩ := hSl k hkN
      have hlay := hts _ (hin _ (u_in_lay hkN))
      unfold u_lay at hlay
      rw [if_neg (by rw [hfin]; decide)] at hlay
      have hst := (u_facts hfc hkC (u_lays hts hin hkN) hi).1
      have h6 := u_store hfc hkC hkind hlay hi (by rw [hty k hkN, hdt]) hn hfit
      refine W.putK hx hb (f := f) ⟨hown, hts _ hlk, ⟨_, _, _, hi⟩, hst⟩ (by rw [q2]; exact h6) q1 q3 (by rw [hsl]; exact k2_hasslot (q4 k hkN)) rfl rfl hd fun H' e1 e2 e3 => ?_
      rw [hsl] at e1 ⊢
      exact hK _ _ _ hk H' _ ls cells slots (hP.set hBa ⟨_, hc, t_OB.to (V := updV (vp_V fs) k v) ⟨_, e1, q2, q3, t_set q4 hap hkN v⟩ (fun j _ => vp_updV_set hl' v j)⟩ e2 e3) (zm_locs hL hBa) hl h1 h2
    · exact hk.elim
  · exact hk.elim
theorem zs_pfN {w : zW} {Γ : zC} {M : zM} {N S : Nat} {Rt : zR} (X : zm_X w Γ M N S Rt) {pc : Nat} {K : zB} {host : String} {ci k idx NN : Nat} {C : String} {T : u_T} (hc : vwCl[ci]? = some (C, T, NN)) (hkN : k < NN) (hin : ∀ q ∈ u_ws C T NN, q ∈ zm_tb) (hlk : Cond.fieldLinkNest M.1.cls idx (T k).1 (T k).2.1 (T k).2.2.1 host ∈ zm_nw) (ty0 : Nat → FieldType) (hty : ∀ k, k < NN → parseFieldDescriptor (T k).2.2.1 = some (ty0 k)) (hnm' : ∀ a, a < NN → ∀ b, b < NN → a ≠ b → (T a).2.1 ≠ (T b).2.1) {ty : FieldType} (hdt : ty0 k = ty) (hfin : (T k).2.2.2 = false) (hd : decode M.2.1 pc = .ok (.putfield idx, 3)) (hK : ∀ lv st h, K lv st h → zm_V w Γ (pc + 3) lv st h) : ∀ lv st h, zi_pf ci k ty K lv st h → zm_V w Γ pc lv st h := by
  intro lv st h hk
  obtain ⟨p, e, R, s, m, args, below, meth, c, h0, Qw, nL⟩ := Γ
  obtain ⟨hx, hb, hml, hnl, hown, hts, hKK, hNw, hfr, hlo, hN, hS, hnm, hrt⟩ := X
  unfold zi_pf at hk
  split at hk
  · rename_i v a r
    split at hk
    · rename_i c' fs ha
      obtain ⟨rfl, ⟨hn, hfit⟩, hl', hk⟩ := hk
      intro H locs ls cells slots hP hL hl h1 h2
      have hap := va_apart (own := C) hts hin ty0 hty hnm' hKK hc
      obtain ⟨hBa, r', g1, cell, q1, q2, q3, q4⟩ := hP.2.2.2 a _ ha
      have hr : r' = (C, T, NN) := Option.some.inj (g1.symm.trans hc)
      subst hr
      obtain ⟨hSl, hfc, kC, hkC, hkind⟩ := hKK.1 _ _ hc
      obtain ⟨cf, kf, fi, f, hi, hsl⟩ := hSl k hkN
      have hlay := hts _ (hin _ (u_in_lay hkN))
      unfold u_lay at hlay
      rw [if_neg (by rw [hfin]; decide)] at hlay
      have hst := (u_facts hfc hkC (u_lays hts hin hkN) hi).1
      have h6 := u_store hfc hkC hkind hlay hi (by rw [hty k hkN, hdt]) hn hfit
      refine va_WputK hx hb (f := f) hown (va_Nw.use rfl (hNw _ hlk)) hi hst (by rw [q2]; exact h6) q1 q3 (by rw [hsl]; exact k2_hasslot (q4 k hkN)) rfl rfl hd fun H' e1 e2 e3 => ?_
      rw [hsl] at e1 ⊢
      exact hK _ _ _ hk H' _ ls cells slots (hP.set hBa ⟨_, hc, t_OB.to (V := updV (vp_V fs) k v) ⟨_, e1, q2, q3, t_set q4 hap hkN v⟩ (fun j _ => vp_updV_set hl' v j)⟩ e2 e3) (zm_locs hL hBa) hl h1 h2
    · exact hk.elim
  · exact hk.elim
theorem zs_pfF {w : zW} {Γ : zC} {M : zM} {N S : Nat} {Rt : zR} (X : zm_X w Γ M N S Rt) {pc : Nat} {K : zB} {ci k idx NN : Nat} {C : String} {T : u_T} (hc : vwCl[ci]? = some (C, T, NN)) (hkN : k < NN) (hin : ∀ q ∈ u_ws C T NN, q ∈ zm_tb) (hlk : Cond.fieldLink M.1.cls idx (T k).1 (T k).2.1 (T k).2.2.1 ∈ zm_tb) (ty0 : Nat → FieldType) (hty : ∀ k, k < NN → parseFieldDescriptor (T k).2.2.1 = some (ty0 k)) (hnm' : ∀ a, a < NN → ∀ b, b < NN → a ≠ b → (T a).2.1 ≠ (T b).2.1) {ty : FieldType} (hdt : ty0 k = ty) (hfin : (T k).2.2.2 = true) (hin2 : M.1.name = "<init>") (hdecl : (T k).1 = M.1.cls) (hd : decode M.2.1 pc = .ok (.putfield idx, 3)) (hK : ∀ lv st h, K lv st h → zm_V w Γ (pc + 3) lv st h) : ∀ lv st h, zi_pf ci k ty K lv st h → zm_V w Γ pc lv st h := by
  intro lv st h hk
  obtain ⟨p, e, R, s, m, args, below, meth, c, h0, Qw, nL⟩ := Γ
  obtain ⟨hx, hb, hml, hnl, hown, hts, hKK, hNw, hfr, hlo, hN, hS, hnm, hrt⟩ := X
  unfold zi_pf at hk
  split at hk
  · rename_i v a r
    split at hk
    · rename_i c' fs ha
      obtain ⟨rfl, ⟨hn, hfit⟩, hl', hk⟩ := hk
      intro H locs ls cells slots hP hL hl h1 h2
      have hap := va_apart (own := C) hts hin ty0 hty hnm' hKK hc
      obtain ⟨hBa, r', g1, cell, q1, q2, q3, q4⟩ := hP.2.2.2 a _ ha
      have hr : r' = (C, T, NN) := Option.some.inj (g1.symm.trans hc)
      subst hr
      obtain ⟨hSl, hfc, kC, hkC, hkind⟩ := hKK.1 _ _ hc
      obtain ⟨cf, kf, fi, f, hi, hsl⟩ := hSl k hkN
      have hlay := hts _ (hin _ (u_in_lay hkN))
      unfold u_lay at hlay
      rw [if_pos hfin] at hlay
      have hst := (u_facts hfc hkC (u_lays hts hin hkN) hi).1
      have hcf : m.cls = cf := by
        obtain ⟨_, _, c2, _, _, _, -, -, hf', -, -, -, hown2, -⟩ := Cond.laysFinal_spec hlay
        have e1 : c2 = cf := by have := hi.symm.trans hf'; simp at this; exact this.1.symm
        rw [hdecl] at hown2
        rw [← e1]; exact Option.some.inj (hown.symm.trans hown2)
      have h6 := u_fits hfc hkC hkind (Or.inr hlay) hi (by rw [hty k hkN, hdt]) hn hfit
      refine W.putFinK hx hb hown (hts _ hlk) hi hst hcf (hnm.trans hin2) (by rw [q2]; exact h6) q1 q3 (by rw [hsl]; exact k2_hasslot (q4 k hkN)) rfl rfl hd fun H' e1 e2 e3 => ?_
      rw [hsl] at e1 ⊢
      exact hK _ _ _ hk H' _ ls cells slots (hP.set hBa ⟨_, hc, t_OB.to (V := updV (vp_V fs) k v) ⟨_, e1, q2, q3, t_set q4 hap hkN v⟩ (fun j _ => vp_updV_set hl' v j)⟩ e2 e3) (zm_locs hL hBa) hl h1 h2
    · exact hk.elim
  · exact hk.elim
theorem zs_iald {w : zW} {Γ : zC} {M : zM} {N S : Nat} {Rt : zR} (X : zm_X w Γ M N S Rt) {pc : Nat} {K : zB} {t : Nat} (ht : ∀ dA : Nat → ClassId, (zm_tys dA)[t]? = some (dA t, .int)) (hd : decode M.2.1 pc = .ok (.iaload, 1)) (hK : ∀ lv st h, K lv st h → zm_V w Γ (pc + 1) lv st h) : ∀ lv st h, zi_ia t K lv st h → zm_V w Γ pc lv st h := by
  intro lv st h hk
  obtain ⟨p, e, R, s, m, args, below, meth, c, h0, Qw, nL⟩ := Γ
  obtain ⟨hx, hb, hml, hnl, hown, hts, hKK, hNw, hfr, hlo, hN, hS, hnm, hrt⟩ := X
  unfold zi_ia at hk
  split at hk
  · rename_i i a r
    split at hk
    · rename_i t' n f ha
      obtain ⟨rfl, hin, hk⟩ := hk
      intro H locs ls cells slots hP hL hl h1 h2
      exact va_iald (D := w.2.1) (ws := [(a, .inl (w.2.2.1 t', n, .inl f))]) hx hb hKK (hP.one ha) 0 t' rfl (ht _) hin hd (hK _ _ _ hk H locs ls cells slots hP hL hl h1 h2)
    · exact hk.elim
  · exact hk.elim
theorem zs_lald {w : zW} {Γ : zC} {M : zM} {N S : Nat} {Rt : zR} (X : zm_X w Γ M N S Rt) {pc : Nat} {K : zB} {t : Nat} (ht : ∀ dA : Nat → ClassId, (zm_tys dA)[t]? = some (dA t, .long)) (hd : decode M.2.1 pc = .ok (.laload, 1)) (hK : ∀ lv st h, K lv st h → zm_V w Γ (pc + 1) lv st h) : ∀ lv st h, zi_la t K lv st h → zm_V w Γ pc lv st h := by
  intro lv st h hk
  obtain ⟨p, e, R, s, m, args, below, meth, c, h0, Qw, nL⟩ := Γ
  obtain ⟨hx, hb, hml, hnl, hown, hts, hKK, hNw, hfr, hlo, hN, hS, hnm, hrt⟩ := X
  unfold zi_la at hk
  split at hk
  · rename_i i a r
    split at hk
    · rename_i t' n f ha
      obtain ⟨rfl, hin, hk⟩ := hk
      intro H locs ls cells slots hP hL hl h1 h2
      exact va_lald (D := w.2.1) (ws := [(a, .inl (w.2.2.1 t', n, .inr (.inl f)))]) hx hb hKK (hP.one ha) 0 t' rfl (ht _) hin hd (hK _ _ _ hk H locs ls cells slots hP hL hl h1 h2)
    · exact hk.elim
  · exact hk.elim
theorem zs_aald {w : zW} {Γ : zC} {M : zM} {N S : Nat} {Rt : zR} (X : zm_X w Γ M N S Rt) {pc : Nat} {K : zB} {t : Nat} {C : String} (ht : ∀ dA : Nat → ClassId, (zm_tys dA)[t]? = some (dA t, .object C)) (hd : decode M.2.1 pc = .ok (.aaload, 1)) (hK : ∀ lv st h, K lv st h → zm_V w Γ (pc + 1) lv st h) : ∀ lv st h, zi_aa t K lv st h → zm_V w Γ pc lv st h := by
  intro lv st h hk
  obtain ⟨p, e, R, s, m, args, below, meth, c, h0, Qw, nL⟩ := Γ
  obtain ⟨hx, hb, hml, hnl, hown, hts, hKK, hNw, hfr, hlo, hN, hS, hnm, hrt⟩ := X
  unfold zi_aa at hk
  split at hk
  · rename_i i a r
    split at hk
    · rename_i t' n f ha
      obtain ⟨rfl, hin, hk⟩ := hk
      intro H locs ls cells slots hP hL hl h1 h2
      exact va_aldq (D := w.2.1) (ws := [(a, .inl (w.2.2.1 t', n, .inr (.inr (.inr (.inr f)))))]) hx hb hKK (hP.one ha) 0 t' rfl (ht _) hin hd (hK _ _ _ hk H locs ls cells slots hP hL hl h1 h2)
    · exact hk.elim
  · exact hk.elim
theorem zs_iast {w : zW} {Γ : zC} {M : zM} {N S : Nat} {Rt : zR} (X : zm_X w Γ M N S Rt) {pc : Nat} {K : zB} {t : Nat} (ht : ∀ dA : Nat → ClassId, (zm_tys dA)[t]? = some (dA t, .int)) (hd : decode M.2.1 pc = .ok (.iastore, 1)) (hK : ∀ lv st h, K lv st h → zm_V w Γ (pc + 1) lv st h) : ∀ lv st h, zi_is t K lv st h → zm_V w Γ pc lv st h := by
  intro lv st h hk
  obtain ⟨p, e, R, s, m, args, below, meth, c, h0, Qw, nL⟩ := Γ
  obtain ⟨hx, hb, hml, hnl, hown, hts, hKK, hNw, hfr, hlo, hN, hS, hnm, hrt⟩ := X
  unfold zi_is at hk
  split at hk
  · rename_i x i a r
    split at hk
    · rename_i t' n f ha
      obtain ⟨rfl, hin, hk⟩ := hk
      intro H locs ls cells slots hP hL hl h1 h2
      have hBa := (hP.2.2.2 a _ ha).1
      refine W.iast hx hb (hP.at ha) ((hKK.2 t' _ (ht _)).1 n (fun j => .int (f j))) (fun q => by cases q) (by show ¬ (i < 0 ∨ (arrV _ _ _).slots.size ≤ _); rw [arrV_size]; exact hin) rfl rfl hd fun H1 e z oq => ?_
      refine hK _ _ _ hk H1 _ ls cells slots (hP.set hBa ?_ z oq) (zm_locs hL hBa) hl h1 h2
      show H1[a]? = some (vp_cell _ _)
      rw [e]
      rw [vp_cell_i, vp_cell_i, arrV_store]
      congr 2
      funext q
      by_cases hq : q = i.toNatClampNeg
      · subst hq
        simp [updV, upd]
      · simp [updV, upd, hq]
    · exact hk.elim
  · exact hk.elim
theorem zs_last {w : zW} {Γ : zC} {M : zM} {N S : Nat} {Rt : zR} (X : zm_X w Γ M N S Rt) {pc : Nat} {K : zB} {t : Nat} (ht : ∀ dA : Nat → ClassId, (zm_tys dA)[t]? = some (dA t, .long)) (hd : decode M.2.1 pc = .ok (.lastore, 1)) (hK : ∀ lv st h, K lv st h → zm_V w Γ (pc + 1) lv st h) : ∀ lv st h, zi_lst t K lv st h → zm_V w Γ pc lv st h := by
  intro lv st h hk
  obtain ⟨p, e, R, s, m, args, below, meth, c, h0, Qw, nL⟩ := Γ
  obtain ⟨hx, hb, hml, hnl, hown, hts, hKK, hNw, hfr, hlo, hN, hS, hnm, hrt⟩ := X
  unfold zi_lst at hk
  split at hk
  · rename_i x i a r
    split at hk
    · rename_i t' n f ha
      obtain ⟨rfl, hin, hk⟩ := hk
      intro H locs ls cells slots hP hL hl h1 h2
      have hBa := (hP.2.2.2 a _ ha).1
      refine W.last hx hb (hP.at ha) ((hKK.2 t' _ (ht _)).1 n (fun j => .long (f j))) (fun q => by cases q) (by show ¬ (i < 0 ∨ (arrV _ _ _).slots.size ≤ _); rw [arrV_size]; exact hin) rfl rfl hd fun H1 e z oq => ?_
      refine hK _ _ _ hk H1 _ ls cells slots (hP.set hBa ?_ z oq) (zm_locs hL hBa) hl h1 h2
      show H1[a]? = some (vp_cell _ _)
      rw [e]
      rw [vp_cell_l, vp_cell_l, arrV_store]
      congr 2
      funext q
      by_cases hq : q = i.toNatClampNeg
      · subst hq
        simp [updV, vp_updL]
      · simp [updV, vp_updL, hq]
    · exact hk.elim
  · exact hk.elim
theorem zs_aast {w : zW} {Γ : zC} {M : zM} {N S : Nat} {Rt : zR} (X : zm_X w Γ M N S Rt) {pc : Nat} {K : zB} {t ci NN : Nat} {C : String} {T : u_T} (hc : vwCl[ci]? = some (C, T, NN)) (ht : ∀ dA : Nat → ClassId, (zm_tys dA)[t]? = some (dA t, .object C)) (hd : decode M.2.1 pc = .ok (.aastore, 1)) (hK : ∀ lv st h, K lv st h → zm_V w Γ (pc + 1) lv st h) : ∀ lv st h, zi_as t ci K lv st h → zm_V w Γ pc lv st h := by
  intro lv st h hk
  obtain ⟨p, e, R, s, m, args, below, meth, c, h0, Qw, nL⟩ := Γ
  obtain ⟨hx, hb, hml, hnl, hown, hts, hKK, hNw, hfr, hlo, hN, hS, hnm, hrt⟩ := X
  unfold zi_as at hk
  split at hk
  · rename_i v i a r
    split at hk
    · rename_i t' n f ha
      obtain ⟨rfl, hin, ⟨fs, hv⟩, hk⟩ := hk
      intro H locs ls cells slots hP hL hl h1 h2
      have hBa := (hP.2.2.2 a _ ha).1
      have hlt : i.toNatClampNeg < n := Nat.not_le.mp fun q => hin (Or.inr q)
      have h0' : ¬ i < 0 := fun q => hin (Or.inl q)
      obtain ⟨r', hr', cellV, g1, g2, g3, -⟩ := hP.at hv
      have hcls := (hKK.1 ci _ hc).2
      obtain ⟨kA, comp, k1, k2, k3, -⟩ := (hKK.2 t' _ (ht _)).2
      have hcomp : comp = w.2.1.1 ci := Option.some.inj (k3.symm.trans hcls.1)
      subst hcomp
      obtain ⟨kC, hkC, -⟩ := hcls.2
      refine W.aast hx hb (hP.at ha) (fun q h => by cases h) (fun h => by cases h) k1 k2 rfl hkC ⟨h0', by show _ < (arrV _ _ _).slots.size; rw [arrV_size]; exact hlt⟩ g1 (fun q h => by rw [g3] at h; cases h) (by rw [g2]; exact hkC) (by rw [g2]; exact va_assign hcls) rfl rfl hd fun H1 e z oq => ?_
      refine hK _ _ _ hk H1 _ ls cells slots (hP.set hBa ?_ z oq) (zm_locs hL hBa) hl h1 h2
      show H1[a]? = some (vp_cell _ _)
      rw [e]
      rw [vp_cell_q, vp_cell_q, arrV_store]
      congr 2
      funext q
      by_cases hq : q = i.toNatClampNeg
      · subst hq
        simp [updV, va_up, va_rf]
      · simp [updV, va_up, hq]
    · exact hk.elim
  · exact hk.elim
theorem zs_alen {w : zW} {Γ : zC} {M : zM} {N S : Nat} {Rt : zR} (X : zm_X w Γ M N S Rt) {pc : Nat} {K : zB} {t : Nat} {ty : FieldType} (ht : ∀ dA : Nat → ClassId, (zm_tys dA)[t]? = some (dA t, ty)) (hd : decode M.2.1 pc = .ok (.arraylength, 1)) (hK : ∀ lv st h, K lv st h → zm_V w Γ (pc + 1) lv st h) : ∀ lv st h, zi_len t K lv st h → zm_V w Γ pc lv st h := by
  intro lv st h hk
  obtain ⟨p, e, R, s, m, args, below, meth, c, h0, Qw, nL⟩ := Γ
  obtain ⟨hx, hb, hml, hnl, hown, hts, hKK, hNw, hfr, hlo, hN, hS, hnm, hrt⟩ := X
  unfold zi_len at hk
  split at hk
  · rename_i a r
    split at hk
    · rename_i t' x ha
      obtain ⟨rfl, hk⟩ := hk
      intro H locs ls cells slots hP hL hl h1 h2
      exact va_alen (D := w.2.1) (ws := [(a, .inl (w.2.2.1 t', x))]) hx hb hKK (hP.one ha) 0 t' rfl (ht _) rfl hd (hK _ _ _ hk H locs ls cells slots hP hL hl h1 h2)
    · exact hk.elim
  · exact hk.elim
theorem zs_new {w : zW} {Γ : zC} {M : zM} {N S : Nat} {Rt : zR} (X : zm_X w Γ M N S Rt) {pc : Nat} {K : zB} {ci nf idx : Nat} {fs : List Value} {C : String} {T : u_T} (hc : vwCl[ci]? = some (C, T, nf)) (hin : ∀ q ∈ u_ws C T nf, q ∈ zm_tb) (ty0 : Nat → FieldType) (hty : ∀ k, k < nf → parseFieldDescriptor (T k).2.2.1 = some (ty0 k)) (hfs : ∀ j, j < nf → defaultValue (ty0 j) = vp_V fs j) (w1 : Cond.classLink M.1.cls idx C ∈ zm_tb) (w2 : Cond.instantiable C nf ∈ zm_tb) (w3 : Cond.initialized C ∈ zm_tb) (hd : decode M.2.1 pc = .ok (.new idx, 3)) (hK : ∀ lv st h, K lv st h → zm_V w Γ (pc + 3) lv st h) : ∀ lv st h, zi_new N S ci nf fs K lv st h → zm_V w Γ pc lv st h := by
  intro lv st h hk
  obtain ⟨p, e, R, s, m, args, below, meth, c, h0, Qw, nL⟩ := Γ
  obtain ⟨hx, hb, hml, hnl, hown, hts, hKK, hNw, hfr, hlo, hN, hS, hnm, hrt⟩ := X
  obtain ⟨b1, b2, hk⟩ := hk
  intro H locs ls cells slots hP hL hl h1 h2
  have hKn := hKK.1 ci _ hc
  have hsz := hP.1
  refine W.newcK hx hb hown (hts _ w1) (hts _ w2) (hts _ w3) rfl hd (by omega) (by omega) hKn.2.1 hsz fun H1 kC hkC e1 z1 o1 => ?_
  refine hK _ _ _ hk H1 locs ls (cells + 1) (slots + nf) (hP.push (o := .inr (ci, fs)) ?_ (by rw [z1, hsz]) (fun q hq => o1 q (by rw [← hsz]; exact hq))) hL hl (by show h.2.1 + 1 = _; omega) (by show h.2.2 + nf = _; omega)
  rw [hsz]
  exact ⟨_, hc, (u_born ty0 hts hin hKn hkC e1 hty).to hfs⟩
theorem zs_newa {w : zW} {Γ : zC} {M : zM} {N S : Nat} {Rt : zR} (X : zm_X w Γ M N S Rt) {pc : Nat} {K : zB} {t : Nat} {atype : ArrayType} {d : (Nat → Int32) ⊕ (Nat → Int64) ⊕ (Nat → UInt32) ⊕ (Nat → UInt64) ⊕ (Nat → Option Nat)} (ht : ∀ dA : Nat → ClassId, (zm_tys dA)[t]? = some (dA t, newarray.typeOf atype)) (hz : ∀ (cA : ClassId) (n : Nat), vp_cell cA (n, d) = arrV cA n (fun _ => defaultValue (newarray.typeOf atype))) (hcb : componentBytes (newarray.typeOf atype) ≤ 8) (hnr : ∀ C, newarray.typeOf atype ≠ .object C) (w1 : Cond.arrayClass (newarray.typeOf atype) ∈ zm_tb) (hd : decode M.2.1 pc = .ok (.newarray atype, 2)) (hK : ∀ lv st h, K lv st h → zm_V w Γ (pc + 2) lv st h) : ∀ lv st h, zi_na N S t d K lv st h → zm_V w Γ pc lv st h := by
  intro lv st h hk
  obtain ⟨p, e, R, s, m, args, below, meth, c, h0, Qw, nL⟩ := Γ
  obtain ⟨hx, hb, hml, hnl, hown, hts, hKK, hNw, hfr, hlo, hN, hS, hnm, hrt⟩ := X
  unfold zi_na at hk
  split at hk
  · rename_i n r
    obtain ⟨a1, a2, b1, b2, hk⟩ := hk
    intro H locs ls cells slots hP hL hl h1 h2
    have hsz := hP.1
    refine va_newaK hx hb (hts _ w1) rfl hd rfl a1 rfl (Nat.le_trans (Nat.mul_le_mul a2 hcb) (by decide)) (by omega) (by omega) hsz fun H1 cA e1 z1 o1 hAr hNm => ?_
    have hcA : cA = w.2.2.1 t := by
      have g := (hKK.2 t _ (ht _)).2
      generalize hT : newarray.typeOf atype = T at *
      cases T with
      | object C => exact absurd rfl (hnr C)
      | _ => exact Option.some.inj (hNm.symm.trans g)
    subst hcA
    refine hK _ _ _ hk H1 locs ls (cells + 1) (slots + n.toNatClampNeg) (hP.push (o := .inl (t, n.toNatClampNeg, d)) ?_ (by rw [z1, hsz]) (fun q hq => o1 q (by rw [← hsz]; exact hq))) hL hl (by show h.2.1 + 1 = _; omega) (by show h.2.2 + n.toNatClampNeg = _; omega)
    rw [hsz]
    show H1[h.2.1]? = some (vp_cell _ _)
    rw [hz]
    exact e1
  · exact hk.elim
theorem zs_anew {w : zW} {Γ : zC} {M : zM} {N S : Nat} {Rt : zR} (X : zm_X w Γ M N S Rt) {pc : Nat} {K : zB} {t idx : Nat} {C : String} (ht : ∀ dA : Nat → ClassId, (zm_tys dA)[t]? = some (dA t, .object C)) (w1 : Cond.classLink M.1.cls idx C ∈ zm_tb) (w2 : Cond.arrayOver (.object C) ∈ zm_nw) (hd : decode M.2.1 pc = .ok (.anewarray idx, 3)) (hK : ∀ lv st h, K lv st h → zm_V w Γ (pc + 3) lv st h) : ∀ lv st h, zi_na N S t (.inr (.inr (.inr (.inr (fun _ => none))))) K lv st h → zm_V w Γ pc lv st h := by
  intro lv st h hk
  obtain ⟨p, e, R, s, m, args, below, meth, c, h0, Qw, nL⟩ := Γ
  obtain ⟨hx, hb, hml, hnl, hown, hts, hKK, hNw, hfr, hlo, hN, hS, hnm, hrt⟩ := X
  unfold zi_na at hk
  split at hk
  · rename_i n r
    obtain ⟨a1, a2, b1, b2, hk⟩ := hk
    intro H locs ls cells slots hP hL hl h1 h2
    have hsz := hP.1
    refine W.anew hx hb hown (hts _ w1) (va_AO.use (hNw _ w2)) rfl hd rfl a1 (by omega) (by omega) (by omega) fun cA kA comp f1 f2 f3 f4 => ?_
    have hcA : cA = w.2.2.1 t := by
      obtain ⟨kA', comp', k1, k2, k3, k4⟩ := (hKK.2 t _ (ht _)).2
      exact Option.some.inj (f1.symm.trans k4)
    subst hcA
    generalize hH1 : H.push ({ cls := w.2.2.1 t, slots := Array.replicate n.toNatClampNeg .null, vm := .none } : Cell) = H1
    have z1 : H1.size = H.size + 1 := by rw [← hH1, Array.size_push]
    have e1 : H1[H.size]? = some (arrV (w.2.2.1 t) n.toNatClampNeg (fun _ => .null)) := by rw [← hH1, Array.getElem?_push_size, ← arrV_new]
    have o1 : ∀ q : Nat, q < H.size → H1[q]? = H[q]? := fun q hq => by rw [← hH1, Array.getElem?_push, if_neg (Nat.ne_of_lt hq)]
    have hk' := hK _ _ _ hk H1 locs ls (cells + 1) (slots + n.toNatClampNeg) (hP.push (o := .inl (t, n.toNatClampNeg, .inr (.inr (.inr (.inr (fun _ => none)))))) (by
      show H1[H.size]? = some (vp_cell _ _)
      rw [vp_cell_q]
      exact e1) z1 o1) hL hl (by show h.2.1 + 1 = _; omega) (by show h.2.2 + n.toNatClampNeg = _; omega)
    rw [← hsz] at hk'
    exact hk'
  · exact hk.elim
theorem zs_mx {w : zW} {Γ : zC} {M : zM} {N S : Nat} {Rt : zR} (X : zm_X w Γ M N S Rt) {pc : Nat} {K : zB} {idx : Nat} (hlo9 : 1 ≤ M.2.2.2.2.1 ∧ 21 ≤ M.2.2.2.2.2) (hNc : True) (w1 : Cond.methodLink M.1.cls idx Lib.Math.max.name ∈ zm_tb) (w2 : Cond.static Lib.Math.max.name ∈ zm_tb) (w3 : Cond.initialized "java/lang/Math" ∈ zm_tb) (w4 : Cond.code Lib.Math.max.name Lib.Math.max.code 2 (some .int) ∈ zm_tb) (hd : decode M.2.1 pc = .ok (.invokestatic idx, 3)) (hK : ∀ lv st h, K lv st h → zm_V w Γ (pc + 3) lv st h) : ∀ lv st h, zi_mx N S K lv st h → zm_V w Γ pc lv st h := by
  intro lv st h hk
  obtain ⟨p, e, R, s, m, args, below, meth, c, h0, Qw, nL⟩ := Γ
  obtain ⟨hx, hb, hml, hnl, hown, hts, hKK, hNw, hfr, hlo, hN, hS, hnm, hrt⟩ := X
  unfold zi_mx at hk
  split at hk
  · obtain ⟨a1, a2, a3, hk⟩ := hk
    intro H locs ls cells slots hP hL hl h1 h2
    exact va_mmax hx hb (by rw [hml, ← hnl]; exact hl.1.symm) hown (hts _ w1) (hts _ w2) (hts _ w3) (hts _ w4) (by omega) (by omega) (by omega) (by omega) hd (hK _ _ _ hk H locs ls cells slots hP hL hl h1 h2)
  · exact hk.elim
theorem zs_mn {w : zW} {Γ : zC} {M : zM} {N S : Nat} {Rt : zR} (X : zm_X w Γ M N S Rt) {pc : Nat} {K : zB} {idx : Nat} (hlo9 : 1 ≤ M.2.2.2.2.1 ∧ 21 ≤ M.2.2.2.2.2) (hNc : True) (w1 : Cond.methodLink M.1.cls idx Lib.Math.min.name ∈ zm_tb) (w2 : Cond.static Lib.Math.min.name ∈ zm_tb) (w3 : Cond.initialized "java/lang/Math" ∈ zm_tb) (w4 : Cond.code Lib.Math.min.name Lib.Math.min.code 2 (some .int) ∈ zm_tb) (hd : decode M.2.1 pc = .ok (.invokestatic idx, 3)) (hK : ∀ lv st h, K lv st h → zm_V w Γ (pc + 3) lv st h) : ∀ lv st h, zi_mn N S K lv st h → zm_V w Γ pc lv st h := by
  intro lv st h hk
  obtain ⟨p, e, R, s, m, args, below, meth, c, h0, Qw, nL⟩ := Γ
  obtain ⟨hx, hb, hml, hnl, hown, hts, hKK, hNw, hfr, hlo, hN, hS, hnm, hrt⟩ := X
  unfold zi_mn at hk
  split at hk
  · obtain ⟨a1, a2, a3, hk⟩ := hk
    intro H locs ls cells slots hP hL hl h1 h2
    exact va_mmin hx hb (by rw [hml, ← hnl]; exact hl.1.symm) hown (hts _ w1) (hts _ w2) (hts _ w3) (hts _ w4) (by omega) (by omega) (by omega) (by omega) hd (hK _ _ _ hk H locs ls cells slots hP hL hl h1 h2)
  · exact hk.elim
theorem zs_obj {w : zW} {Γ : zC} {M : zM} {N S : Nat} {Rt : zR} (X : zm_X w Γ M N S Rt) {pc : Nat} {K : zB} {idx : Nat} (hlo9 : 1 ≤ M.2.2.2.2.1 ∧ 20 ≤ M.2.2.2.2.2) (w1 : Cond.methodLink M.1.cls idx objectInit ∈ zm_tb) (w2 : Cond.instanceMethod objectInit ∈ zm_tb) (w3 : Cond.code objectInit ⟨#[0xb1]⟩ 1 none ∈ zm_tb) (hd : decode M.2.1 pc = .ok (.invokespecial idx, 3)) (hK : ∀ lv st h, K lv st h → zm_V w Γ (pc + 3) lv st h) : ∀ lv st h, zi_obj K lv st h → zm_V w Γ pc lv st h := by
  intro lv st h hk
  obtain ⟨p, e, R, s, m, args, below, meth, c, h0, Qw, nL⟩ := Γ
  obtain ⟨hx, hb, hml, hnl, hown, hts, hKK, hNw, hfr, hlo, hN, hS, hnm, hrt⟩ := X
  unfold zi_obj at hk
  split at hk
  · rename_i b r
    obtain ⟨a1, hk⟩ := hk
    intro H locs ls cells slots hP hL hl h1 h2
    exact W.objInit hx hb hown (hts _ w1) (hts _ w2) (hts _ w3) rfl (by rw [hml, ← hnl]; exact hl.1) (rest := r) rfl hd (by omega) (by show 2 * 0 + _ + 12 ≤ _; omega) (hK _ _ _ hk H locs ls cells slots hP hL hl h1 h2)
  · exact hk.elim
theorem zm_go {w : zW} {p : Program} {e : Env} {R : Room} {s : State} {m : MethodId} {args : Array Value} {below : List Frame} {meth : Method} {c : Code} {h0 : zH} {Qw : State → Prop} {nL : Nat} {H : Heap} {locs : List Loc} {cells slots mc ms pc : Nat} {ls : Array Slot} {st0 rest : List Value} {r : Option Value} {h' : zH} {a : Array Value} {lv : zL}
    (hr : va_Run p w.1 e R s m args below meth c H locs cells slots mc ms (F0 m pc ls st0) rest (zm_Q w r h' a) (fun q => w.2.2.2.1 ≤ q)) (hL : ∀ q ∈ locs, w.2.2.2.1 ≤ q.base) (hl : zm_lv ls nL lv) (e1 : h'.2.1 = h0.2.1 + (cells + mc)) (e2 : h'.2.2 = h0.2.2 + (slots + ms))
    (kk : zm_V w (p, e, R, s, m, args, below, meth, c, h0, Qw, nL) (pc + 3) lv (r.toList ++ rest) h') : W p w.1 e R s m args below meth c H locs cells slots Qw (F0 m pc ls st0) := by
  intro T hT XX
  obtain ⟨v, st₀, t, T', L, -, X', hL', e1', -, ⟨hv, hPt⟩, st⟩ := hr T hT XX
  cases hv
  obtain ⟨t2, a1, b1⟩ := kk T'.heap (locs ++ L) ls (cells + mc) (slots + ms) (by rw [e1']; exact hPt) (fun q hq => by
    rcases List.mem_append.mp hq with h | h
    · exact hL q h
    · exact hL' q h) hl e1 e2 T' rfl X'
  exact ⟨t2, st t2 a1, b1⟩
theorem zm_blind {w : zW} {h : zH} {As : List Value} : FrameBlind (va_Pc As (zm_U w h)) := fun a U g mk q => by
  obtain ⟨q0, q1, q2, q3⟩ := q
  exact ⟨q0, q1, va_K.moved (u := U) (U := U.calling g mk a) (Vm.Alike.refl U.vm) q2, zm_nwC q3 rfl⟩
theorem zm_gi {M : zM} (h : Cond.code M.1 M.2.1 M.2.2.1 M.2.2.2.1 ∈ zm_tb) : GoodIn zm_tb (zm_ws M) := by
  intro x hx
  rcases List.mem_cons.mp hx with rfl | hx
  · exact ⟨h, zm_good _ h⟩
  · exact ⟨hx, zm_good _ hx⟩
theorem zm_Uat {w : zW} {h : zH} {H : Heap} {s U : State} (hP : zm_P w h H) (hKK : va_K w.2.1 vwCl (zm_tys w.2.2.1) s) (hNw : ∀ q ∈ zm_nw, va_Nw q s) (hU : U.heap = H) (hW : s.WarmedH U.vm) : zm_U w h U := ⟨by rw [hU]; exact hP, va_K.moved hW.alike hKK, zm_nwW hNw hW⟩
theorem zs_cv {w : zW} {Γ : zC} {M : zM} {N S : Nat} {Rt : zR} (X : zm_X w Γ M N S Rt) {pc : Nat} {K : zB} {M' : zM} {n idx : Nat} (hcd : Cond.code M'.1 M'.2.1 M'.2.2.1 M'.2.2.2.1 ∈ zm_tb) (w4 : Cond.initialized M'.1.cls ∈ zm_tb) (hy : M'.1.cls ≠ "java/lang/invoke/MethodHandle" ∧ M'.1.cls ≠ "java/lang/invoke/VarHandle" ∧ (parseMethodDescriptor M'.1.desc).map (fun d => d.parameters.length) = some n) (hR : M'.2.2.2.2.1 + 1 ≤ M.2.2.2.2.1 ∧ 8 + (M'.2.2.1 + 11) + M'.2.2.2.2.2 ≤ M.2.2.2.2.2) (w1 : Cond.methodLink M.1.cls idx M'.1 ∈ zm_tb) {ci NN : Nat} {C : String} {T : u_T} (hc : vwCl[ci]? = some (C, T, NN)) (w2 : Cond.instanceMethod M'.1 ∈ zm_tb) (w3 : Cond.selects C M'.1 M'.1 ∈ zm_tb) (hd : decode M.2.1 pc = .ok (.invokevirtual idx, 3)) (hK : ∀ lv st h, K lv st h → zm_V w Γ (pc + 3) lv st h) : ∀ lv st h, zi_cv w M' ci (n + 1) N S K lv st h → zm_V w Γ pc lv st h := by
  intro lv st h hk
  obtain ⟨p, e, R, s, m, args, below, meth, c, h0, Qw, nL⟩ := Γ
  obtain ⟨hx, hb, hml, hnl, hown, hts, hKK, hNw, hfr, hlo, hN, hS, hnm, hrt⟩ := X
  unfold zi_cv at hk
  split at hk
  · rename_i b As r htk
    obtain ⟨hlen, hob, hcat, v, h', ⟨mc, ms, e1, e2, hM⟩, b1, b2, hk⟩ := hk
    intro H locs ls cells slots hP hL hl h1 h2
    have hst := zm_tk_st htk
    have hR2 : M'.2.2.2.2.1 + 1 ≤ R.frames ∧ 8 + (M'.2.2.1 + 11) + M'.2.2.2.2.2 ≤ R.locals := by omega
    refine zm_go (h' := h') (va_runV (As := As) (rest := r) ⟨hx, hb, hml, hown, hts⟩ hM ⟨callB_of (ws' := zm_tb) n hts (zm_gi hcd) rfl rfl rfl (hts _ w4) (hts _ w1) hy hR2, hts _ w2, hts _ w3⟩ ⟨zm_blind, (hob.elim fun fs hf => va_recv hKK (hP.one hf) (ci := ci) (q0 := 0) hc rfl), fun U hU hW => ⟨rfl, zm_Uat hP hKK hNw hU hW⟩⟩ rfl (by omega) (hl.1.trans hnl) (by rw [show (F0 m pc ls st).stack = st from rfl, hst]; simp) (lv_room hcat) hd ⟨by omega, by omega⟩) hL hl (by omega) (by omega) (hK _ _ _ hk)
  · exact hk.elim
theorem zs_cvN {w : zW} {Γ : zC} {M : zM} {N S : Nat} {Rt : zR} (X : zm_X w Γ M N S Rt) {pc : Nat} {K : zB} {M' : zM} {n idx : Nat} (hcd : Cond.code M'.1 M'.2.1 M'.2.2.1 M'.2.2.2.1 ∈ zm_tb) (w4 : Cond.initialized M'.1.cls ∈ zm_tb) (hy : M'.1.cls ≠ "java/lang/invoke/MethodHandle" ∧ M'.1.cls ≠ "java/lang/invoke/VarHandle" ∧ (parseMethodDescriptor M'.1.desc).map (fun d => d.parameters.length) = some n) (hR : M'.2.2.2.2.1 + 1 ≤ M.2.2.2.2.1 ∧ 8 + (M'.2.2.1 + 11) + M'.2.2.2.2.2 ≤ M.2.2.2.2.2) {host : String} (w1 : Cond.methodLinkNest M.1.cls idx M'.1 host ∈ zm_nw) {ci NN : Nat} {C : String} {T : u_T} (hc : vwCl[ci]? = some (C, T, NN)) (w2 : Cond.instanceMethod M'.1 ∈ zm_tb) (w3 : Cond.selects C M'.1 M'.1 ∈ zm_tb) (hd : decode M.2.1 pc = .ok (.invokevirtual idx, 3)) (hK : ∀ lv st h, K lv st h → zm_V w Γ (pc + 3) lv st h) : ∀ lv st h, zi_cv w M' ci (n + 1) N S K lv st h → zm_V w Γ pc lv st h := by
  intro lv st h hk
  obtain ⟨p, e, R, s, m, args, below, meth, c, h0, Qw, nL⟩ := Γ
  obtain ⟨hx, hb, hml, hnl, hown, hts, hKK, hNw, hfr, hlo, hN, hS, hnm, hrt⟩ := X
  unfold zi_cv at hk
  split at hk
  · rename_i b As r htk
    obtain ⟨hlen, hob, hcat, v, h', ⟨mc, ms, e1, e2, hM⟩, b1, b2, hk⟩ := hk
    intro H locs ls cells slots hP hL hl h1 h2
    have hst := zm_tk_st htk
    have hR2 : M'.2.2.2.2.1 + 1 ≤ R.frames ∧ 8 + (M'.2.2.1 + 11) + M'.2.2.2.2.2 ≤ R.locals := by omega
    refine zm_go (h' := h') (va_runVN (As := As) (rest := r) ⟨hx, hb, hml, hown, hts⟩ hM ⟨va_cnB (ws' := zm_tb) n hts (zm_gi hcd) rfl rfl rfl (hNw _ w1) (hts _ w4) hy hR2, hts _ w2, hts _ w3⟩ ⟨zm_blind, (hob.elim fun fs hf => va_recv hKK (hP.one hf) (ci := ci) (q0 := 0) hc rfl), fun U hU hW => ⟨rfl, zm_Uat hP hKK hNw hU hW⟩⟩ rfl (by omega) (hl.1.trans hnl) (by rw [show (F0 m pc ls st).stack = st from rfl, hst]; simp) (lv_room hcat) hd ⟨by omega, by omega⟩) hL hl (by omega) (by omega) (hK _ _ _ hk)
  · exact hk.elim
theorem zs_ci {w : zW} {Γ : zC} {M : zM} {N S : Nat} {Rt : zR} (X : zm_X w Γ M N S Rt) {pc : Nat} {K : zB} {M' : zM} {n idx : Nat} (hcd : Cond.code M'.1 M'.2.1 M'.2.2.1 M'.2.2.2.1 ∈ zm_tb) (w4 : Cond.initialized M'.1.cls ∈ zm_tb) (hy : M'.1.cls ≠ "java/lang/invoke/MethodHandle" ∧ M'.1.cls ≠ "java/lang/invoke/VarHandle" ∧ (parseMethodDescriptor M'.1.desc).map (fun d => d.parameters.length) = some n) (hR : M'.2.2.2.2.1 + 1 ≤ M.2.2.2.2.1 ∧ 8 + (M'.2.2.1 + 11) + M'.2.2.2.2.2 ≤ M.2.2.2.2.2) (w1 : Cond.methodLink M.1.cls idx M'.1 ∈ zm_tb) (w2 : Cond.instanceMethod M'.1 ∈ zm_tb) (hy1 : M'.1.name = "<init>") (hy2 : M'.2.2.2.1 = none) (hd : decode M.2.1 pc = .ok (.invokespecial idx, 3)) (hK : ∀ lv st h, K lv st h → zm_V w Γ (pc + 3) lv st h) : ∀ lv st h, zi_ci w M' (n + 1) N S K lv st h → zm_V w Γ pc lv st h := by
  intro lv st h hk
  obtain ⟨p, e, R, s, m, args, below, meth, c, h0, Qw, nL⟩ := Γ
  obtain ⟨hx, hb, hml, hnl, hown, hts, hKK, hNw, hfr, hlo, hN, hS, hnm, hrt⟩ := X
  unfold zi_ci at hk
  split at hk
  · rename_i b As r htk
    obtain ⟨hlen, hcat, v, h', ⟨mc, ms, e1, e2, hM⟩, b1, b2, hk⟩ := hk
    intro H locs ls cells slots hP hL hl h1 h2
    have hst := zm_tk_st htk
    have hR2 : M'.2.2.2.2.1 + 1 ≤ R.frames ∧ 8 + (M'.2.2.1 + 11) + M'.2.2.2.2.2 ≤ R.locals := by omega
    refine zm_go (h' := h') (va_runI (As := As) (rest := r) ⟨hx, hb, hml, hown, hts⟩ hM ⟨hy2 ▸ callB_of (ws' := zm_tb) n hts (zm_gi hcd) rfl rfl rfl (hts _ w4) (hts _ w1) hy hR2, hy1, hts _ w2⟩ ⟨zm_blind, fun U hU hW => ⟨rfl, zm_Uat hP hKK hNw hU hW⟩⟩ rfl (by omega) (hl.1.trans hnl) (by rw [show (F0 m pc ls st).stack = st from rfl, hst]; simp) (lv_room hcat) hd ⟨by omega, by omega⟩) hL hl (by omega) (by omega) (hK _ _ _ hk)
  · exact hk.elim
theorem zs_ciN {w : zW} {Γ : zC} {M : zM} {N S : Nat} {Rt : zR} (X : zm_X w Γ M N S Rt) {pc : Nat} {K : zB} {M' : zM} {n idx : Nat} (hcd : Cond.code M'.1 M'.2.1 M'.2.2.1 M'.2.2.2.1 ∈ zm_tb) (w4 : Cond.initialized M'.1.cls ∈ zm_tb) (hy : M'.1.cls ≠ "java/lang/invoke/MethodHandle" ∧ M'.1.cls ≠ "java/lang/invoke/VarHandle" ∧ (parseMethodDescriptor M'.1.desc).map (fun d => d.parameters.length) = some n) (hR : M'.2.2.2.2.1 + 1 ≤ M.2.2.2.2.1 ∧ 8 + (M'.2.2.1 + 11) + M'.2.2.2.2.2 ≤ M.2.2.2.2.2) {host : String} (w1 : Cond.methodLinkNest M.1.cls idx M'.1 host ∈ zm_nw) (w2 : Cond.instanceMethod M'.1 ∈ zm_tb) (hy1 : M'.1.name = "<init>") (hy2 : M'.2.2.2.1 = none) (hd : decode M.2.1 pc = .ok (.invokespecial idx, 3)) (hK : ∀ lv st h, K lv st h → zm_V w Γ (pc + 3) lv st h) : ∀ lv st h, zi_ci w M' (n + 1) N S K lv st h → zm_V w Γ pc lv st h := by
  intro lv st h hk
  obtain ⟨p, e, R, s, m, args, below, meth, c, h0, Qw, nL⟩ := Γ
  obtain ⟨hx, hb, hml, hnl, hown, hts, hKK, hNw, hfr, hlo, hN, hS, hnm, hrt⟩ := X
  unfold zi_ci at hk
  split at hk
  · rename_i b As r htk
    obtain ⟨hlen, hcat, v, h', ⟨mc, ms, e1, e2, hM⟩, b1, b2, hk⟩ := hk
    intro H locs ls cells slots hP hL hl h1 h2
    have hst := zm_tk_st htk
    have hR2 : M'.2.2.2.2.1 + 1 ≤ R.frames ∧ 8 + (M'.2.2.1 + 11) + M'.2.2.2.2.2 ≤ R.locals := by omega
    refine zm_go (h' := h') (va_runIN (As := As) (rest := r) ⟨hx, hb, hml, hown, hts⟩ hM ⟨hy2 ▸ va_cnB (ws' := zm_tb) n hts (zm_gi hcd) rfl rfl rfl (hNw _ w1) (hts _ w4) hy hR2, hy1, hts _ w2⟩ ⟨zm_blind, fun U hU hW => ⟨rfl, zm_Uat hP hKK hNw hU hW⟩⟩ rfl (by omega) (hl.1.trans hnl) (by rw [show (F0 m pc ls st).stack = st from rfl, hst]; simp) (lv_room hcat) hd ⟨by omega, by omega⟩) hL hl (by omega) (by omega) (hK _ _ _ hk)
  · exact hk.elim
theorem zs_cs {w : zW} {Γ : zC} {M : zM} {N S : Nat} {Rt : zR} (X : zm_X w Γ M N S Rt) {pc : Nat} {K : zB} {M' : zM} {n idx : Nat} (hcd : Cond.code M'.1 M'.2.1 M'.2.2.1 M'.2.2.2.1 ∈ zm_tb) (w4 : Cond.initialized M'.1.cls ∈ zm_tb) (hy : M'.1.cls ≠ "java/lang/invoke/MethodHandle" ∧ M'.1.cls ≠ "java/lang/invoke/VarHandle" ∧ (parseMethodDescriptor M'.1.desc).map (fun d => d.parameters.length) = some n) (hR : M'.2.2.2.2.1 + 1 ≤ M.2.2.2.2.1 ∧ 8 + (M'.2.2.1 + 11) + M'.2.2.2.2.2 ≤ M.2.2.2.2.2) (w1 : Cond.methodLink M.1.cls idx M'.1 ∈ zm_tb) (w2 : Cond.static M'.1 ∈ zm_tb) (hd : decode M.2.1 pc = .ok (.invokestatic idx, 3)) (hK : ∀ lv st h, K lv st h → zm_V w Γ (pc + 3) lv st h) : ∀ lv st h, zi_cs w M' (n) N S K lv st h → zm_V w Γ pc lv st h := by
  intro lv st h hk
  obtain ⟨p, e, R, s, m, args, below, meth, c, h0, Qw, nL⟩ := Γ
  obtain ⟨hx, hb, hml, hnl, hown, hts, hKK, hNw, hfr, hlo, hN, hS, hnm, hrt⟩ := X
  unfold zi_cs at hk
  generalize htk : zm_tk n [] st = q at hk
  obtain ⟨As, r⟩ := q
  obtain ⟨hlen, hcat, v, h', ⟨mc, ms, e1, e2, hM⟩, b1, b2, hk⟩ := hk
  intro H locs ls cells slots hP hL hl h1 h2
  have hst := zm_tk_st htk
  have hR2 : M'.2.2.2.2.1 + 1 ≤ R.frames ∧ 8 + (M'.2.2.1 + 11) + M'.2.2.2.2.2 ≤ R.locals := by omega
  refine zm_go (h' := h') (va_runS (As := As) (rest := r) ⟨hx, hb, hml, hown, hts⟩ hM ⟨callB_of (ws' := zm_tb) n hts (zm_gi hcd) rfl rfl rfl (hts _ w4) (hts _ w1) hy hR2, hts _ w2⟩ ⟨zm_blind, fun U hU hW => ⟨rfl, zm_Uat hP hKK hNw hU hW⟩⟩ rfl hlen (hl.1.trans hnl) (by rw [show (F0 m pc ls st).stack = st from rfl, hst]) (lv_room hcat) hd ⟨by omega, by omega⟩) hL hl (by omega) (by omega) (hK _ _ _ hk)
theorem zs_csN {w : zW} {Γ : zC} {M : zM} {N S : Nat} {Rt : zR} (X : zm_X w Γ M N S Rt) {pc : Nat} {K : zB} {M' : zM} {n idx : Nat} (hcd : Cond.code M'.1 M'.2.1 M'.2.2.1 M'.2.2.2.1 ∈ zm_tb) (w4 : Cond.initialized M'.1.cls ∈ zm_tb) (hy : M'.1.cls ≠ "java/lang/invoke/MethodHandle" ∧ M'.1.cls ≠ "java/lang/invoke/VarHandle" ∧ (parseMethodDescriptor M'.1.desc).map (fun d => d.parameters.length) = some n) (hR : M'.2.2.2.2.1 + 1 ≤ M.2.2.2.2.1 ∧ 8 + (M'.2.2.1 + 11) + M'.2.2.2.2.2 ≤ M.2.2.2.2.2) {host : String} (w1 : Cond.methodLinkNest M.1.cls idx M'.1 host ∈ zm_nw) (w2 : Cond.static M'.1 ∈ zm_tb) (hd : decode M.2.1 pc = .ok (.invokestatic idx, 3)) (hK : ∀ lv st h, K lv st h → zm_V w Γ (pc + 3) lv st h) : ∀ lv st h, zi_cs w M' (n) N S K lv st h → zm_V w Γ pc lv st h := by
  intro lv st h hk
  obtain ⟨p, e, R, s, m, args, below, meth, c, h0, Qw, nL⟩ := Γ
  obtain ⟨hx, hb, hml, hnl, hown, hts, hKK, hNw, hfr, hlo, hN, hS, hnm, hrt⟩ := X
  unfold zi_cs at hk
  generalize htk : zm_tk n [] st = q at hk
  obtain ⟨As, r⟩ := q
  obtain ⟨hlen, hcat, v, h', ⟨mc, ms, e1, e2, hM⟩, b1, b2, hk⟩ := hk
  intro H locs ls cells slots hP hL hl h1 h2
  have hst := zm_tk_st htk
  have hR2 : M'.2.2.2.2.1 + 1 ≤ R.frames ∧ 8 + (M'.2.2.1 + 11) + M'.2.2.2.2.2 ≤ R.locals := by omega
  refine zm_go (h' := h') (va_runSN (As := As) (rest := r) ⟨hx, hb, hml, hown, hts⟩ hM ⟨va_cnB (ws' := zm_tb) n hts (zm_gi hcd) rfl rfl rfl (hNw _ w1) (hts _ w4) hy hR2, hts _ w2, trivial⟩ ⟨zm_blind, fun U hU hW => ⟨rfl, zm_Uat hP hKK hNw hU hW⟩⟩ rfl hlen (hl.1.trans hnl) (by rw [show (F0 m pc ls st).stack = st from rfl, hst]) (lv_room hcat) hd ⟨by omega, by omega⟩) hL hl (by omega) (by omega) (hK _ _ _ hk)
def zi_iret (Rt : zR) : zB := fun _ st h => match st with
  | [.int x] => Rt (some (.int x)) h
  | _ => False
theorem zs_iret {w : zW} {Γ : zC} {M : zM} {N S : Nat} {Rt : zR} (X : zm_X w Γ M N S Rt) {pc : Nat} (hr : M.2.2.2.1 = some .int) (hd : decode M.2.1 pc = .ok (.ireturn, 1)) : ∀ lv st h, zi_iret Rt lv st h → zm_V w Γ pc lv st h := by
  intro lv st h hk
  obtain ⟨p, e, R, s, m, args, below, meth, c, h0, Qw, nL⟩ := Γ
  obtain ⟨-, -, -, -, -, -, -, -, -, -, -, -, -, hrt⟩ := X
  unfold zi_iret at hk
  split at hk
  · rename_i x
    exact hrt (some (.int x)) h pc lv hk (Or.inr (Or.inl ⟨x, rfl, hr, hd⟩))
  · exact hk.elim
def zi_lret (Rt : zR) : zB := fun _ st h => match st with
  | [.long x] => Rt (some (.long x)) h
  | _ => False
theorem zs_lret {w : zW} {Γ : zC} {M : zM} {N S : Nat} {Rt : zR} (X : zm_X w Γ M N S Rt) {pc : Nat} (hr : M.2.2.2.1 = some .long) (hd : decode M.2.1 pc = .ok (.lreturn, 1)) : ∀ lv st h, zi_lret Rt lv st h → zm_V w Γ pc lv st h := by
  intro lv st h hk
  obtain ⟨p, e, R, s, m, args, below, meth, c, h0, Qw, nL⟩ := Γ
  obtain ⟨-, -, -, -, -, -, -, -, -, -, -, -, -, hrt⟩ := X
  unfold zi_lret at hk
  split at hk
  · rename_i x
    exact hrt (some (.long x)) h pc lv hk (Or.inr (Or.inr (Or.inr (Or.inl ⟨x, rfl, hr, hd⟩))))
  · exact hk.elim
def zi_zret (Rt : zR) : zB := fun _ st h => match st with
  | [.int x] => (x = 0 ∨ x = 1) ∧ Rt (some (.int x)) h
  | _ => False
theorem zs_zret {w : zW} {Γ : zC} {M : zM} {N S : Nat} {Rt : zR} (X : zm_X w Γ M N S Rt) {pc : Nat} (hr : M.2.2.2.1 = some .boolean) (hd : decode M.2.1 pc = .ok (.ireturn, 1)) : ∀ lv st h, zi_zret Rt lv st h → zm_V w Γ pc lv st h := by
  intro lv st h hk
  obtain ⟨p, e, R, s, m, args, below, meth, c, h0, Qw, nL⟩ := Γ
  obtain ⟨-, -, -, -, -, -, -, -, -, -, -, -, -, hrt⟩ := X
  unfold zi_zret at hk
  split at hk
  · rename_i x
    exact hrt (some (.int x)) h pc lv hk.2 (Or.inr (Or.inr (Or.inl ⟨x, rfl, hk.1, hr, hd⟩)))
  · exact hk.elim
def zi_aret (Rt : zR) : zB := fun _ st h => match st with
  | [.ref a] => Rt (some (.ref a)) h
  | [.null] => Rt (some .null) h
  | _ => False
theorem zs_aret {w : zW} {Γ : zC} {M : zM} {N S : Nat} {Rt : zR} (X : zm_X w Γ M N S Rt) {pc : Nat} {rt : FieldType} (hr : M.2.2.2.1 = some rt) (hrt' : (∃ n, rt = .object n) ∨ ∃ t, rt = .array t) (hd : decode M.2.1 pc = .ok (.areturn, 1)) : ∀ lv st h, zi_aret Rt lv st h → zm_V w Γ pc lv st h := by
  intro lv st h hk
  obtain ⟨p, e, R, s, m, args, below, meth, c, h0, Qw, nL⟩ := Γ
  obtain ⟨-, -, -, -, -, -, -, -, -, -, -, -, -, hrt⟩ := X
  unfold zi_aret at hk
  split at hk
  · rename_i a
    exact hrt (some (.ref a)) h pc lv hk (Or.inr (Or.inr (Or.inr (Or.inr ⟨.ref a, rt, rfl, hr, hrt', Or.inr ⟨a, rfl⟩, hd⟩))))
  · exact hrt (some .null) h pc lv hk (Or.inr (Or.inr (Or.inr (Or.inr ⟨.null, rt, rfl, hr, hrt', Or.inl rfl, hd⟩))))
  · exact hk.elim
def zi_vret (Rt : zR) : zB := fun _ st h => match st with
  | [] => Rt none h
  | _ => False
theorem zs_vret {w : zW} {Γ : zC} {M : zM} {N S : Nat} {Rt : zR} (X : zm_X w Γ M N S Rt) {pc : Nat} (hr : M.2.2.2.1 = none) (hd : decode M.2.1 pc = .ok (.return_, 1)) : ∀ lv st h, zi_vret Rt lv st h → zm_V w Γ pc lv st h := by
  intro lv st h hk
  obtain ⟨p, e, R, s, m, args, below, meth, c, h0, Qw, nL⟩ := Γ
  obtain ⟨-, -, -, -, -, -, -, -, -, -, -, -, -, hrt⟩ := X
  unfold zi_vret at hk
  split at hk
  · exact hrt none h pc lv hk (Or.inl ⟨rfl, hr, hd⟩)
  · exact hk.elim
/-- the entry's locals -/
def zm_en (n : Nat) (As : List Value) : zL := (List.range n).map (fun i => ((lv_args 0 As).find? (fun q => q.1 == i)).map (fun q => q.2))
theorem zm_en_at {n : Nat} {As : List Value} {j : Nat} {v : Value} (h : (zm_en n As)[j]? = some (some v)) : (j, v) ∈ lv_args 0 As := by
  unfold zm_en at h
  rw [List.getElem?_map] at h
  cases hr : (List.range n)[j]? with
  | none => rw [hr] at h; cases h
  | some i =>
    rw [hr] at h
    have hj : i = j := by
      obtain ⟨q1, q2⟩ := List.getElem?_eq_some_iff.mp hr
      simpa using q2.symm
    subst hj
    simp only [Option.map_some, Option.some.injEq] at h
    cases hf : (lv_args 0 As).find? (fun q => q.1 == i) with
    | none => rw [hf] at h; cases h
    | some q =>
      rw [hf] at h
      simp only [Option.map_some, Option.some.injEq] at h
      have h1 := List.find?_some hf
      have h2 := List.mem_of_find?_eq_some hf
      obtain ⟨a, b⟩ := q
      simp at h1 h
      subst h1; subst h
      exact h2
def zm_Rt (r : Option Value) (h' : zH) : zR := fun v h => v = r ∧ h = h'
theorem zm_C.of {w : zW} {M : zM} {As : List Value} {h h' : zH} {r : Option Value} {mc ms : Nat} (e1 : h'.2.1 = h.2.1 + mc) (e2 : h'.2.2 = h.2.2 + ms) (hy : plainName M.1.cls = true) (hn : (lg_sl As).length ≤ M.2.2.1)
    (k : ∀ Γ : zC, zm_X w Γ M h'.2.1 h'.2.2 (zm_Rt r h') → zm_V w Γ 0 (zm_en M.2.2.1 As) [] h) : zm_C w M As h r h' := by
  refine ⟨mc, ms, e1, e2, ?_⟩
  refine Met.ofW (cc := M.2.1) (maxL := M.2.2.1) (ret := M.2.2.2.1) hy rfl ?_
  intro p e s m args below meth c s₁ B hml hv
  obtain ⟨rfl, hP, hK, hN⟩ := hv
  have hx := B.exec
  have hb := B.bytes
  have hr := B.returns
  have hts := atoms_spec (ws := zm_ws M) B.pre
  have hown : s.vm.findClass M.1.cls = some m.cls := findClass_of_methodNamed B.named
  have hlocks := B.notSynchronized
  have hnm : meth.name = M.1.name := (name_of_methodNamed B.named B.method).1
  have hl := lv_entry As (n := M.2.2.1) hn
  rw [lg_entry_eq]
  refine k (p, e, _, s, m, As.toArray, below, meth, c, h, _, M.2.2.1) ⟨hx, hb, hml, rfl, hown, fun q hq => hts q (List.mem_cons_of_mem _ hq), hK, hN, Nat.le_refl _, Nat.le_refl _, ?_, ?_, hnm, ?_⟩ s.heap [] _ 0 0 hP (fun q hq => by cases hq) (zm_lv.of hl (fun j v hj => zm_en_at hj)) rfl rfl
  · show h'.2.1 ≤ h.2.1 + mc
    omega
  · show h'.2.2 ≤ h.2.2 + ms
    omega
  · rintro v h2 pc lv ⟨rfl, rfl⟩ hrt
    intro H locs ls cells slots hP2 hL hl2 g1 g2
    have hc : cells = mc := by omega
    have hs : slots = ms := by omega
    subst hc; subst hs
    rcases hrt with ⟨rfl, a1, a2⟩ | ⟨x, rfl, a1, a2⟩ | ⟨x, rfl, a0, a1, a2⟩ | ⟨x, rfl, a1, a2⟩ | ⟨q, rt, rfl, a1, a3, a4, a2⟩
    · exact W.vret hx hb (hr.trans a1) (fun t ht _ => ⟨rfl, by rw [ht]; exact hP2⟩) hL a2 hlocks
    · exact W.iret hx hb (hr.trans a1) (fun t ht _ => ⟨rfl, by rw [ht]; exact hP2⟩) hL a2 hlocks
    · exact W.zret hx hb (hr.trans a1) (by rcases a0 with rfl | rfl <;> rfl) (fun t ht _ => ⟨rfl, by rw [ht]; exact hP2⟩) hL a2 hlocks
    · exact W.lret hx hb (hr.trans a1) (fun t ht _ => ⟨rfl, by rw [ht]; exact hP2⟩) hL a2 hlocks
    · exact W.aret hx hb (hr.trans a1) a3 a4 (fun t ht _ => ⟨rfl, by rw [ht]; exact hP2⟩) hL a2 hlocks
end
section
def zm_swok (w : zW) (Γ : zC) (pc : Nat) : List (Int32 × zB) → List (Int × Int) → Prop
  | [], [] => True
  | (k, K) :: cs, (a, o) :: ps => k.toInt = a ∧ (∃ tgt : Nat, (pc : Int) + o = (tgt : Int) ∧ ∀ lv st h, K lv st h → zm_V w Γ tgt lv st h) ∧ zm_swok w Γ pc cs ps
  | _, _ => False
theorem zm_sw_nil {w : zW} {Γ : zC} {pc : Nat} : zm_swok w Γ pc [] [] := trivial
theorem zm_sw_cons {w : zW} {Γ : zC} {pc tgt : Nat} {k : Int32} {K : zB} {a o : Int} {cs : List (Int32 × zB)} {ps : List (Int × Int)} (h1 : k.toInt = a) (ht : (pc : Int) + o = (tgt : Int)) (hK : ∀ lv st h, K lv st h → zm_V w Γ tgt lv st h) (hr : zm_swok w Γ pc cs ps) : zm_swok w Γ pc ((k, K) :: cs) ((a, o) :: ps) := ⟨h1, ⟨tgt, ht, hK⟩, hr⟩
theorem zm_swx {w : zW} {Γ : zC} {pc tg : Nat} {d : zB} {lv : zL} {st : List Value} {h : zH} {x : Int32} {dflt : Int} (hdf : (pc : Int) + dflt = (tg : Int)) (hd : ∀ lv st h, d lv st h → zm_V w Γ tg lv st h) :
    ∀ (cs : List (Int32 × zB)) (ps : List (Int × Int)), zm_swok w Γ pc cs ps → zi_swx cs d x lv st h → ∃ tgt : Nat, (pc : Int) + Op.lookupswitch.offset ps dflt x.toInt = (tgt : Int) ∧ zm_V w Γ tgt lv st h
  | [], [], _, hk => ⟨tg, by rw [Op.lookupswitch.offset_nil]; exact hdf, hd _ _ _ hk⟩
  | (k, K) :: cs, (a, o) :: ps, hok, hk => by
    obtain ⟨h1, ⟨tgt, h2, h3⟩, h4⟩ := hok
    by_cases hx : x = k
    · refine ⟨tgt, ?_, h3 _ _ _ (hk.1 hx)⟩
      rw [Op.lookupswitch.offset_cons, if_pos (by rw [hx, h1])]
      exact h2
    · obtain ⟨t, g1, g2⟩ := zm_swx hdf hd cs ps h4 (hk.2 hx)
      exact ⟨t, by rw [lv_osw hx h1]; exact g1, g2⟩
  | [], _ :: _, hok, _ => hok.elim
  | _ :: _, [], hok, _ => hok.elim
theorem zs_lsw {w : zW} {Γ : zC} {M : zM} {N S : Nat} {Rt : zR} (X : zm_X w Γ M N S Rt) {pc len tg : Nat} {dflt : Int} {ps : Array (Int × Int)} {cs : List (Int32 × zB)} {d : zB} (hd : decode M.2.1 pc = .ok (.lookupswitch dflt ps, len)) (hp : (ps.toList.zip (ps.toList.drop 1)).all (fun (a, next) => a.1 < next.1) = true) (hok : zm_swok w Γ pc cs ps.toList) (hdf : (pc : Int) + dflt = (tg : Int)) (hD : ∀ lv st h, d lv st h → zm_V w Γ tg lv st h) : ∀ lv st h, zi_sw cs d lv st h → zm_V w Γ pc lv st h := by
  intro lv st h hk
  unfold zi_sw at hk
  split at hk
  · rename_i x r
    obtain ⟨tgt, g1, g2⟩ := zm_swx hdf hD cs ps.toList hok hk
    obtain ⟨p, e, R, s, m, args, below, meth, c, h0, Qw, nL⟩ := Γ
    obtain ⟨hx, hb, -⟩ := X
    intro H locs ls cells slots hP hL hl h1 h2
    exact lv_lookup hx hb hd hp rfl g1 (g2 H locs ls cells slots hP hL hl h1 h2)
  · exact hk.elim
def zm_tok (w : zW) (Γ : zC) (pc : Nat) : Int → List (Int32 × zB) → List Int → Prop
  | _, [], [] => True
  | lo, (k, K) :: cs, o :: os => k.toInt = lo ∧ (∃ tgt : Nat, (pc : Int) + o = (tgt : Int) ∧ ∀ lv st h, K lv st h → zm_V w Γ tgt lv st h) ∧ zm_tok w Γ pc (lo + 1) cs os
  | _, _, _ => False
theorem zm_tk_nil {w : zW} {Γ : zC} {pc : Nat} {lo : Int} : zm_tok w Γ pc lo [] [] := trivial
theorem zm_tk_cons {w : zW} {Γ : zC} {pc tgt : Nat} {k : Int32} {K : zB} {lo o : Int} {cs : List (Int32 × zB)} {os : List Int} (h1 : k.toInt = lo) (ht : (pc : Int) + o = (tgt : Int)) (hK : ∀ lv st h, K lv st h → zm_V w Γ tgt lv st h) (hr : zm_tok w Γ pc (lo + 1) cs os) : zm_tok w Γ pc lo ((k, K) :: cs) (o :: os) := ⟨h1, ⟨tgt, ht, hK⟩, hr⟩
theorem zm_tsx {w : zW} {Γ : zC} {pc : Nat} {d : zB} {lv : zL} {st : List Value} {h : zH} {x : Int32} :
    ∀ (cs : List (Int32 × zB)) (os : List Int) (lo : Int), zm_tok w Γ pc lo cs os → zi_swx cs d x lv st h → (x.toInt < lo ∨ lo + (os.length : Int) ≤ x.toInt → d lv st h) ∧ (lo ≤ x.toInt → x.toInt < lo + (os.length : Int) → ∃ (off : Int) (tgt : Nat), os[(x.toInt - lo).toNat]? = some off ∧ (pc : Int) + off = (tgt : Int) ∧ zm_V w Γ tgt lv st h)
  | [], [], lo, _, hk => ⟨fun _ => hk, fun h1 h2 => by simp at h2; omega⟩
  | (k, K) :: cs, o :: os, lo, hok, hk => by
    obtain ⟨h1, ⟨tgt, h2, h3⟩, h4⟩ := hok
    by_cases hx : x = k
    · have hx' : x.toInt = lo := by rw [hx, h1]
      refine ⟨fun q => ?_, fun q1 q2 => ⟨o, tgt, ?_, h2, h3 _ _ _ (hk.1 hx)⟩⟩
      · simp only [List.length_cons] at q
        omega
      · rw [show (x.toInt - lo).toNat = 0 by omega]
        rfl
    · have hx' : ¬ x.toInt = lo := lv_neT hx h1
      obtain ⟨g1, g2⟩ := zm_tsx cs os (lo + 1) h4 (hk.2 hx)
      refine ⟨fun q => g1 ?_, fun q1 q2 => ?_⟩
      · simp only [List.length_cons] at q
        omega
      · simp only [List.length_cons] at q2
        obtain ⟨off, t, e1, e2, e3⟩ := g2 (by omega) (by omega)
        refine ⟨off, t, ?_, e2, e3⟩
        rw [show (x.toInt - lo).toNat = (x.toInt - (lo + 1)).toNat + 1 by omega, List.getElem?_cons_succ]
        exact e1
  | [], _ :: _, _, hok, _ => hok.elim
  | _ :: _, [], _, hok, _ => hok.elim
theorem zs_tsw {w : zW} {Γ : zC} {M : zM} {N S : Nat} {Rt : zR} (X : zm_X w Γ M N S Rt) {pc len tg : Nat} {dflt lo hi : Int} {offs : Array Int} {cs : List (Int32 × zB)} {d : zB} (hd : decode M.2.1 pc = .ok (.tableswitch dflt lo hi offs, len)) (hhi : lo + (offs.toList.length : Int) = hi + 1) (hok : zm_tok w Γ pc lo cs offs.toList) (hdf : (pc : Int) + dflt = (tg : Int)) (hD : ∀ lv st h, d lv st h → zm_V w Γ tg lv st h) : ∀ lv st h, zi_sw cs d lv st h → zm_V w Γ pc lv st h := by
  intro lv st h hk
  unfold zi_sw at hk
  split at hk
  · rename_i x r
    obtain ⟨g1, g2⟩ := zm_tsx cs offs.toList lo hok hk
    obtain ⟨p, e, R, s, m, args, below, meth, c, h0, Qw, nL⟩ := Γ
    obtain ⟨hx, hb, -⟩ := X
    by_cases hr : x.toInt < lo ∨ hi < x.toInt
    · have hk' := hD _ _ _ (g1 (by omega))
      intro H locs ls cells slots hP hL hl h1 h2
      exact lv_tableOut hx hb hd hr hdf (hk' H locs ls cells slots hP hL hl h1 h2)
    · obtain ⟨off, tgt, e1, e2, e3⟩ := g2 (by omega) (by omega)
      intro H locs ls cells slots hP hL hl h1 h2
      exact lv_tableIn hx hb hd (fun q => hr (Or.inl q)) (fun q => hr (Or.inr q)) (by rw [← Array.getElem?_toList]; exact e1) e2 (e3 H locs ls cells slots hP hL hl h1 h2)
  · exact hk.elim
end
