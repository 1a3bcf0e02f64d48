section
-- part 01: tables, names, links (printed by wip/whole/gen/gen01.py)
/-- a private method of a class that the tables say can be made, by its rows of tables_1 -/
def lw_okq (q : MethodName × Nat) : Prop := (q.1.cls ≠ "java/lang/invoke/MethodHandle" ∧ q.1.cls ≠ "java/lang/invoke/VarHandle") ∧ Cond.instantiable q.1.cls q.2 ∈ tables_1 ∧ Cond.privateMethod q.1 ∈ tables_1 ∧ Cond.instanceMethod q.1 ∈ tables_1
theorem lw_p0 : lw_okq (⟨"BellController", "isBell", "(I)Z"⟩, 17) := ⟨⟨by decide +kernel, by decide +kernel⟩, List.mem_of_getElem? (i := 13) (by decide +kernel), List.mem_of_getElem? (i := 286) (by decide +kernel), List.mem_of_getElem? (i := 287) (by decide +kernel)⟩
theorem lw_p1 : lw_okq (⟨"BellController", "soundHammers", "()I"⟩, 17) := ⟨⟨by decide +kernel, by decide +kernel⟩, List.mem_of_getElem? (i := 13) (by decide +kernel), List.mem_of_getElem? (i := 307) (by decide +kernel), List.mem_of_getElem? (i := 308) (by decide +kernel)⟩
theorem lw_p2 : lw_okq (⟨"BellController", "turnBells", "()I"⟩, 17) := ⟨⟨by decide +kernel, by decide +kernel⟩, List.mem_of_getElem? (i := 13) (by decide +kernel), List.mem_of_getElem? (i := 329) (by decide +kernel), List.mem_of_getElem? (i := 330) (by decide +kernel)⟩
theorem lw_p3 : lw_okq (⟨"BellController", "runProgramme", "()V"⟩, 17) := ⟨⟨by decide +kernel, by decide +kernel⟩, List.mem_of_getElem? (i := 13) (by decide +kernel), List.mem_of_getElem? (i := 349) (by decide +kernel), List.mem_of_getElem? (i := 350) (by decide +kernel)⟩
theorem lw_p4 : lw_okq (⟨"BellController", "carryOut", "(LBellController$Entry;)Z"⟩, 17) := ⟨⟨by decide +kernel, by decide +kernel⟩, List.mem_of_getElem? (i := 13) (by decide +kernel), List.mem_of_getElem? (i := 353) (by decide +kernel), List.mem_of_getElem? (i := 354) (by decide +kernel)⟩
theorem lw_p5 : lw_okq (⟨"BellController", "weaveFrom", "(LBellController$Pattern;III)I"⟩, 17) := ⟨⟨by decide +kernel, by decide +kernel⟩, List.mem_of_getElem? (i := 13) (by decide +kernel), List.mem_of_getElem? (i := 361) (by decide +kernel), List.mem_of_getElem? (i := 362) (by decide +kernel)⟩
theorem lw_p6 : lw_okq (⟨"BellController", "readyTime", "(LBellController$Pattern;I)I"⟩, 17) := ⟨⟨by decide +kernel, by decide +kernel⟩, List.mem_of_getElem? (i := 13) (by decide +kernel), List.mem_of_getElem? (i := 365) (by decide +kernel), List.mem_of_getElem? (i := 366) (by decide +kernel)⟩
theorem lw_p7 : lw_okq (⟨"BellController", "existingBells", "()I"⟩, 17) := ⟨⟨by decide +kernel, by decide +kernel⟩, List.mem_of_getElem? (i := 13) (by decide +kernel), List.mem_of_getElem? (i := 369) (by decide +kernel), List.mem_of_getElem? (i := 370) (by decide +kernel)⟩
theorem lw_p8 : lw_okq (⟨"BellController", "swingsIn", "(LBellController$Pattern;)Z"⟩, 17) := ⟨⟨by decide +kernel, by decide +kernel⟩, List.mem_of_getElem? (i := 13) (by decide +kernel), List.mem_of_getElem? (i := 384) (by decide +kernel), List.mem_of_getElem? (i := 385) (by decide +kernel)⟩
theorem lw_p9 : lw_okq (⟨"BellController", "fitsAlone", "(LBellController$Pattern;I)Z"⟩, 17) := ⟨⟨by decide +kernel, by decide +kernel⟩, List.mem_of_getElem? (i := 13) (by decide +kernel), List.mem_of_getElem? (i := 388) (by decide +kernel), List.mem_of_getElem? (i := 389) (by decide +kernel)⟩
theorem lw_p10 : lw_okq (⟨"BellController", "draftPattern", "(LBellController$Pattern;II)I"⟩, 17) := ⟨⟨by decide +kernel, by decide +kernel⟩, List.mem_of_getElem? (i := 13) (by decide +kernel), List.mem_of_getElem? (i := 416) (by decide +kernel), List.mem_of_getElem? (i := 417) (by decide +kernel)⟩
theorem lw_p11 : lw_okq (⟨"BellController", "examine", "(LBellController$Schedule;II)I"⟩, 17) := ⟨⟨by decide +kernel, by decide +kernel⟩, List.mem_of_getElem? (i := 13) (by decide +kernel), List.mem_of_getElem? (i := 424) (by decide +kernel), List.mem_of_getElem? (i := 425) (by decide +kernel)⟩
theorem lw_p12 : lw_okq (⟨"BellController", "dropEntry", "(I)V"⟩, 17) := ⟨⟨by decide +kernel, by decide +kernel⟩, List.mem_of_getElem? (i := 13) (by decide +kernel), List.mem_of_getElem? (i := 428) (by decide +kernel), List.mem_of_getElem? (i := 429) (by decide +kernel)⟩
theorem lw_p13 : lw_okq (⟨"BellController$PatternReader", "readNext", "()V"⟩, 11) := ⟨⟨by decide +kernel, by decide +kernel⟩, List.mem_of_getElem? (i := 126) (by decide +kernel), List.mem_of_getElem? (i := 518) (by decide +kernel), List.mem_of_getElem? (i := 519) (by decide +kernel)⟩
theorem lw_p14 : lw_okq (⟨"BellController$PatternReader", "signAt", "(I)I"⟩, 11) := ⟨⟨by decide +kernel, by decide +kernel⟩, List.mem_of_getElem? (i := 126) (by decide +kernel), List.mem_of_getElem? (i := 522) (by decide +kernel), List.mem_of_getElem? (i := 523) (by decide +kernel)⟩
theorem lw_p15 : lw_okq (⟨"BellController$PatternReader", "openGroup", "()V"⟩, 11) := ⟨⟨by decide +kernel, by decide +kernel⟩, List.mem_of_getElem? (i := 126) (by decide +kernel), List.mem_of_getElem? (i := 526) (by decide +kernel), List.mem_of_getElem? (i := 527) (by decide +kernel)⟩
def lw_privs_1 : List (MethodName × Nat) := [(⟨"BellController", "isBell", "(I)Z"⟩, 17), (⟨"BellController", "soundHammers", "()I"⟩, 17), (⟨"BellController", "turnBells", "()I"⟩, 17), (⟨"BellController", "runProgramme", "()V"⟩, 17), (⟨"BellController", "carryOut", "(LBellController$Entry;)Z"⟩, 17), (⟨"BellController", "weaveFrom", "(LBellController$Pattern;III)I"⟩, 17), (⟨"BellController", "readyTime", "(LBellController$Pattern;I)I"⟩, 17), (⟨"BellController", "existingBells", "()I"⟩, 17), (⟨"BellController", "swingsIn", "(LBellController$Pattern;)Z"⟩, 17), (⟨"BellController", "fitsAlone", "(LBellController$Pattern;I)Z"⟩, 17), (⟨"BellController", "draftPattern", "(LBellController$Pattern;II)I"⟩, 17), (⟨"BellController", "examine", "(LBellController$Schedule;II)I"⟩, 17), (⟨"BellController", "dropEntry", "(I)V"⟩, 17), (⟨"BellController$PatternReader", "readNext", "()V"⟩, 11), (⟨"BellController$PatternReader", "signAt", "(I)I"⟩, 11), (⟨"BellController$PatternReader", "openGroup", "()V"⟩, 11)]
theorem lw_r1 : ∀ q ∈ lw_privs_1, lw_okq q := List.forall_mem_cons.mpr ⟨lw_p0, List.forall_mem_cons.mpr ⟨lw_p1, List.forall_mem_cons.mpr ⟨lw_p2, List.forall_mem_cons.mpr ⟨lw_p3, List.forall_mem_cons.mpr ⟨lw_p4, List.forall_mem_cons.mpr ⟨lw_p5, List.forall_mem_cons.mpr ⟨lw_p6, List.forall_mem_cons.mpr ⟨lw_p7, List.forall_mem_cons.mpr ⟨lw_p8, List.forall_mem_cons.mpr ⟨lw_p9, List.forall_mem_cons.mpr ⟨lw_p10, List.forall_mem_cons.mpr ⟨lw_p11, List.forall_mem_cons.mpr ⟨lw_p12, List.forall_mem_cons.mpr ⟨lw_p13, List.forall_mem_cons.mpr ⟨lw_p14, List.forall_mem_cons.mpr ⟨lw_p15, fun _ h => absurd h List.not_mem_nil⟩⟩⟩⟩⟩⟩⟩⟩⟩⟩⟩⟩⟩⟩⟩⟩
theorem lw_p16 : lw_okq (⟨"BellController$PatternReader", "fail", "(II)V"⟩, 11) := ⟨⟨by decide +kernel, by decide +kernel⟩, List.mem_of_getElem? (i := 126) (by decide +kernel), List.mem_of_getElem? (i := 530) (by decide +kernel), List.mem_of_getElem? (i := 531) (by decide +kernel)⟩
theorem lw_p17 : lw_okq (⟨"BellController$PatternReader", "closeGroup", "()V"⟩, 11) := ⟨⟨by decide +kernel, by decide +kernel⟩, List.mem_of_getElem? (i := 126) (by decide +kernel), List.mem_of_getElem? (i := 534) (by decide +kernel), List.mem_of_getElem? (i := 535) (by decide +kernel)⟩
theorem lw_p18 : lw_okq (⟨"BellController$PatternReader", "readNumber", "()I"⟩, 11) := ⟨⟨by decide +kernel, by decide +kernel⟩, List.mem_of_getElem? (i := 126) (by decide +kernel), List.mem_of_getElem? (i := 541) (by decide +kernel), List.mem_of_getElem? (i := 542) (by decide +kernel)⟩
theorem lw_p19 : lw_okq (⟨"BellController$PatternReader", "repeatGroup", "(II)V"⟩, 11) := ⟨⟨by decide +kernel, by decide +kernel⟩, List.mem_of_getElem? (i := 126) (by decide +kernel), List.mem_of_getElem? (i := 545) (by decide +kernel), List.mem_of_getElem? (i := 546) (by decide +kernel)⟩
theorem lw_p20 : lw_okq (⟨"BellController$PatternReader", "readStep", "()V"⟩, 11) := ⟨⟨by decide +kernel, by decide +kernel⟩, List.mem_of_getElem? (i := 126) (by decide +kernel), List.mem_of_getElem? (i := 553) (by decide +kernel), List.mem_of_getElem? (i := 554) (by decide +kernel)⟩
theorem lw_p21 : lw_okq (⟨"BellController", "listMovingBells", "()V"⟩, 17) := ⟨⟨by decide +kernel, by decide +kernel⟩, List.mem_of_getElem? (i := 13) (by decide +kernel), List.mem_of_getElem? (i := 590) (by decide +kernel), List.mem_of_getElem? (i := 591) (by decide +kernel)⟩
theorem lw_p22 : lw_okq (⟨"BellController", "movingBefore", "(LBellController$Pattern;II)I"⟩, 17) := ⟨⟨by decide +kernel, by decide +kernel⟩, List.mem_of_getElem? (i := 13) (by decide +kernel), List.mem_of_getElem? (i := 594) (by decide +kernel), List.mem_of_getElem? (i := 595) (by decide +kernel)⟩
theorem lw_p23 : lw_okq (⟨"BellController", "isEntry", "(I)Z"⟩, 17) := ⟨⟨by decide +kernel, by decide +kernel⟩, List.mem_of_getElem? (i := 13) (by decide +kernel), List.mem_of_getElem? (i := 608) (by decide +kernel), List.mem_of_getElem? (i := 609) (by decide +kernel)⟩
theorem lw_p24 : lw_okq (⟨"BellController", "foreseeShakes", "(I)V"⟩, 17) := ⟨⟨by decide +kernel, by decide +kernel⟩, List.mem_of_getElem? (i := 13) (by decide +kernel), List.mem_of_getElem? (i := 632) (by decide +kernel), List.mem_of_getElem? (i := 633) (by decide +kernel)⟩
theorem lw_p25 : lw_okq (⟨"BellController", "greatestUpTo", "(I)I"⟩, 17) := ⟨⟨by decide +kernel, by decide +kernel⟩, List.mem_of_getElem? (i := 13) (by decide +kernel), List.mem_of_getElem? (i := 657) (by decide +kernel), List.mem_of_getElem? (i := 658) (by decide +kernel)⟩
theorem lw_p26 : lw_okq (⟨"BellController", "greatestIfStartedAfter", "(II)I"⟩, 17) := ⟨⟨by decide +kernel, by decide +kernel⟩, List.mem_of_getElem? (i := 13) (by decide +kernel), List.mem_of_getElem? (i := 711) (by decide +kernel), List.mem_of_getElem? (i := 712) (by decide +kernel)⟩
theorem lw_p27 : lw_okq (⟨"BellControllerModel", "isBell", "(I)Z"⟩, 53) := ⟨⟨by decide +kernel, by decide +kernel⟩, List.mem_of_getElem? (i := 715) (by decide +kernel), List.mem_of_getElem? (i := 902) (by decide +kernel), List.mem_of_getElem? (i := 903) (by decide +kernel)⟩
theorem lw_p28 : lw_okq (⟨"BellControllerModel", "recordMany", "()I"⟩, 53) := ⟨⟨by decide +kernel, by decide +kernel⟩, List.mem_of_getElem? (i := 715) (by decide +kernel), List.mem_of_getElem? (i := 923) (by decide +kernel), List.mem_of_getElem? (i := 924) (by decide +kernel)⟩
theorem lw_p29 : lw_okq (⟨"BellControllerModel", "recordAt", "(I)I"⟩, 53) := ⟨⟨by decide +kernel, by decide +kernel⟩, List.mem_of_getElem? (i := 715) (by decide +kernel), List.mem_of_getElem? (i := 931) (by decide +kernel), List.mem_of_getElem? (i := 932) (by decide +kernel)⟩
theorem lw_p30 : lw_okq (⟨"BellControllerModel", "refuses", "(IJ)I"⟩, 53) := ⟨⟨by decide +kernel, by decide +kernel⟩, List.mem_of_getElem? (i := 715) (by decide +kernel), List.mem_of_getElem? (i := 947) (by decide +kernel), List.mem_of_getElem? (i := 948) (by decide +kernel)⟩
theorem lw_p31 : lw_okq (⟨"BellControllerModel", "schedules", "(II)V"⟩, 53) := ⟨⟨by decide +kernel, by decide +kernel⟩, List.mem_of_getElem? (i := 715) (by decide +kernel), List.mem_of_getElem? (i := 952) (by decide +kernel), List.mem_of_getElem? (i := 953) (by decide +kernel)⟩
def lw_privs_2 : List (MethodName × Nat) := [(⟨"BellController$PatternReader", "fail", "(II)V"⟩, 11), (⟨"BellController$PatternReader", "closeGroup", "()V"⟩, 11), (⟨"BellController$PatternReader", "readNumber", "()I"⟩, 11), (⟨"BellController$PatternReader", "repeatGroup", "(II)V"⟩, 11), (⟨"BellController$PatternReader", "readStep", "()V"⟩, 11), (⟨"BellController", "listMovingBells", "()V"⟩, 17), (⟨"BellController", "movingBefore", "(LBellController$Pattern;II)I"⟩, 17), (⟨"BellController", "isEntry", "(I)Z"⟩, 17), (⟨"BellController", "foreseeShakes", "(I)V"⟩, 17), (⟨"BellController", "greatestUpTo", "(I)I"⟩, 17), (⟨"BellController", "greatestIfStartedAfter", "(II)I"⟩, 17), (⟨"BellControllerModel", "isBell", "(I)Z"⟩, 53), (⟨"BellControllerModel", "recordMany", "()I"⟩, 53), (⟨"BellControllerModel", "recordAt", "(I)I"⟩, 53), (⟨"BellControllerModel", "refuses", "(IJ)I"⟩, 53), (⟨"BellControllerModel", "schedules", "(II)V"⟩, 53)]
theorem lw_r2 : ∀ q ∈ lw_privs_2, lw_okq q := List.forall_mem_cons.mpr ⟨lw_p16, List.forall_mem_cons.mpr ⟨lw_p17, List.forall_mem_cons.mpr ⟨lw_p18, List.forall_mem_cons.mpr ⟨lw_p19, List.forall_mem_cons.mpr ⟨lw_p20, List.forall_mem_cons.mpr ⟨lw_p21, List.forall_mem_cons.mpr ⟨lw_p22, List.forall_mem_cons.mpr ⟨lw_p23, List.forall_mem_cons.mpr ⟨lw_p24, List.forall_mem_cons.mpr ⟨lw_p25, List.forall_mem_cons.mpr ⟨lw_p26, List.forall_mem_cons.mpr ⟨lw_p27, List.forall_mem_cons.mpr ⟨lw_p28, List.forall_mem_cons.mpr ⟨lw_p29, List.forall_mem_cons.mpr ⟨lw_p30, List.forall_mem_cons.mpr ⟨lw_p31, fun _ h => absurd h List.not_mem_nil⟩⟩⟩⟩⟩⟩⟩⟩⟩⟩⟩⟩⟩⟩⟩⟩
theorem lw_p32 : lw_okq (⟨"BellControllerModel", "strokeOf", "(II)I"⟩, 53) := ⟨⟨by decide +kernel, by decide +kernel⟩, List.mem_of_getElem? (i := 715) (by decide +kernel), List.mem_of_getElem? (i := 960) (by decide +kernel), List.mem_of_getElem? (i := 961) (by decide +kernel)⟩
theorem lw_p33 : lw_okq (⟨"BellControllerModel", "removes", "(I)V"⟩, 53) := ⟨⟨by decide +kernel, by decide +kernel⟩, List.mem_of_getElem? (i := 715) (by decide +kernel), List.mem_of_getElem? (i := 964) (by decide +kernel), List.mem_of_getElem? (i := 965) (by decide +kernel)⟩
theorem lw_p34 : lw_okq (⟨"BellControllerModel", "nextOf", "(I)I"⟩, 53) := ⟨⟨by decide +kernel, by decide +kernel⟩, List.mem_of_getElem? (i := 715) (by decide +kernel), List.mem_of_getElem? (i := 976) (by decide +kernel), List.mem_of_getElem? (i := 977) (by decide +kernel)⟩
theorem lw_p35 : lw_okq (⟨"BellControllerModel", "ranked", "(I)I"⟩, 53) := ⟨⟨by decide +kernel, by decide +kernel⟩, List.mem_of_getElem? (i := 715) (by decide +kernel), List.mem_of_getElem? (i := 984) (by decide +kernel), List.mem_of_getElem? (i := 985) (by decide +kernel)⟩
theorem lw_p36 : lw_okq (⟨"BellControllerModel", "readsItems", "(I)V"⟩, 53) := ⟨⟨by decide +kernel, by decide +kernel⟩, List.mem_of_getElem? (i := 715) (by decide +kernel), List.mem_of_getElem? (i := 1013) (by decide +kernel), List.mem_of_getElem? (i := 1014) (by decide +kernel)⟩
theorem lw_p37 : lw_okq (⟨"BellControllerModel", "here", "()I"⟩, 53) := ⟨⟨by decide +kernel, by decide +kernel⟩, List.mem_of_getElem? (i := 715) (by decide +kernel), List.mem_of_getElem? (i := 1017) (by decide +kernel), List.mem_of_getElem? (i := 1018) (by decide +kernel)⟩
theorem lw_p38 : lw_okq (⟨"BellControllerModel", "fails", "(II)V"⟩, 53) := ⟨⟨by decide +kernel, by decide +kernel⟩, List.mem_of_getElem? (i := 715) (by decide +kernel), List.mem_of_getElem? (i := 1021) (by decide +kernel), List.mem_of_getElem? (i := 1022) (by decide +kernel)⟩
theorem lw_p39 : lw_okq (⟨"BellControllerModel", "readsItem", "(I)V"⟩, 53) := ⟨⟨by decide +kernel, by decide +kernel⟩, List.mem_of_getElem? (i := 715) (by decide +kernel), List.mem_of_getElem? (i := 1025) (by decide +kernel), List.mem_of_getElem? (i := 1026) (by decide +kernel)⟩
theorem lw_p40 : lw_okq (⟨"BellControllerModel", "readsGroup", "(I)V"⟩, 53) := ⟨⟨by decide +kernel, by decide +kernel⟩, List.mem_of_getElem? (i := 715) (by decide +kernel), List.mem_of_getElem? (i := 1029) (by decide +kernel), List.mem_of_getElem? (i := 1030) (by decide +kernel)⟩
theorem lw_p41 : lw_okq (⟨"BellControllerModel", "number", "()I"⟩, 53) := ⟨⟨by decide +kernel, by decide +kernel⟩, List.mem_of_getElem? (i := 715) (by decide +kernel), List.mem_of_getElem? (i := 1033) (by decide +kernel), List.mem_of_getElem? (i := 1034) (by decide +kernel)⟩
theorem lw_p42 : lw_okq (⟨"BellControllerModel", "isDigit", "()Z"⟩, 53) := ⟨⟨by decide +kernel, by decide +kernel⟩, List.mem_of_getElem? (i := 715) (by decide +kernel), List.mem_of_getElem? (i := 1037) (by decide +kernel), List.mem_of_getElem? (i := 1038) (by decide +kernel)⟩
theorem lw_p43 : lw_okq (⟨"BellControllerModel", "isLetter", "()Z"⟩, 53) := ⟨⟨by decide +kernel, by decide +kernel⟩, List.mem_of_getElem? (i := 715) (by decide +kernel), List.mem_of_getElem? (i := 1044) (by decide +kernel), List.mem_of_getElem? (i := 1045) (by decide +kernel)⟩
theorem lw_p44 : lw_okq (⟨"BellControllerModel", "plays", "(III)I"⟩, 53) := ⟨⟨by decide +kernel, by decide +kernel⟩, List.mem_of_getElem? (i := 715) (by decide +kernel), List.mem_of_getElem? (i := 1071) (by decide +kernel), List.mem_of_getElem? (i := 1072) (by decide +kernel)⟩
theorem lw_p45 : lw_okq (⟨"BellControllerModel", "weaves", "(IIII)I"⟩, 53) := ⟨⟨by decide +kernel, by decide +kernel⟩, List.mem_of_getElem? (i := 715) (by decide +kernel), List.mem_of_getElem? (i := 1080) (by decide +kernel), List.mem_of_getElem? (i := 1081) (by decide +kernel)⟩
theorem lw_p46 : lw_okq (⟨"BellControllerModel", "isPlayable", "(II)Z"⟩, 53) := ⟨⟨by decide +kernel, by decide +kernel⟩, List.mem_of_getElem? (i := 715) (by decide +kernel), List.mem_of_getElem? (i := 1088) (by decide +kernel), List.mem_of_getElem? (i := 1089) (by decide +kernel)⟩
theorem lw_p47 : lw_okq (⟨"BellControllerModel", "movesAt", "(III)I"⟩, 53) := ⟨⟨by decide +kernel, by decide +kernel⟩, List.mem_of_getElem? (i := 715) (by decide +kernel), List.mem_of_getElem? (i := 1096) (by decide +kernel), List.mem_of_getElem? (i := 1097) (by decide +kernel)⟩
def lw_privs_3 : List (MethodName × Nat) := [(⟨"BellControllerModel", "strokeOf", "(II)I"⟩, 53), (⟨"BellControllerModel", "removes", "(I)V"⟩, 53), (⟨"BellControllerModel", "nextOf", "(I)I"⟩, 53), (⟨"BellControllerModel", "ranked", "(I)I"⟩, 53), (⟨"BellControllerModel", "readsItems", "(I)V"⟩, 53), (⟨"BellControllerModel", "here", "()I"⟩, 53), (⟨"BellControllerModel", "fails", "(II)V"⟩, 53), (⟨"BellControllerModel", "readsItem", "(I)V"⟩, 53), (⟨"BellControllerModel", "readsGroup", "(I)V"⟩, 53), (⟨"BellControllerModel", "number", "()I"⟩, 53), (⟨"BellControllerModel", "isDigit", "()Z"⟩, 53), (⟨"BellControllerModel", "isLetter", "()Z"⟩, 53), (⟨"BellControllerModel", "plays", "(III)I"⟩, 53), (⟨"BellControllerModel", "weaves", "(IIII)I"⟩, 53), (⟨"BellControllerModel", "isPlayable", "(II)Z"⟩, 53), (⟨"BellControllerModel", "movesAt", "(III)I"⟩, 53)]
theorem lw_r3 : ∀ q ∈ lw_privs_3, lw_okq q := List.forall_mem_cons.mpr ⟨lw_p32, List.forall_mem_cons.mpr ⟨lw_p33, List.forall_mem_cons.mpr ⟨lw_p34, List.forall_mem_cons.mpr ⟨lw_p35, List.forall_mem_cons.mpr ⟨lw_p36, List.forall_mem_cons.mpr ⟨lw_p37, List.forall_mem_cons.mpr ⟨lw_p38, List.forall_mem_cons.mpr ⟨lw_p39, List.forall_mem_cons.mpr ⟨lw_p40, List.forall_mem_cons.mpr ⟨lw_p41, List.forall_mem_cons.mpr ⟨lw_p42, List.forall_mem_cons.mpr ⟨lw_p43, List.forall_mem_cons.mpr ⟨lw_p44, List.forall_mem_cons.mpr ⟨lw_p45, List.forall_mem_cons.mpr ⟨lw_p46, List.forall_mem_cons.mpr ⟨lw_p47, fun _ h => absurd h List.not_mem_nil⟩⟩⟩⟩⟩⟩⟩⟩⟩⟩⟩⟩⟩⟩⟩⟩
theorem lw_p48 : lw_okq (⟨"BellControllerModel", "isEntry", "(I)Z"⟩, 53) := ⟨⟨by decide +kernel, by decide +kernel⟩, List.mem_of_getElem? (i := 715) (by decide +kernel), List.mem_of_getElem? (i := 1109) (by decide +kernel), List.mem_of_getElem? (i := 1110) (by decide +kernel)⟩
theorem lw_p49 : lw_okq (⟨"BellControllerModel", "dropsEntry", "(I)V"⟩, 53) := ⟨⟨by decide +kernel, by decide +kernel⟩, List.mem_of_getElem? (i := 715) (by decide +kernel), List.mem_of_getElem? (i := 1113) (by decide +kernel), List.mem_of_getElem? (i := 1114) (by decide +kernel)⟩
theorem lw_p50 : lw_okq (⟨"BellControllerModel", "sounds", "(I)V"⟩, 53) := ⟨⟨by decide +kernel, by decide +kernel⟩, List.mem_of_getElem? (i := 715) (by decide +kernel), List.mem_of_getElem? (i := 1138) (by decide +kernel), List.mem_of_getElem? (i := 1139) (by decide +kernel)⟩
theorem lw_p51 : lw_okq (⟨"BellControllerModel", "records", "(IZ)V"⟩, 53) := ⟨⟨by decide +kernel, by decide +kernel⟩, List.mem_of_getElem? (i := 715) (by decide +kernel), List.mem_of_getElem? (i := 1142) (by decide +kernel), List.mem_of_getElem? (i := 1143) (by decide +kernel)⟩
theorem lw_p52 : lw_okq (⟨"BellControllerModel", "turns", "(I)V"⟩, 53) := ⟨⟨by decide +kernel, by decide +kernel⟩, List.mem_of_getElem? (i := 715) (by decide +kernel), List.mem_of_getElem? (i := 1146) (by decide +kernel), List.mem_of_getElem? (i := 1147) (by decide +kernel)⟩
theorem lw_p53 : lw_okq (⟨"BellControllerModel", "looksAtEntries", "()V"⟩, 53) := ⟨⟨by decide +kernel, by decide +kernel⟩, List.mem_of_getElem? (i := 715) (by decide +kernel), List.mem_of_getElem? (i := 1153) (by decide +kernel), List.mem_of_getElem? (i := 1154) (by decide +kernel)⟩
theorem lw_p54 : lw_okq (⟨"BellControllerModel", "carriesOut", "(I)Z"⟩, 53) := ⟨⟨by decide +kernel, by decide +kernel⟩, List.mem_of_getElem? (i := 715) (by decide +kernel), List.mem_of_getElem? (i := 1157) (by decide +kernel), List.mem_of_getElem? (i := 1158) (by decide +kernel)⟩
theorem lw_p55 : lw_okq (⟨"BellControllerModel", "laysShake", "(I)V"⟩, 53) := ⟨⟨by decide +kernel, by decide +kernel⟩, List.mem_of_getElem? (i := 715) (by decide +kernel), List.mem_of_getElem? (i := 1166) (by decide +kernel), List.mem_of_getElem? (i := 1167) (by decide +kernel)⟩
theorem lw_p56 : lw_okq (⟨"BellControllerModel", "forceBy", "(IIII)I"⟩, 53) := ⟨⟨by decide +kernel, by decide +kernel⟩, List.mem_of_getElem? (i := 715) (by decide +kernel), List.mem_of_getElem? (i := 1170) (by decide +kernel), List.mem_of_getElem? (i := 1171) (by decide +kernel)⟩
theorem lw_p57 : lw_okq (⟨"BellControllerModel", "laysStarted", "(II)V"⟩, 53) := ⟨⟨by decide +kernel, by decide +kernel⟩, List.mem_of_getElem? (i := 715) (by decide +kernel), List.mem_of_getElem? (i := 1174) (by decide +kernel), List.mem_of_getElem? (i := 1175) (by decide +kernel)⟩
theorem lw_p58 : lw_okq (⟨"BellControllerModel", "worstBy", "(I)I"⟩, 53) := ⟨⟨by decide +kernel, by decide +kernel⟩, List.mem_of_getElem? (i := 715) (by decide +kernel), List.mem_of_getElem? (i := 1178) (by decide +kernel), List.mem_of_getElem? (i := 1179) (by decide +kernel)⟩
theorem lw_p59 : lw_okq (⟨"BellControllerModel", "farBehind", "(II)I"⟩, 53) := ⟨⟨by decide +kernel, by decide +kernel⟩, List.mem_of_getElem? (i := 715) (by decide +kernel), List.mem_of_getElem? (i := 1205) (by decide +kernel), List.mem_of_getElem? (i := 1206) (by decide +kernel)⟩
def lw_privs_4 : List (MethodName × Nat) := [(⟨"BellControllerModel", "isEntry", "(I)Z"⟩, 53), (⟨"BellControllerModel", "dropsEntry", "(I)V"⟩, 53), (⟨"BellControllerModel", "sounds", "(I)V"⟩, 53), (⟨"BellControllerModel", "records", "(IZ)V"⟩, 53), (⟨"BellControllerModel", "turns", "(I)V"⟩, 53), (⟨"BellControllerModel", "looksAtEntries", "()V"⟩, 53), (⟨"BellControllerModel", "carriesOut", "(I)Z"⟩, 53), (⟨"BellControllerModel", "laysShake", "(I)V"⟩, 53), (⟨"BellControllerModel", "forceBy", "(IIII)I"⟩, 53), (⟨"BellControllerModel", "laysStarted", "(II)V"⟩, 53), (⟨"BellControllerModel", "worstBy", "(I)I"⟩, 53), (⟨"BellControllerModel", "farBehind", "(II)I"⟩, 53)]
theorem lw_r4 : ∀ q ∈ lw_privs_4, lw_okq q := List.forall_mem_cons.mpr ⟨lw_p48, List.forall_mem_cons.mpr ⟨lw_p49, List.forall_mem_cons.mpr ⟨lw_p50, List.forall_mem_cons.mpr ⟨lw_p51, List.forall_mem_cons.mpr ⟨lw_p52, List.forall_mem_cons.mpr ⟨lw_p53, List.forall_mem_cons.mpr ⟨lw_p54, List.forall_mem_cons.mpr ⟨lw_p55, List.forall_mem_cons.mpr ⟨lw_p56, List.forall_mem_cons.mpr ⟨lw_p57, List.forall_mem_cons.mpr ⟨lw_p58, List.forall_mem_cons.mpr ⟨lw_p59, fun _ h => absurd h List.not_mem_nil⟩⟩⟩⟩⟩⟩⟩⟩⟩⟩⟩⟩
def lw_privs : List (MethodName × Nat) := lw_privs_1 ++ (lw_privs_2 ++ (lw_privs_3 ++ (lw_privs_4)))
def lw_tbl : List Cond := k2_sels lw_privs ++ tables_1
theorem lw_privs_ok : ∀ q ∈ lw_privs, lw_okq q := by
  show ∀ q ∈ lw_privs_1 ++ (lw_privs_2 ++ (lw_privs_3 ++ (lw_privs_4))), lw_okq q
  exact List.forall_mem_append.mpr ⟨lw_r1, List.forall_mem_append.mpr ⟨lw_r2, List.forall_mem_append.mpr ⟨lw_r3, lw_r4⟩⟩⟩

def RX0 : String := "BellController$Bell"
def TX0 : u_T := fun k => match k with
  | 0 => ("BellController$Bell", "hammerDelay", "I", false)
  | 1 => ("BellController$Bell", "recovery", "I", false)
  | 2 => ("BellController$Bell", "weight", "I", false)
  | 3 => ("BellController$Bell", "halfPeriod", "I", false)
  | 4 => ("BellController$Bell", "occupiedUntil", "I", false)
  | 5 => ("BellController$Bell", "clapperHeld", "Z", false)
  | 6 => ("BellController$Bell", "swings", "Z", false)
  | 7 => ("BellController$Bell", "motorOn", "Z", false)
  | 8 => ("BellController$Bell", "amplitude", "I", false)
  | 9 => ("BellController$Bell", "side", "I", false)
  | 10 => ("BellController$Bell", "target", "I", false)
  | _ => ("BellController$Bell", "latestTurn", "I", false)
def tyX0 : Nat → FieldType := fun k => match k with
  | 0 => .int
  | 1 => .int
  | 2 => .int
  | 3 => .int
  | 4 => .int
  | 5 => .boolean
  | 6 => .boolean
  | 7 => .boolean
  | 8 => .int
  | 9 => .int
  | 10 => .int
  | _ => .int
abbrev wsX00 : List Cond := u_ws RX0 TX0 12
theorem nmX0 : ∀ a, a < 12 → ∀ b, b < 12 → a ≠ b → (TX0 a).2.1 ≠ (TX0 b).2.1 := by decide +kernel
theorem tyX0_ok : ∀ k, k < 12 → parseFieldDescriptor (TX0 k).2.2.1 = some (tyX0 k) := by decide +kernel
abbrev cX0_init : ByteArray := prog_2_method_1_code
def yX0_init : MethodName := ⟨RX0, "<init>", "()V"⟩
abbrev cX0_copyFrom : ByteArray := prog_2_method_2_code
def yX0_copyFrom : MethodName := ⟨RX0, "copyFrom", "(LBellController$Bell;)V"⟩
abbrev cX0_start : ByteArray := prog_2_method_3_code
def yX0_start : MethodName := ⟨RX0, "start", "(II)V"⟩
abbrev cX0_turnTime : ByteArray := prog_2_method_4_code
def yX0_turnTime : MethodName := ⟨RX0, "turnTime", "()I"⟩
abbrev cX0_turnsAt : ByteArray := prog_2_method_5_code
def yX0_turnsAt : MethodName := ⟨RX0, "turnsAt", "(I)Z"⟩
abbrev cX0_turn : ByteArray := prog_2_method_6_code
def yX0_turn : MethodName := ⟨RX0, "turn", "()V"⟩
abbrev cX0_forceAt : ByteArray := prog_2_method_7_code
def yX0_forceAt : MethodName := ⟨RX0, "forceAt", "(I)I"⟩
abbrev cX0_addForces : ByteArray := prog_2_method_8_code
def yX0_addForces : MethodName := ⟨RX0, "addForces", "([III)V"⟩
def RX1 : String := "BellController$Entry"
def TX1 : u_T := fun k => match k with
  | 0 => ("BellController$Entry", "which", "I", false)
  | 1 => ("BellController$Entry", "due", "I", false)
  | 2 => ("BellController$Entry", "period", "I", false)
  | 3 => ("BellController$Entry", "ticks", "I", false)
  | 4 => ("BellController$Entry", "largestShift", "I", false)
  | _ => ("BellController$Entry", "latestShift", "I", false)
def tyX1 : Nat → FieldType := fun k => match k with
  | 0 => .int
  | 1 => .int
  | 2 => .int
  | 3 => .int
  | 4 => .int
  | _ => .int
abbrev wsX10 : List Cond := u_ws RX1 TX1 6
theorem nmX1 : ∀ a, a < 6 → ∀ b, b < 6 → a ≠ b → (TX1 a).2.1 ≠ (TX1 b).2.1 := by decide +kernel
theorem tyX1_ok : ∀ k, k < 6 → parseFieldDescriptor (TX1 k).2.2.1 = some (tyX1 k) := by decide +kernel
abbrev cX1_init : ByteArray := prog_3_method_1_code
def yX1_init : MethodName := ⟨RX1, "<init>", "()V"⟩
def RX2 : String := "BellController$Pattern"
def TX2 : u_T := fun k => match k with
  | 0 => ("BellController$Pattern", "steps", "[I", true)
  | _ => ("BellController$Pattern", "length", "I", false)
def tyX2 : Nat → FieldType := fun k => match k with
  | 0 => .array .int
  | _ => .int
abbrev wsX20 : List Cond := u_ws RX2 TX2 2
theorem nmX2 : ∀ a, a < 2 → ∀ b, b < 2 → a ≠ b → (TX2 a).2.1 ≠ (TX2 b).2.1 := by decide +kernel
theorem tyX2_ok : ∀ k, k < 2 → parseFieldDescriptor (TX2 k).2.2.1 = some (tyX2 k) := by decide +kernel
abbrev cX2_init : ByteArray := prog_4_method_1_code
def yX2_init : MethodName := ⟨RX2, "<init>", "()V"⟩
abbrev cX2_isMissing : ByteArray := prog_4_method_2_code
def yX2_isMissing : MethodName := ⟨RX2, "isMissing", "()Z"⟩
abbrev cX2_strokesOf : ByteArray := prog_4_method_3_code
def yX2_strokesOf : MethodName := ⟨RX2, "strokesOf", "(I)I"⟩
def RX3 : String := "BellController$PatternReader"
def TX3 : u_T := fun k => match k with
  | 0 => ("BellController$PatternReader", "text", "[I", true)
  | 1 => ("BellController$PatternReader", "textLength", "I", false)
  | 2 => ("BellController$PatternReader", "steps", "[I", true)
  | 3 => ("BellController$PatternReader", "length", "I", false)
  | 4 => ("BellController$PatternReader", "error", "I", false)
  | 5 => ("BellController$PatternReader", "errorPosition", "I", false)
  | 6 => ("BellController$PatternReader", "end", "I", false)
  | 7 => ("BellController$PatternReader", "position", "I", false)
  | 8 => ("BellController$PatternReader", "depth", "I", false)
  | 9 => ("BellController$PatternReader", "groupPosition", "[I", true)
  | _ => ("BellController$PatternReader", "groupStart", "[I", true)
def tyX3 : Nat → FieldType := fun k => match k with
  | 0 => .array .int
  | 1 => .int
  | 2 => .array .int
  | 3 => .int
  | 4 => .int
  | 5 => .int
  | 6 => .int
  | 7 => .int
  | 8 => .int
  | 9 => .array .int
  | _ => .array .int
abbrev wsX30 : List Cond := u_ws RX3 TX3 11
theorem nmX3 : ∀ a, a < 11 → ∀ b, b < 11 → a ≠ b → (TX3 a).2.1 ≠ (TX3 b).2.1 := by decide +kernel
theorem tyX3_ok : ∀ k, k < 11 → parseFieldDescriptor (TX3 k).2.2.1 = some (tyX3 k) := by decide +kernel
abbrev cX3_init : ByteArray := prog_5_method_1_code
def yX3_init : MethodName := ⟨RX3, "<init>", "()V"⟩
abbrev cX3_append : ByteArray := prog_5_method_2_code
def yX3_append : MethodName := ⟨RX3, "append", "(I)V"⟩
abbrev cX3_read : ByteArray := prog_5_method_3_code
def yX3_read : MethodName := ⟨RX3, "read", "(I)V"⟩
abbrev cX3_fail : ByteArray := prog_5_method_4_code
def yX3_fail : MethodName := ⟨RX3, "fail", "(II)V"⟩
abbrev cX3_readNext : ByteArray := prog_5_method_5_code
def yX3_readNext : MethodName := ⟨RX3, "readNext", "()V"⟩
abbrev cX3_signAt : ByteArray := prog_5_method_6_code
def yX3_signAt : MethodName := ⟨RX3, "signAt", "(I)I"⟩
abbrev cX3_isLetter : ByteArray := prog_5_method_7_code
def yX3_isLetter : MethodName := ⟨RX3, "isLetter", "(I)Z"⟩
abbrev cX3_isDigit : ByteArray := prog_5_method_8_code
def yX3_isDigit : MethodName := ⟨RX3, "isDigit", "(I)Z"⟩
abbrev cX3_readStep : ByteArray := prog_5_method_9_code
def yX3_readStep : MethodName := ⟨RX3, "readStep", "()V"⟩
abbrev cX3_readNumber : ByteArray := prog_5_method_10_code
def yX3_readNumber : MethodName := ⟨RX3, "readNumber", "()I"⟩
abbrev cX3_openGroup : ByteArray := prog_5_method_11_code
def yX3_openGroup : MethodName := ⟨RX3, "openGroup", "()V"⟩
abbrev cX3_closeGroup : ByteArray := prog_5_method_12_code
def yX3_closeGroup : MethodName := ⟨RX3, "closeGroup", "()V"⟩
abbrev cX3_repeatGroup : ByteArray := prog_5_method_13_code
def yX3_repeatGroup : MethodName := ⟨RX3, "repeatGroup", "(II)V"⟩
def RX4 : String := "BellController$Schedule"
def TX4 : u_T := fun k => match k with
  | 0 => ("BellController$Schedule", "bells", "[I", true)
  | 1 => ("BellController$Schedule", "commands", "[I", true)
  | 2 => ("BellController$Schedule", "times", "[I", true)
  | 3 => ("BellController$Schedule", "changes", "[I", true)
  | _ => ("BellController$Schedule", "count", "I", false)
def tyX4 : Nat → FieldType := fun k => match k with
  | 0 => .array .int
  | 1 => .array .int
  | 2 => .array .int
  | 3 => .array .int
  | _ => .int
abbrev wsX40 : List Cond := u_ws RX4 TX4 5
theorem nmX4 : ∀ a, a < 5 → ∀ b, b < 5 → a ≠ b → (TX4 a).2.1 ≠ (TX4 b).2.1 := by decide +kernel
theorem tyX4_ok : ∀ k, k < 5 → parseFieldDescriptor (TX4 k).2.2.1 = some (tyX4 k) := by decide +kernel
abbrev cX4_init : ByteArray := prog_6_method_1_code
def yX4_init : MethodName := ⟨RX4, "<init>", "()V"⟩
abbrev cX4_isFull : ByteArray := prog_6_method_2_code
def yX4_isFull : MethodName := ⟨RX4, "isFull", "()Z"⟩
abbrev cX4_copyFrom : ByteArray := prog_6_method_3_code
def yX4_copyFrom : MethodName := ⟨RX4, "copyFrom", "(LBellController$Schedule;)V"⟩
abbrev cX4_rankOf : ByteArray := prog_6_method_4_code
def yX4_rankOf : MethodName := ⟨RX4, "rankOf", "(I)I"⟩
abbrev cX4_insert : ByteArray := prog_6_method_5_code
def yX4_insert : MethodName := ⟨RX4, "insert", "(III)V"⟩
abbrev cX4_removeAt : ByteArray := prog_6_method_6_code
def yX4_removeAt : MethodName := ⟨RX4, "removeAt", "(I)V"⟩
abbrev cX4_indexOf : ByteArray := prog_6_method_7_code
def yX4_indexOf : MethodName := ⟨RX4, "indexOf", "(II)I"⟩
abbrev cX4_firstTimeOf : ByteArray := prog_6_method_8_code
def yX4_firstTimeOf : MethodName := ⟨RX4, "firstTimeOf", "(I)I"⟩
abbrev cX4_movingAt : ByteArray := prog_6_method_9_code
def yX4_movingAt : MethodName := ⟨RX4, "movingAt", "(I)I"⟩
abbrev cX4_takeSounding : ByteArray := prog_6_method_10_code
def yX4_takeSounding : MethodName := ⟨RX4, "takeSounding", "(I)I"⟩
abbrev cX4_clashes : ByteArray := prog_6_method_11_code
def yX4_clashes : MethodName := ⟨RX4, "clashes", "(IIIII)Z"⟩
abbrev cX4_overloads : ByteArray := prog_6_method_12_code
def yX4_overloads : MethodName := ⟨RX4, "overloads", "(IIII)Z"⟩
def RX5 : String := "BellController$StrokeLog"
def TX5 : u_T := fun k => match k with
  | 0 => ("BellController$StrokeLog", "bells", "[I", true)
  | 1 => ("BellController$StrokeLog", "times", "[I", true)
  | 2 => ("BellController$StrokeLog", "clappers", "[I", true)
  | 3 => ("BellController$StrokeLog", "length", "I", false)
  | _ => ("BellController$StrokeLog", "next", "I", false)
def tyX5 : Nat → FieldType := fun k => match k with
  | 0 => .array .int
  | 1 => .array .int
  | 2 => .array .int
  | 3 => .int
  | _ => .int
abbrev wsX50 : List Cond := u_ws RX5 TX5 5
theorem nmX5 : ∀ a, a < 5 → ∀ b, b < 5 → a ≠ b → (TX5 a).2.1 ≠ (TX5 b).2.1 := by decide +kernel
theorem tyX5_ok : ∀ k, k < 5 → parseFieldDescriptor (TX5 k).2.2.1 = some (tyX5 k) := by decide +kernel
abbrev cX5_init : ByteArray := prog_7_method_1_code
def yX5_init : MethodName := ⟨RX5, "<init>", "()V"⟩
abbrev cX5_add : ByteArray := prog_7_method_2_code
def yX5_add : MethodName := ⟨RX5, "add", "(III)V"⟩
abbrev cX5_slotOf : ByteArray := prog_7_method_3_code
def yX5_slotOf : MethodName := ⟨RX5, "slotOf", "(I)I"⟩
def RX6 : String := "BellController"
def TX6 : u_T := fun k => match k with
  | 0 => ("BellController", "bells", "[LBellController$Bell;", true)
  | 1 => ("BellController", "imagined", "LBellController$Bell;", true)
  | 2 => ("BellController", "log", "LBellController$StrokeLog;", true)
  | 3 => ("BellController", "schedule", "LBellController$Schedule;", true)
  | 4 => ("BellController", "draft", "LBellController$Schedule;", true)
  | 5 => ("BellController", "reader", "LBellController$PatternReader;", true)
  | 6 => ("BellController", "patterns", "[LBellController$Pattern;", true)
  | 7 => ("BellController", "entries", "[LBellController$Entry;", true)
  | 8 => ("BellController", "shakes", "[I", true)
  | 9 => ("BellController", "startedForces", "[I", true)
  | 10 => ("BellController", "movingBells", "[I", true)
  | 11 => ("BellController", "bellsAdded", "I", false)
  | 12 => ("BellController", "entriesAdded", "I", false)
  | 13 => ("BellController", "now", "I", false)
  | 14 => ("BellController", "powerLimit", "I", false)
  | 15 => ("BellController", "shakeLimit", "I", false)
  | _ => ("BellController", "failures", "I", false)
def tyX6 : Nat → FieldType := fun k => match k with
  | 0 => .array (.object "BellController$Bell")
  | 1 => .object "BellController$Bell"
  | 2 => .object "BellController$StrokeLog"
  | 3 => .object "BellController$Schedule"
  | 4 => .object "BellController$Schedule"
  | 5 => .object "BellController$PatternReader"
  | 6 => .array (.object "BellController$Pattern")
  | 7 => .array (.object "BellController$Entry")
  | 8 => .array .int
  | 9 => .array .int
  | 10 => .array .int
  | 11 => .int
  | 12 => .int
  | 13 => .int
  | 14 => .int
  | 15 => .int
  | _ => .int
abbrev wsX60 : List Cond := u_ws RX6 TX6 17
theorem nmX6 : ∀ a, a < 17 → ∀ b, b < 17 → a ≠ b → (TX6 a).2.1 ≠ (TX6 b).2.1 := by decide +kernel
theorem tyX6_ok : ∀ k, k < 17 → parseFieldDescriptor (TX6 k).2.2.1 = some (tyX6 k) := by decide +kernel
abbrev cX6_init : ByteArray := prog_1_method_1_code
def yX6_init : MethodName := ⟨RX6, "<init>", "()V"⟩
abbrev cX6_addBell : ByteArray := prog_1_method_2_code
def yX6_addBell : MethodName := ⟨RX6, "addBell", "(IIII)I"⟩
abbrev cX6_bellCount : ByteArray := prog_1_method_3_code
def yX6_bellCount : MethodName := ⟨RX6, "bellCount", "()I"⟩
abbrev cX6_delay : ByteArray := prog_1_method_4_code
def yX6_delay : MethodName := ⟨RX6, "delay", "(I)I"⟩
abbrev cX6_calibrate : ByteArray := prog_1_method_5_code
def yX6_calibrate : MethodName := ⟨RX6, "calibrate", "(II)I"⟩
abbrev cX6_setPowerLimit : ByteArray := prog_1_method_6_code
def yX6_setPowerLimit : MethodName := ⟨RX6, "setPowerLimit", "(I)I"⟩
abbrev cX6_currentTime : ByteArray := prog_1_method_7_code
def yX6_currentTime : MethodName := ⟨RX6, "currentTime", "()I"⟩
abbrev cX6_advance : ByteArray := prog_1_method_8_code
def yX6_advance : MethodName := ⟨RX6, "advance", "(I)I"⟩
abbrev cX6_recordLength : ByteArray := prog_1_method_9_code
def yX6_recordLength : MethodName := ⟨RX6, "recordLength", "()I"⟩
abbrev cX6_recordBell : ByteArray := prog_1_method_10_code
def yX6_recordBell : MethodName := ⟨RX6, "recordBell", "(I)I"⟩
abbrev cX6_recordTime : ByteArray := prog_1_method_11_code
def yX6_recordTime : MethodName := ⟨RX6, "recordTime", "(I)I"⟩
abbrev cX6_recordClapper : ByteArray := prog_1_method_12_code
def yX6_recordClapper : MethodName := ⟨RX6, "recordClapper", "(I)I"⟩
abbrev cX6_scheduleStroke : ByteArray := prog_1_method_13_code
def yX6_scheduleStroke : MethodName := ⟨RX6, "scheduleStroke", "(II)I"⟩
abbrev cX6_cancelStroke : ByteArray := prog_1_method_14_code
def yX6_cancelStroke : MethodName := ⟨RX6, "cancelStroke", "(II)I"⟩
abbrev cX6_scheduledCount : ByteArray := prog_1_method_15_code
def yX6_scheduledCount : MethodName := ⟨RX6, "scheduledCount", "()I"⟩
abbrev cX6_nextStroke : ByteArray := prog_1_method_16_code
def yX6_nextStroke : MethodName := ⟨RX6, "nextStroke", "(I)I"⟩
abbrev cX6_commandTime : ByteArray := prog_1_method_17_code
def yX6_commandTime : MethodName := ⟨RX6, "commandTime", "(I)I"⟩
abbrev cX6_commandBell : ByteArray := prog_1_method_18_code
def yX6_commandBell : MethodName := ⟨RX6, "commandBell", "(I)I"⟩
abbrev cX6_movingHammers : ByteArray := prog_1_method_19_code
def yX6_movingHammers : MethodName := ⟨RX6, "movingHammers", "(I)I"⟩
abbrev cX6_earliestStroke : ByteArray := prog_1_method_20_code
def yX6_earliestStroke : MethodName := ⟨RX6, "earliestStroke", "(II)I"⟩
abbrev cX6_appendBytes : ByteArray := prog_1_method_21_code
def yX6_appendBytes : MethodName := ⟨RX6, "appendBytes", "(IIIII)I"⟩
abbrev cX6_loadPattern : ByteArray := prog_1_method_22_code
def yX6_loadPattern : MethodName := ⟨RX6, "loadPattern", "(II)I"⟩
abbrev cX6_patternError : ByteArray := prog_1_method_23_code
def yX6_patternError : MethodName := ⟨RX6, "patternError", "()I"⟩
abbrev cX6_patternErrorPosition : ByteArray := prog_1_method_24_code
def yX6_patternErrorPosition : MethodName := ⟨RX6, "patternErrorPosition", "()I"⟩
abbrev cX6_stepBells : ByteArray := prog_1_method_25_code
def yX6_stepBells : MethodName := ⟨RX6, "stepBells", "(II)I"⟩
abbrev cX6_patternStrokes : ByteArray := prog_1_method_26_code
def yX6_patternStrokes : MethodName := ⟨RX6, "patternStrokes", "(I)I"⟩
abbrev cX6_play : ByteArray := prog_1_method_27_code
def yX6_play : MethodName := ⟨RX6, "play", "(III)I"⟩
abbrev cX6_weave : ByteArray := prog_1_method_28_code
def yX6_weave : MethodName := ⟨RX6, "weave", "(IIII)I"⟩
abbrev cX6_fastestTicks : ByteArray := prog_1_method_29_code
def yX6_fastestTicks : MethodName := ⟨RX6, "fastestTicks", "(I)I"⟩
abbrev cX6_powerNeeded : ByteArray := prog_1_method_30_code
def yX6_powerNeeded : MethodName := ⟨RX6, "powerNeeded", "(II)I"⟩
abbrev cX6_addEntry : ByteArray := prog_1_method_31_code
def yX6_addEntry : MethodName := ⟨RX6, "addEntry", "(IIIII)I"⟩
abbrev cX6_removeEntry : ByteArray := prog_1_method_32_code
def yX6_removeEntry : MethodName := ⟨RX6, "removeEntry", "(I)I"⟩
abbrev cX6_entryCount : ByteArray := prog_1_method_33_code
def yX6_entryCount : MethodName := ⟨RX6, "entryCount", "()I"⟩
abbrev cX6_dueTime : ByteArray := prog_1_method_34_code
def yX6_dueTime : MethodName := ⟨RX6, "dueTime", "(I)I"⟩
abbrev cX6_lastShift : ByteArray := prog_1_method_35_code
def yX6_lastShift : MethodName := ⟨RX6, "lastShift", "(I)I"⟩
abbrev cX6_failureCount : ByteArray := prog_1_method_36_code
def yX6_failureCount : MethodName := ⟨RX6, "failureCount", "()I"⟩
abbrev cX6_startSwing : ByteArray := prog_1_method_37_code
def yX6_startSwing : MethodName := ⟨RX6, "startSwing", "(II)I"⟩
abbrev cX6_stopMotor : ByteArray := prog_1_method_38_code
def yX6_stopMotor : MethodName := ⟨RX6, "stopMotor", "(I)I"⟩
abbrev cX6_holdClapper : ByteArray := prog_1_method_39_code
def yX6_holdClapper : MethodName := ⟨RX6, "holdClapper", "(IZ)I"⟩
abbrev cX6_amplitude : ByteArray := prog_1_method_40_code
def yX6_amplitude : MethodName := ⟨RX6, "amplitude", "(I)I"⟩
abbrev cX6_nextTurn : ByteArray := prog_1_method_41_code
def yX6_nextTurn : MethodName := ⟨RX6, "nextTurn", "(I)I"⟩
abbrev cX6_amplitudeAfter : ByteArray := prog_1_method_42_code
def yX6_amplitudeAfter : MethodName := ⟨RX6, "amplitudeAfter", "(II)I"⟩
abbrev cX6_turnsUntilLoud : ByteArray := prog_1_method_43_code
def yX6_turnsUntilLoud : MethodName := ⟨RX6, "turnsUntilLoud", "(I)I"⟩
abbrev cX6_force : ByteArray := prog_1_method_44_code
def yX6_force : MethodName := ⟨RX6, "force", "(I)I"⟩
abbrev cX6_shake : ByteArray := prog_1_method_45_code
def yX6_shake : MethodName := ⟨RX6, "shake", "(I)I"⟩
abbrev cX6_greatestShake : ByteArray := prog_1_method_46_code
def yX6_greatestShake : MethodName := ⟨RX6, "greatestShake", "(I)I"⟩
abbrev cX6_setShakeLimit : ByteArray := prog_1_method_47_code
def yX6_setShakeLimit : MethodName := ⟨RX6, "setShakeLimit", "(I)I"⟩
abbrev cX6_calmestWait : ByteArray := prog_1_method_48_code
def yX6_calmestWait : MethodName := ⟨RX6, "calmestWait", "(II)I"⟩
abbrev cX6_outside : ByteArray := prog_1_method_49_code
def yX6_outside : MethodName := ⟨RX6, "outside", "(III)Z"⟩
abbrev cX6_clear : ByteArray := prog_1_method_50_code
def yX6_clear : MethodName := ⟨RX6, "clear", "([I)V"⟩
abbrev cX6_isBell : ByteArray := prog_1_method_51_code
def yX6_isBell : MethodName := ⟨RX6, "isBell", "(I)Z"⟩
abbrev cX6_isPattern : ByteArray := prog_1_method_52_code
def yX6_isPattern : MethodName := ⟨RX6, "isPattern", "(I)Z"⟩
abbrev cX6_isEntry : ByteArray := prog_1_method_53_code
def yX6_isEntry : MethodName := ⟨RX6, "isEntry", "(I)Z"⟩
abbrev cX6_existingBells : ByteArray := prog_1_method_54_code
def yX6_existingBells : MethodName := ⟨RX6, "existingBells", "()I"⟩
abbrev cX6_soundHammers : ByteArray := prog_1_method_55_code
def yX6_soundHammers : MethodName := ⟨RX6, "soundHammers", "()I"⟩
abbrev cX6_turnBells : ByteArray := prog_1_method_56_code
def yX6_turnBells : MethodName := ⟨RX6, "turnBells", "()I"⟩
abbrev cX6_runProgramme : ByteArray := prog_1_method_57_code
def yX6_runProgramme : MethodName := ⟨RX6, "runProgramme", "()V"⟩
abbrev cX6_carryOut : ByteArray := prog_1_method_58_code
def yX6_carryOut : MethodName := ⟨RX6, "carryOut", "(LBellController$Entry;)Z"⟩
abbrev cX6_dropEntry : ByteArray := prog_1_method_59_code
def yX6_dropEntry : MethodName := ⟨RX6, "dropEntry", "(I)V"⟩
abbrev cX6_examine : ByteArray := prog_1_method_60_code
def yX6_examine : MethodName := ⟨RX6, "examine", "(LBellController$Schedule;II)I"⟩
abbrev cX6_draftPattern : ByteArray := prog_1_method_61_code
def yX6_draftPattern : MethodName := ⟨RX6, "draftPattern", "(LBellController$Pattern;II)I"⟩
abbrev cX6_weaveFrom : ByteArray := prog_1_method_62_code
def yX6_weaveFrom : MethodName := ⟨RX6, "weaveFrom", "(LBellController$Pattern;III)I"⟩
abbrev cX6_readyTime : ByteArray := prog_1_method_63_code
def yX6_readyTime : MethodName := ⟨RX6, "readyTime", "(LBellController$Pattern;I)I"⟩
abbrev cX6_swingsIn : ByteArray := prog_1_method_64_code
def yX6_swingsIn : MethodName := ⟨RX6, "swingsIn", "(LBellController$Pattern;)Z"⟩
abbrev cX6_fitsAlone : ByteArray := prog_1_method_65_code
def yX6_fitsAlone : MethodName := ⟨RX6, "fitsAlone", "(LBellController$Pattern;I)Z"⟩
abbrev cX6_listMovingBells : ByteArray := prog_1_method_66_code
def yX6_listMovingBells : MethodName := ⟨RX6, "listMovingBells", "()V"⟩
abbrev cX6_movingBefore : ByteArray := prog_1_method_67_code
def yX6_movingBefore : MethodName := ⟨RX6, "movingBefore", "(LBellController$Pattern;II)I"⟩
abbrev cX6_foreseeShakes : ByteArray := prog_1_method_68_code
def yX6_foreseeShakes : MethodName := ⟨RX6, "foreseeShakes", "(I)V"⟩
abbrev cX6_greatestUpTo : ByteArray := prog_1_method_69_code
def yX6_greatestUpTo : MethodName := ⟨RX6, "greatestUpTo", "(I)I"⟩
abbrev cX6_greatestIfStartedAfter : ByteArray := prog_1_method_70_code
def yX6_greatestIfStartedAfter : MethodName := ⟨RX6, "greatestIfStartedAfter", "(II)I"⟩
def RX7 : String := "BellControllerModel"
def TX7 : u_T := fun k => match k with
  | 0 => ("BellControllerModel", "thrown", "I", false)
  | 1 => ("BellControllerModel", "delayOf", "[I", true)
  | 2 => ("BellControllerModel", "recovery", "[I", true)
  | 3 => ("BellControllerModel", "weight", "[I", true)
  | 4 => ("BellControllerModel", "half", "[I", true)
  | 5 => ("BellControllerModel", "occupiedTo", "[I", true)
  | 6 => ("BellControllerModel", "bells", "I", false)
  | 7 => ("BellControllerModel", "powerLimit", "I", false)
  | 8 => ("BellControllerModel", "shakeLimit", "I", false)
  | 9 => ("BellControllerModel", "now", "I", false)
  | 10 => ("BellControllerModel", "recordedBell", "[I", true)
  | 11 => ("BellControllerModel", "recordedTime", "[I", true)
  | 12 => ("BellControllerModel", "byClapper", "[Z", true)
  | 13 => ("BellControllerModel", "recorded", "I", false)
  | 14 => ("BellControllerModel", "strokeBell", "[I", true)
  | 15 => ("BellControllerModel", "strokeTime", "[I", true)
  | 16 => ("BellControllerModel", "strokeCommand", "[I", true)
  | 17 => ("BellControllerModel", "moving", "[I", true)
  | 18 => ("BellControllerModel", "strokes", "I", false)
  | 19 => ("BellControllerModel", "buffer", "[I", true)
  | 20 => ("BellControllerModel", "steps", "[I", true)
  | 21 => ("BellControllerModel", "stepMany", "[I", true)
  | 22 => ("BellControllerModel", "fresh", "[I", true)
  | 23 => ("BellControllerModel", "buffered", "I", false)
  | 24 => ("BellControllerModel", "size", "I", false)
  | 25 => ("BellControllerModel", "at", "I", false)
  | 26 => ("BellControllerModel", "made", "I", false)
  | 27 => ("BellControllerModel", "wrong", "I", false)
  | 28 => ("BellControllerModel", "wrongAt", "I", false)
  | 29 => ("BellControllerModel", "faultKind", "I", false)
  | 30 => ("BellControllerModel", "faultAt", "I", false)
  | 31 => ("BellControllerModel", "keptBell", "[I", true)
  | 32 => ("BellControllerModel", "keptTime", "[I", true)
  | 33 => ("BellControllerModel", "keptCommand", "[I", true)
  | 34 => ("BellControllerModel", "keptTo", "[I", true)
  | 35 => ("BellControllerModel", "keptSwings", "[Z", true)
  | 36 => ("BellControllerModel", "entryWhich", "[I", true)
  | 37 => ("BellControllerModel", "entryDue", "[I", true)
  | 38 => ("BellControllerModel", "entryPeriod", "[I", true)
  | 39 => ("BellControllerModel", "entryTicks", "[I", true)
  | 40 => ("BellControllerModel", "entryShift", "[I", true)
  | 41 => ("BellControllerModel", "entryLast", "[I", true)
  | 42 => ("BellControllerModel", "entries", "I", false)
  | 43 => ("BellControllerModel", "failures", "I", false)
  | 44 => ("BellControllerModel", "swings", "[Z", true)
  | 45 => ("BellControllerModel", "isHeld", "[Z", true)
  | 46 => ("BellControllerModel", "hasMotor", "[Z", true)
  | 47 => ("BellControllerModel", "far", "[I", true)
  | 48 => ("BellControllerModel", "side", "[I", true)
  | 49 => ("BellControllerModel", "target", "[I", true)
  | 50 => ("BellControllerModel", "turn", "[I", true)
  | 51 => ("BellControllerModel", "shaken", "[I", true)
  | _ => ("BellControllerModel", "started", "[I", true)
def tyX7 : Nat → FieldType := fun k => match k with
  | 0 => .int
  | 1 => .array .int
  | 2 => .array .int
  | 3 => .array .int
  | 4 => .array .int
  | 5 => .array .int
  | 6 => .int
  | 7 => .int
  | 8 => .int
  | 9 => .int
  | 10 => .array .int
  | 11 => .array .int
  | 12 => .array .boolean
  | 13 => .int
  | 14 => .array .int
  | 15 => .array .int
  | 16 => .array .int
  | 17 => .array .int
  | 18 => .int
  | 19 => .array .int
  | 20 => .array .int
  | 21 => .array .int
  | 22 => .array .int
  | 23 => .int
  | 24 => .int
  | 25 => .int
  | 26 => .int
  | 27 => .int
  | 28 => .int
  | 29 => .int
  | 30 => .int
  | 31 => .array .int
  | 32 => .array .int
  | 33 => .array .int
  | 34 => .array .int
  | 35 => .array .boolean
  | 36 => .array .int
  | 37 => .array .int
  | 38 => .array .int
  | 39 => .array .int
  | 40 => .array .int
  | 41 => .array .int
  | 42 => .int
  | 43 => .int
  | 44 => .array .boolean
  | 45 => .array .boolean
  | 46 => .array .boolean
  | 47 => .array .int
  | 48 => .array .int
  | 49 => .array .int
  | 50 => .array .int
  | 51 => .array .int
  | _ => .array .int
abbrev wsX70 : List Cond := u_ws RX7 TX7 53
theorem nmX7 : ∀ a, a < 53 → ∀ b, b < 53 → a ≠ b → (TX7 a).2.1 ≠ (TX7 b).2.1 := by decide +kernel
theorem tyX7_ok : ∀ k, k < 53 → parseFieldDescriptor (TX7 k).2.2.1 = some (tyX7 k) := by decide +kernel
abbrev cX7_isIn : ByteArray := prog_9_method_2_code
def yX7_isIn : MethodName := ⟨RX7, "isIn", "(JJJ)Z"⟩
abbrev cX7_init : ByteArray := prog_9_method_3_code
def yX7_init : MethodName := ⟨RX7, "<init>", "()V"⟩
abbrev cX7_isBell : ByteArray := prog_9_method_4_code
def yX7_isBell : MethodName := ⟨RX7, "isBell", "(I)Z"⟩
abbrev cX7_addBell : ByteArray := prog_9_method_5_code
def yX7_addBell : MethodName := ⟨RX7, "addBell", "(IIII)I"⟩
abbrev cX7_bellCount : ByteArray := prog_9_method_6_code
def yX7_bellCount : MethodName := ⟨RX7, "bellCount", "()I"⟩
abbrev cX7_delay : ByteArray := prog_9_method_7_code
def yX7_delay : MethodName := ⟨RX7, "delay", "(I)I"⟩
abbrev cX7_calibrate : ByteArray := prog_9_method_8_code
def yX7_calibrate : MethodName := ⟨RX7, "calibrate", "(II)I"⟩
abbrev cX7_setPowerLimit : ByteArray := prog_9_method_9_code
def yX7_setPowerLimit : MethodName := ⟨RX7, "setPowerLimit", "(I)I"⟩
abbrev cX7_records : ByteArray := prog_9_method_10_code
def yX7_records : MethodName := ⟨RX7, "records", "(IZ)V"⟩
abbrev cX7_recordMany : ByteArray := prog_9_method_11_code
def yX7_recordMany : MethodName := ⟨RX7, "recordMany", "()I"⟩
abbrev cX7_recordAt : ByteArray := prog_9_method_12_code
def yX7_recordAt : MethodName := ⟨RX7, "recordAt", "(I)I"⟩
abbrev cX7_currentTime : ByteArray := prog_9_method_13_code
def yX7_currentTime : MethodName := ⟨RX7, "currentTime", "()I"⟩
abbrev cX7_recordLength : ByteArray := prog_9_method_14_code
def yX7_recordLength : MethodName := ⟨RX7, "recordLength", "()I"⟩
abbrev cX7_recordBell : ByteArray := prog_9_method_15_code
def yX7_recordBell : MethodName := ⟨RX7, "recordBell", "(I)I"⟩
abbrev cX7_recordTime : ByteArray := prog_9_method_16_code
def yX7_recordTime : MethodName := ⟨RX7, "recordTime", "(I)I"⟩
abbrev cX7_recordClapper : ByteArray := prog_9_method_17_code
def yX7_recordClapper : MethodName := ⟨RX7, "recordClapper", "(I)I"⟩
abbrev cX7_refuses : ByteArray := prog_9_method_18_code
def yX7_refuses : MethodName := ⟨RX7, "refuses", "(IJ)I"⟩
abbrev cX7_schedules : ByteArray := prog_9_method_19_code
def yX7_schedules : MethodName := ⟨RX7, "schedules", "(II)V"⟩
abbrev cX7_removes : ByteArray := prog_9_method_20_code
def yX7_removes : MethodName := ⟨RX7, "removes", "(I)V"⟩
abbrev cX7_strokeOf : ByteArray := prog_9_method_21_code
def yX7_strokeOf : MethodName := ⟨RX7, "strokeOf", "(II)I"⟩
abbrev cX7_scheduleStroke : ByteArray := prog_9_method_22_code
def yX7_scheduleStroke : MethodName := ⟨RX7, "scheduleStroke", "(II)I"⟩
abbrev cX7_cancelStroke : ByteArray := prog_9_method_23_code
def yX7_cancelStroke : MethodName := ⟨RX7, "cancelStroke", "(II)I"⟩
abbrev cX7_scheduledCount : ByteArray := prog_9_method_24_code
def yX7_scheduledCount : MethodName := ⟨RX7, "scheduledCount", "()I"⟩
abbrev cX7_nextOf : ByteArray := prog_9_method_25_code
def yX7_nextOf : MethodName := ⟨RX7, "nextOf", "(I)I"⟩
abbrev cX7_nextStroke : ByteArray := prog_9_method_26_code
def yX7_nextStroke : MethodName := ⟨RX7, "nextStroke", "(I)I"⟩
abbrev cX7_ranked : ByteArray := prog_9_method_27_code
def yX7_ranked : MethodName := ⟨RX7, "ranked", "(I)I"⟩
abbrev cX7_commandTime : ByteArray := prog_9_method_28_code
def yX7_commandTime : MethodName := ⟨RX7, "commandTime", "(I)I"⟩
abbrev cX7_commandBell : ByteArray := prog_9_method_29_code
def yX7_commandBell : MethodName := ⟨RX7, "commandBell", "(I)I"⟩
abbrev cX7_movingHammers : ByteArray := prog_9_method_30_code
def yX7_movingHammers : MethodName := ⟨RX7, "movingHammers", "(I)I"⟩
abbrev cX7_earliestStroke : ByteArray := prog_9_method_31_code
def yX7_earliestStroke : MethodName := ⟨RX7, "earliestStroke", "(II)I"⟩
abbrev cX7_appendBytes : ByteArray := prog_9_method_32_code
def yX7_appendBytes : MethodName := ⟨RX7, "appendBytes", "(IIIII)I"⟩
abbrev cX7_fails : ByteArray := prog_9_method_33_code
def yX7_fails : MethodName := ⟨RX7, "fails", "(II)V"⟩
abbrev cX7_here : ByteArray := prog_9_method_34_code
def yX7_here : MethodName := ⟨RX7, "here", "()I"⟩
abbrev cX7_isDigit : ByteArray := prog_9_method_35_code
def yX7_isDigit : MethodName := ⟨RX7, "isDigit", "()Z"⟩
abbrev cX7_isLetter : ByteArray := prog_9_method_36_code
def yX7_isLetter : MethodName := ⟨RX7, "isLetter", "()Z"⟩
abbrev cX7_number : ByteArray := prog_9_method_37_code
def yX7_number : MethodName := ⟨RX7, "number", "()I"⟩
abbrev cX7_readsItems : ByteArray := prog_9_method_38_code
def yX7_readsItems : MethodName := ⟨RX7, "readsItems", "(I)V"⟩
abbrev cX7_readsItem : ByteArray := prog_9_method_39_code
def yX7_readsItem : MethodName := ⟨RX7, "readsItem", "(I)V"⟩
abbrev cX7_readsGroup : ByteArray := prog_9_method_40_code
def yX7_readsGroup : MethodName := ⟨RX7, "readsGroup", "(I)V"⟩
abbrev cX7_isPattern : ByteArray := prog_9_method_41_code
def yX7_isPattern : MethodName := ⟨RX7, "isPattern", "(I)Z"⟩
abbrev cX7_loadPattern : ByteArray := prog_9_method_42_code
def yX7_loadPattern : MethodName := ⟨RX7, "loadPattern", "(II)I"⟩
abbrev cX7_patternError : ByteArray := prog_9_method_43_code
def yX7_patternError : MethodName := ⟨RX7, "patternError", "()I"⟩
abbrev cX7_patternErrorPosition : ByteArray := prog_9_method_44_code
def yX7_patternErrorPosition : MethodName := ⟨RX7, "patternErrorPosition", "()I"⟩
abbrev cX7_stepBells : ByteArray := prog_9_method_45_code
def yX7_stepBells : MethodName := ⟨RX7, "stepBells", "(II)I"⟩
abbrev cX7_patternStrokes : ByteArray := prog_9_method_46_code
def yX7_patternStrokes : MethodName := ⟨RX7, "patternStrokes", "(I)I"⟩
abbrev cX7_plays : ByteArray := prog_9_method_47_code
def yX7_plays : MethodName := ⟨RX7, "plays", "(III)I"⟩
abbrev cX7_play : ByteArray := prog_9_method_48_code
def yX7_play : MethodName := ⟨RX7, "play", "(III)I"⟩
abbrev cX7_weaves : ByteArray := prog_9_method_49_code
def yX7_weaves : MethodName := ⟨RX7, "weaves", "(IIII)I"⟩
abbrev cX7_weave : ByteArray := prog_9_method_50_code
def yX7_weave : MethodName := ⟨RX7, "weave", "(IIII)I"⟩
abbrev cX7_isPlayable : ByteArray := prog_9_method_51_code
def yX7_isPlayable : MethodName := ⟨RX7, "isPlayable", "(II)Z"⟩
abbrev cX7_fastestTicks : ByteArray := prog_9_method_52_code
def yX7_fastestTicks : MethodName := ⟨RX7, "fastestTicks", "(I)I"⟩
abbrev cX7_movesAt : ByteArray := prog_9_method_53_code
def yX7_movesAt : MethodName := ⟨RX7, "movesAt", "(III)I"⟩
abbrev cX7_powerNeeded : ByteArray := prog_9_method_54_code
def yX7_powerNeeded : MethodName := ⟨RX7, "powerNeeded", "(II)I"⟩
abbrev cX7_isEntry : ByteArray := prog_9_method_55_code
def yX7_isEntry : MethodName := ⟨RX7, "isEntry", "(I)Z"⟩
abbrev cX7_addEntry : ByteArray := prog_9_method_56_code
def yX7_addEntry : MethodName := ⟨RX7, "addEntry", "(IIIII)I"⟩
abbrev cX7_dropsEntry : ByteArray := prog_9_method_57_code
def yX7_dropsEntry : MethodName := ⟨RX7, "dropsEntry", "(I)V"⟩
abbrev cX7_removeEntry : ByteArray := prog_9_method_58_code
def yX7_removeEntry : MethodName := ⟨RX7, "removeEntry", "(I)I"⟩
abbrev cX7_entryCount : ByteArray := prog_9_method_59_code
def yX7_entryCount : MethodName := ⟨RX7, "entryCount", "()I"⟩
abbrev cX7_dueTime : ByteArray := prog_9_method_60_code
def yX7_dueTime : MethodName := ⟨RX7, "dueTime", "(I)I"⟩
abbrev cX7_lastShift : ByteArray := prog_9_method_61_code
def yX7_lastShift : MethodName := ⟨RX7, "lastShift", "(I)I"⟩
abbrev cX7_failureCount : ByteArray := prog_9_method_62_code
def yX7_failureCount : MethodName := ⟨RX7, "failureCount", "()I"⟩
abbrev cX7_carriesOut : ByteArray := prog_9_method_63_code
def yX7_carriesOut : MethodName := ⟨RX7, "carriesOut", "(I)Z"⟩
abbrev cX7_looksAtEntries : ByteArray := prog_9_method_64_code
def yX7_looksAtEntries : MethodName := ⟨RX7, "looksAtEntries", "()V"⟩
abbrev cX7_turned : ByteArray := prog_9_method_65_code
def yX7_turned : MethodName := ⟨RX7, "turned", "(IZI)I"⟩
abbrev cX7_turns : ByteArray := prog_9_method_66_code
def yX7_turns : MethodName := ⟨RX7, "turns", "(I)V"⟩
abbrev cX7_sounds : ByteArray := prog_9_method_67_code
def yX7_sounds : MethodName := ⟨RX7, "sounds", "(I)V"⟩
abbrev cX7_advance : ByteArray := prog_9_method_68_code
def yX7_advance : MethodName := ⟨RX7, "advance", "(I)I"⟩
abbrev cX7_forceBy : ByteArray := prog_9_method_69_code
def yX7_forceBy : MethodName := ⟨RX7, "forceBy", "(IIII)I"⟩
abbrev cX7_laysShake : ByteArray := prog_9_method_70_code
def yX7_laysShake : MethodName := ⟨RX7, "laysShake", "(I)V"⟩
abbrev cX7_laysStarted : ByteArray := prog_9_method_71_code
def yX7_laysStarted : MethodName := ⟨RX7, "laysStarted", "(II)V"⟩
abbrev cX7_sizeOf : ByteArray := prog_9_method_72_code
def yX7_sizeOf : MethodName := ⟨RX7, "sizeOf", "(I)I"⟩
abbrev cX7_worstBy : ByteArray := prog_9_method_73_code
def yX7_worstBy : MethodName := ⟨RX7, "worstBy", "(I)I"⟩
abbrev cX7_startSwing : ByteArray := prog_9_method_74_code
def yX7_startSwing : MethodName := ⟨RX7, "startSwing", "(II)I"⟩
abbrev cX7_stopMotor : ByteArray := prog_9_method_75_code
def yX7_stopMotor : MethodName := ⟨RX7, "stopMotor", "(I)I"⟩
abbrev cX7_holdClapper : ByteArray := prog_9_method_76_code
def yX7_holdClapper : MethodName := ⟨RX7, "holdClapper", "(IZ)I"⟩
abbrev cX7_amplitude : ByteArray := prog_9_method_77_code
def yX7_amplitude : MethodName := ⟨RX7, "amplitude", "(I)I"⟩
abbrev cX7_nextTurn : ByteArray := prog_9_method_78_code
def yX7_nextTurn : MethodName := ⟨RX7, "nextTurn", "(I)I"⟩
abbrev cX7_farBehind : ByteArray := prog_9_method_79_code
def yX7_farBehind : MethodName := ⟨RX7, "farBehind", "(II)I"⟩
abbrev cX7_amplitudeAfter : ByteArray := prog_9_method_80_code
def yX7_amplitudeAfter : MethodName := ⟨RX7, "amplitudeAfter", "(II)I"⟩
abbrev cX7_turnsUntilLoud : ByteArray := prog_9_method_81_code
def yX7_turnsUntilLoud : MethodName := ⟨RX7, "turnsUntilLoud", "(I)I"⟩
abbrev cX7_force : ByteArray := prog_9_method_82_code
def yX7_force : MethodName := ⟨RX7, "force", "(I)I"⟩
abbrev cX7_shake : ByteArray := prog_9_method_83_code
def yX7_shake : MethodName := ⟨RX7, "shake", "(I)I"⟩
abbrev cX7_greatestShake : ByteArray := prog_9_method_84_code
def yX7_greatestShake : MethodName := ⟨RX7, "greatestShake", "(I)I"⟩
abbrev cX7_setShakeLimit : ByteArray := prog_9_method_85_code
def yX7_setShakeLimit : MethodName := ⟨RX7, "setShakeLimit", "(I)I"⟩
abbrev cX7_calmestWait : ByteArray := prog_9_method_86_code
def yX7_calmestWait : MethodName := ⟨RX7, "calmestWait", "(II)I"⟩
def RJ6 : String := "java/lang/Integer"
def TJ6 : u_T := fun k => match k with
  | _ => ("", "", "", false)
def tyJ6 : Nat → FieldType := fun k => match k with
  | _ => .int
abbrev wsJ60 : List Cond := u_ws RJ6 TJ6 0
theorem nmJ6 : ∀ a, a < 0 → ∀ b, b < 0 → a ≠ b → (TJ6 a).2.1 ≠ (TJ6 b).2.1 := by decide +kernel
theorem tyJ6_ok : ∀ k, k < 0 → parseFieldDescriptor (TJ6 k).2.2.1 = some (tyJ6 k) := by decide +kernel
abbrev cJ6_bitCount_0f7a4 : ByteArray := prog_10_method_49_code
def yJ6_bitCount_0f7a4 : MethodName := ⟨RJ6, "bitCount", "(I)I"⟩
def RJ9 : String := "java/lang/Math"
def TJ9 : u_T := fun k => match k with
  | _ => ("", "", "", false)
def tyJ9 : Nat → FieldType := fun k => match k with
  | _ => .int
abbrev wsJ90 : List Cond := u_ws RJ9 TJ9 0
theorem nmJ9 : ∀ a, a < 0 → ∀ b, b < 0 → a ≠ b → (TJ9 a).2.1 ≠ (TJ9 b).2.1 := by decide +kernel
theorem tyJ9_ok : ∀ k, k < 0 → parseFieldDescriptor (TJ9 k).2.2.1 = some (tyJ9 k) := by decide +kernel
abbrev cJ9_abs_0f7a4 : ByteArray := prog_11_method_59_code
def yJ9_abs_0f7a4 : MethodName := ⟨RJ9, "abs", "(I)I"⟩
abbrev cJ9_max_7cf53 : ByteArray := prog_11_method_65_code
def yJ9_max_7cf53 : MethodName := ⟨RJ9, "max", "(II)I"⟩
abbrev cJ9_min_7cf53 : ByteArray := prog_11_method_69_code
def yJ9_min_7cf53 : MethodName := ⟨RJ9, "min", "(II)I"⟩
def RJ10 : String := "java/lang/System"
def TJ10 : u_T := fun k => match k with
  | _ => ("", "", "", false)
def tyJ10 : Nat → FieldType := fun k => match k with
  | _ => .int
abbrev wsJ100 : List Cond := u_ws RJ10 TJ10 0
theorem nmJ10 : ∀ a, a < 0 → ∀ b, b < 0 → a ≠ b → (TJ10 a).2.1 ≠ (TJ10 b).2.1 := by decide +kernel
theorem tyJ10_ok : ∀ k, k < 0 → parseFieldDescriptor (TJ10 k).2.2.1 = some (tyJ10 k) := by decide +kernel
def RL : String := "BellControllerLaw"
abbrev cL_law : ByteArray := code
abbrev vwCl : List vw_C := [(RX0, TX0, 12), (RX1, TX1, 6), (RX2, TX2, 2), (RX3, TX3, 11), (RX4, TX4, 5), (RX5, TX5, 5), (RX6, TX6, 17), (RX7, TX7, 53)]
def yL_law : MethodName := ⟨RL, "law", "([I)Z"⟩

/-! ===== the tables' words that a callee may be told ===== -/
def aT : List Cond := lw_tbl.filter goodWord
theorem aT_sub {w : Cond} (h : w ∈ aT) : w ∈ lw_tbl := (List.mem_filter.mp h).1
theorem aT_good : ∀ w ∈ aT, goodWord w = true := fun _ h => (List.mem_filter.mp h).2
theorem aT_in (i : Nat) {w : Cond} (h : tables_1[i]? = some w) (hg : goodWord w = true) : w ∈ aT := List.mem_filter.mpr ⟨List.mem_append_right _ (List.mem_of_getElem? h), hg⟩
theorem aT_sel {q : MethodName × Nat} (h : q ∈ lw_privs) : Cond.selects q.1.cls q.1 q.1 ∈ aT := List.mem_filter.mpr ⟨List.mem_append_left _ (List.mem_map.mpr ⟨q, h, rfl⟩), rfl⟩
theorem aT_selI (i : Nat) {y : MethodName} {n : Nat} (h : lw_privs[i]? = some (y, n)) : Cond.selects y.cls y y ∈ aT := aT_sel (q := (y, n)) (List.mem_of_getElem? h)
def fty : Nat → Nat → FieldType := fun ci => match ci with
  | 0 => tyX0
  | 1 => tyX1
  | 2 => tyX2
  | 3 => tyX3
  | 4 => tyX4
  | 5 => tyX5
  | 6 => tyX6
  | _ => tyX7
def nF : Nat → Nat := fun ci => match ci with

  | 0 => 12
  | 1 => 6
  | 2 => 2
  | 3 => 11
  | 4 => 5
  | 5 => 5
  | 6 => 17
  | _ => 53
theorem aIn0 : ∀ w ∈ u_ws RX0 TX0 12, w ∈ aT := by decide +kernel
theorem aIn1 : ∀ w ∈ u_ws RX1 TX1 6, w ∈ aT := by decide +kernel
theorem aIn2 : ∀ w ∈ u_ws RX2 TX2 2, w ∈ aT := by decide +kernel
theorem aIn3 : ∀ w ∈ u_ws RX3 TX3 11, w ∈ aT := by decide +kernel
theorem aIn4 : ∀ w ∈ u_ws RX4 TX4 5, w ∈ aT := by decide +kernel
theorem aIn5 : ∀ w ∈ u_ws RX5 TX5 5, w ∈ aT := by decide +kernel
theorem aIn6 : ∀ w ∈ u_ws RX6 TX6 17, w ∈ aT := by decide +kernel
theorem aIn7 : ∀ w ∈ u_ws RX7 TX7 53, w ∈ aT := by decide +kernel
theorem aIn {ci N : Nat} {C : String} {F : u_T} (h : vwCl[ci]? = some (C, F, N)) : (∀ w ∈ u_ws C F N, w ∈ aT) ∧ (∀ k, k < N → parseFieldDescriptor (F k).2.2.1 = some (fty ci k)) ∧ (∀ a, a < N → ∀ b, b < N → a ≠ b → (F a).2.1 ≠ (F b).2.1) ∧ N = nF ci := by
  match ci, h with
  | 0, h => cases h; exact ⟨aIn0, tyX0_ok, nmX0, rfl⟩
  | 1, h => cases h; exact ⟨aIn1, tyX1_ok, nmX1, rfl⟩
  | 2, h => cases h; exact ⟨aIn2, tyX2_ok, nmX2, rfl⟩
  | 3, h => cases h; exact ⟨aIn3, tyX3_ok, nmX3, rfl⟩
  | 4, h => cases h; exact ⟨aIn4, tyX4_ok, nmX4, rfl⟩
  | 5, h => cases h; exact ⟨aIn5, tyX5_ok, nmX5, rfl⟩
  | 6, h => cases h; exact ⟨aIn6, tyX6_ok, nmX6, rfl⟩
  | 7, h => cases h; exact ⟨aIn7, tyX7_ok, nmX7, rfl⟩
  | k + 8, h => simp [vwCl] at h

def aFld (own : String) (idx ci k : Nat) : Prop := ∃ (C : String) (F : u_T) (N : Nat), vwCl[ci]? = some (C, F, N) ∧ k < N ∧ Cond.fieldLink own idx C (F k).2.1 (F k).2.2.1 ∈ aT
def aFin (ci k : Nat) : Bool := match vwCl[ci]? with
  | some q => (q.2.1 k).2.2.2
  | none => false
/-- what a call of y by own's entry idx rests on: C the receiver's class ("" where static) -/
def aCalV (own : String) (idx : Nat) (y : MethodName) (cc : ByteArray) (nL : Nat) (rt : Option FieldType) (n : Nat) : Prop :=
  Cond.methodLink own idx y ∈ aT ∧ Cond.instanceMethod y ∈ aT ∧ Cond.selects y.cls y y ∈ aT ∧ Cond.initialized y.cls ∈ aT ∧ Cond.code y cc nL rt ∈ aT ∧ y.cls ≠ "java/lang/invoke/MethodHandle" ∧ y.cls ≠ "java/lang/invoke/VarHandle" ∧ (parseMethodDescriptor y.desc).map (fun d => d.parameters.length) = some n
def aCalS (own : String) (idx : Nat) (y : MethodName) (cc : ByteArray) (nL : Nat) (rt : Option FieldType) (n : Nat) : Prop :=
  Cond.methodLink own idx y ∈ aT ∧ Cond.static y ∈ aT ∧ Cond.initialized y.cls ∈ aT ∧ Cond.code y cc nL rt ∈ aT ∧ y.cls ≠ "java/lang/invoke/MethodHandle" ∧ y.cls ≠ "java/lang/invoke/VarHandle" ∧ (parseMethodDescriptor y.desc).map (fun d => d.parameters.length) = some n
def aCalI (own : String) (idx : Nat) (y : MethodName) (cc : ByteArray) (nL : Nat) (n : Nat) : Prop :=
  Cond.methodLink own idx y ∈ aT ∧ Cond.instanceMethod y ∈ aT ∧ Cond.initialized y.cls ∈ aT ∧ Cond.code y cc nL none ∈ aT ∧ y.name = "<init>" ∧ y.cls ≠ "java/lang/invoke/MethodHandle" ∧ y.cls ≠ "java/lang/invoke/VarHandle" ∧ (parseMethodDescriptor y.desc).map (fun d => d.parameters.length) = some n
/-- a nest mate's private constructor -/
def aCalN (own : String) (idx : Nat) (y : MethodName) (host : String) (cc : ByteArray) (nL : Nat) (n : Nat) : Prop :=
  Cond.methodLinkNest own idx y host ∈ tables_1 ∧ Cond.instanceMethod y ∈ aT ∧ Cond.initialized y.cls ∈ aT ∧ Cond.code y cc nL none ∈ aT ∧ y.name = "<init>" ∧ y.cls ≠ "java/lang/invoke/MethodHandle" ∧ y.cls ≠ "java/lang/invoke/VarHandle" ∧ (parseMethodDescriptor y.desc).map (fun d => d.parameters.length) = some n

theorem ckL_7 : Cond.classLink RL 7 RX6 ∈ aT := aT_in 12 (by decide +kernel) rfl
theorem ins_RX6 : Cond.instantiable RX6 17 ∈ aT ∧ Cond.initialized RX6 ∈ aT := ⟨aT_in 13 (by decide +kernel) rfl, aT_in 1 (by decide +kernel) rfl⟩
theorem clL_9 : aCalI RL 9 yX6_init cX6_init 2 0 := ⟨aT_in 14 (w := Cond.methodLink RL 9 yX6_init) (by decide +kernel) rfl, aT_in 15 (w := Cond.instanceMethod yX6_init) (by decide +kernel) rfl, aT_in 1 (w := Cond.initialized (yX6_init).cls) (by decide +kernel) rfl, aT_in 16 (w := Cond.code yX6_init cX6_init 2 none) (by decide +kernel) rfl, rfl, by decide +kernel, by decide +kernel, by decide +kernel⟩
theorem ckX6_9 : Cond.classLink RX6 9 RX0 ∈ aT := aT_in 20 (by decide +kernel) rfl
theorem ins_RX0 : Cond.instantiable RX0 12 ∈ aT ∧ Cond.initialized RX0 ∈ aT := ⟨aT_in 22 (by decide +kernel) rfl, aT_in 2 (by decide +kernel) rfl⟩
theorem clX6_15 : aCalN RX6 15 yX0_init RX6 cX0_init 1 0 := ⟨List.mem_of_getElem? (i := 23) (by decide +kernel), aT_in 24 (w := Cond.instanceMethod yX0_init) (by decide +kernel) rfl, aT_in 2 (w := Cond.initialized (yX0_init).cls) (by decide +kernel) rfl, aT_in 25 (w := Cond.code yX0_init cX0_init 1 none) (by decide +kernel) rfl, rfl, by decide +kernel, by decide +kernel, by decide +kernel⟩
theorem flX0_9 : aFld RX0 9 0 0 := ⟨RX0, TX0, 12, rfl, by decide, aT_in 27 (w := Cond.fieldLink RX0 9 RX0 "hammerDelay" "I") (by decide +kernel) rfl⟩
theorem flX6_91 : aFld RX6 91 0 0 := ⟨RX0, TX0, 12, rfl, by decide, aT_in 28 (w := Cond.fieldLink RX6 91 RX0 "hammerDelay" "I") (by decide +kernel) rfl⟩
theorem flX0_15 : aFld RX0 15 0 1 := ⟨RX0, TX0, 12, rfl, by decide, aT_in 29 (w := Cond.fieldLink RX0 15 RX0 "recovery" "I") (by decide +kernel) rfl⟩
theorem flX6_94 : aFld RX6 94 0 1 := ⟨RX0, TX0, 12, rfl, by decide, aT_in 30 (w := Cond.fieldLink RX6 94 RX0 "recovery" "I") (by decide +kernel) rfl⟩
theorem flX0_18 : aFld RX0 18 0 2 := ⟨RX0, TX0, 12, rfl, by decide, aT_in 31 (w := Cond.fieldLink RX0 18 RX0 "weight" "I") (by decide +kernel) rfl⟩
theorem flX6_97 : aFld RX6 97 0 2 := ⟨RX0, TX0, 12, rfl, by decide, aT_in 32 (w := Cond.fieldLink RX6 97 RX0 "weight" "I") (by decide +kernel) rfl⟩
theorem flX0_21 : aFld RX0 21 0 3 := ⟨RX0, TX0, 12, rfl, by decide, aT_in 33 (w := Cond.fieldLink RX0 21 RX0 "halfPeriod" "I") (by decide +kernel) rfl⟩
theorem flX6_100 : aFld RX6 100 0 3 := ⟨RX0, TX0, 12, rfl, by decide, aT_in 34 (w := Cond.fieldLink RX6 100 RX0 "halfPeriod" "I") (by decide +kernel) rfl⟩
theorem flX0_24 : aFld RX0 24 0 4 := ⟨RX0, TX0, 12, rfl, by decide, aT_in 35 (w := Cond.fieldLink RX0 24 RX0 "occupiedUntil" "I") (by decide +kernel) rfl⟩
theorem flX6_310 : aFld RX6 310 0 4 := ⟨RX0, TX0, 12, rfl, by decide, aT_in 36 (w := Cond.fieldLink RX6 310 RX0 "occupiedUntil" "I") (by decide +kernel) rfl⟩
theorem flX0_27 : aFld RX0 27 0 5 := ⟨RX0, TX0, 12, rfl, by decide, aT_in 37 (w := Cond.fieldLink RX0 27 RX0 "clapperHeld" "Z") (by decide +kernel) rfl⟩
theorem flX6_290 : aFld RX6 290 0 5 := ⟨RX0, TX0, 12, rfl, by decide, aT_in 38 (w := Cond.fieldLink RX6 290 RX0 "clapperHeld" "Z") (by decide +kernel) rfl⟩
theorem flX0_31 : aFld RX0 31 0 6 := ⟨RX0, TX0, 12, rfl, by decide, aT_in 39 (w := Cond.fieldLink RX0 31 RX0 "swings" "Z") (by decide +kernel) rfl⟩
theorem flX6_162 : aFld RX6 162 0 6 := ⟨RX0, TX0, 12, rfl, by decide, aT_in 40 (w := Cond.fieldLink RX6 162 RX0 "swings" "Z") (by decide +kernel) rfl⟩
theorem flX0_34 : aFld RX0 34 0 7 := ⟨RX0, TX0, 12, rfl, by decide, aT_in 41 (w := Cond.fieldLink RX0 34 RX0 "motorOn" "Z") (by decide +kernel) rfl⟩
theorem flX6_284 : aFld RX6 284 0 7 := ⟨RX0, TX0, 12, rfl, by decide, aT_in 42 (w := Cond.fieldLink RX6 284 RX0 "motorOn" "Z") (by decide +kernel) rfl⟩
theorem flX0_37 : aFld RX0 37 0 8 := ⟨RX0, TX0, 12, rfl, by decide, aT_in 43 (w := Cond.fieldLink RX0 37 RX0 "amplitude" "I") (by decide +kernel) rfl⟩
theorem flX6_287 : aFld RX6 287 0 8 := ⟨RX0, TX0, 12, rfl, by decide, aT_in 44 (w := Cond.fieldLink RX6 287 RX0 "amplitude" "I") (by decide +kernel) rfl⟩
theorem flX0_40 : aFld RX0 40 0 9 := ⟨RX0, TX0, 12, rfl, by decide, aT_in 45 (w := Cond.fieldLink RX0 40 RX0 "side" "I") (by decide +kernel) rfl⟩
theorem flX0_43 : aFld RX0 43 0 10 := ⟨RX0, TX0, 12, rfl, by decide, aT_in 46 (w := Cond.fieldLink RX0 43 RX0 "target" "I") (by decide +kernel) rfl⟩
theorem flX0_46 : aFld RX0 46 0 11 := ⟨RX0, TX0, 12, rfl, by decide, aT_in 47 (w := Cond.fieldLink RX0 46 RX0 "latestTurn" "I") (by decide +kernel) rfl⟩
theorem ckX6_20 : Cond.classLink RX6 20 RX5 ∈ aT := aT_in 73 (by decide +kernel) rfl
theorem ins_RX5 : Cond.instantiable RX5 5 ∈ aT ∧ Cond.initialized RX5 ∈ aT := ⟨aT_in 74 (by decide +kernel) rfl, aT_in 3 (by decide +kernel) rfl⟩
theorem clX6_22 : aCalN RX6 22 yX5_init RX6 cX5_init 1 0 := ⟨List.mem_of_getElem? (i := 75) (by decide +kernel), aT_in 76 (w := Cond.instanceMethod yX5_init) (by decide +kernel) rfl, aT_in 3 (w := Cond.initialized (yX5_init).cls) (by decide +kernel) rfl, aT_in 77 (w := Cond.code yX5_init cX5_init 1 none) (by decide +kernel) rfl, rfl, by decide +kernel, by decide +kernel, by decide +kernel⟩
theorem flX5_9 : aFld RX5 9 5 0 := ⟨RX5, TX5, 5, rfl, by decide, aT_in 79 (w := Cond.fieldLink RX5 9 RX5 "bells" "[I") (by decide +kernel) rfl⟩
theorem flX6_125 : aFld RX6 125 5 0 := ⟨RX5, TX5, 5, rfl, by decide, aT_in 80 (w := Cond.fieldLink RX6 125 RX5 "bells" "[I") (by decide +kernel) rfl⟩
theorem flX5_15 : aFld RX5 15 5 1 := ⟨RX5, TX5, 5, rfl, by decide, aT_in 81 (w := Cond.fieldLink RX5 15 RX5 "times" "[I") (by decide +kernel) rfl⟩
theorem flX6_127 : aFld RX6 127 5 1 := ⟨RX5, TX5, 5, rfl, by decide, aT_in 82 (w := Cond.fieldLink RX6 127 RX5 "times" "[I") (by decide +kernel) rfl⟩
theorem flX5_18 : aFld RX5 18 5 2 := ⟨RX5, TX5, 5, rfl, by decide, aT_in 83 (w := Cond.fieldLink RX5 18 RX5 "clappers" "[I") (by decide +kernel) rfl⟩
theorem flX6_130 : aFld RX6 130 5 2 := ⟨RX5, TX5, 5, rfl, by decide, aT_in 84 (w := Cond.fieldLink RX6 130 RX5 "clappers" "[I") (by decide +kernel) rfl⟩
theorem flX5_21 : aFld RX5 21 5 3 := ⟨RX5, TX5, 5, rfl, by decide, aT_in 85 (w := Cond.fieldLink RX5 21 RX5 "length" "I") (by decide +kernel) rfl⟩
theorem flX6_118 : aFld RX6 118 5 3 := ⟨RX5, TX5, 5, rfl, by decide, aT_in 86 (w := Cond.fieldLink RX6 118 RX5 "length" "I") (by decide +kernel) rfl⟩
theorem flX5_25 : aFld RX5 25 5 4 := ⟨RX5, TX5, 5, rfl, by decide, aT_in 87 (w := Cond.fieldLink RX5 25 RX5 "next" "I") (by decide +kernel) rfl⟩
theorem ckX6_27 : Cond.classLink RX6 27 RX4 ∈ aT := aT_in 100 (by decide +kernel) rfl
theorem ins_RX4 : Cond.instantiable RX4 5 ∈ aT ∧ Cond.initialized RX4 ∈ aT := ⟨aT_in 101 (by decide +kernel) rfl, aT_in 4 (by decide +kernel) rfl⟩
theorem clX6_29 : aCalN RX6 29 yX4_init RX6 cX4_init 1 0 := ⟨List.mem_of_getElem? (i := 102) (by decide +kernel), aT_in 103 (w := Cond.instanceMethod yX4_init) (by decide +kernel) rfl, aT_in 4 (w := Cond.initialized (yX4_init).cls) (by decide +kernel) rfl, aT_in 104 (w := Cond.code yX4_init cX4_init 1 none) (by decide +kernel) rfl, rfl, by decide +kernel, by decide +kernel, by decide +kernel⟩
theorem flX4_9 : aFld RX4 9 4 0 := ⟨RX4, TX4, 5, rfl, by decide, aT_in 106 (w := Cond.fieldLink RX4 9 RX4 "bells" "[I") (by decide +kernel) rfl⟩
theorem flX6_158 : aFld RX6 158 4 0 := ⟨RX4, TX4, 5, rfl, by decide, aT_in 107 (w := Cond.fieldLink RX6 158 RX4 "bells" "[I") (by decide +kernel) rfl⟩
theorem flX4_15 : aFld RX4 15 4 1 := ⟨RX4, TX4, 5, rfl, by decide, aT_in 108 (w := Cond.fieldLink RX4 15 RX4 "commands" "[I") (by decide +kernel) rfl⟩
theorem flX6_145 : aFld RX6 145 4 1 := ⟨RX4, TX4, 5, rfl, by decide, aT_in 109 (w := Cond.fieldLink RX6 145 RX4 "commands" "[I") (by decide +kernel) rfl⟩
theorem flX4_18 : aFld RX4 18 4 2 := ⟨RX4, TX4, 5, rfl, by decide, aT_in 110 (w := Cond.fieldLink RX4 18 RX4 "times" "[I") (by decide +kernel) rfl⟩
theorem flX4_21 : aFld RX4 21 4 3 := ⟨RX4, TX4, 5, rfl, by decide, aT_in 111 (w := Cond.fieldLink RX4 21 RX4 "changes" "[I") (by decide +kernel) rfl⟩
theorem flX4_24 : aFld RX4 24 4 4 := ⟨RX4, TX4, 5, rfl, by decide, aT_in 112 (w := Cond.fieldLink RX4 24 RX4 "count" "I") (by decide +kernel) rfl⟩
theorem flX6_152 : aFld RX6 152 4 4 := ⟨RX4, TX4, 5, rfl, by decide, aT_in 113 (w := Cond.fieldLink RX6 152 RX4 "count" "I") (by decide +kernel) rfl⟩
theorem ckX6_37 : Cond.classLink RX6 37 RX3 ∈ aT := aT_in 125 (by decide +kernel) rfl
theorem ins_RX3 : Cond.instantiable RX3 11 ∈ aT ∧ Cond.initialized RX3 ∈ aT := ⟨aT_in 126 (by decide +kernel) rfl, aT_in 5 (by decide +kernel) rfl⟩
theorem clX6_39 : aCalN RX6 39 yX3_init RX6 cX3_init 1 0 := ⟨List.mem_of_getElem? (i := 127) (by decide +kernel), aT_in 128 (w := Cond.instanceMethod yX3_init) (by decide +kernel) rfl, aT_in 5 (w := Cond.initialized (yX3_init).cls) (by decide +kernel) rfl, aT_in 129 (w := Cond.code yX3_init cX3_init 1 none) (by decide +kernel) rfl, rfl, by decide +kernel, by decide +kernel, by decide +kernel⟩
theorem flX3_9 : aFld RX3 9 3 0 := ⟨RX3, TX3, 11, rfl, by decide, aT_in 131 (w := Cond.fieldLink RX3 9 RX3 "text" "[I") (by decide +kernel) rfl⟩
theorem flX3_15 : aFld RX3 15 3 1 := ⟨RX3, TX3, 11, rfl, by decide, aT_in 132 (w := Cond.fieldLink RX3 15 RX3 "textLength" "I") (by decide +kernel) rfl⟩
theorem flX6_175 : aFld RX6 175 3 1 := ⟨RX3, TX3, 11, rfl, by decide, aT_in 133 (w := Cond.fieldLink RX6 175 RX3 "textLength" "I") (by decide +kernel) rfl⟩
theorem flX3_19 : aFld RX3 19 3 2 := ⟨RX3, TX3, 11, rfl, by decide, aT_in 134 (w := Cond.fieldLink RX3 19 RX3 "steps" "[I") (by decide +kernel) rfl⟩
theorem flX6_190 : aFld RX6 190 3 2 := ⟨RX3, TX3, 11, rfl, by decide, aT_in 135 (w := Cond.fieldLink RX6 190 RX3 "steps" "[I") (by decide +kernel) rfl⟩
theorem flX3_22 : aFld RX3 22 3 3 := ⟨RX3, TX3, 11, rfl, by decide, aT_in 136 (w := Cond.fieldLink RX3 22 RX3 "length" "I") (by decide +kernel) rfl⟩
theorem flX6_194 : aFld RX6 194 3 3 := ⟨RX3, TX3, 11, rfl, by decide, aT_in 137 (w := Cond.fieldLink RX6 194 RX3 "length" "I") (by decide +kernel) rfl⟩
theorem flX3_25 : aFld RX3 25 3 4 := ⟨RX3, TX3, 11, rfl, by decide, aT_in 138 (w := Cond.fieldLink RX3 25 RX3 "error" "I") (by decide +kernel) rfl⟩
theorem flX6_187 : aFld RX6 187 3 4 := ⟨RX3, TX3, 11, rfl, by decide, aT_in 139 (w := Cond.fieldLink RX6 187 RX3 "error" "I") (by decide +kernel) rfl⟩
theorem flX3_28 : aFld RX3 28 3 5 := ⟨RX3, TX3, 11, rfl, by decide, aT_in 140 (w := Cond.fieldLink RX3 28 RX3 "errorPosition" "I") (by decide +kernel) rfl⟩
theorem flX6_202 : aFld RX6 202 3 5 := ⟨RX3, TX3, 11, rfl, by decide, aT_in 141 (w := Cond.fieldLink RX6 202 RX3 "errorPosition" "I") (by decide +kernel) rfl⟩
theorem flX3_31 : aFld RX3 31 3 6 := ⟨RX3, TX3, 11, rfl, by decide, aT_in 142 (w := Cond.fieldLink RX3 31 RX3 "end" "I") (by decide +kernel) rfl⟩
theorem flX3_34 : aFld RX3 34 3 7 := ⟨RX3, TX3, 11, rfl, by decide, aT_in 143 (w := Cond.fieldLink RX3 34 RX3 "position" "I") (by decide +kernel) rfl⟩
theorem flX3_37 : aFld RX3 37 3 8 := ⟨RX3, TX3, 11, rfl, by decide, aT_in 144 (w := Cond.fieldLink RX3 37 RX3 "depth" "I") (by decide +kernel) rfl⟩
theorem flX3_40 : aFld RX3 40 3 9 := ⟨RX3, TX3, 11, rfl, by decide, aT_in 145 (w := Cond.fieldLink RX3 40 RX3 "groupPosition" "[I") (by decide +kernel) rfl⟩
theorem flX3_43 : aFld RX3 43 3 10 := ⟨RX3, TX3, 11, rfl, by decide, aT_in 146 (w := Cond.fieldLink RX3 43 RX3 "groupStart" "[I") (by decide +kernel) rfl⟩
theorem ckX6_44 : Cond.classLink RX6 44 RX2 ∈ aT := aT_in 170 (by decide +kernel) rfl
theorem ckX6_50 : Cond.classLink RX6 50 RX1 ∈ aT := aT_in 172 (by decide +kernel) rfl
theorem ins_RX2 : Cond.instantiable RX2 2 ∈ aT ∧ Cond.initialized RX2 ∈ aT := ⟨aT_in 174 (by decide +kernel) rfl, aT_in 6 (by decide +kernel) rfl⟩
theorem clX6_85 : aCalN RX6 85 yX2_init RX6 cX2_init 1 0 := ⟨List.mem_of_getElem? (i := 175) (by decide +kernel), aT_in 176 (w := Cond.instanceMethod yX2_init) (by decide +kernel) rfl, aT_in 6 (w := Cond.initialized (yX2_init).cls) (by decide +kernel) rfl, aT_in 177 (w := Cond.code yX2_init cX2_init 1 none) (by decide +kernel) rfl, rfl, by decide +kernel, by decide +kernel, by decide +kernel⟩
theorem flX2_9 : aFld RX2 9 2 0 := ⟨RX2, TX2, 2, rfl, by decide, aT_in 179 (w := Cond.fieldLink RX2 9 RX2 "steps" "[I") (by decide +kernel) rfl⟩
theorem flX6_193 : aFld RX6 193 2 0 := ⟨RX2, TX2, 2, rfl, by decide, aT_in 180 (w := Cond.fieldLink RX6 193 RX2 "steps" "[I") (by decide +kernel) rfl⟩
theorem flX2_15 : aFld RX2 15 2 1 := ⟨RX2, TX2, 2, rfl, by decide, aT_in 181 (w := Cond.fieldLink RX2 15 RX2 "length" "I") (by decide +kernel) rfl⟩
theorem flX6_201 : aFld RX6 201 2 1 := ⟨RX2, TX2, 2, rfl, by decide, aT_in 182 (w := Cond.fieldLink RX6 201 RX2 "length" "I") (by decide +kernel) rfl⟩
theorem ins_RX1 : Cond.instantiable RX1 6 ∈ aT ∧ Cond.initialized RX1 ∈ aT := ⟨aT_in 188 (by decide +kernel) rfl, aT_in 7 (by decide +kernel) rfl⟩
theorem clX6_86 : aCalN RX6 86 yX1_init RX6 cX1_init 1 0 := ⟨List.mem_of_getElem? (i := 189) (by decide +kernel), aT_in 190 (w := Cond.instanceMethod yX1_init) (by decide +kernel) rfl, aT_in 7 (w := Cond.initialized (yX1_init).cls) (by decide +kernel) rfl, aT_in 191 (w := Cond.code yX1_init cX1_init 1 none) (by decide +kernel) rfl, rfl, by decide +kernel, by decide +kernel, by decide +kernel⟩
theorem flX1_9 : aFld RX1 9 1 0 := ⟨RX1, TX1, 6, rfl, by decide, aT_in 193 (w := Cond.fieldLink RX1 9 RX1 "which" "I") (by decide +kernel) rfl⟩
theorem flX6_240 : aFld RX6 240 1 0 := ⟨RX1, TX1, 6, rfl, by decide, aT_in 194 (w := Cond.fieldLink RX6 240 RX1 "which" "I") (by decide +kernel) rfl⟩
theorem flX1_15 : aFld RX1 15 1 1 := ⟨RX1, TX1, 6, rfl, by decide, aT_in 195 (w := Cond.fieldLink RX1 15 RX1 "due" "I") (by decide +kernel) rfl⟩
theorem flX6_243 : aFld RX6 243 1 1 := ⟨RX1, TX1, 6, rfl, by decide, aT_in 196 (w := Cond.fieldLink RX6 243 RX1 "due" "I") (by decide +kernel) rfl⟩
theorem flX1_18 : aFld RX1 18 1 2 := ⟨RX1, TX1, 6, rfl, by decide, aT_in 197 (w := Cond.fieldLink RX1 18 RX1 "period" "I") (by decide +kernel) rfl⟩
theorem flX6_246 : aFld RX6 246 1 2 := ⟨RX1, TX1, 6, rfl, by decide, aT_in 198 (w := Cond.fieldLink RX6 246 RX1 "period" "I") (by decide +kernel) rfl⟩
theorem flX1_21 : aFld RX1 21 1 3 := ⟨RX1, TX1, 6, rfl, by decide, aT_in 199 (w := Cond.fieldLink RX1 21 RX1 "ticks" "I") (by decide +kernel) rfl⟩
theorem flX6_249 : aFld RX6 249 1 3 := ⟨RX1, TX1, 6, rfl, by decide, aT_in 200 (w := Cond.fieldLink RX6 249 RX1 "ticks" "I") (by decide +kernel) rfl⟩
theorem flX1_24 : aFld RX1 24 1 4 := ⟨RX1, TX1, 6, rfl, by decide, aT_in 201 (w := Cond.fieldLink RX1 24 RX1 "largestShift" "I") (by decide +kernel) rfl⟩
theorem flX6_252 : aFld RX6 252 1 4 := ⟨RX1, TX1, 6, rfl, by decide, aT_in 202 (w := Cond.fieldLink RX6 252 RX1 "largestShift" "I") (by decide +kernel) rfl⟩
theorem flX1_27 : aFld RX1 27 1 5 := ⟨RX1, TX1, 6, rfl, by decide, aT_in 203 (w := Cond.fieldLink RX1 27 RX1 "latestShift" "I") (by decide +kernel) rfl⟩
theorem flX6_255 : aFld RX6 255 1 5 := ⟨RX1, TX1, 6, rfl, by decide, aT_in 204 (w := Cond.fieldLink RX6 255 RX1 "latestShift" "I") (by decide +kernel) rfl⟩
theorem flX6_11 : aFld RX6 11 6 0 := ⟨RX6, TX6, 17, rfl, by decide, aT_in 218 (w := Cond.fieldLink RX6 11 RX6 "bells" "[LBellController$Bell;") (by decide +kernel) rfl⟩
theorem flX6_16 : aFld RX6 16 6 1 := ⟨RX6, TX6, 17, rfl, by decide, aT_in 219 (w := Cond.fieldLink RX6 16 RX6 "imagined" "LBellController$Bell;") (by decide +kernel) rfl⟩
theorem flX6_23 : aFld RX6 23 6 2 := ⟨RX6, TX6, 17, rfl, by decide, aT_in 220 (w := Cond.fieldLink RX6 23 RX6 "log" "LBellController$StrokeLog;") (by decide +kernel) rfl⟩
theorem flX6_30 : aFld RX6 30 6 3 := ⟨RX6, TX6, 17, rfl, by decide, aT_in 221 (w := Cond.fieldLink RX6 30 RX6 "schedule" "LBellController$Schedule;") (by decide +kernel) rfl⟩
theorem flX6_34 : aFld RX6 34 6 4 := ⟨RX6, TX6, 17, rfl, by decide, aT_in 222 (w := Cond.fieldLink RX6 34 RX6 "draft" "LBellController$Schedule;") (by decide +kernel) rfl⟩
theorem flX6_40 : aFld RX6 40 6 5 := ⟨RX6, TX6, 17, rfl, by decide, aT_in 223 (w := Cond.fieldLink RX6 40 RX6 "reader" "LBellController$PatternReader;") (by decide +kernel) rfl⟩
theorem flX6_46 : aFld RX6 46 6 6 := ⟨RX6, TX6, 17, rfl, by decide, aT_in 224 (w := Cond.fieldLink RX6 46 RX6 "patterns" "[LBellController$Pattern;") (by decide +kernel) rfl⟩
theorem flX6_52 : aFld RX6 52 6 7 := ⟨RX6, TX6, 17, rfl, by decide, aT_in 225 (w := Cond.fieldLink RX6 52 RX6 "entries" "[LBellController$Entry;") (by decide +kernel) rfl⟩
theorem flX6_56 : aFld RX6 56 6 8 := ⟨RX6, TX6, 17, rfl, by decide, aT_in 226 (w := Cond.fieldLink RX6 56 RX6 "shakes" "[I") (by decide +kernel) rfl⟩
theorem flX6_60 : aFld RX6 60 6 9 := ⟨RX6, TX6, 17, rfl, by decide, aT_in 227 (w := Cond.fieldLink RX6 60 RX6 "startedForces" "[I") (by decide +kernel) rfl⟩
theorem flX6_63 : aFld RX6 63 6 10 := ⟨RX6, TX6, 17, rfl, by decide, aT_in 228 (w := Cond.fieldLink RX6 63 RX6 "movingBells" "[I") (by decide +kernel) rfl⟩
theorem flX6_66 : aFld RX6 66 6 11 := ⟨RX6, TX6, 17, rfl, by decide, aT_in 229 (w := Cond.fieldLink RX6 66 RX6 "bellsAdded" "I") (by decide +kernel) rfl⟩
theorem flX6_70 : aFld RX6 70 6 12 := ⟨RX6, TX6, 17, rfl, by decide, aT_in 230 (w := Cond.fieldLink RX6 70 RX6 "entriesAdded" "I") (by decide +kernel) rfl⟩
theorem flX6_73 : aFld RX6 73 6 13 := ⟨RX6, TX6, 17, rfl, by decide, aT_in 231 (w := Cond.fieldLink RX6 73 RX6 "now" "I") (by decide +kernel) rfl⟩
theorem flX6_76 : aFld RX6 76 6 14 := ⟨RX6, TX6, 17, rfl, by decide, aT_in 232 (w := Cond.fieldLink RX6 76 RX6 "powerLimit" "I") (by decide +kernel) rfl⟩
theorem flX6_79 : aFld RX6 79 6 15 := ⟨RX6, TX6, 17, rfl, by decide, aT_in 233 (w := Cond.fieldLink RX6 79 RX6 "shakeLimit" "I") (by decide +kernel) rfl⟩
theorem flX6_82 : aFld RX6 82 6 16 := ⟨RX6, TX6, 17, rfl, by decide, aT_in 234 (w := Cond.fieldLink RX6 82 RX6 "failures" "I") (by decide +kernel) rfl⟩
theorem clL_13 : aCalV RL 13 yX6_addBell cX6_addBell 6 (some .int) 4 := ⟨aT_in 270 (w := Cond.methodLink RL 13 yX6_addBell) (by decide +kernel) rfl, aT_in 271 (w := Cond.instanceMethod yX6_addBell) (by decide +kernel) rfl, aT_in 272 (w := Cond.selects (yX6_addBell).cls yX6_addBell yX6_addBell) (by decide +kernel) rfl, aT_in 1 (w := Cond.initialized (yX6_addBell).cls) (by decide +kernel) rfl, aT_in 273 (w := Cond.code yX6_addBell cX6_addBell 6 (some .int)) (by decide +kernel) rfl, by decide +kernel, by decide +kernel, by decide +kernel⟩
theorem clX6_87 : aCalS RX6 87 yX6_outside cX6_outside 3 (some .boolean) 3 := ⟨aT_in 274 (w := Cond.methodLink RX6 87 yX6_outside) (by decide +kernel) rfl, aT_in 275 (w := Cond.static yX6_outside) (by decide +kernel) rfl, aT_in 1 (w := Cond.initialized (yX6_outside).cls) (by decide +kernel) rfl, aT_in 276 (w := Cond.code yX6_outside cX6_outside 3 (some .boolean)) (by decide +kernel) rfl, by decide +kernel, by decide +kernel, by decide +kernel⟩
theorem clL_18 : aCalV RL 18 yX6_bellCount cX6_bellCount 1 (some .int) 0 := ⟨aT_in 277 (w := Cond.methodLink RL 18 yX6_bellCount) (by decide +kernel) rfl, aT_in 278 (w := Cond.instanceMethod yX6_bellCount) (by decide +kernel) rfl, aT_in 279 (w := Cond.selects (yX6_bellCount).cls yX6_bellCount yX6_bellCount) (by decide +kernel) rfl, aT_in 1 (w := Cond.initialized (yX6_bellCount).cls) (by decide +kernel) rfl, aT_in 280 (w := Cond.code yX6_bellCount cX6_bellCount 1 (some .int)) (by decide +kernel) rfl, by decide +kernel, by decide +kernel, by decide +kernel⟩
theorem clL_23 : aCalV RL 23 yX6_delay cX6_delay 2 (some .int) 1 := ⟨aT_in 281 (w := Cond.methodLink RL 23 yX6_delay) (by decide +kernel) rfl, aT_in 282 (w := Cond.instanceMethod yX6_delay) (by decide +kernel) rfl, aT_in 283 (w := Cond.selects (yX6_delay).cls yX6_delay yX6_delay) (by decide +kernel) rfl, aT_in 1 (w := Cond.initialized (yX6_delay).cls) (by decide +kernel) rfl, aT_in 284 (w := Cond.code yX6_delay cX6_delay 2 (some .int)) (by decide +kernel) rfl, by decide +kernel, by decide +kernel, by decide +kernel⟩
theorem clX6_103 : aCalV RX6 103 yX6_isBell cX6_isBell 2 (some .boolean) 1 := ⟨aT_in 285 (w := Cond.methodLink RX6 103 yX6_isBell) (by decide +kernel) rfl, aT_in 287 (w := Cond.instanceMethod yX6_isBell) (by decide +kernel) rfl, aT_selI 0 (n := 17) (by decide +kernel), aT_in 1 (w := Cond.initialized (yX6_isBell).cls) (by decide +kernel) rfl, aT_in 288 (w := Cond.code yX6_isBell cX6_isBell 2 (some .boolean)) (by decide +kernel) rfl, by decide +kernel, by decide +kernel, by decide +kernel⟩
theorem clL_28 : aCalV RL 28 yX6_calibrate cX6_calibrate 4 (some .int) 2 := ⟨aT_in 289 (w := Cond.methodLink RL 28 yX6_calibrate) (by decide +kernel) rfl, aT_in 290 (w := Cond.instanceMethod yX6_calibrate) (by decide +kernel) rfl, aT_in 291 (w := Cond.selects (yX6_calibrate).cls yX6_calibrate yX6_calibrate) (by decide +kernel) rfl, aT_in 1 (w := Cond.initialized (yX6_calibrate).cls) (by decide +kernel) rfl, aT_in 292 (w := Cond.code yX6_calibrate cX6_calibrate 4 (some .int)) (by decide +kernel) rfl, by decide +kernel, by decide +kernel, by decide +kernel⟩
theorem clL_33 : aCalV RL 33 yX6_setPowerLimit cX6_setPowerLimit 3 (some .int) 1 := ⟨aT_in 293 (w := Cond.methodLink RL 33 yX6_setPowerLimit) (by decide +kernel) rfl, aT_in 294 (w := Cond.instanceMethod yX6_setPowerLimit) (by decide +kernel) rfl, aT_in 295 (w := Cond.selects (yX6_setPowerLimit).cls yX6_setPowerLimit yX6_setPowerLimit) (by decide +kernel) rfl, aT_in 1 (w := Cond.initialized (yX6_setPowerLimit).cls) (by decide +kernel) rfl, aT_in 296 (w := Cond.code yX6_setPowerLimit cX6_setPowerLimit 3 (some .int)) (by decide +kernel) rfl, by decide +kernel, by decide +kernel, by decide +kernel⟩
theorem clL_37 : aCalV RL 37 yX6_currentTime cX6_currentTime 1 (some .int) 0 := ⟨aT_in 297 (w := Cond.methodLink RL 37 yX6_currentTime) (by decide +kernel) rfl, aT_in 298 (w := Cond.instanceMethod yX6_currentTime) (by decide +kernel) rfl, aT_in 299 (w := Cond.selects (yX6_currentTime).cls yX6_currentTime yX6_currentTime) (by decide +kernel) rfl, aT_in 1 (w := Cond.initialized (yX6_currentTime).cls) (by decide +kernel) rfl, aT_in 300 (w := Cond.code yX6_currentTime cX6_currentTime 1 (some .int)) (by decide +kernel) rfl, by decide +kernel, by decide +kernel, by decide +kernel⟩
theorem clL_41 : aCalV RL 41 yX6_advance cX6_advance 4 (some .int) 1 := ⟨aT_in 301 (w := Cond.methodLink RL 41 yX6_advance) (by decide +kernel) rfl, aT_in 302 (w := Cond.instanceMethod yX6_advance) (by decide +kernel) rfl, aT_in 303 (w := Cond.selects (yX6_advance).cls yX6_advance yX6_advance) (by decide +kernel) rfl, aT_in 1 (w := Cond.initialized (yX6_advance).cls) (by decide +kernel) rfl, aT_in 304 (w := Cond.code yX6_advance cX6_advance 4 (some .int)) (by decide +kernel) rfl, by decide +kernel, by decide +kernel, by decide +kernel⟩
theorem coX6_107 : Cond.constant RX6 107 (100000) ∈ aT := aT_in 305 (by decide +kernel) rfl
theorem clX6_108 : aCalV RX6 108 yX6_soundHammers cX6_soundHammers 4 (some .int) 0 := ⟨aT_in 306 (w := Cond.methodLink RX6 108 yX6_soundHammers) (by decide +kernel) rfl, aT_in 308 (w := Cond.instanceMethod yX6_soundHammers) (by decide +kernel) rfl, aT_selI 1 (n := 17) (by decide +kernel), aT_in 1 (w := Cond.initialized (yX6_soundHammers).cls) (by decide +kernel) rfl, aT_in 309 (w := Cond.code yX6_soundHammers cX6_soundHammers 4 (some .int)) (by decide +kernel) rfl, by decide +kernel, by decide +kernel, by decide +kernel⟩
theorem clX6_307 : aCalV RX6 307 yX4_takeSounding cX4_takeSounding 5 (some .int) 1 := ⟨aT_in 310 (w := Cond.methodLink RX6 307 yX4_takeSounding) (by decide +kernel) rfl, aT_in 311 (w := Cond.instanceMethod yX4_takeSounding) (by decide +kernel) rfl, aT_in 312 (w := Cond.selects (yX4_takeSounding).cls yX4_takeSounding yX4_takeSounding) (by decide +kernel) rfl, aT_in 4 (w := Cond.initialized (yX4_takeSounding).cls) (by decide +kernel) rfl, aT_in 313 (w := Cond.code yX4_takeSounding cX4_takeSounding 5 (some .int)) (by decide +kernel) rfl, by decide +kernel, by decide +kernel, by decide +kernel⟩
theorem clX4_42 : aCalV RX4 42 yX4_removeAt cX4_removeAt 2 none 1 := ⟨aT_in 314 (w := Cond.methodLink RX4 42 yX4_removeAt) (by decide +kernel) rfl, aT_in 315 (w := Cond.instanceMethod yX4_removeAt) (by decide +kernel) rfl, aT_in 316 (w := Cond.selects (yX4_removeAt).cls yX4_removeAt yX4_removeAt) (by decide +kernel) rfl, aT_in 4 (w := Cond.initialized (yX4_removeAt).cls) (by decide +kernel) rfl, aT_in 317 (w := Cond.code yX4_removeAt cX4_removeAt 2 none) (by decide +kernel) rfl, by decide +kernel, by decide +kernel, by decide +kernel⟩
theorem clX6_313 : aCalV RX6 313 yX5_add cX5_add 4 none 3 := ⟨aT_in 321 (w := Cond.methodLink RX6 313 yX5_add) (by decide +kernel) rfl, aT_in 322 (w := Cond.instanceMethod yX5_add) (by decide +kernel) rfl, aT_in 323 (w := Cond.selects (yX5_add).cls yX5_add yX5_add) (by decide +kernel) rfl, aT_in 3 (w := Cond.initialized (yX5_add).cls) (by decide +kernel) rfl, aT_in 324 (w := Cond.code yX5_add cX5_add 4 none) (by decide +kernel) rfl, by decide +kernel, by decide +kernel, by decide +kernel⟩
theorem clX5_28 : aCalS RX5 28 yJ9_min_7cf53 cJ9_min_7cf53 2 (some .int) 2 := ⟨aT_in 325 (w := Cond.methodLink RX5 28 yJ9_min_7cf53) (by decide +kernel) rfl, aT_in 326 (w := Cond.static yJ9_min_7cf53) (by decide +kernel) rfl, aT_in 10 (w := Cond.initialized (yJ9_min_7cf53).cls) (by decide +kernel) rfl, aT_in 327 (w := Cond.code yJ9_min_7cf53 cJ9_min_7cf53 2 (some .int)) (by decide +kernel) rfl, by decide +kernel, by decide +kernel, by decide +kernel⟩
theorem clX6_112 : aCalV RX6 112 yX6_turnBells cX6_turnBells 4 (some .int) 0 := ⟨aT_in 328 (w := Cond.methodLink RX6 112 yX6_turnBells) (by decide +kernel) rfl, aT_in 330 (w := Cond.instanceMethod yX6_turnBells) (by decide +kernel) rfl, aT_selI 2 (n := 17) (by decide +kernel), aT_in 1 (w := Cond.initialized (yX6_turnBells).cls) (by decide +kernel) rfl, aT_in 331 (w := Cond.code yX6_turnBells cX6_turnBells 4 (some .int)) (by decide +kernel) rfl, by decide +kernel, by decide +kernel, by decide +kernel⟩
theorem clX6_316 : aCalV RX6 316 yX0_turnsAt cX0_turnsAt 2 (some .boolean) 1 := ⟨aT_in 332 (w := Cond.methodLink RX6 316 yX0_turnsAt) (by decide +kernel) rfl, aT_in 333 (w := Cond.instanceMethod yX0_turnsAt) (by decide +kernel) rfl, aT_in 334 (w := Cond.selects (yX0_turnsAt).cls yX0_turnsAt yX0_turnsAt) (by decide +kernel) rfl, aT_in 2 (w := Cond.initialized (yX0_turnsAt).cls) (by decide +kernel) rfl, aT_in 335 (w := Cond.code yX0_turnsAt cX0_turnsAt 2 (some .boolean)) (by decide +kernel) rfl, by decide +kernel, by decide +kernel, by decide +kernel⟩
theorem clX0_49 : aCalV RX0 49 yX0_turnTime cX0_turnTime 1 (some .int) 0 := ⟨aT_in 336 (w := Cond.methodLink RX0 49 yX0_turnTime) (by decide +kernel) rfl, aT_in 337 (w := Cond.instanceMethod yX0_turnTime) (by decide +kernel) rfl, aT_in 338 (w := Cond.selects (yX0_turnTime).cls yX0_turnTime yX0_turnTime) (by decide +kernel) rfl, aT_in 2 (w := Cond.initialized (yX0_turnTime).cls) (by decide +kernel) rfl, aT_in 339 (w := Cond.code yX0_turnTime cX0_turnTime 1 (some .int)) (by decide +kernel) rfl, by decide +kernel, by decide +kernel, by decide +kernel⟩
theorem clX6_293 : aCalV RX6 293 yX0_turn cX0_turn 1 none 0 := ⟨aT_in 340 (w := Cond.methodLink RX6 293 yX0_turn) (by decide +kernel) rfl, aT_in 341 (w := Cond.instanceMethod yX0_turn) (by decide +kernel) rfl, aT_in 342 (w := Cond.selects (yX0_turn).cls yX0_turn yX0_turn) (by decide +kernel) rfl, aT_in 2 (w := Cond.initialized (yX0_turn).cls) (by decide +kernel) rfl, aT_in 343 (w := Cond.code yX0_turn cX0_turn 1 none) (by decide +kernel) rfl, by decide +kernel, by decide +kernel, by decide +kernel⟩
theorem clX0_53 : aCalS RX0 53 yJ9_max_7cf53 cJ9_max_7cf53 2 (some .int) 2 := ⟨aT_in 344 (w := Cond.methodLink RX0 53 yJ9_max_7cf53) (by decide +kernel) rfl, aT_in 345 (w := Cond.static yJ9_max_7cf53) (by decide +kernel) rfl, aT_in 10 (w := Cond.initialized (yJ9_max_7cf53).cls) (by decide +kernel) rfl, aT_in 346 (w := Cond.code yJ9_max_7cf53 cJ9_max_7cf53 2 (some .int)) (by decide +kernel) rfl, by decide +kernel, by decide +kernel, by decide +kernel⟩
theorem clX0_59 : aCalS RX0 59 yJ9_min_7cf53 cJ9_min_7cf53 2 (some .int) 2 := ⟨aT_in 347 (w := Cond.methodLink RX0 59 yJ9_min_7cf53) (by decide +kernel) rfl, aT_in 326 (w := Cond.static yJ9_min_7cf53) (by decide +kernel) rfl, aT_in 10 (w := Cond.initialized (yJ9_min_7cf53).cls) (by decide +kernel) rfl, aT_in 327 (w := Cond.code yJ9_min_7cf53 cJ9_min_7cf53 2 (some .int)) (by decide +kernel) rfl, by decide +kernel, by decide +kernel, by decide +kernel⟩
theorem clX6_115 : aCalV RX6 115 yX6_runProgramme cX6_runProgramme 3 none 0 := ⟨aT_in 348 (w := Cond.methodLink RX6 115 yX6_runProgramme) (by decide +kernel) rfl, aT_in 350 (w := Cond.instanceMethod yX6_runProgramme) (by decide +kernel) rfl, aT_selI 3 (n := 17) (by decide +kernel), aT_in 1 (w := Cond.initialized (yX6_runProgramme).cls) (by decide +kernel) rfl, aT_in 351 (w := Cond.code yX6_runProgramme cX6_runProgramme 3 none) (by decide +kernel) rfl, by decide +kernel, by decide +kernel, by decide +kernel⟩
theorem clX6_319 : aCalV RX6 319 yX6_carryOut cX6_carryOut 3 (some .boolean) 1 := ⟨aT_in 352 (w := Cond.methodLink RX6 319 yX6_carryOut) (by decide +kernel) rfl, aT_in 354 (w := Cond.instanceMethod yX6_carryOut) (by decide +kernel) rfl, aT_selI 4 (n := 17) (by decide +kernel), aT_in 1 (w := Cond.initialized (yX6_carryOut).cls) (by decide +kernel) rfl, aT_in 355 (w := Cond.code yX6_carryOut cX6_carryOut 3 (some .boolean)) (by decide +kernel) rfl, by decide +kernel, by decide +kernel, by decide +kernel⟩
theorem clX6_205 : aCalV RX6 205 yX2_isMissing cX2_isMissing 1 (some .boolean) 0 := ⟨aT_in 356 (w := Cond.methodLink RX6 205 yX2_isMissing) (by decide +kernel) rfl, aT_in 357 (w := Cond.instanceMethod yX2_isMissing) (by decide +kernel) rfl, aT_in 358 (w := Cond.selects (yX2_isMissing).cls yX2_isMissing yX2_isMissing) (by decide +kernel) rfl, aT_in 6 (w := Cond.initialized (yX2_isMissing).cls) (by decide +kernel) rfl, aT_in 359 (w := Cond.code yX2_isMissing cX2_isMissing 1 (some .boolean)) (by decide +kernel) rfl, by decide +kernel, by decide +kernel, by decide +kernel⟩
theorem clX6_222 : aCalV RX6 222 yX6_weaveFrom cX6_weaveFrom 8 (some .int) 4 := ⟨aT_in 360 (w := Cond.methodLink RX6 222 yX6_weaveFrom) (by decide +kernel) rfl, aT_in 362 (w := Cond.instanceMethod yX6_weaveFrom) (by decide +kernel) rfl, aT_selI 5 (n := 17) (by decide +kernel), aT_in 1 (w := Cond.initialized (yX6_weaveFrom).cls) (by decide +kernel) rfl, aT_in 363 (w := Cond.code yX6_weaveFrom cX6_weaveFrom 8 (some .int)) (by decide +kernel) rfl, by decide +kernel, by decide +kernel, by decide +kernel⟩
theorem clX6_334 : aCalV RX6 334 yX6_readyTime cX6_readyTime 9 (some .int) 2 := ⟨aT_in 364 (w := Cond.methodLink RX6 334 yX6_readyTime) (by decide +kernel) rfl, aT_in 366 (w := Cond.instanceMethod yX6_readyTime) (by decide +kernel) rfl, aT_selI 6 (n := 17) (by decide +kernel), aT_in 1 (w := Cond.initialized (yX6_readyTime).cls) (by decide +kernel) rfl, aT_in 367 (w := Cond.code yX6_readyTime cX6_readyTime 9 (some .int)) (by decide +kernel) rfl, by decide +kernel, by decide +kernel, by decide +kernel⟩
theorem clX6_208 : aCalV RX6 208 yX6_existingBells cX6_existingBells 1 (some .int) 0 := ⟨aT_in 368 (w := Cond.methodLink RX6 208 yX6_existingBells) (by decide +kernel) rfl, aT_in 370 (w := Cond.instanceMethod yX6_existingBells) (by decide +kernel) rfl, aT_selI 7 (n := 17) (by decide +kernel), aT_in 1 (w := Cond.initialized (yX6_existingBells).cls) (by decide +kernel) rfl, aT_in 371 (w := Cond.code yX6_existingBells cX6_existingBells 1 (some .int)) (by decide +kernel) rfl, by decide +kernel, by decide +kernel, by decide +kernel⟩
theorem clX6_236 : aCalS RX6 236 yJ9_max_7cf53 cJ9_max_7cf53 2 (some .int) 2 := ⟨aT_in 372 (w := Cond.methodLink RX6 236 yJ9_max_7cf53) (by decide +kernel) rfl, aT_in 345 (w := Cond.static yJ9_max_7cf53) (by decide +kernel) rfl, aT_in 10 (w := Cond.initialized (yJ9_max_7cf53).cls) (by decide +kernel) rfl, aT_in 346 (w := Cond.code yJ9_max_7cf53 cJ9_max_7cf53 2 (some .int)) (by decide +kernel) rfl, by decide +kernel, by decide +kernel, by decide +kernel⟩
theorem clX6_211 : aCalV RX6 211 yX2_strokesOf cX2_strokesOf 4 (some .int) 1 := ⟨aT_in 373 (w := Cond.methodLink RX6 211 yX2_strokesOf) (by decide +kernel) rfl, aT_in 374 (w := Cond.instanceMethod yX2_strokesOf) (by decide +kernel) rfl, aT_in 375 (w := Cond.selects (yX2_strokesOf).cls yX2_strokesOf yX2_strokesOf) (by decide +kernel) rfl, aT_in 6 (w := Cond.initialized (yX2_strokesOf).cls) (by decide +kernel) rfl, aT_in 376 (w := Cond.code yX2_strokesOf cX2_strokesOf 4 (some .int)) (by decide +kernel) rfl, by decide +kernel, by decide +kernel, by decide +kernel⟩
theorem clX2_19 : aCalS RX2 19 yJ6_bitCount_0f7a4 cJ6_bitCount_0f7a4 1 (some .int) 1 := ⟨aT_in 377 (w := Cond.methodLink RX2 19 yJ6_bitCount_0f7a4) (by decide +kernel) rfl, aT_in 378 (w := Cond.static yJ6_bitCount_0f7a4) (by decide +kernel) rfl, aT_in 11 (w := Cond.initialized (yJ6_bitCount_0f7a4).cls) (by decide +kernel) rfl, aT_in 379 (w := Cond.code yJ6_bitCount_0f7a4 cJ6_bitCount_0f7a4 1 (some .int)) (by decide +kernel) rfl, by decide +kernel, by decide +kernel, by decide +kernel⟩
theorem coJ6_265 : Cond.constant RJ6 265 (1431655765) ∈ aT := aT_in 380 (by decide +kernel) rfl
theorem coJ6_266 : Cond.constant RJ6 266 (858993459) ∈ aT := aT_in 381 (by decide +kernel) rfl
theorem coJ6_267 : Cond.constant RJ6 267 (252645135) ∈ aT := aT_in 382 (by decide +kernel) rfl
theorem clX6_338 : aCalV RX6 338 yX6_swingsIn cX6_swingsIn 3 (some .boolean) 1 := ⟨aT_in 383 (w := Cond.methodLink RX6 338 yX6_swingsIn) (by decide +kernel) rfl, aT_in 385 (w := Cond.instanceMethod yX6_swingsIn) (by decide +kernel) rfl, aT_selI 8 (n := 17) (by decide +kernel), aT_in 1 (w := Cond.initialized (yX6_swingsIn).cls) (by decide +kernel) rfl, aT_in 386 (w := Cond.code yX6_swingsIn cX6_swingsIn 3 (some .boolean)) (by decide +kernel) rfl, by decide +kernel, by decide +kernel, by decide +kernel⟩
theorem clX6_226 : aCalV RX6 226 yX6_fitsAlone cX6_fitsAlone 10 (some .boolean) 2 := ⟨aT_in 387 (w := Cond.methodLink RX6 226 yX6_fitsAlone) (by decide +kernel) rfl, aT_in 389 (w := Cond.instanceMethod yX6_fitsAlone) (by decide +kernel) rfl, aT_selI 9 (n := 17) (by decide +kernel), aT_in 1 (w := Cond.initialized (yX6_fitsAlone).cls) (by decide +kernel) rfl, aT_in 390 (w := Cond.code yX6_fitsAlone cX6_fitsAlone 10 (some .boolean)) (by decide +kernel) rfl, by decide +kernel, by decide +kernel, by decide +kernel⟩
theorem clX6_323 : aCalV RX6 323 yX4_rankOf cX4_rankOf 4 (some .int) 1 := ⟨aT_in 391 (w := Cond.methodLink RX6 323 yX4_rankOf) (by decide +kernel) rfl, aT_in 392 (w := Cond.instanceMethod yX4_rankOf) (by decide +kernel) rfl, aT_in 393 (w := Cond.selects (yX4_rankOf).cls yX4_rankOf yX4_rankOf) (by decide +kernel) rfl, aT_in 4 (w := Cond.initialized (yX4_rankOf).cls) (by decide +kernel) rfl, aT_in 394 (w := Cond.code yX4_rankOf cX4_rankOf 4 (some .int)) (by decide +kernel) rfl, by decide +kernel, by decide +kernel, by decide +kernel⟩
theorem clX6_166 : aCalV RX6 166 yX4_isFull cX4_isFull 1 (some .boolean) 0 := ⟨aT_in 395 (w := Cond.methodLink RX6 166 yX4_isFull) (by decide +kernel) rfl, aT_in 396 (w := Cond.instanceMethod yX4_isFull) (by decide +kernel) rfl, aT_in 397 (w := Cond.selects (yX4_isFull).cls yX4_isFull yX4_isFull) (by decide +kernel) rfl, aT_in 4 (w := Cond.initialized (yX4_isFull).cls) (by decide +kernel) rfl, aT_in 398 (w := Cond.code yX4_isFull cX4_isFull 1 (some .boolean)) (by decide +kernel) rfl, by decide +kernel, by decide +kernel, by decide +kernel⟩
theorem clX6_326 : aCalV RX6 326 yX4_clashes cX4_clashes 7 (some .boolean) 5 := ⟨aT_in 399 (w := Cond.methodLink RX6 326 yX4_clashes) (by decide +kernel) rfl, aT_in 400 (w := Cond.instanceMethod yX4_clashes) (by decide +kernel) rfl, aT_in 401 (w := Cond.selects (yX4_clashes).cls yX4_clashes yX4_clashes) (by decide +kernel) rfl, aT_in 4 (w := Cond.initialized (yX4_clashes).cls) (by decide +kernel) rfl, aT_in 402 (w := Cond.code yX4_clashes cX4_clashes 7 (some .boolean)) (by decide +kernel) rfl, by decide +kernel, by decide +kernel, by decide +kernel⟩
theorem clX6_330 : aCalV RX6 330 yX4_overloads cX4_overloads 8 (some .boolean) 4 := ⟨aT_in 403 (w := Cond.methodLink RX6 330 yX4_overloads) (by decide +kernel) rfl, aT_in 404 (w := Cond.instanceMethod yX4_overloads) (by decide +kernel) rfl, aT_in 405 (w := Cond.selects (yX4_overloads).cls yX4_overloads yX4_overloads) (by decide +kernel) rfl, aT_in 4 (w := Cond.initialized (yX4_overloads).cls) (by decide +kernel) rfl, aT_in 406 (w := Cond.code yX4_overloads cX4_overloads 8 (some .boolean)) (by decide +kernel) rfl, by decide +kernel, by decide +kernel, by decide +kernel⟩
theorem clX4_46 : aCalS RX4 46 yJ9_min_7cf53 cJ9_min_7cf53 2 (some .int) 2 := ⟨aT_in 407 (w := Cond.methodLink RX4 46 yJ9_min_7cf53) (by decide +kernel) rfl, aT_in 326 (w := Cond.static yJ9_min_7cf53) (by decide +kernel) rfl, aT_in 10 (w := Cond.initialized (yJ9_min_7cf53).cls) (by decide +kernel) rfl, aT_in 327 (w := Cond.code yJ9_min_7cf53 cJ9_min_7cf53 2 (some .int)) (by decide +kernel) rfl, by decide +kernel, by decide +kernel, by decide +kernel⟩
theorem clX4_52 : aCalS RX4 52 yJ9_max_7cf53 cJ9_max_7cf53 2 (some .int) 2 := ⟨aT_in 408 (w := Cond.methodLink RX4 52 yJ9_max_7cf53) (by decide +kernel) rfl, aT_in 345 (w := Cond.static yJ9_max_7cf53) (by decide +kernel) rfl, aT_in 10 (w := Cond.initialized (yJ9_max_7cf53).cls) (by decide +kernel) rfl, aT_in 346 (w := Cond.code yJ9_max_7cf53 cJ9_max_7cf53 2 (some .int)) (by decide +kernel) rfl, by decide +kernel, by decide +kernel, by decide +kernel⟩
theorem clX6_137 : aCalV RX6 137 yX4_insert cX4_insert 5 none 3 := ⟨aT_in 409 (w := Cond.methodLink RX6 137 yX4_insert) (by decide +kernel) rfl, aT_in 410 (w := Cond.instanceMethod yX4_insert) (by decide +kernel) rfl, aT_in 411 (w := Cond.selects (yX4_insert).cls yX4_insert yX4_insert) (by decide +kernel) rfl, aT_in 4 (w := Cond.initialized (yX4_insert).cls) (by decide +kernel) rfl, aT_in 412 (w := Cond.code yX4_insert cX4_insert 5 none) (by decide +kernel) rfl, by decide +kernel, by decide +kernel, by decide +kernel⟩
theorem clX4_34 : aCalV RX4 34 yX4_isFull cX4_isFull 1 (some .boolean) 0 := ⟨aT_in 413 (w := Cond.methodLink RX4 34 yX4_isFull) (by decide +kernel) rfl, aT_in 396 (w := Cond.instanceMethod yX4_isFull) (by decide +kernel) rfl, aT_in 397 (w := Cond.selects (yX4_isFull).cls yX4_isFull yX4_isFull) (by decide +kernel) rfl, aT_in 4 (w := Cond.initialized (yX4_isFull).cls) (by decide +kernel) rfl, aT_in 398 (w := Cond.code yX4_isFull cX4_isFull 1 (some .boolean)) (by decide +kernel) rfl, by decide +kernel, by decide +kernel, by decide +kernel⟩
theorem clX4_38 : aCalV RX4 38 yX4_rankOf cX4_rankOf 4 (some .int) 1 := ⟨aT_in 414 (w := Cond.methodLink RX4 38 yX4_rankOf) (by decide +kernel) rfl, aT_in 392 (w := Cond.instanceMethod yX4_rankOf) (by decide +kernel) rfl, aT_in 393 (w := Cond.selects (yX4_rankOf).cls yX4_rankOf yX4_rankOf) (by decide +kernel) rfl, aT_in 4 (w := Cond.initialized (yX4_rankOf).cls) (by decide +kernel) rfl, aT_in 394 (w := Cond.code yX4_rankOf cX4_rankOf 4 (some .int)) (by decide +kernel) rfl, by decide +kernel, by decide +kernel, by decide +kernel⟩
theorem clX6_214 : aCalV RX6 214 yX6_draftPattern cX6_draftPattern 11 (some .int) 3 := ⟨aT_in 415 (w := Cond.methodLink RX6 214 yX6_draftPattern) (by decide +kernel) rfl, aT_in 417 (w := Cond.instanceMethod yX6_draftPattern) (by decide +kernel) rfl, aT_selI 10 (n := 17) (by decide +kernel), aT_in 1 (w := Cond.initialized (yX6_draftPattern).cls) (by decide +kernel) rfl, aT_in 418 (w := Cond.code yX6_draftPattern cX6_draftPattern 11 (some .int)) (by decide +kernel) rfl, by decide +kernel, by decide +kernel, by decide +kernel⟩
theorem clX6_218 : aCalV RX6 218 yX4_copyFrom cX4_copyFrom 2 none 1 := ⟨aT_in 419 (w := Cond.methodLink RX6 218 yX4_copyFrom) (by decide +kernel) rfl, aT_in 420 (w := Cond.instanceMethod yX4_copyFrom) (by decide +kernel) rfl, aT_in 421 (w := Cond.selects (yX4_copyFrom).cls yX4_copyFrom yX4_copyFrom) (by decide +kernel) rfl, aT_in 4 (w := Cond.initialized (yX4_copyFrom).cls) (by decide +kernel) rfl, aT_in 422 (w := Cond.code yX4_copyFrom cX4_copyFrom 2 none) (by decide +kernel) rfl, by decide +kernel, by decide +kernel, by decide +kernel⟩
theorem clX6_133 : aCalV RX6 133 yX6_examine cX6_examine 7 (some .int) 3 := ⟨aT_in 423 (w := Cond.methodLink RX6 133 yX6_examine) (by decide +kernel) rfl, aT_in 425 (w := Cond.instanceMethod yX6_examine) (by decide +kernel) rfl, aT_selI 11 (n := 17) (by decide +kernel), aT_in 1 (w := Cond.initialized (yX6_examine).cls) (by decide +kernel) rfl, aT_in 426 (w := Cond.code yX6_examine cX6_examine 7 (some .int)) (by decide +kernel) rfl, by decide +kernel, by decide +kernel, by decide +kernel⟩
theorem clX6_261 : aCalV RX6 261 yX6_dropEntry cX6_dropEntry 4 none 1 := ⟨aT_in 427 (w := Cond.methodLink RX6 261 yX6_dropEntry) (by decide +kernel) rfl, aT_in 429 (w := Cond.instanceMethod yX6_dropEntry) (by decide +kernel) rfl, aT_selI 12 (n := 17) (by decide +kernel), aT_in 1 (w := Cond.initialized (yX6_dropEntry).cls) (by decide +kernel) rfl, aT_in 430 (w := Cond.code yX6_dropEntry cX6_dropEntry 4 none) (by decide +kernel) rfl, by decide +kernel, by decide +kernel, by decide +kernel⟩
theorem clL_45 : aCalV RL 45 yX6_recordLength cX6_recordLength 1 (some .int) 0 := ⟨aT_in 431 (w := Cond.methodLink RL 45 yX6_recordLength) (by decide +kernel) rfl, aT_in 432 (w := Cond.instanceMethod yX6_recordLength) (by decide +kernel) rfl, aT_in 433 (w := Cond.selects (yX6_recordLength).cls yX6_recordLength yX6_recordLength) (by decide +kernel) rfl, aT_in 1 (w := Cond.initialized (yX6_recordLength).cls) (by decide +kernel) rfl, aT_in 434 (w := Cond.code yX6_recordLength cX6_recordLength 1 (some .int)) (by decide +kernel) rfl, by decide +kernel, by decide +kernel, by decide +kernel⟩
theorem clL_49 : aCalV RL 49 yX6_recordBell cX6_recordBell 3 (some .int) 1 := ⟨aT_in 435 (w := Cond.methodLink RL 49 yX6_recordBell) (by decide +kernel) rfl, aT_in 436 (w := Cond.instanceMethod yX6_recordBell) (by decide +kernel) rfl, aT_in 437 (w := Cond.selects (yX6_recordBell).cls yX6_recordBell yX6_recordBell) (by decide +kernel) rfl, aT_in 1 (w := Cond.initialized (yX6_recordBell).cls) (by decide +kernel) rfl, aT_in 438 (w := Cond.code yX6_recordBell cX6_recordBell 3 (some .int)) (by decide +kernel) rfl, by decide +kernel, by decide +kernel, by decide +kernel⟩
theorem clX6_121 : aCalV RX6 121 yX5_slotOf cX5_slotOf 3 (some .int) 1 := ⟨aT_in 439 (w := Cond.methodLink RX6 121 yX5_slotOf) (by decide +kernel) rfl, aT_in 440 (w := Cond.instanceMethod yX5_slotOf) (by decide +kernel) rfl, aT_in 441 (w := Cond.selects (yX5_slotOf).cls yX5_slotOf yX5_slotOf) (by decide +kernel) rfl, aT_in 3 (w := Cond.initialized (yX5_slotOf).cls) (by decide +kernel) rfl, aT_in 442 (w := Cond.code yX5_slotOf cX5_slotOf 3 (some .int)) (by decide +kernel) rfl, by decide +kernel, by decide +kernel, by decide +kernel⟩
theorem clL_53 : aCalV RL 53 yX6_recordTime cX6_recordTime 3 (some .int) 1 := ⟨aT_in 443 (w := Cond.methodLink RL 53 yX6_recordTime) (by decide +kernel) rfl, aT_in 444 (w := Cond.instanceMethod yX6_recordTime) (by decide +kernel) rfl, aT_in 445 (w := Cond.selects (yX6_recordTime).cls yX6_recordTime yX6_recordTime) (by decide +kernel) rfl, aT_in 1 (w := Cond.initialized (yX6_recordTime).cls) (by decide +kernel) rfl, aT_in 446 (w := Cond.code yX6_recordTime cX6_recordTime 3 (some .int)) (by decide +kernel) rfl, by decide +kernel, by decide +kernel, by decide +kernel⟩
theorem clL_57 : aCalV RL 57 yX6_recordClapper cX6_recordClapper 3 (some .int) 1 := ⟨aT_in 447 (w := Cond.methodLink RL 57 yX6_recordClapper) (by decide +kernel) rfl, aT_in 448 (w := Cond.instanceMethod yX6_recordClapper) (by decide +kernel) rfl, aT_in 449 (w := Cond.selects (yX6_recordClapper).cls yX6_recordClapper yX6_recordClapper) (by decide +kernel) rfl, aT_in 1 (w := Cond.initialized (yX6_recordClapper).cls) (by decide +kernel) rfl, aT_in 450 (w := Cond.code yX6_recordClapper cX6_recordClapper 3 (some .int)) (by decide +kernel) rfl, by decide +kernel, by decide +kernel, by decide +kernel⟩
theorem clL_61 : aCalV RL 61 yX6_scheduleStroke cX6_scheduleStroke 5 (some .int) 2 := ⟨aT_in 451 (w := Cond.methodLink RL 61 yX6_scheduleStroke) (by decide +kernel) rfl, aT_in 452 (w := Cond.instanceMethod yX6_scheduleStroke) (by decide +kernel) rfl, aT_in 453 (w := Cond.selects (yX6_scheduleStroke).cls yX6_scheduleStroke yX6_scheduleStroke) (by decide +kernel) rfl, aT_in 1 (w := Cond.initialized (yX6_scheduleStroke).cls) (by decide +kernel) rfl, aT_in 454 (w := Cond.code yX6_scheduleStroke cX6_scheduleStroke 5 (some .int)) (by decide +kernel) rfl, by decide +kernel, by decide +kernel, by decide +kernel⟩
theorem clL_65 : aCalV RL 65 yX6_cancelStroke cX6_cancelStroke 4 (some .int) 2 := ⟨aT_in 455 (w := Cond.methodLink RL 65 yX6_cancelStroke) (by decide +kernel) rfl, aT_in 456 (w := Cond.instanceMethod yX6_cancelStroke) (by decide +kernel) rfl, aT_in 457 (w := Cond.selects (yX6_cancelStroke).cls yX6_cancelStroke yX6_cancelStroke) (by decide +kernel) rfl, aT_in 1 (w := Cond.initialized (yX6_cancelStroke).cls) (by decide +kernel) rfl, aT_in 458 (w := Cond.code yX6_cancelStroke cX6_cancelStroke 4 (some .int)) (by decide +kernel) rfl, by decide +kernel, by decide +kernel, by decide +kernel⟩
theorem clX6_141 : aCalV RX6 141 yX4_indexOf cX4_indexOf 4 (some .int) 2 := ⟨aT_in 459 (w := Cond.methodLink RX6 141 yX4_indexOf) (by decide +kernel) rfl, aT_in 460 (w := Cond.instanceMethod yX4_indexOf) (by decide +kernel) rfl, aT_in 461 (w := Cond.selects (yX4_indexOf).cls yX4_indexOf yX4_indexOf) (by decide +kernel) rfl, aT_in 4 (w := Cond.initialized (yX4_indexOf).cls) (by decide +kernel) rfl, aT_in 462 (w := Cond.code yX4_indexOf cX4_indexOf 4 (some .int)) (by decide +kernel) rfl, by decide +kernel, by decide +kernel, by decide +kernel⟩
theorem clX6_148 : aCalV RX6 148 yX4_removeAt cX4_removeAt 2 none 1 := ⟨aT_in 463 (w := Cond.methodLink RX6 148 yX4_removeAt) (by decide +kernel) rfl, aT_in 315 (w := Cond.instanceMethod yX4_removeAt) (by decide +kernel) rfl, aT_in 316 (w := Cond.selects (yX4_removeAt).cls yX4_removeAt yX4_removeAt) (by decide +kernel) rfl, aT_in 4 (w := Cond.initialized (yX4_removeAt).cls) (by decide +kernel) rfl, aT_in 317 (w := Cond.code yX4_removeAt cX4_removeAt 2 none) (by decide +kernel) rfl, by decide +kernel, by decide +kernel, by decide +kernel⟩
theorem clL_69 : aCalV RL 69 yX6_scheduledCount cX6_scheduledCount 1 (some .int) 0 := ⟨aT_in 464 (w := Cond.methodLink RL 69 yX6_scheduledCount) (by decide +kernel) rfl, aT_in 465 (w := Cond.instanceMethod yX6_scheduledCount) (by decide +kernel) rfl, aT_in 466 (w := Cond.selects (yX6_scheduledCount).cls yX6_scheduledCount yX6_scheduledCount) (by decide +kernel) rfl, aT_in 1 (w := Cond.initialized (yX6_scheduledCount).cls) (by decide +kernel) rfl, aT_in 467 (w := Cond.code yX6_scheduledCount cX6_scheduledCount 1 (some .int)) (by decide +kernel) rfl, by decide +kernel, by decide +kernel, by decide +kernel⟩
theorem clL_73 : aCalV RL 73 yX6_nextStroke cX6_nextStroke 2 (some .int) 1 := ⟨aT_in 468 (w := Cond.methodLink RL 73 yX6_nextStroke) (by decide +kernel) rfl, aT_in 469 (w := Cond.instanceMethod yX6_nextStroke) (by decide +kernel) rfl, aT_in 470 (w := Cond.selects (yX6_nextStroke).cls yX6_nextStroke yX6_nextStroke) (by decide +kernel) rfl, aT_in 1 (w := Cond.initialized (yX6_nextStroke).cls) (by decide +kernel) rfl, aT_in 471 (w := Cond.code yX6_nextStroke cX6_nextStroke 2 (some .int)) (by decide +kernel) rfl, by decide +kernel, by decide +kernel, by decide +kernel⟩
theorem clX6_155 : aCalV RX6 155 yX4_firstTimeOf cX4_firstTimeOf 3 (some .int) 1 := ⟨aT_in 472 (w := Cond.methodLink RX6 155 yX4_firstTimeOf) (by decide +kernel) rfl, aT_in 473 (w := Cond.instanceMethod yX4_firstTimeOf) (by decide +kernel) rfl, aT_in 474 (w := Cond.selects (yX4_firstTimeOf).cls yX4_firstTimeOf yX4_firstTimeOf) (by decide +kernel) rfl, aT_in 4 (w := Cond.initialized (yX4_firstTimeOf).cls) (by decide +kernel) rfl, aT_in 475 (w := Cond.code yX4_firstTimeOf cX4_firstTimeOf 3 (some .int)) (by decide +kernel) rfl, by decide +kernel, by decide +kernel, by decide +kernel⟩
theorem clL_77 : aCalV RL 77 yX6_commandTime cX6_commandTime 2 (some .int) 1 := ⟨aT_in 476 (w := Cond.methodLink RL 77 yX6_commandTime) (by decide +kernel) rfl, aT_in 477 (w := Cond.instanceMethod yX6_commandTime) (by decide +kernel) rfl, aT_in 478 (w := Cond.selects (yX6_commandTime).cls yX6_commandTime yX6_commandTime) (by decide +kernel) rfl, aT_in 1 (w := Cond.initialized (yX6_commandTime).cls) (by decide +kernel) rfl, aT_in 479 (w := Cond.code yX6_commandTime cX6_commandTime 2 (some .int)) (by decide +kernel) rfl, by decide +kernel, by decide +kernel, by decide +kernel⟩
theorem clL_81 : aCalV RL 81 yX6_commandBell cX6_commandBell 2 (some .int) 1 := ⟨aT_in 480 (w := Cond.methodLink RL 81 yX6_commandBell) (by decide +kernel) rfl, aT_in 481 (w := Cond.instanceMethod yX6_commandBell) (by decide +kernel) rfl, aT_in 482 (w := Cond.selects (yX6_commandBell).cls yX6_commandBell yX6_commandBell) (by decide +kernel) rfl, aT_in 1 (w := Cond.initialized (yX6_commandBell).cls) (by decide +kernel) rfl, aT_in 483 (w := Cond.code yX6_commandBell cX6_commandBell 2 (some .int)) (by decide +kernel) rfl, by decide +kernel, by decide +kernel, by decide +kernel⟩
theorem clL_85 : aCalV RL 85 yX6_movingHammers cX6_movingHammers 2 (some .int) 1 := ⟨aT_in 484 (w := Cond.methodLink RL 85 yX6_movingHammers) (by decide +kernel) rfl, aT_in 485 (w := Cond.instanceMethod yX6_movingHammers) (by decide +kernel) rfl, aT_in 486 (w := Cond.selects (yX6_movingHammers).cls yX6_movingHammers yX6_movingHammers) (by decide +kernel) rfl, aT_in 1 (w := Cond.initialized (yX6_movingHammers).cls) (by decide +kernel) rfl, aT_in 487 (w := Cond.code yX6_movingHammers cX6_movingHammers 2 (some .int)) (by decide +kernel) rfl, by decide +kernel, by decide +kernel, by decide +kernel⟩
theorem clX6_159 : aCalV RX6 159 yX4_movingAt cX4_movingAt 4 (some .int) 1 := ⟨aT_in 488 (w := Cond.methodLink RX6 159 yX4_movingAt) (by decide +kernel) rfl, aT_in 489 (w := Cond.instanceMethod yX4_movingAt) (by decide +kernel) rfl, aT_in 490 (w := Cond.selects (yX4_movingAt).cls yX4_movingAt yX4_movingAt) (by decide +kernel) rfl, aT_in 4 (w := Cond.initialized (yX4_movingAt).cls) (by decide +kernel) rfl, aT_in 491 (w := Cond.code yX4_movingAt cX4_movingAt 4 (some .int)) (by decide +kernel) rfl, by decide +kernel, by decide +kernel, by decide +kernel⟩
theorem clL_89 : aCalV RL 89 yX6_earliestStroke cX6_earliestStroke 5 (some .int) 2 := ⟨aT_in 492 (w := Cond.methodLink RL 89 yX6_earliestStroke) (by decide +kernel) rfl, aT_in 493 (w := Cond.instanceMethod yX6_earliestStroke) (by decide +kernel) rfl, aT_in 494 (w := Cond.selects (yX6_earliestStroke).cls yX6_earliestStroke yX6_earliestStroke) (by decide +kernel) rfl, aT_in 1 (w := Cond.initialized (yX6_earliestStroke).cls) (by decide +kernel) rfl, aT_in 495 (w := Cond.code yX6_earliestStroke cX6_earliestStroke 5 (some .int)) (by decide +kernel) rfl, by decide +kernel, by decide +kernel, by decide +kernel⟩
theorem clX6_170 : aCalS RX6 170 yJ9_min_7cf53 cJ9_min_7cf53 2 (some .int) 2 := ⟨aT_in 496 (w := Cond.methodLink RX6 170 yJ9_min_7cf53) (by decide +kernel) rfl, aT_in 326 (w := Cond.static yJ9_min_7cf53) (by decide +kernel) rfl, aT_in 10 (w := Cond.initialized (yJ9_min_7cf53).cls) (by decide +kernel) rfl, aT_in 327 (w := Cond.code yJ9_min_7cf53 cJ9_min_7cf53 2 (some .int)) (by decide +kernel) rfl, by decide +kernel, by decide +kernel, by decide +kernel⟩
theorem clL_93 : aCalV RL 93 yX6_appendBytes cX6_appendBytes 6 (some .int) 5 := ⟨aT_in 497 (w := Cond.methodLink RL 93 yX6_appendBytes) (by decide +kernel) rfl, aT_in 498 (w := Cond.instanceMethod yX6_appendBytes) (by decide +kernel) rfl, aT_in 499 (w := Cond.selects (yX6_appendBytes).cls yX6_appendBytes yX6_appendBytes) (by decide +kernel) rfl, aT_in 1 (w := Cond.initialized (yX6_appendBytes).cls) (by decide +kernel) rfl, aT_in 500 (w := Cond.code yX6_appendBytes cX6_appendBytes 6 (some .int)) (by decide +kernel) rfl, by decide +kernel, by decide +kernel, by decide +kernel⟩
theorem clX6_178 : aCalV RX6 178 yX3_append cX3_append 3 none 1 := ⟨aT_in 501 (w := Cond.methodLink RX6 178 yX3_append) (by decide +kernel) rfl, aT_in 502 (w := Cond.instanceMethod yX3_append) (by decide +kernel) rfl, aT_in 503 (w := Cond.selects (yX3_append).cls yX3_append yX3_append) (by decide +kernel) rfl, aT_in 5 (w := Cond.initialized (yX3_append).cls) (by decide +kernel) rfl, aT_in 504 (w := Cond.code yX3_append cX3_append 3 none) (by decide +kernel) rfl, by decide +kernel, by decide +kernel, by decide +kernel⟩
theorem clL_98 : aCalV RL 98 yX6_loadPattern cX6_loadPattern 4 (some .int) 2 := ⟨aT_in 505 (w := Cond.methodLink RL 98 yX6_loadPattern) (by decide +kernel) rfl, aT_in 506 (w := Cond.instanceMethod yX6_loadPattern) (by decide +kernel) rfl, aT_in 507 (w := Cond.selects (yX6_loadPattern).cls yX6_loadPattern yX6_loadPattern) (by decide +kernel) rfl, aT_in 1 (w := Cond.initialized (yX6_loadPattern).cls) (by decide +kernel) rfl, aT_in 508 (w := Cond.code yX6_loadPattern cX6_loadPattern 4 (some .int)) (by decide +kernel) rfl, by decide +kernel, by decide +kernel, by decide +kernel⟩
theorem clX6_181 : aCalS RX6 181 yX6_isPattern cX6_isPattern 1 (some .boolean) 1 := ⟨aT_in 509 (w := Cond.methodLink RX6 181 yX6_isPattern) (by decide +kernel) rfl, aT_in 510 (w := Cond.static yX6_isPattern) (by decide +kernel) rfl, aT_in 1 (w := Cond.initialized (yX6_isPattern).cls) (by decide +kernel) rfl, aT_in 511 (w := Cond.code yX6_isPattern cX6_isPattern 1 (some .boolean)) (by decide +kernel) rfl, by decide +kernel, by decide +kernel, by decide +kernel⟩
theorem clX6_184 : aCalV RX6 184 yX3_read cX3_read 3 none 1 := ⟨aT_in 512 (w := Cond.methodLink RX6 184 yX3_read) (by decide +kernel) rfl, aT_in 513 (w := Cond.instanceMethod yX3_read) (by decide +kernel) rfl, aT_in 514 (w := Cond.selects (yX3_read).cls yX3_read yX3_read) (by decide +kernel) rfl, aT_in 5 (w := Cond.initialized (yX3_read).cls) (by decide +kernel) rfl, aT_in 515 (w := Cond.code yX3_read cX3_read 3 none) (by decide +kernel) rfl, by decide +kernel, by decide +kernel, by decide +kernel⟩
theorem clX3_46 : aCalS RX3 46 yJ9_min_7cf53 cJ9_min_7cf53 2 (some .int) 2 := ⟨aT_in 516 (w := Cond.methodLink RX3 46 yJ9_min_7cf53) (by decide +kernel) rfl, aT_in 326 (w := Cond.static yJ9_min_7cf53) (by decide +kernel) rfl, aT_in 10 (w := Cond.initialized (yJ9_min_7cf53).cls) (by decide +kernel) rfl, aT_in 327 (w := Cond.code yJ9_min_7cf53 cJ9_min_7cf53 2 (some .int)) (by decide +kernel) rfl, by decide +kernel, by decide +kernel, by decide +kernel⟩
theorem clX3_52 : aCalV RX3 52 yX3_readNext cX3_readNext 2 none 0 := ⟨aT_in 517 (w := Cond.methodLink RX3 52 yX3_readNext) (by decide +kernel) rfl, aT_in 519 (w := Cond.instanceMethod yX3_readNext) (by decide +kernel) rfl, aT_selI 13 (n := 11) (by decide +kernel), aT_in 5 (w := Cond.initialized (yX3_readNext).cls) (by decide +kernel) rfl, aT_in 520 (w := Cond.code yX3_readNext cX3_readNext 2 none) (by decide +kernel) rfl, by decide +kernel, by decide +kernel, by decide +kernel⟩
theorem clX3_59 : aCalV RX3 59 yX3_signAt cX3_signAt 2 (some .int) 1 := ⟨aT_in 521 (w := Cond.methodLink RX3 59 yX3_signAt) (by decide +kernel) rfl, aT_in 523 (w := Cond.instanceMethod yX3_signAt) (by decide +kernel) rfl, aT_selI 14 (n := 11) (by decide +kernel), aT_in 5 (w := Cond.initialized (yX3_signAt).cls) (by decide +kernel) rfl, aT_in 524 (w := Cond.code yX3_signAt cX3_signAt 2 (some .int)) (by decide +kernel) rfl, by decide +kernel, by decide +kernel, by decide +kernel⟩
theorem clX3_63 : aCalV RX3 63 yX3_openGroup cX3_openGroup 1 none 0 := ⟨aT_in 525 (w := Cond.methodLink RX3 63 yX3_openGroup) (by decide +kernel) rfl, aT_in 527 (w := Cond.instanceMethod yX3_openGroup) (by decide +kernel) rfl, aT_selI 15 (n := 11) (by decide +kernel), aT_in 5 (w := Cond.initialized (yX3_openGroup).cls) (by decide +kernel) rfl, aT_in 528 (w := Cond.code yX3_openGroup cX3_openGroup 1 none) (by decide +kernel) rfl, by decide +kernel, by decide +kernel, by decide +kernel⟩
theorem clX3_55 : aCalV RX3 55 yX3_fail cX3_fail 3 none 2 := ⟨aT_in 529 (w := Cond.methodLink RX3 55 yX3_fail) (by decide +kernel) rfl, aT_in 531 (w := Cond.instanceMethod yX3_fail) (by decide +kernel) rfl, aT_selI 16 (n := 11) (by decide +kernel), aT_in 5 (w := Cond.initialized (yX3_fail).cls) (by decide +kernel) rfl, aT_in 532 (w := Cond.code yX3_fail cX3_fail 3 none) (by decide +kernel) rfl, by decide +kernel, by decide +kernel, by decide +kernel⟩
theorem clX3_66 : aCalV RX3 66 yX3_closeGroup cX3_closeGroup 2 none 0 := ⟨aT_in 533 (w := Cond.methodLink RX3 66 yX3_closeGroup) (by decide +kernel) rfl, aT_in 535 (w := Cond.instanceMethod yX3_closeGroup) (by decide +kernel) rfl, aT_selI 17 (n := 11) (by decide +kernel), aT_in 5 (w := Cond.initialized (yX3_closeGroup).cls) (by decide +kernel) rfl, aT_in 536 (w := Cond.code yX3_closeGroup cX3_closeGroup 2 none) (by decide +kernel) rfl, by decide +kernel, by decide +kernel, by decide +kernel⟩
theorem clX3_76 : aCalS RX3 76 yX3_isDigit cX3_isDigit 1 (some .boolean) 1 := ⟨aT_in 537 (w := Cond.methodLink RX3 76 yX3_isDigit) (by decide +kernel) rfl, aT_in 538 (w := Cond.static yX3_isDigit) (by decide +kernel) rfl, aT_in 5 (w := Cond.initialized (yX3_isDigit).cls) (by decide +kernel) rfl, aT_in 539 (w := Cond.code yX3_isDigit cX3_isDigit 1 (some .boolean)) (by decide +kernel) rfl, by decide +kernel, by decide +kernel, by decide +kernel⟩
theorem clX3_79 : aCalV RX3 79 yX3_readNumber cX3_readNumber 3 (some .int) 0 := ⟨aT_in 540 (w := Cond.methodLink RX3 79 yX3_readNumber) (by decide +kernel) rfl, aT_in 542 (w := Cond.instanceMethod yX3_readNumber) (by decide +kernel) rfl, aT_selI 18 (n := 11) (by decide +kernel), aT_in 5 (w := Cond.initialized (yX3_readNumber).cls) (by decide +kernel) rfl, aT_in 543 (w := Cond.code yX3_readNumber cX3_readNumber 3 (some .int)) (by decide +kernel) rfl, by decide +kernel, by decide +kernel, by decide +kernel⟩
theorem clX3_83 : aCalV RX3 83 yX3_repeatGroup cX3_repeatGroup 6 none 2 := ⟨aT_in 544 (w := Cond.methodLink RX3 83 yX3_repeatGroup) (by decide +kernel) rfl, aT_in 546 (w := Cond.instanceMethod yX3_repeatGroup) (by decide +kernel) rfl, aT_selI 19 (n := 11) (by decide +kernel), aT_in 5 (w := Cond.initialized (yX3_repeatGroup).cls) (by decide +kernel) rfl, aT_in 547 (w := Cond.code yX3_repeatGroup cX3_repeatGroup 6 none) (by decide +kernel) rfl, by decide +kernel, by decide +kernel, by decide +kernel⟩
theorem clX3_69 : aCalS RX3 69 yX3_isLetter cX3_isLetter 1 (some .boolean) 1 := ⟨aT_in 549 (w := Cond.methodLink RX3 69 yX3_isLetter) (by decide +kernel) rfl, aT_in 550 (w := Cond.static yX3_isLetter) (by decide +kernel) rfl, aT_in 5 (w := Cond.initialized (yX3_isLetter).cls) (by decide +kernel) rfl, aT_in 551 (w := Cond.code yX3_isLetter cX3_isLetter 1 (some .boolean)) (by decide +kernel) rfl, by decide +kernel, by decide +kernel, by decide +kernel⟩
theorem clX3_73 : aCalV RX3 73 yX3_readStep cX3_readStep 5 none 0 := ⟨aT_in 552 (w := Cond.methodLink RX3 73 yX3_readStep) (by decide +kernel) rfl, aT_in 554 (w := Cond.instanceMethod yX3_readStep) (by decide +kernel) rfl, aT_selI 20 (n := 11) (by decide +kernel), aT_in 5 (w := Cond.initialized (yX3_readStep).cls) (by decide +kernel) rfl, aT_in 555 (w := Cond.code yX3_readStep cX3_readStep 5 none) (by decide +kernel) rfl, by decide +kernel, by decide +kernel, by decide +kernel⟩
theorem clL_102 : aCalV RL 102 yX6_patternError cX6_patternError 1 (some .int) 0 := ⟨aT_in 557 (w := Cond.methodLink RL 102 yX6_patternError) (by decide +kernel) rfl, aT_in 558 (w := Cond.instanceMethod yX6_patternError) (by decide +kernel) rfl, aT_in 559 (w := Cond.selects (yX6_patternError).cls yX6_patternError yX6_patternError) (by decide +kernel) rfl, aT_in 1 (w := Cond.initialized (yX6_patternError).cls) (by decide +kernel) rfl, aT_in 560 (w := Cond.code yX6_patternError cX6_patternError 1 (some .int)) (by decide +kernel) rfl, by decide +kernel, by decide +kernel, by decide +kernel⟩
theorem clL_106 : aCalV RL 106 yX6_patternErrorPosition cX6_patternErrorPosition 1 (some .int) 0 := ⟨aT_in 561 (w := Cond.methodLink RL 106 yX6_patternErrorPosition) (by decide +kernel) rfl, aT_in 562 (w := Cond.instanceMethod yX6_patternErrorPosition) (by decide +kernel) rfl, aT_in 563 (w := Cond.selects (yX6_patternErrorPosition).cls yX6_patternErrorPosition yX6_patternErrorPosition) (by decide +kernel) rfl, aT_in 1 (w := Cond.initialized (yX6_patternErrorPosition).cls) (by decide +kernel) rfl, aT_in 564 (w := Cond.code yX6_patternErrorPosition cX6_patternErrorPosition 1 (some .int)) (by decide +kernel) rfl, by decide +kernel, by decide +kernel, by decide +kernel⟩
theorem clL_110 : aCalV RL 110 yX6_stepBells cX6_stepBells 4 (some .int) 2 := ⟨aT_in 565 (w := Cond.methodLink RL 110 yX6_stepBells) (by decide +kernel) rfl, aT_in 566 (w := Cond.instanceMethod yX6_stepBells) (by decide +kernel) rfl, aT_in 567 (w := Cond.selects (yX6_stepBells).cls yX6_stepBells yX6_stepBells) (by decide +kernel) rfl, aT_in 1 (w := Cond.initialized (yX6_stepBells).cls) (by decide +kernel) rfl, aT_in 568 (w := Cond.code yX6_stepBells cX6_stepBells 4 (some .int)) (by decide +kernel) rfl, by decide +kernel, by decide +kernel, by decide +kernel⟩
theorem clL_114 : aCalV RL 114 yX6_patternStrokes cX6_patternStrokes 3 (some .int) 1 := ⟨aT_in 569 (w := Cond.methodLink RL 114 yX6_patternStrokes) (by decide +kernel) rfl, aT_in 570 (w := Cond.instanceMethod yX6_patternStrokes) (by decide +kernel) rfl, aT_in 571 (w := Cond.selects (yX6_patternStrokes).cls yX6_patternStrokes yX6_patternStrokes) (by decide +kernel) rfl, aT_in 1 (w := Cond.initialized (yX6_patternStrokes).cls) (by decide +kernel) rfl, aT_in 572 (w := Cond.code yX6_patternStrokes cX6_patternStrokes 3 (some .int)) (by decide +kernel) rfl, by decide +kernel, by decide +kernel, by decide +kernel⟩
theorem clL_118 : aCalV RL 118 yX6_play cX6_play 5 (some .int) 3 := ⟨aT_in 573 (w := Cond.methodLink RL 118 yX6_play) (by decide +kernel) rfl, aT_in 574 (w := Cond.instanceMethod yX6_play) (by decide +kernel) rfl, aT_in 575 (w := Cond.selects (yX6_play).cls yX6_play yX6_play) (by decide +kernel) rfl, aT_in 1 (w := Cond.initialized (yX6_play).cls) (by decide +kernel) rfl, aT_in 576 (w := Cond.code yX6_play cX6_play 5 (some .int)) (by decide +kernel) rfl, by decide +kernel, by decide +kernel, by decide +kernel⟩
theorem clL_123 : aCalV RL 123 yX6_weave cX6_weave 5 (some .int) 4 := ⟨aT_in 577 (w := Cond.methodLink RL 123 yX6_weave) (by decide +kernel) rfl, aT_in 578 (w := Cond.instanceMethod yX6_weave) (by decide +kernel) rfl, aT_in 579 (w := Cond.selects (yX6_weave).cls yX6_weave yX6_weave) (by decide +kernel) rfl, aT_in 1 (w := Cond.initialized (yX6_weave).cls) (by decide +kernel) rfl, aT_in 580 (w := Cond.code yX6_weave cX6_weave 5 (some .int)) (by decide +kernel) rfl, by decide +kernel, by decide +kernel, by decide +kernel⟩
theorem clL_127 : aCalV RL 127 yX6_fastestTicks cX6_fastestTicks 3 (some .int) 1 := ⟨aT_in 581 (w := Cond.methodLink RL 127 yX6_fastestTicks) (by decide +kernel) rfl, aT_in 582 (w := Cond.instanceMethod yX6_fastestTicks) (by decide +kernel) rfl, aT_in 583 (w := Cond.selects (yX6_fastestTicks).cls yX6_fastestTicks yX6_fastestTicks) (by decide +kernel) rfl, aT_in 1 (w := Cond.initialized (yX6_fastestTicks).cls) (by decide +kernel) rfl, aT_in 584 (w := Cond.code yX6_fastestTicks cX6_fastestTicks 3 (some .int)) (by decide +kernel) rfl, by decide +kernel, by decide +kernel, by decide +kernel⟩
theorem clL_131 : aCalV RL 131 yX6_powerNeeded cX6_powerNeeded 6 (some .int) 2 := ⟨aT_in 585 (w := Cond.methodLink RL 131 yX6_powerNeeded) (by decide +kernel) rfl, aT_in 586 (w := Cond.instanceMethod yX6_powerNeeded) (by decide +kernel) rfl, aT_in 587 (w := Cond.selects (yX6_powerNeeded).cls yX6_powerNeeded yX6_powerNeeded) (by decide +kernel) rfl, aT_in 1 (w := Cond.initialized (yX6_powerNeeded).cls) (by decide +kernel) rfl, aT_in 588 (w := Cond.code yX6_powerNeeded cX6_powerNeeded 6 (some .int)) (by decide +kernel) rfl, by decide +kernel, by decide +kernel, by decide +kernel⟩
theorem clX6_230 : aCalV RX6 230 yX6_listMovingBells cX6_listMovingBells 4 none 0 := ⟨aT_in 589 (w := Cond.methodLink RX6 230 yX6_listMovingBells) (by decide +kernel) rfl, aT_in 591 (w := Cond.instanceMethod yX6_listMovingBells) (by decide +kernel) rfl, aT_selI 21 (n := 17) (by decide +kernel), aT_in 1 (w := Cond.initialized (yX6_listMovingBells).cls) (by decide +kernel) rfl, aT_in 592 (w := Cond.code yX6_listMovingBells cX6_listMovingBells 4 none) (by decide +kernel) rfl, by decide +kernel, by decide +kernel, by decide +kernel⟩
theorem clX6_233 : aCalV RX6 233 yX6_movingBefore cX6_movingBefore 7 (some .int) 3 := ⟨aT_in 593 (w := Cond.methodLink RX6 233 yX6_movingBefore) (by decide +kernel) rfl, aT_in 595 (w := Cond.instanceMethod yX6_movingBefore) (by decide +kernel) rfl, aT_selI 22 (n := 17) (by decide +kernel), aT_in 1 (w := Cond.initialized (yX6_movingBefore).cls) (by decide +kernel) rfl, aT_in 596 (w := Cond.code yX6_movingBefore cX6_movingBefore 7 (some .int)) (by decide +kernel) rfl, by decide +kernel, by decide +kernel, by decide +kernel⟩
theorem clX6_342 : aCalS RX6 342 yJ6_bitCount_0f7a4 cJ6_bitCount_0f7a4 1 (some .int) 1 := ⟨aT_in 597 (w := Cond.methodLink RX6 342 yJ6_bitCount_0f7a4) (by decide +kernel) rfl, aT_in 378 (w := Cond.static yJ6_bitCount_0f7a4) (by decide +kernel) rfl, aT_in 11 (w := Cond.initialized (yJ6_bitCount_0f7a4).cls) (by decide +kernel) rfl, aT_in 379 (w := Cond.code yJ6_bitCount_0f7a4 cJ6_bitCount_0f7a4 1 (some .int)) (by decide +kernel) rfl, by decide +kernel, by decide +kernel, by decide +kernel⟩
theorem clL_135 : aCalV RL 135 yX6_addEntry cX6_addEntry 7 (some .int) 5 := ⟨aT_in 598 (w := Cond.methodLink RL 135 yX6_addEntry) (by decide +kernel) rfl, aT_in 599 (w := Cond.instanceMethod yX6_addEntry) (by decide +kernel) rfl, aT_in 600 (w := Cond.selects (yX6_addEntry).cls yX6_addEntry yX6_addEntry) (by decide +kernel) rfl, aT_in 1 (w := Cond.initialized (yX6_addEntry).cls) (by decide +kernel) rfl, aT_in 601 (w := Cond.code yX6_addEntry cX6_addEntry 7 (some .int)) (by decide +kernel) rfl, by decide +kernel, by decide +kernel, by decide +kernel⟩
theorem coX6_239 : Cond.constant RX6 239 (50000) ∈ aT := aT_in 602 (by decide +kernel) rfl
theorem clL_139 : aCalV RL 139 yX6_removeEntry cX6_removeEntry 2 (some .int) 1 := ⟨aT_in 603 (w := Cond.methodLink RL 139 yX6_removeEntry) (by decide +kernel) rfl, aT_in 604 (w := Cond.instanceMethod yX6_removeEntry) (by decide +kernel) rfl, aT_in 605 (w := Cond.selects (yX6_removeEntry).cls yX6_removeEntry yX6_removeEntry) (by decide +kernel) rfl, aT_in 1 (w := Cond.initialized (yX6_removeEntry).cls) (by decide +kernel) rfl, aT_in 606 (w := Cond.code yX6_removeEntry cX6_removeEntry 2 (some .int)) (by decide +kernel) rfl, by decide +kernel, by decide +kernel, by decide +kernel⟩
theorem clX6_258 : aCalV RX6 258 yX6_isEntry cX6_isEntry 2 (some .boolean) 1 := ⟨aT_in 607 (w := Cond.methodLink RX6 258 yX6_isEntry) (by decide +kernel) rfl, aT_in 609 (w := Cond.instanceMethod yX6_isEntry) (by decide +kernel) rfl, aT_selI 23 (n := 17) (by decide +kernel), aT_in 1 (w := Cond.initialized (yX6_isEntry).cls) (by decide +kernel) rfl, aT_in 610 (w := Cond.code yX6_isEntry cX6_isEntry 2 (some .boolean)) (by decide +kernel) rfl, by decide +kernel, by decide +kernel, by decide +kernel⟩
theorem clL_143 : aCalV RL 143 yX6_entryCount cX6_entryCount 1 (some .int) 0 := ⟨aT_in 611 (w := Cond.methodLink RL 143 yX6_entryCount) (by decide +kernel) rfl, aT_in 612 (w := Cond.instanceMethod yX6_entryCount) (by decide +kernel) rfl, aT_in 613 (w := Cond.selects (yX6_entryCount).cls yX6_entryCount yX6_entryCount) (by decide +kernel) rfl, aT_in 1 (w := Cond.initialized (yX6_entryCount).cls) (by decide +kernel) rfl, aT_in 614 (w := Cond.code yX6_entryCount cX6_entryCount 1 (some .int)) (by decide +kernel) rfl, by decide +kernel, by decide +kernel, by decide +kernel⟩
theorem clL_147 : aCalV RL 147 yX6_dueTime cX6_dueTime 2 (some .int) 1 := ⟨aT_in 615 (w := Cond.methodLink RL 147 yX6_dueTime) (by decide +kernel) rfl, aT_in 616 (w := Cond.instanceMethod yX6_dueTime) (by decide +kernel) rfl, aT_in 617 (w := Cond.selects (yX6_dueTime).cls yX6_dueTime yX6_dueTime) (by decide +kernel) rfl, aT_in 1 (w := Cond.initialized (yX6_dueTime).cls) (by decide +kernel) rfl, aT_in 618 (w := Cond.code yX6_dueTime cX6_dueTime 2 (some .int)) (by decide +kernel) rfl, by decide +kernel, by decide +kernel, by decide +kernel⟩
theorem clL_151 : aCalV RL 151 yX6_lastShift cX6_lastShift 2 (some .int) 1 := ⟨aT_in 619 (w := Cond.methodLink RL 151 yX6_lastShift) (by decide +kernel) rfl, aT_in 620 (w := Cond.instanceMethod yX6_lastShift) (by decide +kernel) rfl, aT_in 621 (w := Cond.selects (yX6_lastShift).cls yX6_lastShift yX6_lastShift) (by decide +kernel) rfl, aT_in 1 (w := Cond.initialized (yX6_lastShift).cls) (by decide +kernel) rfl, aT_in 622 (w := Cond.code yX6_lastShift cX6_lastShift 2 (some .int)) (by decide +kernel) rfl, by decide +kernel, by decide +kernel, by decide +kernel⟩
theorem clL_155 : aCalV RL 155 yX6_failureCount cX6_failureCount 1 (some .int) 0 := ⟨aT_in 623 (w := Cond.methodLink RL 155 yX6_failureCount) (by decide +kernel) rfl, aT_in 624 (w := Cond.instanceMethod yX6_failureCount) (by decide +kernel) rfl, aT_in 625 (w := Cond.selects (yX6_failureCount).cls yX6_failureCount yX6_failureCount) (by decide +kernel) rfl, aT_in 1 (w := Cond.initialized (yX6_failureCount).cls) (by decide +kernel) rfl, aT_in 626 (w := Cond.code yX6_failureCount cX6_failureCount 1 (some .int)) (by decide +kernel) rfl, by decide +kernel, by decide +kernel, by decide +kernel⟩
theorem clL_159 : aCalV RL 159 yX6_startSwing cX6_startSwing 3 (some .int) 2 := ⟨aT_in 627 (w := Cond.methodLink RL 159 yX6_startSwing) (by decide +kernel) rfl, aT_in 628 (w := Cond.instanceMethod yX6_startSwing) (by decide +kernel) rfl, aT_in 629 (w := Cond.selects (yX6_startSwing).cls yX6_startSwing yX6_startSwing) (by decide +kernel) rfl, aT_in 1 (w := Cond.initialized (yX6_startSwing).cls) (by decide +kernel) rfl, aT_in 630 (w := Cond.code yX6_startSwing cX6_startSwing 3 (some .int)) (by decide +kernel) rfl, by decide +kernel, by decide +kernel, by decide +kernel⟩
theorem clX6_264 : aCalV RX6 264 yX6_foreseeShakes cX6_foreseeShakes 3 none 1 := ⟨aT_in 631 (w := Cond.methodLink RX6 264 yX6_foreseeShakes) (by decide +kernel) rfl, aT_in 633 (w := Cond.instanceMethod yX6_foreseeShakes) (by decide +kernel) rfl, aT_selI 24 (n := 17) (by decide +kernel), aT_in 1 (w := Cond.initialized (yX6_foreseeShakes).cls) (by decide +kernel) rfl, aT_in 634 (w := Cond.code yX6_foreseeShakes cX6_foreseeShakes 3 none) (by decide +kernel) rfl, by decide +kernel, by decide +kernel, by decide +kernel⟩
theorem clX6_299 : aCalS RX6 299 yX6_clear cX6_clear 2 none 1 := ⟨aT_in 635 (w := Cond.methodLink RX6 299 yX6_clear) (by decide +kernel) rfl, aT_in 636 (w := Cond.static yX6_clear) (by decide +kernel) rfl, aT_in 1 (w := Cond.initialized (yX6_clear).cls) (by decide +kernel) rfl, aT_in 637 (w := Cond.code yX6_clear cX6_clear 2 none) (by decide +kernel) rfl, by decide +kernel, by decide +kernel, by decide +kernel⟩
theorem clX6_267 : aCalV RX6 267 yX0_copyFrom cX0_copyFrom 2 none 1 := ⟨aT_in 638 (w := Cond.methodLink RX6 267 yX0_copyFrom) (by decide +kernel) rfl, aT_in 639 (w := Cond.instanceMethod yX0_copyFrom) (by decide +kernel) rfl, aT_in 640 (w := Cond.selects (yX0_copyFrom).cls yX0_copyFrom yX0_copyFrom) (by decide +kernel) rfl, aT_in 2 (w := Cond.initialized (yX0_copyFrom).cls) (by decide +kernel) rfl, aT_in 641 (w := Cond.code yX0_copyFrom cX0_copyFrom 2 none) (by decide +kernel) rfl, by decide +kernel, by decide +kernel, by decide +kernel⟩
theorem clX6_274 : aCalV RX6 274 yX0_addForces cX0_addForces 5 none 3 := ⟨aT_in 642 (w := Cond.methodLink RX6 274 yX0_addForces) (by decide +kernel) rfl, aT_in 643 (w := Cond.instanceMethod yX0_addForces) (by decide +kernel) rfl, aT_in 644 (w := Cond.selects (yX0_addForces).cls yX0_addForces yX0_addForces) (by decide +kernel) rfl, aT_in 2 (w := Cond.initialized (yX0_addForces).cls) (by decide +kernel) rfl, aT_in 645 (w := Cond.code yX0_addForces cX0_addForces 5 none) (by decide +kernel) rfl, by decide +kernel, by decide +kernel, by decide +kernel⟩
theorem clX0_62 : aCalV RX0 62 yX0_turnsAt cX0_turnsAt 2 (some .boolean) 1 := ⟨aT_in 646 (w := Cond.methodLink RX0 62 yX0_turnsAt) (by decide +kernel) rfl, aT_in 333 (w := Cond.instanceMethod yX0_turnsAt) (by decide +kernel) rfl, aT_in 334 (w := Cond.selects (yX0_turnsAt).cls yX0_turnsAt yX0_turnsAt) (by decide +kernel) rfl, aT_in 2 (w := Cond.initialized (yX0_turnsAt).cls) (by decide +kernel) rfl, aT_in 335 (w := Cond.code yX0_turnsAt cX0_turnsAt 2 (some .boolean)) (by decide +kernel) rfl, by decide +kernel, by decide +kernel, by decide +kernel⟩
theorem clX0_66 : aCalV RX0 66 yX0_turn cX0_turn 1 none 0 := ⟨aT_in 647 (w := Cond.methodLink RX0 66 yX0_turn) (by decide +kernel) rfl, aT_in 341 (w := Cond.instanceMethod yX0_turn) (by decide +kernel) rfl, aT_in 342 (w := Cond.selects (yX0_turn).cls yX0_turn yX0_turn) (by decide +kernel) rfl, aT_in 2 (w := Cond.initialized (yX0_turn).cls) (by decide +kernel) rfl, aT_in 343 (w := Cond.code yX0_turn cX0_turn 1 none) (by decide +kernel) rfl, by decide +kernel, by decide +kernel, by decide +kernel⟩
theorem clX0_69 : aCalV RX0 69 yX0_forceAt cX0_forceAt 3 (some .int) 1 := ⟨aT_in 648 (w := Cond.methodLink RX0 69 yX0_forceAt) (by decide +kernel) rfl, aT_in 649 (w := Cond.instanceMethod yX0_forceAt) (by decide +kernel) rfl, aT_in 650 (w := Cond.selects (yX0_forceAt).cls yX0_forceAt yX0_forceAt) (by decide +kernel) rfl, aT_in 2 (w := Cond.initialized (yX0_forceAt).cls) (by decide +kernel) rfl, aT_in 651 (w := Cond.code yX0_forceAt cX0_forceAt 3 (some .int)) (by decide +kernel) rfl, by decide +kernel, by decide +kernel, by decide +kernel⟩
theorem clX6_270 : aCalV RX6 270 yX0_start cX0_start 3 none 2 := ⟨aT_in 652 (w := Cond.methodLink RX6 270 yX0_start) (by decide +kernel) rfl, aT_in 653 (w := Cond.instanceMethod yX0_start) (by decide +kernel) rfl, aT_in 654 (w := Cond.selects (yX0_start).cls yX0_start yX0_start) (by decide +kernel) rfl, aT_in 2 (w := Cond.initialized (yX0_start).cls) (by decide +kernel) rfl, aT_in 655 (w := Cond.code yX0_start cX0_start 3 none) (by decide +kernel) rfl, by decide +kernel, by decide +kernel, by decide +kernel⟩
theorem clX6_278 : aCalV RX6 278 yX6_greatestUpTo cX6_greatestUpTo 4 (some .int) 1 := ⟨aT_in 656 (w := Cond.methodLink RX6 278 yX6_greatestUpTo) (by decide +kernel) rfl, aT_in 658 (w := Cond.instanceMethod yX6_greatestUpTo) (by decide +kernel) rfl, aT_selI 25 (n := 17) (by decide +kernel), aT_in 1 (w := Cond.initialized (yX6_greatestUpTo).cls) (by decide +kernel) rfl, aT_in 659 (w := Cond.code yX6_greatestUpTo cX6_greatestUpTo 4 (some .int)) (by decide +kernel) rfl, by decide +kernel, by decide +kernel, by decide +kernel⟩
theorem clX6_347 : aCalS RX6 347 yJ9_abs_0f7a4 cJ9_abs_0f7a4 1 (some .int) 1 := ⟨aT_in 660 (w := Cond.methodLink RX6 347 yJ9_abs_0f7a4) (by decide +kernel) rfl, aT_in 661 (w := Cond.static yJ9_abs_0f7a4) (by decide +kernel) rfl, aT_in 10 (w := Cond.initialized (yJ9_abs_0f7a4).cls) (by decide +kernel) rfl, aT_in 662 (w := Cond.code yJ9_abs_0f7a4 cJ9_abs_0f7a4 1 (some .int)) (by decide +kernel) rfl, by decide +kernel, by decide +kernel, by decide +kernel⟩
theorem clX6_281 : aCalV RX6 281 yX0_turnTime cX0_turnTime 1 (some .int) 0 := ⟨aT_in 663 (w := Cond.methodLink RX6 281 yX0_turnTime) (by decide +kernel) rfl, aT_in 337 (w := Cond.instanceMethod yX0_turnTime) (by decide +kernel) rfl, aT_in 338 (w := Cond.selects (yX0_turnTime).cls yX0_turnTime yX0_turnTime) (by decide +kernel) rfl, aT_in 2 (w := Cond.initialized (yX0_turnTime).cls) (by decide +kernel) rfl, aT_in 339 (w := Cond.code yX0_turnTime cX0_turnTime 1 (some .int)) (by decide +kernel) rfl, by decide +kernel, by decide +kernel, by decide +kernel⟩
theorem clL_163 : aCalV RL 163 yX6_stopMotor cX6_stopMotor 2 (some .int) 1 := ⟨aT_in 664 (w := Cond.methodLink RL 163 yX6_stopMotor) (by decide +kernel) rfl, aT_in 665 (w := Cond.instanceMethod yX6_stopMotor) (by decide +kernel) rfl, aT_in 666 (w := Cond.selects (yX6_stopMotor).cls yX6_stopMotor yX6_stopMotor) (by decide +kernel) rfl, aT_in 1 (w := Cond.initialized (yX6_stopMotor).cls) (by decide +kernel) rfl, aT_in 667 (w := Cond.code yX6_stopMotor cX6_stopMotor 2 (some .int)) (by decide +kernel) rfl, by decide +kernel, by decide +kernel, by decide +kernel⟩
theorem clL_167 : aCalV RL 167 yX6_holdClapper cX6_holdClapper 4 (some .int) 2 := ⟨aT_in 668 (w := Cond.methodLink RL 167 yX6_holdClapper) (by decide +kernel) rfl, aT_in 669 (w := Cond.instanceMethod yX6_holdClapper) (by decide +kernel) rfl, aT_in 670 (w := Cond.selects (yX6_holdClapper).cls yX6_holdClapper yX6_holdClapper) (by decide +kernel) rfl, aT_in 1 (w := Cond.initialized (yX6_holdClapper).cls) (by decide +kernel) rfl, aT_in 671 (w := Cond.code yX6_holdClapper cX6_holdClapper 4 (some .int)) (by decide +kernel) rfl, by decide +kernel, by decide +kernel, by decide +kernel⟩
theorem clL_172 : aCalV RL 172 yX6_amplitude cX6_amplitude 2 (some .int) 1 := ⟨aT_in 672 (w := Cond.methodLink RL 172 yX6_amplitude) (by decide +kernel) rfl, aT_in 673 (w := Cond.instanceMethod yX6_amplitude) (by decide +kernel) rfl, aT_in 674 (w := Cond.selects (yX6_amplitude).cls yX6_amplitude yX6_amplitude) (by decide +kernel) rfl, aT_in 1 (w := Cond.initialized (yX6_amplitude).cls) (by decide +kernel) rfl, aT_in 675 (w := Cond.code yX6_amplitude cX6_amplitude 2 (some .int)) (by decide +kernel) rfl, by decide +kernel, by decide +kernel, by decide +kernel⟩
theorem clL_176 : aCalV RL 176 yX6_nextTurn cX6_nextTurn 2 (some .int) 1 := ⟨aT_in 676 (w := Cond.methodLink RL 176 yX6_nextTurn) (by decide +kernel) rfl, aT_in 677 (w := Cond.instanceMethod yX6_nextTurn) (by decide +kernel) rfl, aT_in 678 (w := Cond.selects (yX6_nextTurn).cls yX6_nextTurn yX6_nextTurn) (by decide +kernel) rfl, aT_in 1 (w := Cond.initialized (yX6_nextTurn).cls) (by decide +kernel) rfl, aT_in 679 (w := Cond.code yX6_nextTurn cX6_nextTurn 2 (some .int)) (by decide +kernel) rfl, by decide +kernel, by decide +kernel, by decide +kernel⟩
theorem clL_180 : aCalV RL 180 yX6_amplitudeAfter cX6_amplitudeAfter 4 (some .int) 2 := ⟨aT_in 680 (w := Cond.methodLink RL 180 yX6_amplitudeAfter) (by decide +kernel) rfl, aT_in 681 (w := Cond.instanceMethod yX6_amplitudeAfter) (by decide +kernel) rfl, aT_in 682 (w := Cond.selects (yX6_amplitudeAfter).cls yX6_amplitudeAfter yX6_amplitudeAfter) (by decide +kernel) rfl, aT_in 1 (w := Cond.initialized (yX6_amplitudeAfter).cls) (by decide +kernel) rfl, aT_in 683 (w := Cond.code yX6_amplitudeAfter cX6_amplitudeAfter 4 (some .int)) (by decide +kernel) rfl, by decide +kernel, by decide +kernel, by decide +kernel⟩
theorem clL_184 : aCalV RL 184 yX6_turnsUntilLoud cX6_turnsUntilLoud 3 (some .int) 1 := ⟨aT_in 684 (w := Cond.methodLink RL 184 yX6_turnsUntilLoud) (by decide +kernel) rfl, aT_in 685 (w := Cond.instanceMethod yX6_turnsUntilLoud) (by decide +kernel) rfl, aT_in 686 (w := Cond.selects (yX6_turnsUntilLoud).cls yX6_turnsUntilLoud yX6_turnsUntilLoud) (by decide +kernel) rfl, aT_in 1 (w := Cond.initialized (yX6_turnsUntilLoud).cls) (by decide +kernel) rfl, aT_in 687 (w := Cond.code yX6_turnsUntilLoud cX6_turnsUntilLoud 3 (some .int)) (by decide +kernel) rfl, by decide +kernel, by decide +kernel, by decide +kernel⟩
theorem clL_188 : aCalV RL 188 yX6_force cX6_force 2 (some .int) 1 := ⟨aT_in 688 (w := Cond.methodLink RL 188 yX6_force) (by decide +kernel) rfl, aT_in 689 (w := Cond.instanceMethod yX6_force) (by decide +kernel) rfl, aT_in 690 (w := Cond.selects (yX6_force).cls yX6_force yX6_force) (by decide +kernel) rfl, aT_in 1 (w := Cond.initialized (yX6_force).cls) (by decide +kernel) rfl, aT_in 691 (w := Cond.code yX6_force cX6_force 2 (some .int)) (by decide +kernel) rfl, by decide +kernel, by decide +kernel, by decide +kernel⟩
theorem clX6_296 : aCalV RX6 296 yX0_forceAt cX0_forceAt 3 (some .int) 1 := ⟨aT_in 692 (w := Cond.methodLink RX6 296 yX0_forceAt) (by decide +kernel) rfl, aT_in 649 (w := Cond.instanceMethod yX0_forceAt) (by decide +kernel) rfl, aT_in 650 (w := Cond.selects (yX0_forceAt).cls yX0_forceAt yX0_forceAt) (by decide +kernel) rfl, aT_in 2 (w := Cond.initialized (yX0_forceAt).cls) (by decide +kernel) rfl, aT_in 651 (w := Cond.code yX0_forceAt cX0_forceAt 3 (some .int)) (by decide +kernel) rfl, by decide +kernel, by decide +kernel, by decide +kernel⟩
theorem clL_192 : aCalV RL 192 yX6_shake cX6_shake 2 (some .int) 1 := ⟨aT_in 693 (w := Cond.methodLink RL 192 yX6_shake) (by decide +kernel) rfl, aT_in 694 (w := Cond.instanceMethod yX6_shake) (by decide +kernel) rfl, aT_in 695 (w := Cond.selects (yX6_shake).cls yX6_shake yX6_shake) (by decide +kernel) rfl, aT_in 1 (w := Cond.initialized (yX6_shake).cls) (by decide +kernel) rfl, aT_in 696 (w := Cond.code yX6_shake cX6_shake 2 (some .int)) (by decide +kernel) rfl, by decide +kernel, by decide +kernel, by decide +kernel⟩
theorem clL_196 : aCalV RL 196 yX6_greatestShake cX6_greatestShake 2 (some .int) 1 := ⟨aT_in 697 (w := Cond.methodLink RL 196 yX6_greatestShake) (by decide +kernel) rfl, aT_in 698 (w := Cond.instanceMethod yX6_greatestShake) (by decide +kernel) rfl, aT_in 699 (w := Cond.selects (yX6_greatestShake).cls yX6_greatestShake yX6_greatestShake) (by decide +kernel) rfl, aT_in 1 (w := Cond.initialized (yX6_greatestShake).cls) (by decide +kernel) rfl, aT_in 700 (w := Cond.code yX6_greatestShake cX6_greatestShake 2 (some .int)) (by decide +kernel) rfl, by decide +kernel, by decide +kernel, by decide +kernel⟩
theorem clL_200 : aCalV RL 200 yX6_setShakeLimit cX6_setShakeLimit 3 (some .int) 1 := ⟨aT_in 701 (w := Cond.methodLink RL 200 yX6_setShakeLimit) (by decide +kernel) rfl, aT_in 702 (w := Cond.instanceMethod yX6_setShakeLimit) (by decide +kernel) rfl, aT_in 703 (w := Cond.selects (yX6_setShakeLimit).cls yX6_setShakeLimit yX6_setShakeLimit) (by decide +kernel) rfl, aT_in 1 (w := Cond.initialized (yX6_setShakeLimit).cls) (by decide +kernel) rfl, aT_in 704 (w := Cond.code yX6_setShakeLimit cX6_setShakeLimit 3 (some .int)) (by decide +kernel) rfl, by decide +kernel, by decide +kernel, by decide +kernel⟩
theorem clL_204 : aCalV RL 204 yX6_calmestWait cX6_calmestWait 8 (some .int) 2 := ⟨aT_in 705 (w := Cond.methodLink RL 204 yX6_calmestWait) (by decide +kernel) rfl, aT_in 706 (w := Cond.instanceMethod yX6_calmestWait) (by decide +kernel) rfl, aT_in 707 (w := Cond.selects (yX6_calmestWait).cls yX6_calmestWait yX6_calmestWait) (by decide +kernel) rfl, aT_in 1 (w := Cond.initialized (yX6_calmestWait).cls) (by decide +kernel) rfl, aT_in 708 (w := Cond.code yX6_calmestWait cX6_calmestWait 8 (some .int)) (by decide +kernel) rfl, by decide +kernel, by decide +kernel, by decide +kernel⟩
theorem coX6_303 : Cond.constant RX6 303 (1000000) ∈ aT := aT_in 709 (by decide +kernel) rfl
theorem clX6_304 : aCalV RX6 304 yX6_greatestIfStartedAfter cX6_greatestIfStartedAfter 6 (some .int) 2 := ⟨aT_in 710 (w := Cond.methodLink RX6 304 yX6_greatestIfStartedAfter) (by decide +kernel) rfl, aT_in 712 (w := Cond.instanceMethod yX6_greatestIfStartedAfter) (by decide +kernel) rfl, aT_selI 26 (n := 17) (by decide +kernel), aT_in 1 (w := Cond.initialized (yX6_greatestIfStartedAfter).cls) (by decide +kernel) rfl, aT_in 713 (w := Cond.code yX6_greatestIfStartedAfter cX6_greatestIfStartedAfter 6 (some .int)) (by decide +kernel) rfl, by decide +kernel, by decide +kernel, by decide +kernel⟩
theorem ckL_10 : Cond.classLink RL 10 RX7 ∈ aT := aT_in 714 (by decide +kernel) rfl
theorem ins_RX7 : Cond.instantiable RX7 53 ∈ aT ∧ Cond.initialized RX7 ∈ aT := ⟨aT_in 715 (by decide +kernel) rfl, aT_in 8 (by decide +kernel) rfl⟩
theorem clL_12 : aCalI RL 12 yX7_init cX7_init 1 0 := ⟨aT_in 716 (w := Cond.methodLink RL 12 yX7_init) (by decide +kernel) rfl, aT_in 717 (w := Cond.instanceMethod yX7_init) (by decide +kernel) rfl, aT_in 8 (w := Cond.initialized (yX7_init).cls) (by decide +kernel) rfl, aT_in 718 (w := Cond.code yX7_init cX7_init 1 none) (by decide +kernel) rfl, rfl, by decide +kernel, by decide +kernel, by decide +kernel⟩
theorem flX7_1 : aFld RX7 1 7 0 := ⟨RX7, TX7, 53, rfl, by decide, aT_in 720 (w := Cond.fieldLink RX7 1 RX7 "thrown" "I") (by decide +kernel) rfl⟩
theorem flX7_13 : aFld RX7 13 7 1 := ⟨RX7, TX7, 53, rfl, by decide, aT_in 721 (w := Cond.fieldLink RX7 13 RX7 "delayOf" "[I") (by decide +kernel) rfl⟩
theorem flX7_17 : aFld RX7 17 7 2 := ⟨RX7, TX7, 53, rfl, by decide, aT_in 722 (w := Cond.fieldLink RX7 17 RX7 "recovery" "[I") (by decide +kernel) rfl⟩
theorem flX7_20 : aFld RX7 20 7 3 := ⟨RX7, TX7, 53, rfl, by decide, aT_in 723 (w := Cond.fieldLink RX7 20 RX7 "weight" "[I") (by decide +kernel) rfl⟩
theorem flX7_23 : aFld RX7 23 7 4 := ⟨RX7, TX7, 53, rfl, by decide, aT_in 724 (w := Cond.fieldLink RX7 23 RX7 "half" "[I") (by decide +kernel) rfl⟩
theorem flX7_26 : aFld RX7 26 7 5 := ⟨RX7, TX7, 53, rfl, by decide, aT_in 725 (w := Cond.fieldLink RX7 26 RX7 "occupiedTo" "[I") (by decide +kernel) rfl⟩
theorem flX7_132 : aFld RX7 132 7 6 := ⟨RX7, TX7, 53, rfl, by decide, aT_in 726 (w := Cond.fieldLink RX7 132 RX7 "bells" "I") (by decide +kernel) rfl⟩
theorem flX7_126 : aFld RX7 126 7 7 := ⟨RX7, TX7, 53, rfl, by decide, aT_in 727 (w := Cond.fieldLink RX7 126 RX7 "powerLimit" "I") (by decide +kernel) rfl⟩
theorem flX7_129 : aFld RX7 129 7 8 := ⟨RX7, TX7, 53, rfl, by decide, aT_in 728 (w := Cond.fieldLink RX7 129 RX7 "shakeLimit" "I") (by decide +kernel) rfl⟩
theorem flX7_158 : aFld RX7 158 7 9 := ⟨RX7, TX7, 53, rfl, by decide, aT_in 729 (w := Cond.fieldLink RX7 158 RX7 "now" "I") (by decide +kernel) rfl⟩
theorem flX7_29 : aFld RX7 29 7 10 := ⟨RX7, TX7, 53, rfl, by decide, aT_in 730 (w := Cond.fieldLink RX7 29 RX7 "recordedBell" "[I") (by decide +kernel) rfl⟩
theorem flX7_32 : aFld RX7 32 7 11 := ⟨RX7, TX7, 53, rfl, by decide, aT_in 731 (w := Cond.fieldLink RX7 32 RX7 "recordedTime" "[I") (by decide +kernel) rfl⟩
theorem flX7_35 : aFld RX7 35 7 12 := ⟨RX7, TX7, 53, rfl, by decide, aT_in 732 (w := Cond.fieldLink RX7 35 RX7 "byClapper" "[Z") (by decide +kernel) rfl⟩
theorem flX7_155 : aFld RX7 155 7 13 := ⟨RX7, TX7, 53, rfl, by decide, aT_in 733 (w := Cond.fieldLink RX7 155 RX7 "recorded" "I") (by decide +kernel) rfl⟩
theorem flX7_39 : aFld RX7 39 7 14 := ⟨RX7, TX7, 53, rfl, by decide, aT_in 734 (w := Cond.fieldLink RX7 39 RX7 "strokeBell" "[I") (by decide +kernel) rfl⟩
theorem flX7_42 : aFld RX7 42 7 15 := ⟨RX7, TX7, 53, rfl, by decide, aT_in 735 (w := Cond.fieldLink RX7 42 RX7 "strokeTime" "[I") (by decide +kernel) rfl⟩
theorem flX7_45 : aFld RX7 45 7 16 := ⟨RX7, TX7, 53, rfl, by decide, aT_in 736 (w := Cond.fieldLink RX7 45 RX7 "strokeCommand" "[I") (by decide +kernel) rfl⟩
theorem flX7_48 : aFld RX7 48 7 17 := ⟨RX7, TX7, 53, rfl, by decide, aT_in 737 (w := Cond.fieldLink RX7 48 RX7 "moving" "[I") (by decide +kernel) rfl⟩
theorem flX7_171 : aFld RX7 171 7 18 := ⟨RX7, TX7, 53, rfl, by decide, aT_in 738 (w := Cond.fieldLink RX7 171 RX7 "strokes" "I") (by decide +kernel) rfl⟩
theorem flX7_51 : aFld RX7 51 7 19 := ⟨RX7, TX7, 53, rfl, by decide, aT_in 739 (w := Cond.fieldLink RX7 51 RX7 "buffer" "[I") (by decide +kernel) rfl⟩
theorem flX7_54 : aFld RX7 54 7 20 := ⟨RX7, TX7, 53, rfl, by decide, aT_in 740 (w := Cond.fieldLink RX7 54 RX7 "steps" "[I") (by decide +kernel) rfl⟩
theorem flX7_57 : aFld RX7 57 7 21 := ⟨RX7, TX7, 53, rfl, by decide, aT_in 741 (w := Cond.fieldLink RX7 57 RX7 "stepMany" "[I") (by decide +kernel) rfl⟩
theorem flX7_60 : aFld RX7 60 7 22 := ⟨RX7, TX7, 53, rfl, by decide, aT_in 742 (w := Cond.fieldLink RX7 60 RX7 "fresh" "[I") (by decide +kernel) rfl⟩
theorem flX7_197 : aFld RX7 197 7 23 := ⟨RX7, TX7, 53, rfl, by decide, aT_in 743 (w := Cond.fieldLink RX7 197 RX7 "buffered" "I") (by decide +kernel) rfl⟩
theorem flX7_209 : aFld RX7 209 7 24 := ⟨RX7, TX7, 53, rfl, by decide, aT_in 744 (w := Cond.fieldLink RX7 209 RX7 "size" "I") (by decide +kernel) rfl⟩
theorem flX7_206 : aFld RX7 206 7 25 := ⟨RX7, TX7, 53, rfl, by decide, aT_in 745 (w := Cond.fieldLink RX7 206 RX7 "at" "I") (by decide +kernel) rfl⟩
theorem flX7_244 : aFld RX7 244 7 26 := ⟨RX7, TX7, 53, rfl, by decide, aT_in 746 (w := Cond.fieldLink RX7 244 RX7 "made" "I") (by decide +kernel) rfl⟩
theorem flX7_200 : aFld RX7 200 7 27 := ⟨RX7, TX7, 53, rfl, by decide, aT_in 747 (w := Cond.fieldLink RX7 200 RX7 "wrong" "I") (by decide +kernel) rfl⟩
theorem flX7_203 : aFld RX7 203 7 28 := ⟨RX7, TX7, 53, rfl, by decide, aT_in 748 (w := Cond.fieldLink RX7 203 RX7 "wrongAt" "I") (by decide +kernel) rfl⟩
theorem flX7_255 : aFld RX7 255 7 29 := ⟨RX7, TX7, 53, rfl, by decide, aT_in 749 (w := Cond.fieldLink RX7 255 RX7 "faultKind" "I") (by decide +kernel) rfl⟩
theorem flX7_63 : aFld RX7 63 7 30 := ⟨RX7, TX7, 53, rfl, by decide, aT_in 750 (w := Cond.fieldLink RX7 63 RX7 "faultAt" "I") (by decide +kernel) rfl⟩
theorem flX7_66 : aFld RX7 66 7 31 := ⟨RX7, TX7, 53, rfl, by decide, aT_in 751 (w := Cond.fieldLink RX7 66 RX7 "keptBell" "[I") (by decide +kernel) rfl⟩
theorem flX7_69 : aFld RX7 69 7 32 := ⟨RX7, TX7, 53, rfl, by decide, aT_in 752 (w := Cond.fieldLink RX7 69 RX7 "keptTime" "[I") (by decide +kernel) rfl⟩
theorem flX7_72 : aFld RX7 72 7 33 := ⟨RX7, TX7, 53, rfl, by decide, aT_in 753 (w := Cond.fieldLink RX7 72 RX7 "keptCommand" "[I") (by decide +kernel) rfl⟩
theorem flX7_75 : aFld RX7 75 7 34 := ⟨RX7, TX7, 53, rfl, by decide, aT_in 754 (w := Cond.fieldLink RX7 75 RX7 "keptTo" "[I") (by decide +kernel) rfl⟩
theorem flX7_78 : aFld RX7 78 7 35 := ⟨RX7, TX7, 53, rfl, by decide, aT_in 755 (w := Cond.fieldLink RX7 78 RX7 "keptSwings" "[Z") (by decide +kernel) rfl⟩
theorem flX7_81 : aFld RX7 81 7 36 := ⟨RX7, TX7, 53, rfl, by decide, aT_in 756 (w := Cond.fieldLink RX7 81 RX7 "entryWhich" "[I") (by decide +kernel) rfl⟩
theorem flX7_84 : aFld RX7 84 7 37 := ⟨RX7, TX7, 53, rfl, by decide, aT_in 757 (w := Cond.fieldLink RX7 84 RX7 "entryDue" "[I") (by decide +kernel) rfl⟩
theorem flX7_87 : aFld RX7 87 7 38 := ⟨RX7, TX7, 53, rfl, by decide, aT_in 758 (w := Cond.fieldLink RX7 87 RX7 "entryPeriod" "[I") (by decide +kernel) rfl⟩
theorem flX7_90 : aFld RX7 90 7 39 := ⟨RX7, TX7, 53, rfl, by decide, aT_in 759 (w := Cond.fieldLink RX7 90 RX7 "entryTicks" "[I") (by decide +kernel) rfl⟩
theorem flX7_93 : aFld RX7 93 7 40 := ⟨RX7, TX7, 53, rfl, by decide, aT_in 760 (w := Cond.fieldLink RX7 93 RX7 "entryShift" "[I") (by decide +kernel) rfl⟩
theorem flX7_96 : aFld RX7 96 7 41 := ⟨RX7, TX7, 53, rfl, by decide, aT_in 761 (w := Cond.fieldLink RX7 96 RX7 "entryLast" "[I") (by decide +kernel) rfl⟩
theorem flX7_277 : aFld RX7 277 7 42 := ⟨RX7, TX7, 53, rfl, by decide, aT_in 762 (w := Cond.fieldLink RX7 277 RX7 "entries" "I") (by decide +kernel) rfl⟩
theorem flX7_288 : aFld RX7 288 7 43 := ⟨RX7, TX7, 53, rfl, by decide, aT_in 763 (w := Cond.fieldLink RX7 288 RX7 "failures" "I") (by decide +kernel) rfl⟩
theorem flX7_99 : aFld RX7 99 7 44 := ⟨RX7, TX7, 53, rfl, by decide, aT_in 764 (w := Cond.fieldLink RX7 99 RX7 "swings" "[Z") (by decide +kernel) rfl⟩
theorem flX7_102 : aFld RX7 102 7 45 := ⟨RX7, TX7, 53, rfl, by decide, aT_in 765 (w := Cond.fieldLink RX7 102 RX7 "isHeld" "[Z") (by decide +kernel) rfl⟩
theorem flX7_105 : aFld RX7 105 7 46 := ⟨RX7, TX7, 53, rfl, by decide, aT_in 766 (w := Cond.fieldLink RX7 105 RX7 "hasMotor" "[Z") (by decide +kernel) rfl⟩
theorem flX7_108 : aFld RX7 108 7 47 := ⟨RX7, TX7, 53, rfl, by decide, aT_in 767 (w := Cond.fieldLink RX7 108 RX7 "far" "[I") (by decide +kernel) rfl⟩
theorem flX7_111 : aFld RX7 111 7 48 := ⟨RX7, TX7, 53, rfl, by decide, aT_in 768 (w := Cond.fieldLink RX7 111 RX7 "side" "[I") (by decide +kernel) rfl⟩
theorem flX7_114 : aFld RX7 114 7 49 := ⟨RX7, TX7, 53, rfl, by decide, aT_in 769 (w := Cond.fieldLink RX7 114 RX7 "target" "[I") (by decide +kernel) rfl⟩
theorem flX7_117 : aFld RX7 117 7 50 := ⟨RX7, TX7, 53, rfl, by decide, aT_in 770 (w := Cond.fieldLink RX7 117 RX7 "turn" "[I") (by decide +kernel) rfl⟩
theorem flX7_120 : aFld RX7 120 7 51 := ⟨RX7, TX7, 53, rfl, by decide, aT_in 771 (w := Cond.fieldLink RX7 120 RX7 "shaken" "[I") (by decide +kernel) rfl⟩
theorem flX7_123 : aFld RX7 123 7 52 := ⟨RX7, TX7, 53, rfl, by decide, aT_in 772 (w := Cond.fieldLink RX7 123 RX7 "started" "[I") (by decide +kernel) rfl⟩
theorem clL_17 : aCalV RL 17 yX7_addBell cX7_addBell 5 (some .int) 4 := ⟨aT_in 881 (w := Cond.methodLink RL 17 yX7_addBell) (by decide +kernel) rfl, aT_in 882 (w := Cond.instanceMethod yX7_addBell) (by decide +kernel) rfl, aT_in 883 (w := Cond.selects (yX7_addBell).cls yX7_addBell yX7_addBell) (by decide +kernel) rfl, aT_in 8 (w := Cond.initialized (yX7_addBell).cls) (by decide +kernel) rfl, aT_in 884 (w := Cond.code yX7_addBell cX7_addBell 5 (some .int)) (by decide +kernel) rfl, by decide +kernel, by decide +kernel, by decide +kernel⟩
theorem coX7_139 : Cond.constantLong RX7 139 (50) ∈ aT := aT_in 885 (by decide +kernel) rfl
theorem clX7_135 : aCalS RX7 135 yX7_isIn cX7_isIn 6 (some .boolean) 3 := ⟨aT_in 886 (w := Cond.methodLink RX7 135 yX7_isIn) (by decide +kernel) rfl, aT_in 887 (w := Cond.static yX7_isIn) (by decide +kernel) rfl, aT_in 8 (w := Cond.initialized (yX7_isIn).cls) (by decide +kernel) rfl, aT_in 888 (w := Cond.code yX7_isIn cX7_isIn 6 (some .boolean)) (by decide +kernel) rfl, by decide +kernel, by decide +kernel, by decide +kernel⟩
theorem coX7_141 : Cond.constantLong RX7 141 (100) ∈ aT := aT_in 889 (by decide +kernel) rfl
theorem coX7_143 : Cond.constantLong RX7 143 (99) ∈ aT := aT_in 890 (by decide +kernel) rfl
theorem coX7_145 : Cond.constantLong RX7 145 (10) ∈ aT := aT_in 891 (by decide +kernel) rfl
theorem coX7_147 : Cond.constantLong RX7 147 (60) ∈ aT := aT_in 892 (by decide +kernel) rfl
theorem clL_22 : aCalV RL 22 yX7_bellCount cX7_bellCount 1 (some .int) 0 := ⟨aT_in 893 (w := Cond.methodLink RL 22 yX7_bellCount) (by decide +kernel) rfl, aT_in 894 (w := Cond.instanceMethod yX7_bellCount) (by decide +kernel) rfl, aT_in 895 (w := Cond.selects (yX7_bellCount).cls yX7_bellCount yX7_bellCount) (by decide +kernel) rfl, aT_in 8 (w := Cond.initialized (yX7_bellCount).cls) (by decide +kernel) rfl, aT_in 896 (w := Cond.code yX7_bellCount cX7_bellCount 1 (some .int)) (by decide +kernel) rfl, by decide +kernel, by decide +kernel, by decide +kernel⟩
theorem clL_27 : aCalV RL 27 yX7_delay cX7_delay 2 (some .int) 1 := ⟨aT_in 897 (w := Cond.methodLink RL 27 yX7_delay) (by decide +kernel) rfl, aT_in 898 (w := Cond.instanceMethod yX7_delay) (by decide +kernel) rfl, aT_in 899 (w := Cond.selects (yX7_delay).cls yX7_delay yX7_delay) (by decide +kernel) rfl, aT_in 8 (w := Cond.initialized (yX7_delay).cls) (by decide +kernel) rfl, aT_in 900 (w := Cond.code yX7_delay cX7_delay 2 (some .int)) (by decide +kernel) rfl, by decide +kernel, by decide +kernel, by decide +kernel⟩
theorem clX7_149 : aCalV RX7 149 yX7_isBell cX7_isBell 2 (some .boolean) 1 := ⟨aT_in 901 (w := Cond.methodLink RX7 149 yX7_isBell) (by decide +kernel) rfl, aT_in 903 (w := Cond.instanceMethod yX7_isBell) (by decide +kernel) rfl, aT_selI 27 (n := 53) (by decide +kernel), aT_in 8 (w := Cond.initialized (yX7_isBell).cls) (by decide +kernel) rfl, aT_in 904 (w := Cond.code yX7_isBell cX7_isBell 2 (some .boolean)) (by decide +kernel) rfl, by decide +kernel, by decide +kernel, by decide +kernel⟩
theorem clL_32 : aCalV RL 32 yX7_calibrate cX7_calibrate 3 (some .int) 2 := ⟨aT_in 905 (w := Cond.methodLink RL 32 yX7_calibrate) (by decide +kernel) rfl, aT_in 906 (w := Cond.instanceMethod yX7_calibrate) (by decide +kernel) rfl, aT_in 907 (w := Cond.selects (yX7_calibrate).cls yX7_calibrate yX7_calibrate) (by decide +kernel) rfl, aT_in 8 (w := Cond.initialized (yX7_calibrate).cls) (by decide +kernel) rfl, aT_in 908 (w := Cond.code yX7_calibrate cX7_calibrate 3 (some .int)) (by decide +kernel) rfl, by decide +kernel, by decide +kernel, by decide +kernel⟩
theorem clL_36 : aCalV RL 36 yX7_setPowerLimit cX7_setPowerLimit 3 (some .int) 1 := ⟨aT_in 909 (w := Cond.methodLink RL 36 yX7_setPowerLimit) (by decide +kernel) rfl, aT_in 910 (w := Cond.instanceMethod yX7_setPowerLimit) (by decide +kernel) rfl, aT_in 911 (w := Cond.selects (yX7_setPowerLimit).cls yX7_setPowerLimit yX7_setPowerLimit) (by decide +kernel) rfl, aT_in 8 (w := Cond.initialized (yX7_setPowerLimit).cls) (by decide +kernel) rfl, aT_in 912 (w := Cond.code yX7_setPowerLimit cX7_setPowerLimit 3 (some .int)) (by decide +kernel) rfl, by decide +kernel, by decide +kernel, by decide +kernel⟩
theorem coX7_153 : Cond.constantLong RX7 153 (12) ∈ aT := aT_in 913 (by decide +kernel) rfl
theorem clL_40 : aCalV RL 40 yX7_currentTime cX7_currentTime 1 (some .int) 0 := ⟨aT_in 914 (w := Cond.methodLink RL 40 yX7_currentTime) (by decide +kernel) rfl, aT_in 915 (w := Cond.instanceMethod yX7_currentTime) (by decide +kernel) rfl, aT_in 916 (w := Cond.selects (yX7_currentTime).cls yX7_currentTime yX7_currentTime) (by decide +kernel) rfl, aT_in 8 (w := Cond.initialized (yX7_currentTime).cls) (by decide +kernel) rfl, aT_in 917 (w := Cond.code yX7_currentTime cX7_currentTime 1 (some .int)) (by decide +kernel) rfl, by decide +kernel, by decide +kernel, by decide +kernel⟩
theorem clL_48 : aCalV RL 48 yX7_recordLength cX7_recordLength 1 (some .int) 0 := ⟨aT_in 918 (w := Cond.methodLink RL 48 yX7_recordLength) (by decide +kernel) rfl, aT_in 919 (w := Cond.instanceMethod yX7_recordLength) (by decide +kernel) rfl, aT_in 920 (w := Cond.selects (yX7_recordLength).cls yX7_recordLength yX7_recordLength) (by decide +kernel) rfl, aT_in 8 (w := Cond.initialized (yX7_recordLength).cls) (by decide +kernel) rfl, aT_in 921 (w := Cond.code yX7_recordLength cX7_recordLength 1 (some .int)) (by decide +kernel) rfl, by decide +kernel, by decide +kernel, by decide +kernel⟩
theorem clX7_161 : aCalV RX7 161 yX7_recordMany cX7_recordMany 1 (some .int) 0 := ⟨aT_in 922 (w := Cond.methodLink RX7 161 yX7_recordMany) (by decide +kernel) rfl, aT_in 924 (w := Cond.instanceMethod yX7_recordMany) (by decide +kernel) rfl, aT_selI 28 (n := 53) (by decide +kernel), aT_in 8 (w := Cond.initialized (yX7_recordMany).cls) (by decide +kernel) rfl, aT_in 925 (w := Cond.code yX7_recordMany cX7_recordMany 1 (some .int)) (by decide +kernel) rfl, by decide +kernel, by decide +kernel, by decide +kernel⟩
theorem clL_52 : aCalV RL 52 yX7_recordBell cX7_recordBell 3 (some .int) 1 := ⟨aT_in 926 (w := Cond.methodLink RL 52 yX7_recordBell) (by decide +kernel) rfl, aT_in 927 (w := Cond.instanceMethod yX7_recordBell) (by decide +kernel) rfl, aT_in 928 (w := Cond.selects (yX7_recordBell).cls yX7_recordBell yX7_recordBell) (by decide +kernel) rfl, aT_in 8 (w := Cond.initialized (yX7_recordBell).cls) (by decide +kernel) rfl, aT_in 929 (w := Cond.code yX7_recordBell cX7_recordBell 3 (some .int)) (by decide +kernel) rfl, by decide +kernel, by decide +kernel, by decide +kernel⟩
theorem clX7_165 : aCalV RX7 165 yX7_recordAt cX7_recordAt 2 (some .int) 1 := ⟨aT_in 930 (w := Cond.methodLink RX7 165 yX7_recordAt) (by decide +kernel) rfl, aT_in 932 (w := Cond.instanceMethod yX7_recordAt) (by decide +kernel) rfl, aT_selI 29 (n := 53) (by decide +kernel), aT_in 8 (w := Cond.initialized (yX7_recordAt).cls) (by decide +kernel) rfl, aT_in 933 (w := Cond.code yX7_recordAt cX7_recordAt 2 (some .int)) (by decide +kernel) rfl, by decide +kernel, by decide +kernel, by decide +kernel⟩
theorem clL_56 : aCalV RL 56 yX7_recordTime cX7_recordTime 3 (some .int) 1 := ⟨aT_in 934 (w := Cond.methodLink RL 56 yX7_recordTime) (by decide +kernel) rfl, aT_in 935 (w := Cond.instanceMethod yX7_recordTime) (by decide +kernel) rfl, aT_in 936 (w := Cond.selects (yX7_recordTime).cls yX7_recordTime yX7_recordTime) (by decide +kernel) rfl, aT_in 8 (w := Cond.initialized (yX7_recordTime).cls) (by decide +kernel) rfl, aT_in 937 (w := Cond.code yX7_recordTime cX7_recordTime 3 (some .int)) (by decide +kernel) rfl, by decide +kernel, by decide +kernel, by decide +kernel⟩
theorem clL_60 : aCalV RL 60 yX7_recordClapper cX7_recordClapper 3 (some .int) 1 := ⟨aT_in 938 (w := Cond.methodLink RL 60 yX7_recordClapper) (by decide +kernel) rfl, aT_in 939 (w := Cond.instanceMethod yX7_recordClapper) (by decide +kernel) rfl, aT_in 940 (w := Cond.selects (yX7_recordClapper).cls yX7_recordClapper yX7_recordClapper) (by decide +kernel) rfl, aT_in 8 (w := Cond.initialized (yX7_recordClapper).cls) (by decide +kernel) rfl, aT_in 941 (w := Cond.code yX7_recordClapper cX7_recordClapper 3 (some .int)) (by decide +kernel) rfl, by decide +kernel, by decide +kernel, by decide +kernel⟩
theorem clL_64 : aCalV RL 64 yX7_scheduleStroke cX7_scheduleStroke 4 (some .int) 2 := ⟨aT_in 942 (w := Cond.methodLink RL 64 yX7_scheduleStroke) (by decide +kernel) rfl, aT_in 943 (w := Cond.instanceMethod yX7_scheduleStroke) (by decide +kernel) rfl, aT_in 944 (w := Cond.selects (yX7_scheduleStroke).cls yX7_scheduleStroke yX7_scheduleStroke) (by decide +kernel) rfl, aT_in 8 (w := Cond.initialized (yX7_scheduleStroke).cls) (by decide +kernel) rfl, aT_in 945 (w := Cond.code yX7_scheduleStroke cX7_scheduleStroke 4 (some .int)) (by decide +kernel) rfl, by decide +kernel, by decide +kernel, by decide +kernel⟩
theorem clX7_174 : aCalV RX7 174 yX7_refuses cX7_refuses 9 (some .int) 2 := ⟨aT_in 946 (w := Cond.methodLink RX7 174 yX7_refuses) (by decide +kernel) rfl, aT_in 948 (w := Cond.instanceMethod yX7_refuses) (by decide +kernel) rfl, aT_selI 30 (n := 53) (by decide +kernel), aT_in 8 (w := Cond.initialized (yX7_refuses).cls) (by decide +kernel) rfl, aT_in 949 (w := Cond.code yX7_refuses cX7_refuses 9 (some .int)) (by decide +kernel) rfl, by decide +kernel, by decide +kernel, by decide +kernel⟩
theorem coX7_169 : Cond.constantLong RX7 169 (100000) ∈ aT := aT_in 950 (by decide +kernel) rfl
theorem clX7_178 : aCalV RX7 178 yX7_schedules cX7_schedules 3 none 2 := ⟨aT_in 951 (w := Cond.methodLink RX7 178 yX7_schedules) (by decide +kernel) rfl, aT_in 953 (w := Cond.instanceMethod yX7_schedules) (by decide +kernel) rfl, aT_selI 31 (n := 53) (by decide +kernel), aT_in 8 (w := Cond.initialized (yX7_schedules).cls) (by decide +kernel) rfl, aT_in 954 (w := Cond.code yX7_schedules cX7_schedules 3 none) (by decide +kernel) rfl, by decide +kernel, by decide +kernel, by decide +kernel⟩
theorem clL_68 : aCalV RL 68 yX7_cancelStroke cX7_cancelStroke 4 (some .int) 2 := ⟨aT_in 955 (w := Cond.methodLink RL 68 yX7_cancelStroke) (by decide +kernel) rfl, aT_in 956 (w := Cond.instanceMethod yX7_cancelStroke) (by decide +kernel) rfl, aT_in 957 (w := Cond.selects (yX7_cancelStroke).cls yX7_cancelStroke yX7_cancelStroke) (by decide +kernel) rfl, aT_in 8 (w := Cond.initialized (yX7_cancelStroke).cls) (by decide +kernel) rfl, aT_in 958 (w := Cond.code yX7_cancelStroke cX7_cancelStroke 4 (some .int)) (by decide +kernel) rfl, by decide +kernel, by decide +kernel, by decide +kernel⟩
theorem clX7_182 : aCalV RX7 182 yX7_strokeOf cX7_strokeOf 4 (some .int) 2 := ⟨aT_in 959 (w := Cond.methodLink RX7 182 yX7_strokeOf) (by decide +kernel) rfl, aT_in 961 (w := Cond.instanceMethod yX7_strokeOf) (by decide +kernel) rfl, aT_selI 32 (n := 53) (by decide +kernel), aT_in 8 (w := Cond.initialized (yX7_strokeOf).cls) (by decide +kernel) rfl, aT_in 962 (w := Cond.code yX7_strokeOf cX7_strokeOf 4 (some .int)) (by decide +kernel) rfl, by decide +kernel, by decide +kernel, by decide +kernel⟩
theorem clX7_186 : aCalV RX7 186 yX7_removes cX7_removes 2 none 1 := ⟨aT_in 963 (w := Cond.methodLink RX7 186 yX7_removes) (by decide +kernel) rfl, aT_in 965 (w := Cond.instanceMethod yX7_removes) (by decide +kernel) rfl, aT_selI 33 (n := 53) (by decide +kernel), aT_in 8 (w := Cond.initialized (yX7_removes).cls) (by decide +kernel) rfl, aT_in 966 (w := Cond.code yX7_removes cX7_removes 2 none) (by decide +kernel) rfl, by decide +kernel, by decide +kernel, by decide +kernel⟩
theorem clL_72 : aCalV RL 72 yX7_scheduledCount cX7_scheduledCount 1 (some .int) 0 := ⟨aT_in 967 (w := Cond.methodLink RL 72 yX7_scheduledCount) (by decide +kernel) rfl, aT_in 968 (w := Cond.instanceMethod yX7_scheduledCount) (by decide +kernel) rfl, aT_in 969 (w := Cond.selects (yX7_scheduledCount).cls yX7_scheduledCount yX7_scheduledCount) (by decide +kernel) rfl, aT_in 8 (w := Cond.initialized (yX7_scheduledCount).cls) (by decide +kernel) rfl, aT_in 970 (w := Cond.code yX7_scheduledCount cX7_scheduledCount 1 (some .int)) (by decide +kernel) rfl, by decide +kernel, by decide +kernel, by decide +kernel⟩
theorem clL_76 : aCalV RL 76 yX7_nextStroke cX7_nextStroke 2 (some .int) 1 := ⟨aT_in 971 (w := Cond.methodLink RL 76 yX7_nextStroke) (by decide +kernel) rfl, aT_in 972 (w := Cond.instanceMethod yX7_nextStroke) (by decide +kernel) rfl, aT_in 973 (w := Cond.selects (yX7_nextStroke).cls yX7_nextStroke yX7_nextStroke) (by decide +kernel) rfl, aT_in 8 (w := Cond.initialized (yX7_nextStroke).cls) (by decide +kernel) rfl, aT_in 974 (w := Cond.code yX7_nextStroke cX7_nextStroke 2 (some .int)) (by decide +kernel) rfl, by decide +kernel, by decide +kernel, by decide +kernel⟩
theorem clX7_190 : aCalV RX7 190 yX7_nextOf cX7_nextOf 4 (some .int) 1 := ⟨aT_in 975 (w := Cond.methodLink RX7 190 yX7_nextOf) (by decide +kernel) rfl, aT_in 977 (w := Cond.instanceMethod yX7_nextOf) (by decide +kernel) rfl, aT_selI 34 (n := 53) (by decide +kernel), aT_in 8 (w := Cond.initialized (yX7_nextOf).cls) (by decide +kernel) rfl, aT_in 978 (w := Cond.code yX7_nextOf cX7_nextOf 4 (some .int)) (by decide +kernel) rfl, by decide +kernel, by decide +kernel, by decide +kernel⟩
theorem clL_80 : aCalV RL 80 yX7_commandTime cX7_commandTime 3 (some .int) 1 := ⟨aT_in 979 (w := Cond.methodLink RL 80 yX7_commandTime) (by decide +kernel) rfl, aT_in 980 (w := Cond.instanceMethod yX7_commandTime) (by decide +kernel) rfl, aT_in 981 (w := Cond.selects (yX7_commandTime).cls yX7_commandTime yX7_commandTime) (by decide +kernel) rfl, aT_in 8 (w := Cond.initialized (yX7_commandTime).cls) (by decide +kernel) rfl, aT_in 982 (w := Cond.code yX7_commandTime cX7_commandTime 3 (some .int)) (by decide +kernel) rfl, by decide +kernel, by decide +kernel, by decide +kernel⟩
theorem clX7_193 : aCalV RX7 193 yX7_ranked cX7_ranked 5 (some .int) 1 := ⟨aT_in 983 (w := Cond.methodLink RX7 193 yX7_ranked) (by decide +kernel) rfl, aT_in 985 (w := Cond.instanceMethod yX7_ranked) (by decide +kernel) rfl, aT_selI 35 (n := 53) (by decide +kernel), aT_in 8 (w := Cond.initialized (yX7_ranked).cls) (by decide +kernel) rfl, aT_in 986 (w := Cond.code yX7_ranked cX7_ranked 5 (some .int)) (by decide +kernel) rfl, by decide +kernel, by decide +kernel, by decide +kernel⟩
theorem clL_84 : aCalV RL 84 yX7_commandBell cX7_commandBell 3 (some .int) 1 := ⟨aT_in 987 (w := Cond.methodLink RL 84 yX7_commandBell) (by decide +kernel) rfl, aT_in 988 (w := Cond.instanceMethod yX7_commandBell) (by decide +kernel) rfl, aT_in 989 (w := Cond.selects (yX7_commandBell).cls yX7_commandBell yX7_commandBell) (by decide +kernel) rfl, aT_in 8 (w := Cond.initialized (yX7_commandBell).cls) (by decide +kernel) rfl, aT_in 990 (w := Cond.code yX7_commandBell cX7_commandBell 3 (some .int)) (by decide +kernel) rfl, by decide +kernel, by decide +kernel, by decide +kernel⟩
theorem clL_88 : aCalV RL 88 yX7_movingHammers cX7_movingHammers 4 (some .int) 1 := ⟨aT_in 991 (w := Cond.methodLink RL 88 yX7_movingHammers) (by decide +kernel) rfl, aT_in 992 (w := Cond.instanceMethod yX7_movingHammers) (by decide +kernel) rfl, aT_in 993 (w := Cond.selects (yX7_movingHammers).cls yX7_movingHammers yX7_movingHammers) (by decide +kernel) rfl, aT_in 8 (w := Cond.initialized (yX7_movingHammers).cls) (by decide +kernel) rfl, aT_in 994 (w := Cond.code yX7_movingHammers cX7_movingHammers 4 (some .int)) (by decide +kernel) rfl, by decide +kernel, by decide +kernel, by decide +kernel⟩
theorem clL_92 : aCalV RL 92 yX7_earliestStroke cX7_earliestStroke 4 (some .int) 2 := ⟨aT_in 995 (w := Cond.methodLink RL 92 yX7_earliestStroke) (by decide +kernel) rfl, aT_in 996 (w := Cond.instanceMethod yX7_earliestStroke) (by decide +kernel) rfl, aT_in 997 (w := Cond.selects (yX7_earliestStroke).cls yX7_earliestStroke yX7_earliestStroke) (by decide +kernel) rfl, aT_in 8 (w := Cond.initialized (yX7_earliestStroke).cls) (by decide +kernel) rfl, aT_in 998 (w := Cond.code yX7_earliestStroke cX7_earliestStroke 4 (some .int)) (by decide +kernel) rfl, by decide +kernel, by decide +kernel, by decide +kernel⟩
theorem coX7_196 : Cond.constant RX7 196 (100000) ∈ aT := aT_in 999 (by decide +kernel) rfl
theorem clL_97 : aCalV RL 97 yX7_appendBytes cX7_appendBytes 8 (some .int) 5 := ⟨aT_in 1000 (w := Cond.methodLink RL 97 yX7_appendBytes) (by decide +kernel) rfl, aT_in 1001 (w := Cond.instanceMethod yX7_appendBytes) (by decide +kernel) rfl, aT_in 1002 (w := Cond.selects (yX7_appendBytes).cls yX7_appendBytes yX7_appendBytes) (by decide +kernel) rfl, aT_in 8 (w := Cond.initialized (yX7_appendBytes).cls) (by decide +kernel) rfl, aT_in 1003 (w := Cond.code yX7_appendBytes cX7_appendBytes 8 (some .int)) (by decide +kernel) rfl, by decide +kernel, by decide +kernel, by decide +kernel⟩
theorem clL_101 : aCalV RL 101 yX7_loadPattern cX7_loadPattern 4 (some .int) 2 := ⟨aT_in 1004 (w := Cond.methodLink RL 101 yX7_loadPattern) (by decide +kernel) rfl, aT_in 1005 (w := Cond.instanceMethod yX7_loadPattern) (by decide +kernel) rfl, aT_in 1006 (w := Cond.selects (yX7_loadPattern).cls yX7_loadPattern yX7_loadPattern) (by decide +kernel) rfl, aT_in 8 (w := Cond.initialized (yX7_loadPattern).cls) (by decide +kernel) rfl, aT_in 1007 (w := Cond.code yX7_loadPattern cX7_loadPattern 4 (some .int)) (by decide +kernel) rfl, by decide +kernel, by decide +kernel, by decide +kernel⟩
theorem clX7_252 : aCalS RX7 252 yX7_isPattern cX7_isPattern 1 (some .boolean) 1 := ⟨aT_in 1008 (w := Cond.methodLink RX7 252 yX7_isPattern) (by decide +kernel) rfl, aT_in 1009 (w := Cond.static yX7_isPattern) (by decide +kernel) rfl, aT_in 8 (w := Cond.initialized (yX7_isPattern).cls) (by decide +kernel) rfl, aT_in 1010 (w := Cond.code yX7_isPattern cX7_isPattern 1 (some .boolean)) (by decide +kernel) rfl, by decide +kernel, by decide +kernel, by decide +kernel⟩
theorem coX7_250 : Cond.constantLong RX7 250 (4) ∈ aT := aT_in 1011 (by decide +kernel) rfl
theorem clX7_247 : aCalV RX7 247 yX7_readsItems cX7_readsItems 2 none 1 := ⟨aT_in 1012 (w := Cond.methodLink RX7 247 yX7_readsItems) (by decide +kernel) rfl, aT_in 1014 (w := Cond.instanceMethod yX7_readsItems) (by decide +kernel) rfl, aT_selI 36 (n := 53) (by decide +kernel), aT_in 8 (w := Cond.initialized (yX7_readsItems).cls) (by decide +kernel) rfl, aT_in 1015 (w := Cond.code yX7_readsItems cX7_readsItems 2 none) (by decide +kernel) rfl, by decide +kernel, by decide +kernel, by decide +kernel⟩
theorem clX7_212 : aCalV RX7 212 yX7_here cX7_here 1 (some .int) 0 := ⟨aT_in 1016 (w := Cond.methodLink RX7 212 yX7_here) (by decide +kernel) rfl, aT_in 1018 (w := Cond.instanceMethod yX7_here) (by decide +kernel) rfl, aT_selI 37 (n := 53) (by decide +kernel), aT_in 8 (w := Cond.initialized (yX7_here).cls) (by decide +kernel) rfl, aT_in 1019 (w := Cond.code yX7_here cX7_here 1 (some .int)) (by decide +kernel) rfl, by decide +kernel, by decide +kernel, by decide +kernel⟩
theorem clX7_227 : aCalV RX7 227 yX7_fails cX7_fails 3 none 2 := ⟨aT_in 1020 (w := Cond.methodLink RX7 227 yX7_fails) (by decide +kernel) rfl, aT_in 1022 (w := Cond.instanceMethod yX7_fails) (by decide +kernel) rfl, aT_selI 38 (n := 53) (by decide +kernel), aT_in 8 (w := Cond.initialized (yX7_fails).cls) (by decide +kernel) rfl, aT_in 1023 (w := Cond.code yX7_fails cX7_fails 3 none) (by decide +kernel) rfl, by decide +kernel, by decide +kernel, by decide +kernel⟩
theorem clX7_232 : aCalV RX7 232 yX7_readsItem cX7_readsItem 6 none 1 := ⟨aT_in 1024 (w := Cond.methodLink RX7 232 yX7_readsItem) (by decide +kernel) rfl, aT_in 1026 (w := Cond.instanceMethod yX7_readsItem) (by decide +kernel) rfl, aT_selI 39 (n := 53) (by decide +kernel), aT_in 8 (w := Cond.initialized (yX7_readsItem).cls) (by decide +kernel) rfl, aT_in 1027 (w := Cond.code yX7_readsItem cX7_readsItem 6 none) (by decide +kernel) rfl, by decide +kernel, by decide +kernel, by decide +kernel⟩
theorem clX7_235 : aCalV RX7 235 yX7_readsGroup cX7_readsGroup 7 none 1 := ⟨aT_in 1028 (w := Cond.methodLink RX7 235 yX7_readsGroup) (by decide +kernel) rfl, aT_in 1030 (w := Cond.instanceMethod yX7_readsGroup) (by decide +kernel) rfl, aT_selI 40 (n := 53) (by decide +kernel), aT_in 8 (w := Cond.initialized (yX7_readsGroup).cls) (by decide +kernel) rfl, aT_in 1031 (w := Cond.code yX7_readsGroup cX7_readsGroup 7 none) (by decide +kernel) rfl, by decide +kernel, by decide +kernel, by decide +kernel⟩
theorem clX7_241 : aCalV RX7 241 yX7_number cX7_number 4 (some .int) 0 := ⟨aT_in 1032 (w := Cond.methodLink RX7 241 yX7_number) (by decide +kernel) rfl, aT_in 1034 (w := Cond.instanceMethod yX7_number) (by decide +kernel) rfl, aT_selI 41 (n := 53) (by decide +kernel), aT_in 8 (w := Cond.initialized (yX7_number).cls) (by decide +kernel) rfl, aT_in 1035 (w := Cond.code yX7_number cX7_number 4 (some .int)) (by decide +kernel) rfl, by decide +kernel, by decide +kernel, by decide +kernel⟩
theorem clX7_223 : aCalV RX7 223 yX7_isDigit cX7_isDigit 1 (some .boolean) 0 := ⟨aT_in 1036 (w := Cond.methodLink RX7 223 yX7_isDigit) (by decide +kernel) rfl, aT_in 1038 (w := Cond.instanceMethod yX7_isDigit) (by decide +kernel) rfl, aT_selI 42 (n := 53) (by decide +kernel), aT_in 8 (w := Cond.initialized (yX7_isDigit).cls) (by decide +kernel) rfl, aT_in 1039 (w := Cond.code yX7_isDigit cX7_isDigit 1 (some .boolean)) (by decide +kernel) rfl, by decide +kernel, by decide +kernel, by decide +kernel⟩
theorem coX7_215 : Cond.constantLong RX7 215 (48) ∈ aT := aT_in 1040 (by decide +kernel) rfl
theorem coX7_217 : Cond.constantLong RX7 217 (57) ∈ aT := aT_in 1041 (by decide +kernel) rfl
theorem coX7_230 : Cond.constantLong RX7 230 (20) ∈ aT := aT_in 1042 (by decide +kernel) rfl
theorem clX7_238 : aCalV RX7 238 yX7_isLetter cX7_isLetter 1 (some .boolean) 0 := ⟨aT_in 1043 (w := Cond.methodLink RX7 238 yX7_isLetter) (by decide +kernel) rfl, aT_in 1045 (w := Cond.instanceMethod yX7_isLetter) (by decide +kernel) rfl, aT_selI 43 (n := 53) (by decide +kernel), aT_in 8 (w := Cond.initialized (yX7_isLetter).cls) (by decide +kernel) rfl, aT_in 1046 (w := Cond.code yX7_isLetter cX7_isLetter 1 (some .boolean)) (by decide +kernel) rfl, by decide +kernel, by decide +kernel, by decide +kernel⟩
theorem coX7_219 : Cond.constantLong RX7 219 (97) ∈ aT := aT_in 1047 (by decide +kernel) rfl
theorem coX7_221 : Cond.constantLong RX7 221 (108) ∈ aT := aT_in 1048 (by decide +kernel) rfl
theorem clL_105 : aCalV RL 105 yX7_patternError cX7_patternError 1 (some .int) 0 := ⟨aT_in 1049 (w := Cond.methodLink RL 105 yX7_patternError) (by decide +kernel) rfl, aT_in 1050 (w := Cond.instanceMethod yX7_patternError) (by decide +kernel) rfl, aT_in 1051 (w := Cond.selects (yX7_patternError).cls yX7_patternError yX7_patternError) (by decide +kernel) rfl, aT_in 8 (w := Cond.initialized (yX7_patternError).cls) (by decide +kernel) rfl, aT_in 1052 (w := Cond.code yX7_patternError cX7_patternError 1 (some .int)) (by decide +kernel) rfl, by decide +kernel, by decide +kernel, by decide +kernel⟩
theorem clL_109 : aCalV RL 109 yX7_patternErrorPosition cX7_patternErrorPosition 1 (some .int) 0 := ⟨aT_in 1053 (w := Cond.methodLink RL 109 yX7_patternErrorPosition) (by decide +kernel) rfl, aT_in 1054 (w := Cond.instanceMethod yX7_patternErrorPosition) (by decide +kernel) rfl, aT_in 1055 (w := Cond.selects (yX7_patternErrorPosition).cls yX7_patternErrorPosition yX7_patternErrorPosition) (by decide +kernel) rfl, aT_in 8 (w := Cond.initialized (yX7_patternErrorPosition).cls) (by decide +kernel) rfl, aT_in 1056 (w := Cond.code yX7_patternErrorPosition cX7_patternErrorPosition 1 (some .int)) (by decide +kernel) rfl, by decide +kernel, by decide +kernel, by decide +kernel⟩
theorem clL_113 : aCalV RL 113 yX7_stepBells cX7_stepBells 3 (some .int) 2 := ⟨aT_in 1057 (w := Cond.methodLink RL 113 yX7_stepBells) (by decide +kernel) rfl, aT_in 1058 (w := Cond.instanceMethod yX7_stepBells) (by decide +kernel) rfl, aT_in 1059 (w := Cond.selects (yX7_stepBells).cls yX7_stepBells yX7_stepBells) (by decide +kernel) rfl, aT_in 8 (w := Cond.initialized (yX7_stepBells).cls) (by decide +kernel) rfl, aT_in 1060 (w := Cond.code yX7_stepBells cX7_stepBells 3 (some .int)) (by decide +kernel) rfl, by decide +kernel, by decide +kernel, by decide +kernel⟩
theorem clL_117 : aCalV RL 117 yX7_patternStrokes cX7_patternStrokes 5 (some .int) 1 := ⟨aT_in 1061 (w := Cond.methodLink RL 117 yX7_patternStrokes) (by decide +kernel) rfl, aT_in 1062 (w := Cond.instanceMethod yX7_patternStrokes) (by decide +kernel) rfl, aT_in 1063 (w := Cond.selects (yX7_patternStrokes).cls yX7_patternStrokes yX7_patternStrokes) (by decide +kernel) rfl, aT_in 8 (w := Cond.initialized (yX7_patternStrokes).cls) (by decide +kernel) rfl, aT_in 1064 (w := Cond.code yX7_patternStrokes cX7_patternStrokes 5 (some .int)) (by decide +kernel) rfl, by decide +kernel, by decide +kernel, by decide +kernel⟩
theorem clL_122 : aCalV RL 122 yX7_play cX7_play 4 (some .int) 3 := ⟨aT_in 1065 (w := Cond.methodLink RL 122 yX7_play) (by decide +kernel) rfl, aT_in 1066 (w := Cond.instanceMethod yX7_play) (by decide +kernel) rfl, aT_in 1067 (w := Cond.selects (yX7_play).cls yX7_play yX7_play) (by decide +kernel) rfl, aT_in 8 (w := Cond.initialized (yX7_play).cls) (by decide +kernel) rfl, aT_in 1068 (w := Cond.code yX7_play cX7_play 4 (some .int)) (by decide +kernel) rfl, by decide +kernel, by decide +kernel, by decide +kernel⟩
theorem coX7_258 : Cond.constantLong RX7 258 (200) ∈ aT := aT_in 1069 (by decide +kernel) rfl
theorem clX7_260 : aCalV RX7 260 yX7_plays cX7_plays 8 (some .int) 3 := ⟨aT_in 1070 (w := Cond.methodLink RX7 260 yX7_plays) (by decide +kernel) rfl, aT_in 1072 (w := Cond.instanceMethod yX7_plays) (by decide +kernel) rfl, aT_selI 44 (n := 53) (by decide +kernel), aT_in 8 (w := Cond.initialized (yX7_plays).cls) (by decide +kernel) rfl, aT_in 1073 (w := Cond.code yX7_plays cX7_plays 8 (some .int)) (by decide +kernel) rfl, by decide +kernel, by decide +kernel, by decide +kernel⟩
theorem clL_126 : aCalV RL 126 yX7_weave cX7_weave 5 (some .int) 4 := ⟨aT_in 1074 (w := Cond.methodLink RL 126 yX7_weave) (by decide +kernel) rfl, aT_in 1075 (w := Cond.instanceMethod yX7_weave) (by decide +kernel) rfl, aT_in 1076 (w := Cond.selects (yX7_weave).cls yX7_weave yX7_weave) (by decide +kernel) rfl, aT_in 8 (w := Cond.initialized (yX7_weave).cls) (by decide +kernel) rfl, aT_in 1077 (w := Cond.code yX7_weave cX7_weave 5 (some .int)) (by decide +kernel) rfl, by decide +kernel, by decide +kernel, by decide +kernel⟩
theorem coX7_264 : Cond.constantLong RX7 264 (500) ∈ aT := aT_in 1078 (by decide +kernel) rfl
theorem clX7_266 : aCalV RX7 266 yX7_weaves cX7_weaves 6 (some .int) 4 := ⟨aT_in 1079 (w := Cond.methodLink RX7 266 yX7_weaves) (by decide +kernel) rfl, aT_in 1081 (w := Cond.instanceMethod yX7_weaves) (by decide +kernel) rfl, aT_selI 45 (n := 53) (by decide +kernel), aT_in 8 (w := Cond.initialized (yX7_weaves).cls) (by decide +kernel) rfl, aT_in 1082 (w := Cond.code yX7_weaves cX7_weaves 6 (some .int)) (by decide +kernel) rfl, by decide +kernel, by decide +kernel, by decide +kernel⟩
theorem clL_130 : aCalV RL 130 yX7_fastestTicks cX7_fastestTicks 6 (some .int) 1 := ⟨aT_in 1083 (w := Cond.methodLink RL 130 yX7_fastestTicks) (by decide +kernel) rfl, aT_in 1084 (w := Cond.instanceMethod yX7_fastestTicks) (by decide +kernel) rfl, aT_in 1085 (w := Cond.selects (yX7_fastestTicks).cls yX7_fastestTicks yX7_fastestTicks) (by decide +kernel) rfl, aT_in 8 (w := Cond.initialized (yX7_fastestTicks).cls) (by decide +kernel) rfl, aT_in 1086 (w := Cond.code yX7_fastestTicks cX7_fastestTicks 6 (some .int)) (by decide +kernel) rfl, by decide +kernel, by decide +kernel, by decide +kernel⟩
theorem clX7_270 : aCalV RX7 270 yX7_isPlayable cX7_isPlayable 3 (some .boolean) 2 := ⟨aT_in 1087 (w := Cond.methodLink RX7 270 yX7_isPlayable) (by decide +kernel) rfl, aT_in 1089 (w := Cond.instanceMethod yX7_isPlayable) (by decide +kernel) rfl, aT_selI 46 (n := 53) (by decide +kernel), aT_in 8 (w := Cond.initialized (yX7_isPlayable).cls) (by decide +kernel) rfl, aT_in 1090 (w := Cond.code yX7_isPlayable cX7_isPlayable 3 (some .boolean)) (by decide +kernel) rfl, by decide +kernel, by decide +kernel, by decide +kernel⟩
theorem clL_134 : aCalV RL 134 yX7_powerNeeded cX7_powerNeeded 7 (some .int) 2 := ⟨aT_in 1091 (w := Cond.methodLink RL 134 yX7_powerNeeded) (by decide +kernel) rfl, aT_in 1092 (w := Cond.instanceMethod yX7_powerNeeded) (by decide +kernel) rfl, aT_in 1093 (w := Cond.selects (yX7_powerNeeded).cls yX7_powerNeeded yX7_powerNeeded) (by decide +kernel) rfl, aT_in 8 (w := Cond.initialized (yX7_powerNeeded).cls) (by decide +kernel) rfl, aT_in 1094 (w := Cond.code yX7_powerNeeded cX7_powerNeeded 7 (some .int)) (by decide +kernel) rfl, by decide +kernel, by decide +kernel, by decide +kernel⟩
theorem clX7_274 : aCalV RX7 274 yX7_movesAt cX7_movesAt 7 (some .int) 3 := ⟨aT_in 1095 (w := Cond.methodLink RX7 274 yX7_movesAt) (by decide +kernel) rfl, aT_in 1097 (w := Cond.instanceMethod yX7_movesAt) (by decide +kernel) rfl, aT_selI 47 (n := 53) (by decide +kernel), aT_in 8 (w := Cond.initialized (yX7_movesAt).cls) (by decide +kernel) rfl, aT_in 1098 (w := Cond.code yX7_movesAt cX7_movesAt 7 (some .int)) (by decide +kernel) rfl, by decide +kernel, by decide +kernel, by decide +kernel⟩
theorem clL_138 : aCalV RL 138 yX7_addEntry cX7_addEntry 6 (some .int) 5 := ⟨aT_in 1099 (w := Cond.methodLink RL 138 yX7_addEntry) (by decide +kernel) rfl, aT_in 1100 (w := Cond.instanceMethod yX7_addEntry) (by decide +kernel) rfl, aT_in 1101 (w := Cond.selects (yX7_addEntry).cls yX7_addEntry yX7_addEntry) (by decide +kernel) rfl, aT_in 8 (w := Cond.initialized (yX7_addEntry).cls) (by decide +kernel) rfl, aT_in 1102 (w := Cond.code yX7_addEntry cX7_addEntry 6 (some .int)) (by decide +kernel) rfl, by decide +kernel, by decide +kernel, by decide +kernel⟩
theorem coX7_280 : Cond.constantLong RX7 280 (50000) ∈ aT := aT_in 1103 (by decide +kernel) rfl
theorem clL_142 : aCalV RL 142 yX7_removeEntry cX7_removeEntry 2 (some .int) 1 := ⟨aT_in 1104 (w := Cond.methodLink RL 142 yX7_removeEntry) (by decide +kernel) rfl, aT_in 1105 (w := Cond.instanceMethod yX7_removeEntry) (by decide +kernel) rfl, aT_in 1106 (w := Cond.selects (yX7_removeEntry).cls yX7_removeEntry yX7_removeEntry) (by decide +kernel) rfl, aT_in 8 (w := Cond.initialized (yX7_removeEntry).cls) (by decide +kernel) rfl, aT_in 1107 (w := Cond.code yX7_removeEntry cX7_removeEntry 2 (some .int)) (by decide +kernel) rfl, by decide +kernel, by decide +kernel, by decide +kernel⟩
theorem clX7_282 : aCalV RX7 282 yX7_isEntry cX7_isEntry 2 (some .boolean) 1 := ⟨aT_in 1108 (w := Cond.methodLink RX7 282 yX7_isEntry) (by decide +kernel) rfl, aT_in 1110 (w := Cond.instanceMethod yX7_isEntry) (by decide +kernel) rfl, aT_selI 48 (n := 53) (by decide +kernel), aT_in 8 (w := Cond.initialized (yX7_isEntry).cls) (by decide +kernel) rfl, aT_in 1111 (w := Cond.code yX7_isEntry cX7_isEntry 2 (some .boolean)) (by decide +kernel) rfl, by decide +kernel, by decide +kernel, by decide +kernel⟩
theorem clX7_285 : aCalV RX7 285 yX7_dropsEntry cX7_dropsEntry 3 none 1 := ⟨aT_in 1112 (w := Cond.methodLink RX7 285 yX7_dropsEntry) (by decide +kernel) rfl, aT_in 1114 (w := Cond.instanceMethod yX7_dropsEntry) (by decide +kernel) rfl, aT_selI 49 (n := 53) (by decide +kernel), aT_in 8 (w := Cond.initialized (yX7_dropsEntry).cls) (by decide +kernel) rfl, aT_in 1115 (w := Cond.code yX7_dropsEntry cX7_dropsEntry 3 none) (by decide +kernel) rfl, by decide +kernel, by decide +kernel, by decide +kernel⟩
theorem clL_146 : aCalV RL 146 yX7_entryCount cX7_entryCount 1 (some .int) 0 := ⟨aT_in 1116 (w := Cond.methodLink RL 146 yX7_entryCount) (by decide +kernel) rfl, aT_in 1117 (w := Cond.instanceMethod yX7_entryCount) (by decide +kernel) rfl, aT_in 1118 (w := Cond.selects (yX7_entryCount).cls yX7_entryCount yX7_entryCount) (by decide +kernel) rfl, aT_in 8 (w := Cond.initialized (yX7_entryCount).cls) (by decide +kernel) rfl, aT_in 1119 (w := Cond.code yX7_entryCount cX7_entryCount 1 (some .int)) (by decide +kernel) rfl, by decide +kernel, by decide +kernel, by decide +kernel⟩
theorem clL_150 : aCalV RL 150 yX7_dueTime cX7_dueTime 2 (some .int) 1 := ⟨aT_in 1120 (w := Cond.methodLink RL 150 yX7_dueTime) (by decide +kernel) rfl, aT_in 1121 (w := Cond.instanceMethod yX7_dueTime) (by decide +kernel) rfl, aT_in 1122 (w := Cond.selects (yX7_dueTime).cls yX7_dueTime yX7_dueTime) (by decide +kernel) rfl, aT_in 8 (w := Cond.initialized (yX7_dueTime).cls) (by decide +kernel) rfl, aT_in 1123 (w := Cond.code yX7_dueTime cX7_dueTime 2 (some .int)) (by decide +kernel) rfl, by decide +kernel, by decide +kernel, by decide +kernel⟩
theorem clL_154 : aCalV RL 154 yX7_lastShift cX7_lastShift 2 (some .int) 1 := ⟨aT_in 1124 (w := Cond.methodLink RL 154 yX7_lastShift) (by decide +kernel) rfl, aT_in 1125 (w := Cond.instanceMethod yX7_lastShift) (by decide +kernel) rfl, aT_in 1126 (w := Cond.selects (yX7_lastShift).cls yX7_lastShift yX7_lastShift) (by decide +kernel) rfl, aT_in 8 (w := Cond.initialized (yX7_lastShift).cls) (by decide +kernel) rfl, aT_in 1127 (w := Cond.code yX7_lastShift cX7_lastShift 2 (some .int)) (by decide +kernel) rfl, by decide +kernel, by decide +kernel, by decide +kernel⟩
theorem clL_158 : aCalV RL 158 yX7_failureCount cX7_failureCount 1 (some .int) 0 := ⟨aT_in 1128 (w := Cond.methodLink RL 158 yX7_failureCount) (by decide +kernel) rfl, aT_in 1129 (w := Cond.instanceMethod yX7_failureCount) (by decide +kernel) rfl, aT_in 1130 (w := Cond.selects (yX7_failureCount).cls yX7_failureCount yX7_failureCount) (by decide +kernel) rfl, aT_in 8 (w := Cond.initialized (yX7_failureCount).cls) (by decide +kernel) rfl, aT_in 1131 (w := Cond.code yX7_failureCount cX7_failureCount 1 (some .int)) (by decide +kernel) rfl, by decide +kernel, by decide +kernel, by decide +kernel⟩
theorem clL_44 : aCalV RL 44 yX7_advance cX7_advance 5 (some .int) 1 := ⟨aT_in 1132 (w := Cond.methodLink RL 44 yX7_advance) (by decide +kernel) rfl, aT_in 1133 (w := Cond.instanceMethod yX7_advance) (by decide +kernel) rfl, aT_in 1134 (w := Cond.selects (yX7_advance).cls yX7_advance yX7_advance) (by decide +kernel) rfl, aT_in 8 (w := Cond.initialized (yX7_advance).cls) (by decide +kernel) rfl, aT_in 1135 (w := Cond.code yX7_advance cX7_advance 5 (some .int)) (by decide +kernel) rfl, by decide +kernel, by decide +kernel, by decide +kernel⟩
theorem coX7_302 : Cond.constantLong RX7 302 (2000) ∈ aT := aT_in 1136 (by decide +kernel) rfl
theorem clX7_304 : aCalV RX7 304 yX7_sounds cX7_sounds 3 none 1 := ⟨aT_in 1137 (w := Cond.methodLink RX7 304 yX7_sounds) (by decide +kernel) rfl, aT_in 1139 (w := Cond.instanceMethod yX7_sounds) (by decide +kernel) rfl, aT_selI 50 (n := 53) (by decide +kernel), aT_in 8 (w := Cond.initialized (yX7_sounds).cls) (by decide +kernel) rfl, aT_in 1140 (w := Cond.code yX7_sounds cX7_sounds 3 none) (by decide +kernel) rfl, by decide +kernel, by decide +kernel, by decide +kernel⟩
theorem clX7_298 : aCalV RX7 298 yX7_records cX7_records 3 none 2 := ⟨aT_in 1141 (w := Cond.methodLink RX7 298 yX7_records) (by decide +kernel) rfl, aT_in 1143 (w := Cond.instanceMethod yX7_records) (by decide +kernel) rfl, aT_selI 51 (n := 53) (by decide +kernel), aT_in 8 (w := Cond.initialized (yX7_records).cls) (by decide +kernel) rfl, aT_in 1144 (w := Cond.code yX7_records cX7_records 3 none) (by decide +kernel) rfl, by decide +kernel, by decide +kernel, by decide +kernel⟩
theorem clX7_307 : aCalV RX7 307 yX7_turns cX7_turns 2 none 1 := ⟨aT_in 1145 (w := Cond.methodLink RX7 307 yX7_turns) (by decide +kernel) rfl, aT_in 1147 (w := Cond.instanceMethod yX7_turns) (by decide +kernel) rfl, aT_selI 52 (n := 53) (by decide +kernel), aT_in 8 (w := Cond.initialized (yX7_turns).cls) (by decide +kernel) rfl, aT_in 1148 (w := Cond.code yX7_turns cX7_turns 2 none) (by decide +kernel) rfl, by decide +kernel, by decide +kernel, by decide +kernel⟩
theorem clX7_294 : aCalS RX7 294 yX7_turned cX7_turned 4 (some .int) 3 := ⟨aT_in 1149 (w := Cond.methodLink RX7 294 yX7_turned) (by decide +kernel) rfl, aT_in 1150 (w := Cond.static yX7_turned) (by decide +kernel) rfl, aT_in 8 (w := Cond.initialized (yX7_turned).cls) (by decide +kernel) rfl, aT_in 1151 (w := Cond.code yX7_turned cX7_turned 4 (some .int)) (by decide +kernel) rfl, by decide +kernel, by decide +kernel, by decide +kernel⟩
theorem clX7_310 : aCalV RX7 310 yX7_looksAtEntries cX7_looksAtEntries 2 none 0 := ⟨aT_in 1152 (w := Cond.methodLink RX7 310 yX7_looksAtEntries) (by decide +kernel) rfl, aT_in 1154 (w := Cond.instanceMethod yX7_looksAtEntries) (by decide +kernel) rfl, aT_selI 53 (n := 53) (by decide +kernel), aT_in 8 (w := Cond.initialized (yX7_looksAtEntries).cls) (by decide +kernel) rfl, aT_in 1155 (w := Cond.code yX7_looksAtEntries cX7_looksAtEntries 2 none) (by decide +kernel) rfl, by decide +kernel, by decide +kernel, by decide +kernel⟩
theorem clX7_291 : aCalV RX7 291 yX7_carriesOut cX7_carriesOut 2 (some .boolean) 1 := ⟨aT_in 1156 (w := Cond.methodLink RX7 291 yX7_carriesOut) (by decide +kernel) rfl, aT_in 1158 (w := Cond.instanceMethod yX7_carriesOut) (by decide +kernel) rfl, aT_selI 54 (n := 53) (by decide +kernel), aT_in 8 (w := Cond.initialized (yX7_carriesOut).cls) (by decide +kernel) rfl, aT_in 1159 (w := Cond.code yX7_carriesOut cX7_carriesOut 2 (some .boolean)) (by decide +kernel) rfl, by decide +kernel, by decide +kernel, by decide +kernel⟩
theorem clL_162 : aCalV RL 162 yX7_startSwing cX7_startSwing 3 (some .int) 2 := ⟨aT_in 1160 (w := Cond.methodLink RL 162 yX7_startSwing) (by decide +kernel) rfl, aT_in 1161 (w := Cond.instanceMethod yX7_startSwing) (by decide +kernel) rfl, aT_in 1162 (w := Cond.selects (yX7_startSwing).cls yX7_startSwing yX7_startSwing) (by decide +kernel) rfl, aT_in 8 (w := Cond.initialized (yX7_startSwing).cls) (by decide +kernel) rfl, aT_in 1163 (w := Cond.code yX7_startSwing cX7_startSwing 3 (some .int)) (by decide +kernel) rfl, by decide +kernel, by decide +kernel, by decide +kernel⟩
theorem coX7_319 : Cond.constantLong RX7 319 (1000) ∈ aT := aT_in 1164 (by decide +kernel) rfl
theorem clX7_321 : aCalV RX7 321 yX7_laysShake cX7_laysShake 8 none 1 := ⟨aT_in 1165 (w := Cond.methodLink RX7 321 yX7_laysShake) (by decide +kernel) rfl, aT_in 1167 (w := Cond.instanceMethod yX7_laysShake) (by decide +kernel) rfl, aT_selI 55 (n := 53) (by decide +kernel), aT_in 8 (w := Cond.initialized (yX7_laysShake).cls) (by decide +kernel) rfl, aT_in 1168 (w := Cond.code yX7_laysShake cX7_laysShake 8 none) (by decide +kernel) rfl, by decide +kernel, by decide +kernel, by decide +kernel⟩
theorem clX7_313 : aCalV RX7 313 yX7_forceBy cX7_forceBy 5 (some .int) 4 := ⟨aT_in 1169 (w := Cond.methodLink RX7 313 yX7_forceBy) (by decide +kernel) rfl, aT_in 1171 (w := Cond.instanceMethod yX7_forceBy) (by decide +kernel) rfl, aT_selI 56 (n := 53) (by decide +kernel), aT_in 8 (w := Cond.initialized (yX7_forceBy).cls) (by decide +kernel) rfl, aT_in 1172 (w := Cond.code yX7_forceBy cX7_forceBy 5 (some .int)) (by decide +kernel) rfl, by decide +kernel, by decide +kernel, by decide +kernel⟩
theorem clX7_324 : aCalV RX7 324 yX7_laysStarted cX7_laysStarted 7 none 2 := ⟨aT_in 1173 (w := Cond.methodLink RX7 324 yX7_laysStarted) (by decide +kernel) rfl, aT_in 1175 (w := Cond.instanceMethod yX7_laysStarted) (by decide +kernel) rfl, aT_selI 57 (n := 53) (by decide +kernel), aT_in 8 (w := Cond.initialized (yX7_laysStarted).cls) (by decide +kernel) rfl, aT_in 1176 (w := Cond.code yX7_laysStarted cX7_laysStarted 7 none) (by decide +kernel) rfl, by decide +kernel, by decide +kernel, by decide +kernel⟩
theorem clX7_327 : aCalV RX7 327 yX7_worstBy cX7_worstBy 5 (some .int) 1 := ⟨aT_in 1177 (w := Cond.methodLink RX7 327 yX7_worstBy) (by decide +kernel) rfl, aT_in 1179 (w := Cond.instanceMethod yX7_worstBy) (by decide +kernel) rfl, aT_selI 58 (n := 53) (by decide +kernel), aT_in 8 (w := Cond.initialized (yX7_worstBy).cls) (by decide +kernel) rfl, aT_in 1180 (w := Cond.code yX7_worstBy cX7_worstBy 5 (some .int)) (by decide +kernel) rfl, by decide +kernel, by decide +kernel, by decide +kernel⟩
theorem clX7_316 : aCalS RX7 316 yX7_sizeOf cX7_sizeOf 1 (some .int) 1 := ⟨aT_in 1181 (w := Cond.methodLink RX7 316 yX7_sizeOf) (by decide +kernel) rfl, aT_in 1182 (w := Cond.static yX7_sizeOf) (by decide +kernel) rfl, aT_in 8 (w := Cond.initialized (yX7_sizeOf).cls) (by decide +kernel) rfl, aT_in 1183 (w := Cond.code yX7_sizeOf cX7_sizeOf 1 (some .int)) (by decide +kernel) rfl, by decide +kernel, by decide +kernel, by decide +kernel⟩
theorem clL_166 : aCalV RL 166 yX7_stopMotor cX7_stopMotor 2 (some .int) 1 := ⟨aT_in 1184 (w := Cond.methodLink RL 166 yX7_stopMotor) (by decide +kernel) rfl, aT_in 1185 (w := Cond.instanceMethod yX7_stopMotor) (by decide +kernel) rfl, aT_in 1186 (w := Cond.selects (yX7_stopMotor).cls yX7_stopMotor yX7_stopMotor) (by decide +kernel) rfl, aT_in 8 (w := Cond.initialized (yX7_stopMotor).cls) (by decide +kernel) rfl, aT_in 1187 (w := Cond.code yX7_stopMotor cX7_stopMotor 2 (some .int)) (by decide +kernel) rfl, by decide +kernel, by decide +kernel, by decide +kernel⟩
theorem clL_171 : aCalV RL 171 yX7_holdClapper cX7_holdClapper 4 (some .int) 2 := ⟨aT_in 1188 (w := Cond.methodLink RL 171 yX7_holdClapper) (by decide +kernel) rfl, aT_in 1189 (w := Cond.instanceMethod yX7_holdClapper) (by decide +kernel) rfl, aT_in 1190 (w := Cond.selects (yX7_holdClapper).cls yX7_holdClapper yX7_holdClapper) (by decide +kernel) rfl, aT_in 8 (w := Cond.initialized (yX7_holdClapper).cls) (by decide +kernel) rfl, aT_in 1191 (w := Cond.code yX7_holdClapper cX7_holdClapper 4 (some .int)) (by decide +kernel) rfl, by decide +kernel, by decide +kernel, by decide +kernel⟩
theorem clL_175 : aCalV RL 175 yX7_amplitude cX7_amplitude 2 (some .int) 1 := ⟨aT_in 1192 (w := Cond.methodLink RL 175 yX7_amplitude) (by decide +kernel) rfl, aT_in 1193 (w := Cond.instanceMethod yX7_amplitude) (by decide +kernel) rfl, aT_in 1194 (w := Cond.selects (yX7_amplitude).cls yX7_amplitude yX7_amplitude) (by decide +kernel) rfl, aT_in 8 (w := Cond.initialized (yX7_amplitude).cls) (by decide +kernel) rfl, aT_in 1195 (w := Cond.code yX7_amplitude cX7_amplitude 2 (some .int)) (by decide +kernel) rfl, by decide +kernel, by decide +kernel, by decide +kernel⟩
theorem clL_179 : aCalV RL 179 yX7_nextTurn cX7_nextTurn 2 (some .int) 1 := ⟨aT_in 1196 (w := Cond.methodLink RL 179 yX7_nextTurn) (by decide +kernel) rfl, aT_in 1197 (w := Cond.instanceMethod yX7_nextTurn) (by decide +kernel) rfl, aT_in 1198 (w := Cond.selects (yX7_nextTurn).cls yX7_nextTurn yX7_nextTurn) (by decide +kernel) rfl, aT_in 8 (w := Cond.initialized (yX7_nextTurn).cls) (by decide +kernel) rfl, aT_in 1199 (w := Cond.code yX7_nextTurn cX7_nextTurn 2 (some .int)) (by decide +kernel) rfl, by decide +kernel, by decide +kernel, by decide +kernel⟩
theorem clL_183 : aCalV RL 183 yX7_amplitudeAfter cX7_amplitudeAfter 3 (some .int) 2 := ⟨aT_in 1200 (w := Cond.methodLink RL 183 yX7_amplitudeAfter) (by decide +kernel) rfl, aT_in 1201 (w := Cond.instanceMethod yX7_amplitudeAfter) (by decide +kernel) rfl, aT_in 1202 (w := Cond.selects (yX7_amplitudeAfter).cls yX7_amplitudeAfter yX7_amplitudeAfter) (by decide +kernel) rfl, aT_in 8 (w := Cond.initialized (yX7_amplitudeAfter).cls) (by decide +kernel) rfl, aT_in 1203 (w := Cond.code yX7_amplitudeAfter cX7_amplitudeAfter 3 (some .int)) (by decide +kernel) rfl, by decide +kernel, by decide +kernel, by decide +kernel⟩
theorem clX7_330 : aCalV RX7 330 yX7_farBehind cX7_farBehind 5 (some .int) 2 := ⟨aT_in 1204 (w := Cond.methodLink RX7 330 yX7_farBehind) (by decide +kernel) rfl, aT_in 1206 (w := Cond.instanceMethod yX7_farBehind) (by decide +kernel) rfl, aT_selI 59 (n := 53) (by decide +kernel), aT_in 8 (w := Cond.initialized (yX7_farBehind).cls) (by decide +kernel) rfl, aT_in 1207 (w := Cond.code yX7_farBehind cX7_farBehind 5 (some .int)) (by decide +kernel) rfl, by decide +kernel, by decide +kernel, by decide +kernel⟩
theorem clL_187 : aCalV RL 187 yX7_turnsUntilLoud cX7_turnsUntilLoud 3 (some .int) 1 := ⟨aT_in 1208 (w := Cond.methodLink RL 187 yX7_turnsUntilLoud) (by decide +kernel) rfl, aT_in 1209 (w := Cond.instanceMethod yX7_turnsUntilLoud) (by decide +kernel) rfl, aT_in 1210 (w := Cond.selects (yX7_turnsUntilLoud).cls yX7_turnsUntilLoud yX7_turnsUntilLoud) (by decide +kernel) rfl, aT_in 8 (w := Cond.initialized (yX7_turnsUntilLoud).cls) (by decide +kernel) rfl, aT_in 1211 (w := Cond.code yX7_turnsUntilLoud cX7_turnsUntilLoud 3 (some .int)) (by decide +kernel) rfl, by decide +kernel, by decide +kernel, by decide +kernel⟩
theorem clL_191 : aCalV RL 191 yX7_force cX7_force 2 (some .int) 1 := ⟨aT_in 1212 (w := Cond.methodLink RL 191 yX7_force) (by decide +kernel) rfl, aT_in 1213 (w := Cond.instanceMethod yX7_force) (by decide +kernel) rfl, aT_in 1214 (w := Cond.selects (yX7_force).cls yX7_force yX7_force) (by decide +kernel) rfl, aT_in 8 (w := Cond.initialized (yX7_force).cls) (by decide +kernel) rfl, aT_in 1215 (w := Cond.code yX7_force cX7_force 2 (some .int)) (by decide +kernel) rfl, by decide +kernel, by decide +kernel, by decide +kernel⟩
theorem clL_195 : aCalV RL 195 yX7_shake cX7_shake 2 (some .int) 1 := ⟨aT_in 1216 (w := Cond.methodLink RL 195 yX7_shake) (by decide +kernel) rfl, aT_in 1217 (w := Cond.instanceMethod yX7_shake) (by decide +kernel) rfl, aT_in 1218 (w := Cond.selects (yX7_shake).cls yX7_shake yX7_shake) (by decide +kernel) rfl, aT_in 8 (w := Cond.initialized (yX7_shake).cls) (by decide +kernel) rfl, aT_in 1219 (w := Cond.code yX7_shake cX7_shake 2 (some .int)) (by decide +kernel) rfl, by decide +kernel, by decide +kernel, by decide +kernel⟩
theorem coX7_333 : Cond.constantLong RX7 333 (600) ∈ aT := aT_in 1220 (by decide +kernel) rfl
theorem clL_199 : aCalV RL 199 yX7_greatestShake cX7_greatestShake 4 (some .int) 1 := ⟨aT_in 1221 (w := Cond.methodLink RL 199 yX7_greatestShake) (by decide +kernel) rfl, aT_in 1222 (w := Cond.instanceMethod yX7_greatestShake) (by decide +kernel) rfl, aT_in 1223 (w := Cond.selects (yX7_greatestShake).cls yX7_greatestShake yX7_greatestShake) (by decide +kernel) rfl, aT_in 8 (w := Cond.initialized (yX7_greatestShake).cls) (by decide +kernel) rfl, aT_in 1224 (w := Cond.code yX7_greatestShake cX7_greatestShake 4 (some .int)) (by decide +kernel) rfl, by decide +kernel, by decide +kernel, by decide +kernel⟩
theorem clL_203 : aCalV RL 203 yX7_setShakeLimit cX7_setShakeLimit 3 (some .int) 1 := ⟨aT_in 1225 (w := Cond.methodLink RL 203 yX7_setShakeLimit) (by decide +kernel) rfl, aT_in 1226 (w := Cond.instanceMethod yX7_setShakeLimit) (by decide +kernel) rfl, aT_in 1227 (w := Cond.selects (yX7_setShakeLimit).cls yX7_setShakeLimit yX7_setShakeLimit) (by decide +kernel) rfl, aT_in 8 (w := Cond.initialized (yX7_setShakeLimit).cls) (by decide +kernel) rfl, aT_in 1228 (w := Cond.code yX7_setShakeLimit cX7_setShakeLimit 3 (some .int)) (by decide +kernel) rfl, by decide +kernel, by decide +kernel, by decide +kernel⟩
theorem clL_207 : aCalV RL 207 yX7_calmestWait cX7_calmestWait 7 (some .int) 2 := ⟨aT_in 1229 (w := Cond.methodLink RL 207 yX7_calmestWait) (by decide +kernel) rfl, aT_in 1230 (w := Cond.instanceMethod yX7_calmestWait) (by decide +kernel) rfl, aT_in 1231 (w := Cond.selects (yX7_calmestWait).cls yX7_calmestWait yX7_calmestWait) (by decide +kernel) rfl, aT_in 8 (w := Cond.initialized (yX7_calmestWait).cls) (by decide +kernel) rfl, aT_in 1232 (w := Cond.code yX7_calmestWait cX7_calmestWait 7 (some .int)) (by decide +kernel) rfl, by decide +kernel, by decide +kernel, by decide +kernel⟩
theorem arc_int : Cond.arrayClass .int ∈ aT := aT_in 99 (by decide +kernel) rfl
theorem nat_copy : Cond.native arraycopyName ∈ aT ∧ Cond.static arraycopyName ∈ aT ∧ Cond.initialized "java/lang/System" ∈ aT := ⟨aT_in 320 (by decide +kernel) rfl, aT_in 319 (by decide +kernel) rfl, aT_in 9 (by decide +kernel) rfl⟩
theorem arc_boolean : Cond.arrayClass .boolean ∈ aT := aT_in 880 (by decide +kernel) rfl
theorem obj_ini : Cond.instanceMethod objectInit ∈ aT ∧ Cond.code objectInit ⟨#[0xb1]⟩ 1 none ∈ aT := ⟨aT_in 18 (by decide +kernel) rfl, aT_in 19 (by decide +kernel) rfl⟩
theorem obX6_3 : Cond.methodLink RX6 3 objectInit ∈ aT := aT_in 17 (by decide +kernel) rfl
theorem obX0_3 : Cond.methodLink RX0 3 objectInit ∈ aT := aT_in 26 (by decide +kernel) rfl
theorem obX5_3 : Cond.methodLink RX5 3 objectInit ∈ aT := aT_in 78 (by decide +kernel) rfl
theorem obX4_3 : Cond.methodLink RX4 3 objectInit ∈ aT := aT_in 105 (by decide +kernel) rfl
theorem obX3_3 : Cond.methodLink RX3 3 objectInit ∈ aT := aT_in 130 (by decide +kernel) rfl
theorem obX2_3 : Cond.methodLink RX2 3 objectInit ∈ aT := aT_in 178 (by decide +kernel) rfl
theorem obX1_3 : Cond.methodLink RX1 3 objectInit ∈ aT := aT_in 192 (by decide +kernel) rfl
theorem acX4_28 : Cond.methodLink RX4 28 arraycopyName ∈ aT := aT_in 318 (by decide +kernel) rfl
theorem acX3_86 : Cond.methodLink RX3 86 arraycopyName ∈ aT := aT_in 548 (by decide +kernel) rfl
theorem acX6_195 : Cond.methodLink RX6 195 arraycopyName ∈ aT := aT_in 556 (by decide +kernel) rfl
theorem obX7_7 : Cond.methodLink RX7 7 objectInit ∈ aT := aT_in 719 (by decide +kernel) rfl
/-- the words that are handed on beside aT -/
def aN (U : State) : Prop := (∀ w ∈ tables_1, (∃ own idx y host, w = Cond.methodLinkNest own idx y host) → va_Nw w U) ∧ va_AO RX0 U ∧ va_AO RX2 U ∧ va_AO RX1 U
theorem aAO : Cond.arrayOver (.object RX0) ∈ tables_1 ∧ Cond.arrayOver (.object RX2) ∈ tables_1 ∧ Cond.arrayOver (.object RX1) ∈ tables_1 := ⟨List.mem_of_getElem? (i := 21) (by decide +kernel), List.mem_of_getElem? (i := 171) (by decide +kernel), List.mem_of_getElem? (i := 173) (by decide +kernel)⟩
end
section
-- part 02: the abstract machine over integers (printed by wip/whole/gen/gen02.py)
/-! Every object and array of a run has a number (its place in the order of making, from 1 on; 0 is the script). A number's kind is SH. Ints of all cells: mi (cell, place) as integers; references: mr. AW says: from this frame the method comes to a return that meets Po. -/
abbrev aM : Type := Nat → Int → Int
abbrev aR : Type := Nat → Int → Option Nat
def iI (x : Int) : Value := .int (Int32.ofInt x)
def lL (x : Int) : Value := .long (Int64.ofInt x)
def adr (b base k : Nat) : Nat := match k with
  | 0 => b
  | k + 1 => base + k
def cv (b base : Nat) (v : Value) : Value := match v with
  | .ref k => .ref (adr b base k)
  | v => v
def clv (b base : Nat) (lv : List (Nat × Value)) : List (Nat × Value) := lv.map (fun q => (q.1, cv b base q.2))
def aup {α : Type} (f : Nat → Int → α) (a : Nat) (k : Int) (v : α) : Nat → Int → α := fun x j => if x = a ∧ j = k then v else f x j
def SHL : List (Nat × Nat) := [(99, 0), (0, 6), (3, 12), (0, 0), (0, 5), (1, 200), (1, 200), (1, 200), (0, 4), (1, 300), (1, 300), (1, 300), (1, 51), (0, 4), (1, 300), (1, 300), (1, 300), (1, 51), (0, 3), (1, 300), (1, 100), (1, 3), (1, 3), (4, 5), (5, 8), (1, 720), (1, 601), (1, 51), (0, 0), (0, 0), (0, 0), (0, 0), (0, 0), (0, 0), (0, 0), (0, 0), (0, 0), (0, 0), (0, 0), (0, 0), (0, 2), (1, 100), (0, 2), (1, 100), (0, 2), (1, 100), (0, 2), (1, 100), (0, 2), (1, 100), (0, 1), (0, 1), (0, 1), (0, 1), (0, 1), (0, 1), (0, 1), (0, 1), (0, 7), (1, 12), (1, 12), (1, 12), (1, 12), (1, 12), (1, 200), (1, 200), (2, 200), (1, 300), (1, 300), (1, 300), (1, 52), (1, 300), (1, 500), (1, 5), (1, 100), (1, 300), (1, 300), (1, 300), (1, 12), (2, 12), (1, 8), (1, 8), (1, 8), (1, 8), (1, 8), (1, 8), (2, 12), (2, 12), (2, 12), (1, 12), (1, 12), (1, 12), (1, 12), (1, 720), (1, 601)]
def SH (a : Nat) : Nat × Nat := SHL.getD a (99, 0)
theorem SH_len (a : Nat) : (SH a).2 ≤ 1000 := by
  unfold SH
  by_cases h : a < SHL.length
  · have key : ∀ q ∈ SHL, q.2 ≤ 1000 := by decide +kernel
    have e : SHL.getD a (99, 0) ∈ SHL := by
      rw [List.getD_eq_getElem?_getD, List.getElem?_eq_getElem h]
      exact List.getElem_mem h
    exact key _ e
  · rw [List.getD_eq_getElem?_getD, List.getElem?_eq_none (by omega)]
    exact Nat.zero_le _
abbrev aTys (cA : Nat → ClassId) : List (ClassId × FieldType) := [(cA 0, .int), (cA 1, .boolean), (cA 2, .object RX0), (cA 3, .object RX2), (cA 4, .object RX1)]
def fval (mi : aM) (mr : aR) (b base a ci k : Nat) : Value := if (fty ci k).isReference = true then va_rf ((mr a k).map (adr b base)) else .int (Int32.ofInt (mi a k))
def cel (cA : Nat → ClassId) (mi : aM) (mr : aR) (b base a : Nat) : va_E := match SH a with
  | (0, ci) => .inr (ci, (List.range (nF ci)).map (fval mi mr b base a ci))
  | (1, n) => .inl (cA 0, n, .inl (fun j => Int32.ofInt (mi a j)))
  | (2, n) => .inl (cA 1, n, .inl (fun j => Int32.ofInt (mi a j)))
  | (t + 3, n) => .inl (cA (t + 2), n, .inr (.inr (.inr (.inr (fun j => (mr a j).map (adr b base))))))
def wld (cA : Nat → ClassId) (mi : aM) (mr : aR) (b base n : Nat) : va_W := (List.range n).map (fun k => (base + k, cel cA mi mr b base (k + 1)))
def aI (D : va_G) (cA : Nat → ClassId) (b base n : Nat) (mi : aM) (mr : aR) (H : Heap) : Prop :=
  H.size = base + n ∧ va_P D vwCl (wld cA mi mr b base n) H ∧ (∀ (a : Nat) (k : Int), -2147483648 ≤ mi a k ∧ mi a k ≤ 2147483647) ∧ (∀ (a : Nat) (k : Int), n < a → mi a k = 0 ∧ mr a k = none)
theorem aOwn {ci N : Nat} {C : String} {F : u_T} (h : vwCl[ci]? = some (C, F, N)) : ∀ k, k < N → (F k).1 = C := by
  match ci, h with
  | 0, h => cases h; decide +kernel
  | 1, h => cases h; decide +kernel
  | 2, h => cases h; decide +kernel
  | 3, h => cases h; decide +kernel
  | 4, h => cases h; decide +kernel
  | 5, h => cases h; decide +kernel
  | 6, h => cases h; decide +kernel
  | 7, h => cases h; decide +kernel
  | k + 8, h => simp [vwCl] at h
theorem cv_cat (b base : Nat) (v : Value) : (cv b base v).category = v.category := by cases v <;> rfl
theorem clv_at {b base : Nat} {lv : List (Nat × Value)} {k i : Nat} {v : Value} (h : lv[k]? = some (i, v)) : (clv b base lv)[k]? = some (i, cv b base v) := by simp [clv, h]
theorem clv_store (b base i : Nat) (v : Value) (lv : List (Nat × Value)) : (i, cv b base v) :: (clv b base lv).filter (fun q => !(q.1 == i) && !(q.1 + 1 == i && q.2.category == 2)) = clv b base ((i, v) :: lv.filter (fun q => !(q.1 == i) && !(q.1 + 1 == i && q.2.category == 2))) := by
  simp [clv, List.filter_map, Function.comp_def, cv_cat]
theorem clv_store2 (b base i : Nat) (v : Value) (lv : List (Nat × Value)) : (i, cv b base v) :: (clv b base lv).filter (fun q => !(q.1 == i) && (!(q.1 == i + 1) && !(q.1 + 1 == i && q.2.category == 2))) = clv b base ((i, v) :: lv.filter (fun q => !(q.1 == i) && (!(q.1 == i + 1) && !(q.1 + 1 == i && q.2.category == 2)))) := by
  simp [clv, List.filter_map, Function.comp_def, cv_cat]
theorem clv_pick (b base : Nat) (lv : List (Nat × Value)) (ks : List Nat) : lv_pick (clv b base lv) ks = clv b base (lv_pick lv ks) := by
  induction ks with
  | nil => rfl
  | cons k ks ih =>
    simp only [lv_pick, clv, List.filterMap_cons, List.getElem?_map] at ih ⊢
    cases h : lv[k]? <;> simp [ih]
theorem clv_args (b base : Nat) (av : List Value) : ∀ i, lv_args i (av.map (cv b base)) = clv b base (lv_args i av) := by
  induction av with
  | nil => intro i; rfl
  | cons v t ih =>
    intro i
    simp only [List.map_cons, lv_args, cv_cat, ih, clv, List.map_cons]
theorem sl_len (b base : Nat) (av : List Value) : (lg_sl (av.map (cv b base))).length = (lg_sl av).length := by
  induction av with
  | nil => rfl
  | cons v t ih =>
    simp only [lg_sl, List.map_cons, List.flatMap_cons, List.length_append] at ih ⊢
    rw [ih, cv_cat]
    by_cases h : v.category = 2 <;> simp [h]
theorem cat_sum (b base : Nat) (st : List Value) : ((st.map (cv b base)).map fun v => v.category).sum = (st.map fun v => v.category).sum := by
  induction st with
  | nil => rfl
  | cons v t ih => simp only [List.map_cons, List.sum_cons, ih, cv_cat]
theorem wld_at {cA : Nat → ClassId} {mi : aM} {mr : aR} {b base n a : Nat} (h : 0 < a ∧ a ≤ n) : (wld cA mi mr b base n)[a - 1]? = some (adr b base a, cel cA mi mr b base a) := by
  obtain ⟨k, rfl⟩ : ∃ k, a = k + 1 := ⟨a - 1, by omega⟩
  have hk : k < n := by omega
  simp [wld, hk, adr]
theorem wld_D (cA : Nat → ClassId) (mi : aM) (mr : aR) (b base n : Nat) : va_D (fun q => base ≤ q) (wld cA mi mr b base n) := by
  have key : ∀ (k : Nat) (q : Nat × va_E), (wld cA mi mr b base n)[k]? = some q → q.1 = base + k := by
    intro k q h
    simp only [wld, List.getElem?_map, Option.map_eq_some_iff] at h
    obtain ⟨j, h1, rfl⟩ := h
    have := List.getElem?_eq_some_iff.mp h1
    obtain ⟨h2, h3⟩ := this
    simp at h3
    simp [h3]
  refine ⟨fun i j p q h1 h2 h3 => ?_, fun k q h => ?_⟩
  · have e1 := key i p h1
    have e2 := key j q h2
    omega
  · have e1 := key k q h
    show base ≤ q.1
    omega
theorem cel_eq {cA : Nat → ClassId} {mi mi' : aM} {mr mr' : aR} {b base a : Nat} (h : ∀ j : Int, mi' a j = mi a j ∧ mr' a j = mr a j) : cel cA mi' mr' b base a = cel cA mi mr b base a := by
  have e1 : ∀ j : Int, mi' a j = mi a j := fun j => (h j).1
  have e2 : ∀ j : Int, mr' a j = mr a j := fun j => (h j).2
  unfold cel fval
  simp only [e1, e2]
theorem wld_set {cA : Nat → ClassId} {mi mi' : aM} {mr mr' : aR} {b base n a : Nat} {e : va_E} (ha : 0 < a ∧ a ≤ n) (hm : ∀ (x : Nat) (j : Int), x ≠ a → mi' x j = mi x j ∧ mr' x j = mr x j) (he : e = cel cA mi' mr' b base a) :
    (wld cA mi mr b base n).set (a - 1) (adr b base a, e) = wld cA mi' mr' b base n := by
  obtain ⟨k, rfl⟩ : ∃ k, a = k + 1 := ⟨a - 1, by omega⟩
  have hk : k < n := by omega
  apply List.ext_getElem?
  intro j
  simp only [Nat.add_sub_cancel, List.getElem?_set]
  by_cases hj : k = j
  · subst hj
    simp [wld, hk, adr, he]
  · simp only [hj, if_false, wld, List.getElem?_map]
    cases hr : (List.range n)[j]? with
    | none => simp
    | some x =>
      have hx : x = j := by
        obtain ⟨h2, h3⟩ := List.getElem?_eq_some_iff.mp hr
        simpa using h3.symm
      subst hx
      simp only [Option.map_some]
      rw [cel_eq (mi := mi) (mi' := mi') (mr := mr) (mr' := mr') (fun q => hm (x + 1) q (by omega))]
theorem oI_toInt {x : Int} (h : -2147483648 ≤ x ∧ x ≤ 2147483647) : (Int32.ofInt x).toInt = x := Int32.toInt_ofInt_of_le (by omega) (by omega)
theorem oI_lt {x y : Int} (hx : -2147483648 ≤ x ∧ x ≤ 2147483647) (hy : -2147483648 ≤ y ∧ y ≤ 2147483647) : Int32.ofInt x < Int32.ofInt y ↔ x < y := by rw [Int32.lt_iff_toInt_lt, oI_toInt hx, oI_toInt hy]
theorem oI_le {x y : Int} (hx : -2147483648 ≤ x ∧ x ≤ 2147483647) (hy : -2147483648 ≤ y ∧ y ≤ 2147483647) : Int32.ofInt x ≤ Int32.ofInt y ↔ x ≤ y := by rw [Int32.le_iff_toInt_le, oI_toInt hx, oI_toInt hy]
theorem oI_eq {x y : Int} (hx : -2147483648 ≤ x ∧ x ≤ 2147483647) (hy : -2147483648 ≤ y ∧ y ≤ 2147483647) : Int32.ofInt x = Int32.ofInt y ↔ x = y := by rw [← Int32.toInt_inj, oI_toInt hx, oI_toInt hy]
theorem oI_0 : Int32.ofInt 0 = 0 := by decide
theorem oL_toInt {x : Int} (h : -9000000000000000000 ≤ x ∧ x ≤ 9000000000000000000) : (Int64.ofInt x).toInt = x := Int64.toInt_ofInt_of_le (by omega) (by omega)
theorem oI_in {i : Int} {n : Nat} (h : 0 ≤ i ∧ i < n) (hn : n ≤ 1000) : vp_in (Int32.ofInt i) n := by rw [vp_in_iff, oI_toInt (by omega)]; exact h
theorem oI_clamp {i : Int} (h : 0 ≤ i) (h2 : i ≤ 2147483647) : (((Int32.ofInt i).toNatClampNeg : Nat) : Int) = i := by
  rw [Int32.toNatClampNeg_ofInt_of_le (by omega) (by omega)]
  omega
theorem oI_neg {x : Int} (h : 0 ≤ x ∧ x ≤ 2147483647) : ¬ Int32.ofInt x < 0 := by
  rw [← oI_0, oI_lt (by omega) (by omega)]
  omega
theorem tdiv_rng {x y : Int} (hx : -2147483648 ≤ x ∧ x ≤ 2147483647) (h1 : y ≠ -1) : -2147483648 ≤ x.tdiv y ∧ x.tdiv y ≤ 2147483647 := by
  have e : (x.tdiv y).natAbs = x.natAbs / y.natAbs := Int.natAbs_tdiv x y
  by_cases h2 : y = 1
  · subst h2; rw [Int.tdiv_one]; exact hx
  · by_cases h3 : y = 0
    · subst h3; rw [Int.tdiv_zero]; omega
    · have h4 : x.natAbs / y.natAbs ≤ x.natAbs / 2 := Nat.div_le_div_left (by omega) (by omega)
      omega
def aRet (v : Option Int) : Instr × Nat := match v with
  | none => (.return_, 1)
  | some _ => (.ireturn, 1)
def aStk (v : Option Int) : List Value := match v with
  | none => []
  | some x => [iI x]
def aC (own : String) (cc : ByteArray) (nL d : Nat) (ini : Bool) (kc ks : Nat) (xo : Option (Nat × (Int → Int))) (D : va_G) (cA : Nat → ClassId) (b base : Nat) (p : Program) (R : Room) (s : State) (m : MethodId) (args : Array Value) (meth : Method) (c : Code) : Prop :=
  p.tables.exec = Jvm.exec ∧ c.code = cc ∧ c.maxLocals = nL ∧ s.vm.findClass own = some m.cls ∧ (∀ w ∈ aT, w.before args s = true) ∧ va_K D vwCl (aTys cA) s ∧ aN s ∧ (ini = true → meth.name = "<init>") ∧ (d ≤ R.frames ∧ 60 * d ≤ R.locals ∧ kc ≤ R.cells ∧ ks ≤ R.slots) ∧ base ≤ s.heap.size ∧ (∀ L xs, xo = some (L, xs) → b < base ∧ base = s.heap.size ∧ va_X b L (fun j => Int32.ofInt (xs j)) s s.heap)
def aRT (cc : ByteArray) (kc ks : Nat) (Po : Option Int → Nat → aM → aR → Prop) (D : va_G) (cA : Nat → ClassId) (b base : Nat) (p : Program) (l : Launch) (e : Env) (R : Room) (s : State) (m : MethodId) (args : Array Value) (below : List Frame) (meth : Method) (c : Code) (Q : State → Prop) : Prop :=
  ∀ (v : Option Int) (n' : Nat) (mi' : aM) (mr' : aR) (ck' sk' : Nat) (H' : Heap) (locs' : List Loc) (pc' : Nat) (ls' : Array Slot), Po v n' mi' mr' → aI D cA b base n' mi' mr' H' → va_S (fun q => base ≤ q) s.heap H' locs' → ck' ≤ kc → sk' ≤ ks → decode cc pc' = .ok (aRet v) → W p l e R s m args below meth c H' locs' ck' sk' Q (F0 m pc' ls' (aStk v))
def AW (own : String) (cc : ByteArray) (nL d : Nat) (ini : Bool) (kc ks : Nat) (xo : Option (Nat × (Int → Int))) (Po : Option Int → Nat → aM → aR → Prop) (n pc : Nat) (lv : List (Nat × Value)) (st : List Value) (mi : aM) (mr : aR) (ck sk : Nat) : Prop :=
  ∀ (p : Program) (l : Launch) (e : Env) (R : Room) (s : State) (m : MethodId) (args : Array Value) (below : List Frame) (meth : Method) (c : Code) (H : Heap) (locs : List Loc) (ls : Array Slot) (D : va_G) (cA : Nat → ClassId) (b base : Nat) (Q : State → Prop),
    aC own cc nL d ini kc ks xo D cA b base p R s m args meth c → aI D cA b base n mi mr H → va_S (fun q => base ≤ q) s.heap H locs → lv_has ls nL (clv b base lv) → aRT cc kc ks Po D cA b base p l e R s m args below meth c Q → W p l e R s m args below meth c H locs ck sk Q (F0 m pc ls (st.map (cv b base)))
theorem aI_put {D : va_G} {cA : Nat → ClassId} {b base n a : Nat} {mi mi' : aM} {mr mr' : aR} {H H1 : Heap} {e : va_E} (I : aI D cA b base n mi mr H) (ha : 0 < a ∧ a ≤ n) (hP : va_P D vwCl ((wld cA mi mr b base n).set (a - 1) (adr b base a, e)) H1) (hz : H1.size = H.size)
    (hm : ∀ (x : Nat) (j : Int), x ≠ a → mi' x j = mi x j ∧ mr' x j = mr x j) (he : e = cel cA mi' mr' b base a) (hr : ∀ j : Int, -2147483648 ≤ mi' a j ∧ mi' a j ≤ 2147483647) : aI D cA b base n mi' mr' H1 := by
  refine ⟨by rw [hz]; exact I.1, by rw [← wld_set ha hm he]; exact hP, fun x k => ?_, fun x k hx => ?_⟩
  · by_cases h : x = a
    · subst h; exact hr k
    · rw [(hm x k h).1]; exact I.2.2.1 x k
  · have hne : x ≠ a := by omega
    rw [(hm x k hne).1, (hm x k hne).2]
    exact I.2.2.2 x k hx
theorem aup_rng {mi : aM} {a : Nat} {k v : Int} (h : ∀ (a : Nat) (k : Int), -2147483648 ≤ mi a k ∧ mi a k ≤ 2147483647) (hv : -2147483648 ≤ v ∧ v ≤ 2147483647) (x : Nat) (j : Int) : -2147483648 ≤ aup mi a k v x j ∧ aup mi a k v x j ≤ 2147483647 := by
  unfold aup
  split
  · exact hv
  · exact h x j
section AWR
variable {own : String} {cc : ByteArray} {nL d : Nat} {ini : Bool} {kc ks : Nat} {xo : Option (Nat × (Int → Int))} {Po : Option Int → Nat → aM → aR → Prop} {n pc : Nat} {lv : List (Nat × Value)} {st : List Value} {mi : aM} {mr : aR} {ck sk : Nat}

theorem aw_iconst {i : Int} (hd : decode cc pc = .ok (.iconst i, 1)) (k : AW own cc nL d ini kc ks xo Po n (pc + 1) lv (iI i :: st) mi mr ck sk) : AW own cc nL d ini kc ks xo Po n pc lv st mi mr ck sk := by
  intro p l e R s m args below meth c H locs ls D cA b base Q C I S L T
  exact lv_iconst (v := Int32.ofInt i) C.1 C.2.1 hd rfl (k p l e R s m args below meth c H locs ls D cA b base Q C I S L T)
theorem aw_bipush {i x : Int} (hd : decode cc pc = .ok (.bipush i, 2)) (hx : (Int8.ofInt i).toInt32 = Int32.ofInt x) (k : AW own cc nL d ini kc ks xo Po n (pc + 2) lv (iI x :: st) mi mr ck sk) : AW own cc nL d ini kc ks xo Po n pc lv st mi mr ck sk := by
  intro p l e R s m args below meth c H locs ls D cA b base Q C I S L T
  exact lv_bipush (v := Int32.ofInt x) C.1 C.2.1 hd hx (k p l e R s m args below meth c H locs ls D cA b base Q C I S L T)
theorem aw_sipush {i x : Int} (hd : decode cc pc = .ok (.sipush i, 3)) (hx : (Int16.ofInt i).toInt32 = Int32.ofInt x) (k : AW own cc nL d ini kc ks xo Po n (pc + 3) lv (iI x :: st) mi mr ck sk) : AW own cc nL d ini kc ks xo Po n pc lv st mi mr ck sk := by
  intro p l e R s m args below meth c H locs ls D cA b base Q C I S L T
  exact lv_sipush (v := Int32.ofInt x) C.1 C.2.1 hd hx (k p l e R s m args below meth c H locs ls D cA b base Q C I S L T)
theorem aw_lconst {i : Fin 2} {x : Int} (hd : decode cc pc = .ok (.lconst i, 1)) (hx : Int64.ofNat (i : Nat) = Int64.ofInt x) (k : AW own cc nL d ini kc ks xo Po n (pc + 1) lv (lL x :: st) mi mr ck sk) : AW own cc nL d ini kc ks xo Po n pc lv st mi mr ck sk := by
  intro p l e R s m args below meth c H locs ls D cA b base Q C I S L T
  exact lv_lconst (v := Int64.ofInt x) C.1 C.2.1 hd hx (k p l e R s m args below meth c H locs ls D cA b base Q C I S L T)
theorem aw_ldc {i : Nat} {v : Int32} {x : Int} (hc : Cond.constant own i v ∈ aT) (hx : v = Int32.ofInt x) (hd : decode cc pc = .ok (.ldc i, 2)) (k : AW own cc nL d ini kc ks xo Po n (pc + 2) lv (iI x :: st) mi mr ck sk) : AW own cc nL d ini kc ks xo Po n pc lv st mi mr ck sk := by
  intro p l e R s m args below meth c H locs ls D cA b base Q C I S L T
  subst hx
  exact lv_ldc C.1 C.2.1 C.2.2.2.1 (C.2.2.2.2.1 _ hc) hd (k p l e R s m args below meth c H locs ls D cA b base Q C I S L T)
theorem aw_ldcw {i : Nat} {v : Int32} {x : Int} (hc : Cond.constant own i v ∈ aT) (hx : v = Int32.ofInt x) (hd : decode cc pc = .ok (.ldc_w i, 3)) (k : AW own cc nL d ini kc ks xo Po n (pc + 3) lv (iI x :: st) mi mr ck sk) : AW own cc nL d ini kc ks xo Po n pc lv st mi mr ck sk := by
  intro p l e R s m args below meth c H locs ls D cA b base Q C I S L T
  subst hx
  exact lv_ldcw C.1 C.2.1 C.2.2.2.1 (C.2.2.2.2.1 _ hc) hd (k p l e R s m args below meth c H locs ls D cA b base Q C I S L T)
theorem aw_ldc2 {i : Nat} {v : Int64} {x : Int} (hc : Cond.constantLong own i v ∈ aT) (hx : v = Int64.ofInt x) (hd : decode cc pc = .ok (.ldc2_w i, 3)) (k : AW own cc nL d ini kc ks xo Po n (pc + 3) lv (lL x :: st) mi mr ck sk) : AW own cc nL d ini kc ks xo Po n pc lv st mi mr ck sk := by
  intro p l e R s m args below meth c H locs ls D cA b base Q C I S L T
  subst hx
  exact lv_ldc2 C.1 C.2.1 C.2.2.2.1 (C.2.2.2.2.1 _ hc) hd (k p l e R s m args below meth c H locs ls D cA b base Q C I S L T)
theorem aw_iload_n {f : Fin 4} {i q : Nat} {x : Int} (hd : decode cc pc = .ok (.iload_n f, 1)) (hi : (f : Nat) = i) (hq : lv[q]? = some (i, iI x)) (k : AW own cc nL d ini kc ks xo Po n (pc + 1) lv (iI x :: st) mi mr ck sk) : AW own cc nL d ini kc ks xo Po n pc lv st mi mr ck sk := by
  intro p l e R s m args below meth c H locs ls D cA b base Q C I S L T
  exact lv_iload_n C.1 C.2.1 hd hi (lv_at L q (clv_at hq)) (k p l e R s m args below meth c H locs ls D cA b base Q C I S L T)
theorem aw_iload {i q : Nat} {x : Int} (hd : decode cc pc = .ok (.iload i, 2)) (hq : lv[q]? = some (i, iI x)) (k : AW own cc nL d ini kc ks xo Po n (pc + 2) lv (iI x :: st) mi mr ck sk) : AW own cc nL d ini kc ks xo Po n pc lv st mi mr ck sk := by
  intro p l e R s m args below meth c H locs ls D cA b base Q C I S L T
  exact lv_iload C.1 C.2.1 hd (lv_at L q (clv_at hq)) (k p l e R s m args below meth c H locs ls D cA b base Q C I S L T)
theorem aw_lload_n {f : Fin 4} {i q : Nat} {x : Int} (hd : decode cc pc = .ok (.lload_n f, 1)) (hi : (f : Nat) = i) (hq : lv[q]? = some (i, lL x)) (k : AW own cc nL d ini kc ks xo Po n (pc + 1) lv (lL x :: st) mi mr ck sk) : AW own cc nL d ini kc ks xo Po n pc lv st mi mr ck sk := by
  intro p l e R s m args below meth c H locs ls D cA b base Q C I S L T
  exact lv_lload_n C.1 C.2.1 hd hi (lv_at L q (clv_at hq)) (k p l e R s m args below meth c H locs ls D cA b base Q C I S L T)
theorem aw_lload {i q : Nat} {x : Int} (hd : decode cc pc = .ok (.lload i, 2)) (hq : lv[q]? = some (i, lL x)) (k : AW own cc nL d ini kc ks xo Po n (pc + 2) lv (lL x :: st) mi mr ck sk) : AW own cc nL d ini kc ks xo Po n pc lv st mi mr ck sk := by
  intro p l e R s m args below meth c H locs ls D cA b base Q C I S L T
  exact lv_lload C.1 C.2.1 hd (lv_at L q (clv_at hq)) (k p l e R s m args below meth c H locs ls D cA b base Q C I S L T)
theorem aw_aload_n {f : Fin 4} {i q : Nat} {x : Nat} (hd : decode cc pc = .ok (.aload_n f, 1)) (hi : (f : Nat) = i) (hq : lv[q]? = some (i, .ref x)) (k : AW own cc nL d ini kc ks xo Po n (pc + 1) lv (.ref x :: st) mi mr ck sk) : AW own cc nL d ini kc ks xo Po n pc lv st mi mr ck sk := by
  intro p l e R s m args below meth c H locs ls D cA b base Q C I S L T
  exact lv_aload_n C.1 C.2.1 hd hi (lv_at L q (clv_at hq)) (k p l e R s m args below meth c H locs ls D cA b base Q C I S L T)
theorem aw_aload {i q : Nat} {x : Nat} (hd : decode cc pc = .ok (.aload i, 2)) (hq : lv[q]? = some (i, .ref x)) (k : AW own cc nL d ini kc ks xo Po n (pc + 2) lv (.ref x :: st) mi mr ck sk) : AW own cc nL d ini kc ks xo Po n pc lv st mi mr ck sk := by
  intro p l e R s m args below meth c H locs ls D cA b base Q C I S L T
  exact lv_aload C.1 C.2.1 hd (lv_at L q (clv_at hq)) (k p l e R s m args below meth c H locs ls D cA b base Q C I S L T)
theorem aw_istore_n {f : Fin 4} {i : Nat} {lv' : List (Nat × Value)} {x : Int} (zs : List Nat) (hd : decode cc pc = .ok (.istore_n f, 1)) (hi : (f : Nat) = i) (hn : i < nL) (hl : lv_pick ((i, iI x) :: lv.filter (fun q => !(q.1 == i) && !(q.1 + 1 == i && q.2.category == 2))) zs = lv') (k : AW own cc nL d ini kc ks xo Po n (pc + 1) lv' st mi mr ck sk) : AW own cc nL d ini kc ks xo Po n pc lv (iI x :: st) mi mr ck sk := by
  intro p l e R s m args below meth c H locs ls D cA b base Q C I S L T
  exact lv_istore_n (x := Int32.ofInt x) C.1 C.2.1 hd hi L hn (clv_store b base i (iI x) lv) (fun ls' h' => k p l e R s m args below meth c H locs ls' D cA b base Q C I S (by have h2 := lv_sub h' zs (clv_pick b base _ zs); rw [hl] at h2; exact h2) T)
theorem aw_istore {i : Nat} {lv' : List (Nat × Value)} {x : Int} (zs : List Nat) (hd : decode cc pc = .ok (.istore i, 2)) (hn : i < nL) (hl : lv_pick ((i, iI x) :: lv.filter (fun q => !(q.1 == i) && !(q.1 + 1 == i && q.2.category == 2))) zs = lv') (k : AW own cc nL d ini kc ks xo Po n (pc + 2) lv' st mi mr ck sk) : AW own cc nL d ini kc ks xo Po n pc lv (iI x :: st) mi mr ck sk := by
  intro p l e R s m args below meth c H locs ls D cA b base Q C I S L T
  exact lv_istore (x := Int32.ofInt x) C.1 C.2.1 hd L hn (clv_store b base i (iI x) lv) (fun ls' h' => k p l e R s m args below meth c H locs ls' D cA b base Q C I S (by have h2 := lv_sub h' zs (clv_pick b base _ zs); rw [hl] at h2; exact h2) T)
theorem aw_astore_n {f : Fin 4} {i : Nat} {lv' : List (Nat × Value)} {x : Nat} (zs : List Nat) (hd : decode cc pc = .ok (.astore_n f, 1)) (hi : (f : Nat) = i) (hn : i < nL) (hl : lv_pick ((i, .ref x) :: lv.filter (fun q => !(q.1 == i) && !(q.1 + 1 == i && q.2.category == 2))) zs = lv') (k : AW own cc nL d ini kc ks xo Po n (pc + 1) lv' st mi mr ck sk) : AW own cc nL d ini kc ks xo Po n pc lv (.ref x :: st) mi mr ck sk := by
  intro p l e R s m args below meth c H locs ls D cA b base Q C I S L T
  exact lv_astore_n (x := adr b base x) C.1 C.2.1 hd hi L hn (clv_store b base i (.ref x) lv) (fun ls' h' => k p l e R s m args below meth c H locs ls' D cA b base Q C I S (by have h2 := lv_sub h' zs (clv_pick b base _ zs); rw [hl] at h2; exact h2) T)
theorem aw_astore {i : Nat} {lv' : List (Nat × Value)} {x : Nat} (zs : List Nat) (hd : decode cc pc = .ok (.astore i, 2)) (hn : i < nL) (hl : lv_pick ((i, .ref x) :: lv.filter (fun q => !(q.1 == i) && !(q.1 + 1 == i && q.2.category == 2))) zs = lv') (k : AW own cc nL d ini kc ks xo Po n (pc + 2) lv' st mi mr ck sk) : AW own cc nL d ini kc ks xo Po n pc lv (.ref x :: st) mi mr ck sk := by
  intro p l e R s m args below meth c H locs ls D cA b base Q C I S L T
  exact lv_astore (x := adr b base x) C.1 C.2.1 hd L hn (clv_store b base i (.ref x) lv) (fun ls' h' => k p l e R s m args below meth c H locs ls' D cA b base Q C I S (by have h2 := lv_sub h' zs (clv_pick b base _ zs); rw [hl] at h2; exact h2) T)
theorem aw_lstore_n {f : Fin 4} {i : Nat} {lv' : List (Nat × Value)} {x : Int} (zs : List Nat) (hd : decode cc pc = .ok (.lstore_n f, 1)) (hi : (f : Nat) = i) (hn : i + 1 < nL) (hl : lv_pick ((i, lL x) :: lv.filter (fun q => !(q.1 == i) && (!(q.1 == i + 1) && !(q.1 + 1 == i && q.2.category == 2)))) zs = lv') (k : AW own cc nL d ini kc ks xo Po n (pc + 1) lv' st mi mr ck sk) : AW own cc nL d ini kc ks xo Po n pc lv (lL x :: st) mi mr ck sk := by
  intro p l e R s m args below meth c H locs ls D cA b base Q C I S L T
  exact lv_lstore_n (x := Int64.ofInt x) C.1 C.2.1 hd hi L hn (clv_store2 b base i (lL x) lv) (fun ls' h' => k p l e R s m args below meth c H locs ls' D cA b base Q C I S (by have h2 := lv_sub h' zs (clv_pick b base _ zs); rw [hl] at h2; exact h2) T)
theorem aw_lstore {i : Nat} {lv' : List (Nat × Value)} {x : Int} (zs : List Nat) (hd : decode cc pc = .ok (.lstore i, 2)) (hn : i + 1 < nL) (hl : lv_pick ((i, lL x) :: lv.filter (fun q => !(q.1 == i) && (!(q.1 == i + 1) && !(q.1 + 1 == i && q.2.category == 2)))) zs = lv') (k : AW own cc nL d ini kc ks xo Po n (pc + 2) lv' st mi mr ck sk) : AW own cc nL d ini kc ks xo Po n pc lv (lL x :: st) mi mr ck sk := by
  intro p l e R s m args below meth c H locs ls D cA b base Q C I S L T
  exact lv_lstore (x := Int64.ofInt x) C.1 C.2.1 hd L hn (clv_store2 b base i (lL x) lv) (fun ls' h' => k p l e R s m args below meth c H locs ls' D cA b base Q C I S (by have h2 := lv_sub h' zs (clv_pick b base _ zs); rw [hl] at h2; exact h2) T)
theorem aw_iinc {i q : Nat} {z x : Int} {lv' : List (Nat × Value)} (zs : List Nat) (hd : decode cc pc = .ok (.iinc i z, 3)) (hq : lv[q]? = some (i, iI x)) (hn : i < nL) (hl : lv_pick ((i, iI (x + z)) :: lv.filter (fun q => !(q.1 == i) && !(q.1 + 1 == i && q.2.category == 2))) zs = lv') (k : AW own cc nL d ini kc ks xo Po n (pc + 3) lv' st mi mr ck sk) : AW own cc nL d ini kc ks xo Po n pc lv st mi mr ck sk := by
  intro p l e R s m args below meth c H locs ls D cA b base Q C I S L T
  exact lv_iinc (v := Int32.ofInt (x + z)) C.1 C.2.1 hd L (clv_at hq) (Int32.ofInt_add x z).symm hn (clv_store b base i (iI (x + z)) lv) (fun ls' h' => k p l e R s m args below meth c H locs ls' D cA b base Q C I S (by have h2 := lv_sub h' zs (clv_pick b base _ zs); rw [hl] at h2; exact h2) T)
theorem aw_iadd {x y : Int} (hd : decode cc pc = .ok (.iadd, 1)) (k : AW own cc nL d ini kc ks xo Po n (pc + 1) lv (iI (x + y) :: st) mi mr ck sk) : AW own cc nL d ini kc ks xo Po n pc lv (iI y :: iI x :: st) mi mr ck sk := by
  intro p l e R s m args below meth c H locs ls D cA b base Q C I S L T
  refine lv_iadd (x := Int32.ofInt x) (y := Int32.ofInt y) (rest := (st.map (cv b base))) C.1 C.2.1 hd ?_
  rw [← Int32.ofInt_add]
  exact k p l e R s m args below meth c H locs ls D cA b base Q C I S L T
theorem aw_isub {x y : Int} (hd : decode cc pc = .ok (.isub, 1)) (k : AW own cc nL d ini kc ks xo Po n (pc + 1) lv (iI (x - y) :: st) mi mr ck sk) : AW own cc nL d ini kc ks xo Po n pc lv (iI y :: iI x :: st) mi mr ck sk := by
  intro p l e R s m args below meth c H locs ls D cA b base Q C I S L T
  refine lv_isub (x := Int32.ofInt x) (y := Int32.ofInt y) (rest := (st.map (cv b base))) C.1 C.2.1 hd ?_
  rw [← Int32.ofInt_sub]
  exact k p l e R s m args below meth c H locs ls D cA b base Q C I S L T
theorem aw_imul {x y : Int} (hd : decode cc pc = .ok (.imul, 1)) (k : AW own cc nL d ini kc ks xo Po n (pc + 1) lv (iI (x * y) :: st) mi mr ck sk) : AW own cc nL d ini kc ks xo Po n pc lv (iI y :: iI x :: st) mi mr ck sk := by
  intro p l e R s m args below meth c H locs ls D cA b base Q C I S L T
  refine lv_imul (x := Int32.ofInt x) (y := Int32.ofInt y) (rest := (st.map (cv b base))) C.1 C.2.1 hd ?_
  rw [← Int32.ofInt_mul]
  exact k p l e R s m args below meth c H locs ls D cA b base Q C I S L T
theorem aw_ineg {x : Int} (hd : decode cc pc = .ok (.ineg, 1)) (k : AW own cc nL d ini kc ks xo Po n (pc + 1) lv (iI (-x) :: st) mi mr ck sk) : AW own cc nL d ini kc ks xo Po n pc lv (iI x :: st) mi mr ck sk := by
  intro p l e R s m args below meth c H locs ls D cA b base Q C I S L T
  refine lv_ineg (x := Int32.ofInt x) (rest := (st.map (cv b base))) C.1 C.2.1 hd ?_
  rw [← Int32.ofInt_neg]
  exact k p l e R s m args below meth c H locs ls D cA b base Q C I S L T
theorem aw_idiv {x y : Int} (hd : decode cc pc = .ok (.idiv, 1)) (hx : -2147483648 ≤ x ∧ x ≤ 2147483647) (hy : -2147483648 ≤ y ∧ y ≤ 2147483647) (h0 : y ≠ 0) (h1 : y ≠ -1) (k : AW own cc nL d ini kc ks xo Po n (pc + 1) lv (iI (x.tdiv y) :: st) mi mr ck sk) : AW own cc nL d ini kc ks xo Po n pc lv (iI y :: iI x :: st) mi mr ck sk := by
  intro p l e R s m args below meth c H locs ls D cA b base Q C I S L T
  refine lv_idiv (x := Int32.ofInt x) (y := Int32.ofInt y) (rest := (st.map (cv b base))) C.1 C.2.1 hd (fun q => h0 ((oI_eq hy (by omega)).mp (by rw [q, oI_0]))) ?_
  have e9 : Int32.ofInt x / Int32.ofInt y = Int32.ofInt (x.tdiv y) := by
    rw [← Int32.toInt_inj, Int32.toInt_div_of_ne_right _ _ (fun q => h1 ((oI_eq hy (by omega)).mp (by rw [q]; decide))), oI_toInt hx, oI_toInt hy, oI_toInt (tdiv_rng hx h1)]
  rw [e9]
  exact k p l e R s m args below meth c H locs ls D cA b base Q C I S L T
theorem aw_irem {x y : Int} (hd : decode cc pc = .ok (.irem, 1)) (hx : -2147483648 ≤ x ∧ x ≤ 2147483647) (hy : -2147483648 ≤ y ∧ y ≤ 2147483647) (h0 : y ≠ 0) (h1 : y ≠ -1) (k : AW own cc nL d ini kc ks xo Po n (pc + 1) lv (iI (x - x.tdiv y * y) :: st) mi mr ck sk) : AW own cc nL d ini kc ks xo Po n pc lv (iI y :: iI x :: st) mi mr ck sk := by
  intro p l e R s m args below meth c H locs ls D cA b base Q C I S L T
  refine lv_irem (x := Int32.ofInt x) (y := Int32.ofInt y) (rest := (st.map (cv b base))) C.1 C.2.1 hd (fun q => h0 ((oI_eq hy (by omega)).mp (by rw [q, oI_0]))) ?_
  have e9 : Int32.ofInt x / Int32.ofInt y = Int32.ofInt (x.tdiv y) := by
    rw [← Int32.toInt_inj, Int32.toInt_div_of_ne_right _ _ (fun q => h1 ((oI_eq hy (by omega)).mp (by rw [q]; decide))), oI_toInt hx, oI_toInt hy, oI_toInt (tdiv_rng hx h1)]
  rw [e9, ← Int32.ofInt_mul, ← Int32.ofInt_sub]
  exact k p l e R s m args below meth c H locs ls D cA b base Q C I S L T
theorem aw_iand {x y z : Int} (hd : decode cc pc = .ok (.iand, 1)) (hz : Int32.ofInt x &&& Int32.ofInt y = Int32.ofInt z) (k : AW own cc nL d ini kc ks xo Po n (pc + 1) lv (iI z :: st) mi mr ck sk) : AW own cc nL d ini kc ks xo Po n pc lv (iI y :: iI x :: st) mi mr ck sk := by
  intro p l e R s m args below meth c H locs ls D cA b base Q C I S L T
  refine lv_iand (x := Int32.ofInt x) (y := Int32.ofInt y) (rest := (st.map (cv b base))) C.1 C.2.1 hd ?_
  rw [hz]
  exact k p l e R s m args below meth c H locs ls D cA b base Q C I S L T
theorem aw_ior {x y z : Int} (hd : decode cc pc = .ok (.ior, 1)) (hz : Int32.ofInt x ||| Int32.ofInt y = Int32.ofInt z) (k : AW own cc nL d ini kc ks xo Po n (pc + 1) lv (iI z :: st) mi mr ck sk) : AW own cc nL d ini kc ks xo Po n pc lv (iI y :: iI x :: st) mi mr ck sk := by
  intro p l e R s m args below meth c H locs ls D cA b base Q C I S L T
  refine lv_ior (x := Int32.ofInt x) (y := Int32.ofInt y) (rest := (st.map (cv b base))) C.1 C.2.1 hd ?_
  rw [hz]
  exact k p l e R s m args below meth c H locs ls D cA b base Q C I S L T
theorem aw_ishl {x y z : Int} (hd : decode cc pc = .ok (.ishl, 1)) (hz : Int32.ofInt x <<< (Int32.ofInt y &&& 31) = Int32.ofInt z) (k : AW own cc nL d ini kc ks xo Po n (pc + 1) lv (iI z :: st) mi mr ck sk) : AW own cc nL d ini kc ks xo Po n pc lv (iI y :: iI x :: st) mi mr ck sk := by
  intro p l e R s m args below meth c H locs ls D cA b base Q C I S L T
  refine lv_ishl (x := Int32.ofInt x) (y := Int32.ofInt y) (rest := (st.map (cv b base))) C.1 C.2.1 hd ?_
  rw [hz]
  exact k p l e R s m args below meth c H locs ls D cA b base Q C I S L T
theorem aw_ishr {x y z : Int} (hd : decode cc pc = .ok (.ishr, 1)) (hz : Int32.ofInt x >>> (Int32.ofInt y &&& 31) = Int32.ofInt z) (k : AW own cc nL d ini kc ks xo Po n (pc + 1) lv (iI z :: st) mi mr ck sk) : AW own cc nL d ini kc ks xo Po n pc lv (iI y :: iI x :: st) mi mr ck sk := by
  intro p l e R s m args below meth c H locs ls D cA b base Q C I S L T
  refine lv_ishr (x := Int32.ofInt x) (y := Int32.ofInt y) (rest := (st.map (cv b base))) C.1 C.2.1 hd ?_
  rw [hz]
  exact k p l e R s m args below meth c H locs ls D cA b base Q C I S L T
theorem aw_iushr {x y z : Int} (hd : decode cc pc = .ok (.iushr, 1)) (hz : ((Int32.ofInt x).toUInt32 >>> ((Int32.ofInt y).toUInt32 &&& Int32.toUInt32 31)).toInt32 = Int32.ofInt z) (k : AW own cc nL d ini kc ks xo Po n (pc + 1) lv (iI z :: st) mi mr ck sk) : AW own cc nL d ini kc ks xo Po n pc lv (iI y :: iI x :: st) mi mr ck sk := by
  intro p l e R s m args below meth c H locs ls D cA b base Q C I S L T
  exact lv_iushr (x := Int32.ofInt x) (y := Int32.ofInt y) (v := Int32.ofInt z) (rest := (st.map (cv b base))) C.1 C.2.1 hd hz (k p l e R s m args below meth c H locs ls D cA b base Q C I S L T)
theorem aw_i2l {x : Int} (hd : decode cc pc = .ok (.i2l, 1)) (hx : -2147483648 ≤ x ∧ x ≤ 2147483647) (k : AW own cc nL d ini kc ks xo Po n (pc + 1) lv (lL x :: st) mi mr ck sk) : AW own cc nL d ini kc ks xo Po n pc lv (iI x :: st) mi mr ck sk := by
  intro p l e R s m args below meth c H locs ls D cA b base Q C I S L T
  exact lv_i2l (x := Int32.ofInt x) (v := Int64.ofInt x) (rest := (st.map (cv b base))) C.1 C.2.1 hd (Int32.toInt64_ofInt (by rw [show Int32.minValue.toInt = -2147483648 by decide]; omega) (by rw [show Int32.maxValue.toInt = 2147483647 by decide]; omega)) (k p l e R s m args below meth c H locs ls D cA b base Q C I S L T)
theorem aw_l2i {x : Int} (hd : decode cc pc = .ok (.l2i, 1)) (k : AW own cc nL d ini kc ks xo Po n (pc + 1) lv (iI x :: st) mi mr ck sk) : AW own cc nL d ini kc ks xo Po n pc lv (lL x :: st) mi mr ck sk := by
  intro p l e R s m args below meth c H locs ls D cA b base Q C I S L T
  exact lv_l2i (x := Int64.ofInt x) (v := Int32.ofInt x) (rest := (st.map (cv b base))) C.1 C.2.1 hd Int64.toInt32_ofInt (k p l e R s m args below meth c H locs ls D cA b base Q C I S L T)
theorem aw_lcmp {x y : Int} (hd : decode cc pc = .ok (.lcmp, 1)) (hx : -9000000000000000000 ≤ x ∧ x ≤ 9000000000000000000) (hy : -9000000000000000000 ≤ y ∧ y ≤ 9000000000000000000) (k : AW own cc nL d ini kc ks xo Po n (pc + 1) lv (iI (if y < x then 1 else if x = y then 0 else -1) :: st) mi mr ck sk) : AW own cc nL d ini kc ks xo Po n pc lv (lL y :: lL x :: st) mi mr ck sk := by
  intro p l e R s m args below meth c H locs ls D cA b base Q C I S L T
  refine W.lcmp (x := Int64.ofInt x) (y := Int64.ofInt y) (rest := (st.map (cv b base))) C.1 C.2.1 hd ?_
  have e9 : lg_cmp (Int64.ofInt x) (Int64.ofInt y) = Int32.ofInt (if y < x then 1 else if x = y then 0 else -1) := by
    unfold lg_cmp
    simp only [gt_iff_lt, Int64.lt_iff_toInt_lt, ← Int64.toInt_inj, oL_toInt hx, oL_toInt hy]
    by_cases h1 : y < x
    · simp only [h1, if_true]; decide
    · by_cases h2 : x = y
      · simp only [h2, Int.lt_irrefl, if_false, if_true]; decide
      · simp only [h1, h2, if_false]; decide
  rw [e9]
  exact k p l e R s m args below meth c H locs ls D cA b base Q C I S L T
theorem aw_dup {v : Value} (hd : decode cc pc = .ok (.dup, 1)) (hv : v.category = 1) (k : AW own cc nL d ini kc ks xo Po n (pc + 1) lv (v :: v :: st) mi mr ck sk) : AW own cc nL d ini kc ks xo Po n pc lv (v :: st) mi mr ck sk := by
  intro p l e R s m args below meth c H locs ls D cA b base Q C I S L T
  exact lv_dup (va := cv b base v) (rest := (st.map (cv b base))) C.1 C.2.1 hd (by rw [cv_cat]; exact hv) (k p l e R s m args below meth c H locs ls D cA b base Q C I S L T)
theorem aw_dup_x1 {v w : Value} (hd : decode cc pc = .ok (.dup_x1, 1)) (hv : v.category = 1) (hw : w.category = 1) (k : AW own cc nL d ini kc ks xo Po n (pc + 1) lv (v :: w :: v :: st) mi mr ck sk) : AW own cc nL d ini kc ks xo Po n pc lv (v :: w :: st) mi mr ck sk := by
  intro p l e R s m args below meth c H locs ls D cA b base Q C I S L T
  exact lv_dup_x1 (va := cv b base v) (vb := cv b base w) (rest := (st.map (cv b base))) C.1 C.2.1 hd (by rw [cv_cat]; exact hv) (by rw [cv_cat]; exact hw) (k p l e R s m args below meth c H locs ls D cA b base Q C I S L T)
theorem aw_dup2 {v w : Value} (hd : decode cc pc = .ok (.dup2, 1)) (hv : v.category = 1) (hw : w.category = 1) (k : AW own cc nL d ini kc ks xo Po n (pc + 1) lv (v :: w :: v :: w :: st) mi mr ck sk) : AW own cc nL d ini kc ks xo Po n pc lv (v :: w :: st) mi mr ck sk := by
  intro p l e R s m args below meth c H locs ls D cA b base Q C I S L T
  exact lv_dup2_11 (va := cv b base v) (vb := cv b base w) (rest := (st.map (cv b base))) C.1 C.2.1 hd (by rw [cv_cat]; exact hv) (by rw [cv_cat]; exact hw) (k p l e R s m args below meth c H locs ls D cA b base Q C I S L T)
theorem aw_pop {v : Value} (hd : decode cc pc = .ok (.pop, 1)) (hv : v.category = 1) (k : AW own cc nL d ini kc ks xo Po n (pc + 1) lv st mi mr ck sk) : AW own cc nL d ini kc ks xo Po n pc lv (v :: st) mi mr ck sk := by
  intro p l e R s m args below meth c H locs ls D cA b base Q C I S L T
  exact lv_pop (va := cv b base v) (rest := (st.map (cv b base))) C.1 C.2.1 hd (by rw [cv_cat]; exact hv) (k p l e R s m args below meth c H locs ls D cA b base Q C I S L T)
theorem aw_goto {off : Int} {tgt : Nat} (hd : decode cc pc = .ok (.goto off, 3)) (ht : (pc : Int) + off = (tgt : Int)) (k : AW own cc nL d ini kc ks xo Po n tgt lv st mi mr ck sk) : AW own cc nL d ini kc ks xo Po n pc lv st mi mr ck sk := by
  intro p l e R s m args below meth c H locs ls D cA b base Q C I S L T
  exact lv_goto C.1 C.2.1 hd ht (k p l e R s m args below meth c H locs ls D cA b base Q C I S L T)
theorem aw_icmp_eq {x y off : Int} {tgt : Nat} (hd : decode cc pc = .ok (.if_icmp .eq off, 3)) (ht : (pc : Int) + off = (tgt : Int)) (hx : -2147483648 ≤ x ∧ x ≤ 2147483647) (hy : -2147483648 ≤ y ∧ y ≤ 2147483647) (kt : x = y → AW own cc nL d ini kc ks xo Po n tgt lv st mi mr ck sk) (kf : x ≠ y → AW own cc nL d ini kc ks xo Po n (pc + 3) lv st mi mr ck sk) : AW own cc nL d ini kc ks xo Po n pc lv (iI y :: iI x :: st) mi mr ck sk := by
  intro p l e R s m args below meth c H locs ls D cA b base Q C I S L T
  refine lv_icmp_eq (x := Int32.ofInt x) (y := Int32.ofInt y) (rest := (st.map (cv b base))) C.1 C.2.1 hd ht (fun q => kt ?_ p l e R s m args below meth c H locs ls D cA b base Q C I S L T) (fun q => kf ?_ p l e R s m args below meth c H locs ls D cA b base Q C I S L T) <;> (simp only [ge_iff_le, gt_iff_lt, oI_lt hx hy, oI_lt hy hx, oI_le hx hy, oI_le hy hx, oI_eq hx hy, Int32.not_lt, Int32.not_le] at q; first | exact q | omega)
theorem aw_if_eq {x off : Int} {tgt : Nat} (hd : decode cc pc = .ok (.ifCond .eq off, 3)) (ht : (pc : Int) + off = (tgt : Int)) (hx : -2147483648 ≤ x ∧ x ≤ 2147483647) (kt : x = 0 → AW own cc nL d ini kc ks xo Po n tgt lv st mi mr ck sk) (kf : x ≠ 0 → AW own cc nL d ini kc ks xo Po n (pc + 3) lv st mi mr ck sk) : AW own cc nL d ini kc ks xo Po n pc lv (iI x :: st) mi mr ck sk := by
  intro p l e R s m args below meth c H locs ls D cA b base Q C I S L T
  have hy : -2147483648 ≤ (0 : Int) ∧ (0 : Int) ≤ 2147483647 := by omega
  refine lv_if_eq (x := Int32.ofInt x) (rest := (st.map (cv b base))) C.1 C.2.1 hd ht (fun q => kt ?_ p l e R s m args below meth c H locs ls D cA b base Q C I S L T) (fun q => kf ?_ p l e R s m args below meth c H locs ls D cA b base Q C I S L T) <;> (rw [← oI_0] at q; simp only [ge_iff_le, gt_iff_lt, oI_lt hx hy, oI_lt hy hx, oI_le hx hy, oI_le hy hx, oI_eq hx hy, Int32.not_lt, Int32.not_le] at q; first | exact q | omega)
theorem aw_icmp_ne {x y off : Int} {tgt : Nat} (hd : decode cc pc = .ok (.if_icmp .ne off, 3)) (ht : (pc : Int) + off = (tgt : Int)) (hx : -2147483648 ≤ x ∧ x ≤ 2147483647) (hy : -2147483648 ≤ y ∧ y ≤ 2147483647) (kt : x ≠ y → AW own cc nL d ini kc ks xo Po n tgt lv st mi mr ck sk) (kf : x = y → AW own cc nL d ini kc ks xo Po n (pc + 3) lv st mi mr ck sk) : AW own cc nL d ini kc ks xo Po n pc lv (iI y :: iI x :: st) mi mr ck sk := by
  intro p l e R s m args below meth c H locs ls D cA b base Q C I S L T
  refine lv_icmp_ne (x := Int32.ofInt x) (y := Int32.ofInt y) (rest := (st.map (cv b base))) C.1 C.2.1 hd ht (fun q => kt ?_ p l e R s m args below meth c H locs ls D cA b base Q C I S L T) (fun q => kf ?_ p l e R s m args below meth c H locs ls D cA b base Q C I S L T) <;> (simp only [ge_iff_le, gt_iff_lt, oI_lt hx hy, oI_lt hy hx, oI_le hx hy, oI_le hy hx, oI_eq hx hy, Int32.not_lt, Int32.not_le] at q; first | exact q | omega)
theorem aw_if_ne {x off : Int} {tgt : Nat} (hd : decode cc pc = .ok (.ifCond .ne off, 3)) (ht : (pc : Int) + off = (tgt : Int)) (hx : -2147483648 ≤ x ∧ x ≤ 2147483647) (kt : x ≠ 0 → AW own cc nL d ini kc ks xo Po n tgt lv st mi mr ck sk) (kf : x = 0 → AW own cc nL d ini kc ks xo Po n (pc + 3) lv st mi mr ck sk) : AW own cc nL d ini kc ks xo Po n pc lv (iI x :: st) mi mr ck sk := by
  intro p l e R s m args below meth c H locs ls D cA b base Q C I S L T
  have hy : -2147483648 ≤ (0 : Int) ∧ (0 : Int) ≤ 2147483647 := by omega
  refine lv_if_ne (x := Int32.ofInt x) (rest := (st.map (cv b base))) C.1 C.2.1 hd ht (fun q => kt ?_ p l e R s m args below meth c H locs ls D cA b base Q C I S L T) (fun q => kf ?_ p l e R s m args below meth c H locs ls D cA b base Q C I S L T) <;> (rw [← oI_0] at q; simp only [ge_iff_le, gt_iff_lt, oI_lt hx hy, oI_lt hy hx, oI_le hx hy, oI_le hy hx, oI_eq hx hy, Int32.not_lt, Int32.not_le] at q; first | exact q | omega)
theorem aw_icmp_lt {x y off : Int} {tgt : Nat} (hd : decode cc pc = .ok (.if_icmp .lt off, 3)) (ht : (pc : Int) + off = (tgt : Int)) (hx : -2147483648 ≤ x ∧ x ≤ 2147483647) (hy : -2147483648 ≤ y ∧ y ≤ 2147483647) (kt : x < y → AW own cc nL d ini kc ks xo Po n tgt lv st mi mr ck sk) (kf : y ≤ x → AW own cc nL d ini kc ks xo Po n (pc + 3) lv st mi mr ck sk) : AW own cc nL d ini kc ks xo Po n pc lv (iI y :: iI x :: st) mi mr ck sk := by
  intro p l e R s m args below meth c H locs ls D cA b base Q C I S L T
  refine lv_icmp_lt (x := Int32.ofInt x) (y := Int32.ofInt y) (rest := (st.map (cv b base))) C.1 C.2.1 hd ht (fun q => kt ?_ p l e R s m args below meth c H locs ls D cA b base Q C I S L T) (fun q => kf ?_ p l e R s m args below meth c H locs ls D cA b base Q C I S L T) <;> (simp only [ge_iff_le, gt_iff_lt, oI_lt hx hy, oI_lt hy hx, oI_le hx hy, oI_le hy hx, oI_eq hx hy, Int32.not_lt, Int32.not_le] at q; first | exact q | omega)
theorem aw_if_lt {x off : Int} {tgt : Nat} (hd : decode cc pc = .ok (.ifCond .lt off, 3)) (ht : (pc : Int) + off = (tgt : Int)) (hx : -2147483648 ≤ x ∧ x ≤ 2147483647) (kt : x < 0 → AW own cc nL d ini kc ks xo Po n tgt lv st mi mr ck sk) (kf : 0 ≤ x → AW own cc nL d ini kc ks xo Po n (pc + 3) lv st mi mr ck sk) : AW own cc nL d ini kc ks xo Po n pc lv (iI x :: st) mi mr ck sk := by
  intro p l e R s m args below meth c H locs ls D cA b base Q C I S L T
  have hy : -2147483648 ≤ (0 : Int) ∧ (0 : Int) ≤ 2147483647 := by omega
  refine lv_if_lt (x := Int32.ofInt x) (rest := (st.map (cv b base))) C.1 C.2.1 hd ht (fun q => kt ?_ p l e R s m args below meth c H locs ls D cA b base Q C I S L T) (fun q => kf ?_ p l e R s m args below meth c H locs ls D cA b base Q C I S L T) <;> (rw [← oI_0] at q; simp only [ge_iff_le, gt_iff_lt, oI_lt hx hy, oI_lt hy hx, oI_le hx hy, oI_le hy hx, oI_eq hx hy, Int32.not_lt, Int32.not_le] at q; first | exact q | omega)
theorem aw_icmp_ge {x y off : Int} {tgt : Nat} (hd : decode cc pc = .ok (.if_icmp .ge off, 3)) (ht : (pc : Int) + off = (tgt : Int)) (hx : -2147483648 ≤ x ∧ x ≤ 2147483647) (hy : -2147483648 ≤ y ∧ y ≤ 2147483647) (kt : y ≤ x → AW own cc nL d ini kc ks xo Po n tgt lv st mi mr ck sk) (kf : x < y → AW own cc nL d ini kc ks xo Po n (pc + 3) lv st mi mr ck sk) : AW own cc nL d ini kc ks xo Po n pc lv (iI y :: iI x :: st) mi mr ck sk := by
  intro p l e R s m args below meth c H locs ls D cA b base Q C I S L T
  refine lv_icmp_ge (x := Int32.ofInt x) (y := Int32.ofInt y) (rest := (st.map (cv b base))) C.1 C.2.1 hd ht (fun q => kt ?_ p l e R s m args below meth c H locs ls D cA b base Q C I S L T) (fun q => kf ?_ p l e R s m args below meth c H locs ls D cA b base Q C I S L T) <;> (simp only [ge_iff_le, gt_iff_lt, oI_lt hx hy, oI_lt hy hx, oI_le hx hy, oI_le hy hx, oI_eq hx hy, Int32.not_lt, Int32.not_le] at q; first | exact q | omega)
theorem aw_if_ge {x off : Int} {tgt : Nat} (hd : decode cc pc = .ok (.ifCond .ge off, 3)) (ht : (pc : Int) + off = (tgt : Int)) (hx : -2147483648 ≤ x ∧ x ≤ 2147483647) (kt : 0 ≤ x → AW own cc nL d ini kc ks xo Po n tgt lv st mi mr ck sk) (kf : x < 0 → AW own cc nL d ini kc ks xo Po n (pc + 3) lv st mi mr ck sk) : AW own cc nL d ini kc ks xo Po n pc lv (iI x :: st) mi mr ck sk := by
  intro p l e R s m args below meth c H locs ls D cA b base Q C I S L T
  have hy : -2147483648 ≤ (0 : Int) ∧ (0 : Int) ≤ 2147483647 := by omega
  refine lv_if_ge (x := Int32.ofInt x) (rest := (st.map (cv b base))) C.1 C.2.1 hd ht (fun q => kt ?_ p l e R s m args below meth c H locs ls D cA b base Q C I S L T) (fun q => kf ?_ p l e R s m args below meth c H locs ls D cA b base Q C I S L T) <;> (rw [← oI_0] at q; simp only [ge_iff_le, gt_iff_lt, oI_lt hx hy, oI_lt hy hx, oI_le hx hy, oI_le hy hx, oI_eq hx hy, Int32.not_lt, Int32.not_le] at q; first | exact q | omega)
theorem aw_icmp_gt {x y off : Int} {tgt : Nat} (hd : decode cc pc = .ok (.if_icmp .gt off, 3)) (ht : (pc : Int) + off = (tgt : Int)) (hx : -2147483648 ≤ x ∧ x ≤ 2147483647) (hy : -2147483648 ≤ y ∧ y ≤ 2147483647) (kt : y < x → AW own cc nL d ini kc ks xo Po n tgt lv st mi mr ck sk) (kf : x ≤ y → AW own cc nL d ini kc ks xo Po n (pc + 3) lv st mi mr ck sk) : AW own cc nL d ini kc ks xo Po n pc lv (iI y :: iI x :: st) mi mr ck sk := by
  intro p l e R s m args below meth c H locs ls D cA b base Q C I S L T
  refine lv_icmp_gt (x := Int32.ofInt x) (y := Int32.ofInt y) (rest := (st.map (cv b base))) C.1 C.2.1 hd ht (fun q => kt ?_ p l e R s m args below meth c H locs ls D cA b base Q C I S L T) (fun q => kf ?_ p l e R s m args below meth c H locs ls D cA b base Q C I S L T) <;> (simp only [ge_iff_le, gt_iff_lt, oI_lt hx hy, oI_lt hy hx, oI_le hx hy, oI_le hy hx, oI_eq hx hy, Int32.not_lt, Int32.not_le] at q; first | exact q | omega)
theorem aw_if_gt {x off : Int} {tgt : Nat} (hd : decode cc pc = .ok (.ifCond .gt off, 3)) (ht : (pc : Int) + off = (tgt : Int)) (hx : -2147483648 ≤ x ∧ x ≤ 2147483647) (kt : 0 < x → AW own cc nL d ini kc ks xo Po n tgt lv st mi mr ck sk) (kf : x ≤ 0 → AW own cc nL d ini kc ks xo Po n (pc + 3) lv st mi mr ck sk) : AW own cc nL d ini kc ks xo Po n pc lv (iI x :: st) mi mr ck sk := by
  intro p l e R s m args below meth c H locs ls D cA b base Q C I S L T
  have hy : -2147483648 ≤ (0 : Int) ∧ (0 : Int) ≤ 2147483647 := by omega
  refine lv_if_gt (x := Int32.ofInt x) (rest := (st.map (cv b base))) C.1 C.2.1 hd ht (fun q => kt ?_ p l e R s m args below meth c H locs ls D cA b base Q C I S L T) (fun q => kf ?_ p l e R s m args below meth c H locs ls D cA b base Q C I S L T) <;> (rw [← oI_0] at q; simp only [ge_iff_le, gt_iff_lt, oI_lt hx hy, oI_lt hy hx, oI_le hx hy, oI_le hy hx, oI_eq hx hy, Int32.not_lt, Int32.not_le] at q; first | exact q | omega)
theorem aw_icmp_le {x y off : Int} {tgt : Nat} (hd : decode cc pc = .ok (.if_icmp .le off, 3)) (ht : (pc : Int) + off = (tgt : Int)) (hx : -2147483648 ≤ x ∧ x ≤ 2147483647) (hy : -2147483648 ≤ y ∧ y ≤ 2147483647) (kt : x ≤ y → AW own cc nL d ini kc ks xo Po n tgt lv st mi mr ck sk) (kf : y < x → AW own cc nL d ini kc ks xo Po n (pc + 3) lv st mi mr ck sk) : AW own cc nL d ini kc ks xo Po n pc lv (iI y :: iI x :: st) mi mr ck sk := by
  intro p l e R s m args below meth c H locs ls D cA b base Q C I S L T
  refine lv_icmp_le (x := Int32.ofInt x) (y := Int32.ofInt y) (rest := (st.map (cv b base))) C.1 C.2.1 hd ht (fun q => kt ?_ p l e R s m args below meth c H locs ls D cA b base Q C I S L T) (fun q => kf ?_ p l e R s m args below meth c H locs ls D cA b base Q C I S L T) <;> (simp only [ge_iff_le, gt_iff_lt, oI_lt hx hy, oI_lt hy hx, oI_le hx hy, oI_le hy hx, oI_eq hx hy, Int32.not_lt, Int32.not_le] at q; first | exact q | omega)
theorem aw_if_le {x off : Int} {tgt : Nat} (hd : decode cc pc = .ok (.ifCond .le off, 3)) (ht : (pc : Int) + off = (tgt : Int)) (hx : -2147483648 ≤ x ∧ x ≤ 2147483647) (kt : x ≤ 0 → AW own cc nL d ini kc ks xo Po n tgt lv st mi mr ck sk) (kf : 0 < x → AW own cc nL d ini kc ks xo Po n (pc + 3) lv st mi mr ck sk) : AW own cc nL d ini kc ks xo Po n pc lv (iI x :: st) mi mr ck sk := by
  intro p l e R s m args below meth c H locs ls D cA b base Q C I S L T
  have hy : -2147483648 ≤ (0 : Int) ∧ (0 : Int) ≤ 2147483647 := by omega
  refine lv_if_le (x := Int32.ofInt x) (rest := (st.map (cv b base))) C.1 C.2.1 hd ht (fun q => kt ?_ p l e R s m args below meth c H locs ls D cA b base Q C I S L T) (fun q => kf ?_ p l e R s m args below meth c H locs ls D cA b base Q C I S L T) <;> (rw [← oI_0] at q; simp only [ge_iff_le, gt_iff_lt, oI_lt hx hy, oI_lt hy hx, oI_le hx hy, oI_le hy hx, oI_eq hx hy, Int32.not_lt, Int32.not_le] at q; first | exact q | omega)
theorem aw_tabOut {dflt lo hi : Int} {offs : Array Int} {len : Nat} {x : Int} {tgt : Nat} (hd : decode cc pc = .ok (.tableswitch dflt lo hi offs, len)) (hx : -2147483648 ≤ x ∧ x ≤ 2147483647) (h : x < lo ∨ hi < x) (ht : (pc : Int) + dflt = (tgt : Int)) (k : AW own cc nL d ini kc ks xo Po n tgt lv st mi mr ck sk) : AW own cc nL d ini kc ks xo Po n pc lv (iI x :: st) mi mr ck sk := by
  intro p l e R s m args below meth c H locs ls D cA b base Q C I S L T
  exact lv_tableOut (x := Int32.ofInt x) (rest := (st.map (cv b base))) C.1 C.2.1 hd (by rw [oI_toInt hx]; exact h) ht (k p l e R s m args below meth c H locs ls D cA b base Q C I S L T)
theorem aw_tabIn {dflt lo hi : Int} {offs : Array Int} {len : Nat} {x off : Int} {tgt : Nat} (hd : decode cc pc = .ok (.tableswitch dflt lo hi offs, len)) (hx : -2147483648 ≤ x ∧ x ≤ 2147483647) (h1 : lo ≤ x) (h2 : x ≤ hi) (ho : offs[(x - lo).toNat]? = some off) (ht : (pc : Int) + off = (tgt : Int)) (k : AW own cc nL d ini kc ks xo Po n tgt lv st mi mr ck sk) : AW own cc nL d ini kc ks xo Po n pc lv (iI x :: st) mi mr ck sk := by
  intro p l e R s m args below meth c H locs ls D cA b base Q C I S L T
  exact lv_tableIn (x := Int32.ofInt x) (rest := (st.map (cv b base))) C.1 C.2.1 hd (by rw [oI_toInt hx]; omega) (by rw [oI_toInt hx]; omega) (by rw [oI_toInt hx]; exact ho) ht (k p l e R s m args below meth c H locs ls D cA b base Q C I S L T)
theorem aw_sub {lv' : List (Nat × Value)} (zs : List Nat) (hl : lv_pick lv zs = lv') (k : AW own cc nL d ini kc ks xo Po n pc lv' st mi mr ck sk) : AW own cc nL d ini kc ks xo Po n pc lv st mi mr ck sk := by
  intro p l e R s m args below meth c H locs ls D cA b base Q C I S L T
  exact k p l e R s m args below meth c H locs ls D cA b base Q C I S (by have h2 := lv_sub L zs (clv_pick b base _ zs); rw [hl] at h2; exact h2) T
theorem aw_getI {idx ci f a : Nat} (hf : aFld own idx ci f) (hs : SH a = (0, ci)) (ha : 0 < a ∧ a ≤ n) (hr : (fty ci f).isReference = false) (hd : decode cc pc = .ok (.getfield idx, 3)) (k : -2147483648 ≤ mi a f ∧ mi a f ≤ 2147483647 → AW own cc nL d ini kc ks xo Po n (pc + 3) lv (iI (mi a f) :: st) mi mr ck sk) : AW own cc nL d ini kc ks xo Po n pc lv (.ref a :: st) mi mr ck sk := by
  intro p l e R s m args below meth c H locs ls D cA b base Q C I S L T
  obtain ⟨CN, F, N, hc, hk, hl⟩ := hf
  obtain ⟨g1, g2, g3, g4⟩ := aIn hc
  have he := wld_at (cA := cA) (mi := mi) (mr := mr) (b := b) (base := base) ha
  have hcel : cel cA mi mr b base a = .inr (ci, (List.range (nF ci)).map (fval mi mr b base a ci)) := by unfold cel; rw [hs]
  rw [hcel] at he
  have hv : ((List.range (nF ci)).map (fval mi mr b base a ci))[f]? = some (fval mi mr b base a ci f) := by simp [← g4, hk]
  have hw : fval mi mr b base a ci f = .int (Int32.ofInt (mi a f)) := by unfold fval; rw [if_neg (by rw [hr]; decide)]
  rw [hw] at hv
  exact va_get (v := .int (Int32.ofInt (mi a f))) C.1 C.2.1 C.2.2.2.2.1 g1 C.2.2.2.1 C.2.2.2.2.2.1 I.2.1 (a - 1) he hc f hk (C.2.2.2.2.1 _ hl) (fun _ h => by rw [aOwn hc f hk] at h; exact h) hv hd (k (I.2.2.1 a f) p l e R s m args below meth c H locs ls D cA b base Q C I S L T)
theorem aw_getR {idx ci f a : Nat} {r : Nat} (hf : aFld own idx ci f) (hs : SH a = (0, ci)) (ha : 0 < a ∧ a ≤ n) (hr : (fty ci f).isReference = true) (hv9 : mr a f = some r) (hd : decode cc pc = .ok (.getfield idx, 3)) (k : AW own cc nL d ini kc ks xo Po n (pc + 3) lv (.ref r :: st) mi mr ck sk) : AW own cc nL d ini kc ks xo Po n pc lv (.ref a :: st) mi mr ck sk := by
  intro p l e R s m args below meth c H locs ls D cA b base Q C I S L T
  obtain ⟨CN, F, N, hc, hk, hl⟩ := hf
  obtain ⟨g1, g2, g3, g4⟩ := aIn hc
  have he := wld_at (cA := cA) (mi := mi) (mr := mr) (b := b) (base := base) ha
  have hcel : cel cA mi mr b base a = .inr (ci, (List.range (nF ci)).map (fval mi mr b base a ci)) := by unfold cel; rw [hs]
  rw [hcel] at he
  have hv : ((List.range (nF ci)).map (fval mi mr b base a ci))[f]? = some (fval mi mr b base a ci f) := by simp [← g4, hk]
  have hw : fval mi mr b base a ci f = .ref (adr b base r) := by unfold fval; rw [if_pos hr, hv9]; rfl
  rw [hw] at hv
  exact va_get (v := .ref (adr b base r)) C.1 C.2.1 C.2.2.2.2.1 g1 C.2.2.2.1 C.2.2.2.2.2.1 I.2.1 (a - 1) he hc f hk (C.2.2.2.2.1 _ hl) (fun _ h => by rw [aOwn hc f hk] at h; exact h) hv hd (k p l e R s m args below meth c H locs ls D cA b base Q C I S L T)
theorem fval_set {mi mi' : aM} {mr mr' : aR} {b base a ci f : Nat} {w : Value} (hi : ∀ j : Nat, j ≠ f → mi' a j = mi a j ∧ mr' a j = mr a j) (hw : w = fval mi' mr' b base a ci f) : ((List.range (nF ci)).map (fval mi mr b base a ci)).set f w = (List.range (nF ci)).map (fval mi' mr' b base a ci) := by
  apply List.ext_getElem?
  intro j
  simp only [List.getElem?_set, List.length_map, List.length_range, List.getElem?_map]
  by_cases hj : f = j
  · subst hj
    by_cases hl : f < nF ci
    · simp [hl, hw]
    · simp [hl]
  · simp only [hj, if_false]
    cases hr : (List.range (nF ci))[j]? with
    | none => rfl
    | some x =>
      have hx : x = j := by
        obtain ⟨h2, h3⟩ := List.getElem?_eq_some_iff.mp hr
        simpa using h3.symm
      subst hx
      have e := hi x (fun h => hj h.symm)
      simp only [Option.map_some, fval, e.1, e.2]
theorem aw_putG {idx ci f a : Nat} {w : Value} {mi' : aM} {mr' : aR} (hf : aFld own idx ci f) (hs : SH a = (0, ci)) (ha : 0 < a ∧ a ≤ n) (hfin : aFin ci f = false ∨ (aFin ci f = true ∧ ini = true ∧ ∀ q, vwCl[ci]? = some q → (q.2.1 f).1 = own))
  (hoth : ∀ (x : Nat) (j : Int), x ≠ a → mi' x j = mi x j ∧ mr' x j = mr x j) (hnf : ∀ j : Nat, j ≠ f → mi' a j = mi a j ∧ mr' a j = mr a j) (hrg : ∀ j : Int, -2147483648 ≤ mi' a j ∧ mi' a j ≤ 2147483647)
  (hw : ∀ b base : Nat, cv b base w = fval mi' mr' b base a ci f) (hnar : ∀ b base : Nat, narrow (fty ci f) (cv b base w) = cv b base w) (hfit : ∀ b base : Nat, fits (fty ci f) (cv b base w) = true)
  (hd : decode cc pc = .ok (.putfield idx, 3)) (k : AW own cc nL d ini kc ks xo Po n (pc + 3) lv st mi' mr' ck sk) : AW own cc nL d ini kc ks xo Po n pc lv (w :: .ref a :: st) mi mr ck sk := by
  intro p l e R s m args below meth c H locs ls D cA b base Q C I S L T
  obtain ⟨CN, F, N, hc, hk, hl⟩ := hf
  obtain ⟨g1, g2, g3, g4⟩ := aIn hc
  have he := wld_at (cA := cA) (mi := mi) (mr := mr) (b := b) (base := base) ha
  have hcel : cel cA mi mr b base a = .inr (ci, (List.range (nF ci)).map (fval mi mr b base a ci)) := by unfold cel; rw [hs]
  rw [hcel] at he
  obtain ⟨r, h1, cell, q1, q2, q3, q4⟩ := I.2.1 (a - 1) _ he
  have hr : r = (CN, F, N) := Option.some.inj (h1.symm.trans hc)
  subst hr
  have hKc := C.2.2.2.2.2.1.1 ci _ hc
  obtain ⟨hS9, hfc, kC, hkC, hkind⟩ := hKc
  obtain ⟨cf, kf, fi, fd, hi, hsl⟩ := hS9 f hk
  have hi9 : s.fieldFound? CN (F f).2.1 (F f).2.2.1 = some (cf, kf, fi, fd) := by have h9 := hi; dsimp only at h9; rw [aOwn hc f hk] at h9; exact h9
  have hts := C.2.2.2.2.1
  have hap := va_apart (own := own) hts g1 (fty ci) g2 g3 C.2.2.2.2.2.1 hc
  have hst := (u_facts hfc hkC (u_lays hts g1 hk) hi).1
  have hlen : f < ((List.range (nF ci)).map (fval mi mr b base a ci)).length := by simp [← g4, hk]
  have hsz : fd.slot < cell.slots.size := by rw [hsl]; exact k2_hasslot (q4 f hk)
  have hcel2 : cel cA mi' mr' b base a = .inr (ci, ((List.range (nF ci)).map (fval mi mr b base a ci)).set f (cv b base w)) := by
    rw [fval_set (ci := ci) (f := f) hnf (hw b base)]
    unfold cel; rw [hs]
  have fin2 : ∀ H' : Heap, H'[adr b base a]? = some (cell.setSlot fd.slot (cv b base w)) → H'.size = H.size → (∀ q, q ≠ adr b base a → H'[q]? = H[q]?) → W p l e R s m args below meth c H' (locs ++ [⟨adr b base a, fd.slot⟩]) ck sk Q (F0 m (pc + 3) ls (st.map (cv b base))) := by
    intro H' e1 e2 e3
    rw [hsl] at e1 ⊢
    have hP := I.2.1.set (p := a - 1) (e := .inr (ci, ((List.range (nF ci)).map (fval mi mr b base a ci)).set f (cv b base w))) (wld_D cA mi mr b base n) he ⟨_, hc, t_OB.to (V := updV (vp_V ((List.range (nF ci)).map (fval mi mr b base a ci))) f (cv b base w)) ⟨_, e1, q2, q3, t_set q4 hap hk (cv b base w)⟩ (fun j _ => vp_updV_set hlen (cv b base w) j)⟩ e3
    exact k p l e R s m args below meth c H' _ ls D cA b base Q C (aI_put I ha hP e2 hoth hcel2.symm hrg) (S.put e2 e3 ((wld_D cA mi mr b base n).2 (a - 1) _ he)) L T
  rcases hfin with hfin | ⟨hfin, hini, hdecl⟩
  · have hlay := hts _ (g1 _ (u_in_lay hk))
    unfold u_lay at hlay
    have hfin2 : (F f).2.2.2 = false := by unfold aFin at hfin; rw [hc] at hfin; exact hfin
    rw [if_neg (by rw [hfin2]; decide)] at hlay
    have h6 := u_store hfc hkC hkind hlay hi (g2 f hk) (hnar b base) (hfit b base)
    exact W.putK (v := cv b base w) (rest := st.map (cv b base)) C.1 C.2.1 (f := fd) ⟨C.2.2.2.1, hts _ hl, ⟨_, _, _, hi9⟩, hst⟩ (by rw [q2]; exact h6) q1 q3 hsz rfl rfl hd fin2
  · have hlay := hts _ (g1 _ (u_in_lay hk))
    unfold u_lay at hlay
    have hfin2 : (F f).2.2.2 = true := by unfold aFin at hfin; rw [hc] at hfin; exact hfin
    rw [if_pos hfin2] at hlay
    have hcf : m.cls = cf := by
      obtain ⟨_, _, c9, _, _, _, -, -, hf9, -, -, -, hown2, -⟩ := Cond.laysFinal_spec hlay
      have e1 : c9 = cf := by have := hi.symm.trans hf9; simp at this; exact this.1.symm
      have hdecl2 : (F f).1 = own := hdecl _ hc
      rw [hdecl2] at hown2
      rw [← e1]; exact Option.some.inj (C.2.2.2.1.symm.trans hown2)
    have h6 := u_fits hfc hkC hkind (Or.inr hlay) hi (g2 f hk) (hnar b base) (hfit b base)
    exact W.putFinK (v := cv b base w) (rest := st.map (cv b base)) C.1 C.2.1 C.2.2.2.1 (hts _ hl) hi9 hst hcf (C.2.2.2.2.2.2.2.1 hini) (by rw [q2]; exact h6) q1 q3 hsz rfl rfl hd fin2
theorem aw_putI {idx ci f a : Nat} {v : Int} (hf : aFld own idx ci f) (hs : SH a = (0, ci)) (ha : 0 < a ∧ a ≤ n) (hfin : aFin ci f = false) (hty : fty ci f = .int) (hv : -2147483648 ≤ v ∧ v ≤ 2147483647) (hd : decode cc pc = .ok (.putfield idx, 3)) (k : AW own cc nL d ini kc ks xo Po n (pc + 3) lv st (aup mi a f v) mr ck sk) : AW own cc nL d ini kc ks xo Po n pc lv (iI v :: .ref a :: st) mi mr ck sk := by
  intro p l e R s m args below meth c H locs ls D cA b base Q C I
  refine aw_putG (mi' := aup mi a f v) (mr' := mr) hf hs ha (Or.inl hfin) (fun x j hx => by simp [aup, hx]) (fun j hj => ?_) (fun j => aup_rng I.2.2.1 hv a j) (fun b base => ?_) (fun b base => by rw [hty]; rfl) (fun b base => by rw [hty]; rfl) hd k p l e R s m args below meth c H locs ls D cA b base Q C I
  · have hj2 : ¬ ((j : Int) = (f : Int)) := by omega
    simp [aup, hj2]
  · have e : aup mi a f v a f = v := by simp [aup]
    unfold fval
    rw [if_neg (by rw [hty]; decide), e]
    rfl
theorem aw_putZ {idx ci f a : Nat} {v : Int} (hf : aFld own idx ci f) (hs : SH a = (0, ci)) (ha : 0 < a ∧ a ≤ n) (hfin : aFin ci f = false) (hty : fty ci f = .boolean) (hv : v = 0 ∨ v = 1) (hd : decode cc pc = .ok (.putfield idx, 3)) (k : AW own cc nL d ini kc ks xo Po n (pc + 3) lv st (aup mi a f v) mr ck sk) : AW own cc nL d ini kc ks xo Po n pc lv (iI v :: .ref a :: st) mi mr ck sk := by
  intro p l e R s m args below meth c H locs ls D cA b base Q C I
  refine aw_putG (mi' := aup mi a f v) (mr' := mr) hf hs ha (Or.inl hfin) (fun x j hx => by simp [aup, hx]) (fun j hj => ?_) (fun j => aup_rng I.2.2.1 (by omega) a j) (fun b base => ?_) (fun b base => ?_) (fun b base => by rw [hty]; rcases hv with rfl | rfl <;> rfl) hd k p l e R s m args below meth c H locs ls D cA b base Q C I
  · have hj2 : ¬ ((j : Int) = (f : Int)) := by omega
    simp [aup, hj2]
  · have e : aup mi a f v a f = v := by simp [aup]
    unfold fval
    rw [if_neg (by rw [hty]; decide), e]
    rfl
  · rw [hty]
    rcases hv with rfl | rfl
    · exact (by decide : narrow FieldType.boolean (Value.int (Int32.ofInt 0)) = Value.int (Int32.ofInt 0))
    · exact (by decide : narrow FieldType.boolean (Value.int (Int32.ofInt 1)) = Value.int (Int32.ofInt 1))
theorem aw_putR {idx ci f a r : Nat} (hf : aFld own idx ci f) (hs : SH a = (0, ci)) (ha : 0 < a ∧ a ≤ n) (hfin : aFin ci f = true) (hini : ini = true) (hdc : ∀ q, vwCl[ci]? = some q → (q.2.1 f).1 = own) (hty : (fty ci f).isReference = true) (hd : decode cc pc = .ok (.putfield idx, 3)) (k : AW own cc nL d ini kc ks xo Po n (pc + 3) lv st mi (aup mr a f (some r)) ck sk) : AW own cc nL d ini kc ks xo Po n pc lv (.ref r :: .ref a :: st) mi mr ck sk := by
  intro p l e R s m args below meth c H locs ls D cA b base Q C I
  refine aw_putG (mi' := mi) (mr' := aup mr a f (some r)) hf hs ha (Or.inr ⟨hfin, hini, hdc⟩) (fun x j hx => by simp [aup, hx]) (fun j hj => ?_) (fun j => I.2.2.1 a j) (fun b base => ?_) (fun b base => ?_) (fun b base => ?_) hd k p l e R s m args below meth c H locs ls D cA b base Q C I
  · have hj2 : ¬ ((j : Int) = (f : Int)) := by omega
    simp [aup, hj2]
  · have e : aup mr a f (some r) a f = some r := by simp [aup]
    unfold fval
    rw [if_pos hty, e]
    rfl
  · show narrow (fty ci f) (.ref (adr b base r)) = .ref (adr b base r)
    generalize fty ci f = t at hty
    cases t <;> simp [FieldType.isReference] at hty <;> rfl
  · show fits (fty ci f) (.ref (adr b base r)) = true
    generalize fty ci f = t at hty
    cases t <;> simp [FieldType.isReference] at hty <;> rfl
theorem aw_iald {a z : Nat} {i : Int} (hs : SH a = (1, z)) (ha : 0 < a ∧ a ≤ n) (hi : 0 ≤ i ∧ i < z) (hd : decode cc pc = .ok (.iaload, 1)) (k : -2147483648 ≤ mi a i ∧ mi a i ≤ 2147483647 → AW own cc nL d ini kc ks xo Po n (pc + 1) lv (iI (mi a i) :: st) mi mr ck sk) : AW own cc nL d ini kc ks xo Po n pc lv (iI i :: .ref a :: st) mi mr ck sk := by
  intro p l e R s m args below meth c H locs ls D cA b base Q C I S L T
  have he := wld_at (cA := cA) (mi := mi) (mr := mr) (b := b) (base := base) ha
  have hcel : cel cA mi mr b base a = .inl (cA 0, z, .inl (fun j => Int32.ofInt (mi a j))) := by unfold cel; rw [hs]
  rw [hcel] at he
  have hz9 : z ≤ 1000 := by have := SH_len a; rw [hs] at this; exact this
  refine va_iald (i := Int32.ofInt i) (rest := (st.map (cv b base))) C.1 C.2.1 C.2.2.2.2.2.1 I.2.1 (a - 1) 0 he rfl (oI_in hi hz9) hd ?_
  rw [oI_clamp hi.1 (by omega)]
  exact k (I.2.2.1 a i) p l e R s m args below meth c H locs ls D cA b base Q C I S L T
theorem aw_zald {a z : Nat} {i : Int} (hs : SH a = (2, z)) (ha : 0 < a ∧ a ≤ n) (hi : 0 ≤ i ∧ i < z) (hd : decode cc pc = .ok (.baload, 1)) (k : -2147483648 ≤ mi a i ∧ mi a i ≤ 2147483647 → AW own cc nL d ini kc ks xo Po n (pc + 1) lv (iI (mi a i) :: st) mi mr ck sk) : AW own cc nL d ini kc ks xo Po n pc lv (iI i :: .ref a :: st) mi mr ck sk := by
  intro p l e R s m args below meth c H locs ls D cA b base Q C I S L T
  have he := wld_at (cA := cA) (mi := mi) (mr := mr) (b := b) (base := base) ha
  have hcel : cel cA mi mr b base a = .inl (cA 1, z, .inl (fun j => Int32.ofInt (mi a j))) := by unfold cel; rw [hs]
  rw [hcel] at he
  have hz9 : z ≤ 1000 := by have := SH_len a; rw [hs] at this; exact this
  refine va_zald (i := Int32.ofInt i) (rest := (st.map (cv b base))) C.1 C.2.1 C.2.2.2.2.2.1 I.2.1 (a - 1) 1 he rfl (oI_in hi hz9) hd ?_
  rw [oI_clamp hi.1 (by omega)]
  exact k (I.2.2.1 a i) p l e R s m args below meth c H locs ls D cA b base Q C I S L T
theorem aw_iast {a z : Nat} {i v : Int} (hs : SH a = (1, z)) (ha : 0 < a ∧ a ≤ n) (hi : 0 ≤ i ∧ i < z) (hv : -2147483648 ≤ v ∧ v ≤ 2147483647) (hd : decode cc pc = .ok (.iastore, 1)) (k : AW own cc nL d ini kc ks xo Po n (pc + 1) lv st (aup mi a i v) mr ck sk) : AW own cc nL d ini kc ks xo Po n pc lv (iI v :: iI i :: .ref a :: st) mi mr ck sk := by
  intro p l e R s m args below meth c H locs ls D cA b base Q C I S L T
  have he := wld_at (cA := cA) (mi := mi) (mr := mr) (b := b) (base := base) ha
  have hcel : cel cA mi mr b base a = .inl (cA 0, z, .inl (fun j => Int32.ofInt (mi a j))) := by unfold cel; rw [hs]
  rw [hcel] at he
  have hz9 : z ≤ 1000 := by have := SH_len a; rw [hs] at this; exact this
  have hin := oI_in hi hz9
  refine W.iast (x := Int32.ofInt v) (j := Int32.ofInt i) (rest := (st.map (cv b base))) C.1 C.2.1 (I.2.1 (a - 1) _ he) ((C.2.2.2.2.2.1.2 0 _ rfl).1 z (fun j => .int (Int32.ofInt (mi a j)))) (fun q => by cases q) (by show ¬ (Int32.ofInt i < 0 ∨ (arrV _ _ _).slots.size ≤ _); rw [arrV_size]; exact hin) rfl rfl hd fun H1 e1 e2 e3 => ?_
  have hcel2 : cel cA (aup mi a i v) mr b base a = .inl (cA 0, z, .inl (upd (fun j => Int32.ofInt (mi a j)) (Int32.ofInt i).toNatClampNeg (Int32.ofInt v))) := by
    unfold cel; rw [hs]
    show (Sum.inl (cA 0, z, Sum.inl (fun j : Nat => Int32.ofInt (aup mi a i v a j))) : va_E) = _
    congr 4
    funext j
    have e := oI_clamp hi.1 (by omega)
    unfold upd aup
    by_cases hj : j = (Int32.ofInt i).toNatClampNeg
    · have hj2 : (j : Int) = i := by omega
      simp [hj, e]
    · have hj2 : ¬ ((j : Int) = i) := by omega
      simp [hj, hj2]
  have hP := I.2.1.set (p := a - 1) (e := .inl (cA 0, z, .inl (upd (fun j => Int32.ofInt (mi a j)) (Int32.ofInt i).toNatClampNeg (Int32.ofInt v)))) (wld_D cA mi mr b base n) he (by
    show H1[adr b base a]? = some (vp_cell _ _)
    rw [e1, vp_cell_i, vp_cell_i, arrV_store]
    congr 2
    funext q
    by_cases hq : q = (Int32.ofInt i).toNatClampNeg
    · subst hq
      simp [updV, upd]
      try rfl
    · simp [updV, upd, hq]) e3
  exact k p l e R s m args below meth c H1 _ ls D cA b base Q C (aI_put I ha hP e2 (fun x j hx => by simp [aup, hx]) hcel2.symm (fun j => aup_rng I.2.2.1 hv a j)) (S.put e2 e3 ((wld_D cA mi mr b base n).2 (a - 1) _ he)) L T
theorem aw_zast {a z : Nat} {i v : Int} (hs : SH a = (2, z)) (ha : 0 < a ∧ a ≤ n) (hi : 0 ≤ i ∧ i < z) (hv9 : v = 0 ∨ v = 1) (hd : decode cc pc = .ok (.bastore, 1)) (k : AW own cc nL d ini kc ks xo Po n (pc + 1) lv st (aup mi a i v) mr ck sk) : AW own cc nL d ini kc ks xo Po n pc lv (iI v :: iI i :: .ref a :: st) mi mr ck sk := by
  intro p l e R s m args below meth c H locs ls D cA b base Q C I S L T
  have he := wld_at (cA := cA) (mi := mi) (mr := mr) (b := b) (base := base) ha
  have hcel : cel cA mi mr b base a = .inl (cA 1, z, .inl (fun j => Int32.ofInt (mi a j))) := by unfold cel; rw [hs]
  rw [hcel] at he
  have hz9 : z ≤ 1000 := by have := SH_len a; rw [hs] at this; exact this
  have hin := oI_in hi hz9
  have hv : -2147483648 ≤ v ∧ v ≤ 2147483647 := by omega
  have hnr : narrow .boolean (.int (Int32.ofInt v)) = .int (Int32.ofInt v) := by rcases hv9 with rfl | rfl <;> decide
  refine W.zast (x := Int32.ofInt v) (j := Int32.ofInt i) (rest := (st.map (cv b base))) C.1 C.2.1 (I.2.1 (a - 1) _ he) ((C.2.2.2.2.2.1.2 1 _ rfl).1 z (fun j => .int (Int32.ofInt (mi a j)))) (fun q => by cases q) (by show ¬ (Int32.ofInt i < 0 ∨ (arrV _ _ _).slots.size ≤ _); rw [arrV_size]; exact hin) rfl rfl hd fun H1 e1 e2 e3 => ?_
  have hcel2 : cel cA (aup mi a i v) mr b base a = .inl (cA 1, z, .inl (upd (fun j => Int32.ofInt (mi a j)) (Int32.ofInt i).toNatClampNeg (Int32.ofInt v))) := by
    unfold cel; rw [hs]
    show (Sum.inl (cA 1, z, Sum.inl (fun j : Nat => Int32.ofInt (aup mi a i v a j))) : va_E) = _
    congr 4
    funext j
    have e := oI_clamp hi.1 (by omega)
    unfold upd aup
    by_cases hj : j = (Int32.ofInt i).toNatClampNeg
    · have hj2 : (j : Int) = i := by omega
      simp [hj, e]
    · have hj2 : ¬ ((j : Int) = i) := by omega
      simp [hj, hj2]
  have hP := I.2.1.set (p := a - 1) (e := .inl (cA 1, z, .inl (upd (fun j => Int32.ofInt (mi a j)) (Int32.ofInt i).toNatClampNeg (Int32.ofInt v)))) (wld_D cA mi mr b base n) he (by
    show H1[adr b base a]? = some (vp_cell _ _)
    rw [e1, vp_cell_i, vp_cell_i, arrV_store]
    congr 2
    funext q
    by_cases hq : q = (Int32.ofInt i).toNatClampNeg
    · subst hq
      simp [updV, upd, hnr]
      try rfl
    · simp [updV, upd, hq]) e3
  exact k p l e R s m args below meth c H1 _ ls D cA b base Q C (aI_put I ha hP e2 (fun x j hx => by simp [aup, hx]) hcel2.symm (fun j => aup_rng I.2.2.1 hv a j)) (S.put e2 e3 ((wld_D cA mi mr b base n).2 (a - 1) _ he)) L T
def tyq (t : Nat) : Nat := match t with
  | 0 => 0
  | 1 => 2
  | _ => 1
theorem tys_q {cA : Nat → ClassId} {t : Nat} (ht : t < 3) : ∃ C F N, (aTys cA)[t + 2]? = some (cA (t + 2), .object C) ∧ vwCl[tyq t]? = some (C, F, N) := by
  match t, ht with
  | 0, _ => exact ⟨RX0, TX0, 12, rfl, rfl⟩
  | 1, _ => exact ⟨RX2, TX2, 2, rfl, rfl⟩
  | 2, _ => exact ⟨RX1, TX1, 6, rfl, rfl⟩
theorem aw_aald {a z t r : Nat} {i : Int} (hs : SH a = (t + 3, z)) (ht : t < 3) (ha : 0 < a ∧ a ≤ n) (hi : 0 ≤ i ∧ i < z) (hr : mr a i = some r) (hd : decode cc pc = .ok (.aaload, 1)) (k : AW own cc nL d ini kc ks xo Po n (pc + 1) lv (.ref r :: st) mi mr ck sk) : AW own cc nL d ini kc ks xo Po n pc lv (iI i :: .ref a :: st) mi mr ck sk := by
  intro p l e R s m args below meth c H locs ls D cA b base Q C I S L T
  have he := wld_at (cA := cA) (mi := mi) (mr := mr) (b := b) (base := base) ha
  have hcel : cel cA mi mr b base a = .inl (cA (t + 2), z, .inr (.inr (.inr (.inr (fun j => (mr a j).map (adr b base)))))) := by unfold cel; rw [hs]
  rw [hcel] at he
  have hz9 : z ≤ 1000 := by have := SH_len a; rw [hs] at this; exact this
  obtain ⟨CN, F, N, hty, hcl⟩ := tys_q (cA := cA) ht
  refine va_aldq (i := Int32.ofInt i) (rest := (st.map (cv b base))) C.1 C.2.1 C.2.2.2.2.2.1 I.2.1 (a - 1) (t + 2) he hty (oI_in hi hz9) hd ?_
  rw [oI_clamp hi.1 (by omega), hr]
  exact k p l e R s m args below meth c H locs ls D cA b base Q C I S L T
theorem aw_aast {a z t v : Nat} {i : Int} (hs : SH a = (t + 3, z)) (ht : t < 3) (ha : 0 < a ∧ a ≤ n) (hi : 0 ≤ i ∧ i < z) (hsv : SH v = (0, tyq t)) (hv : 0 < v ∧ v ≤ n) (hd : decode cc pc = .ok (.aastore, 1)) (k : AW own cc nL d ini kc ks xo Po n (pc + 1) lv st mi (aup mr a i (some v)) ck sk) : AW own cc nL d ini kc ks xo Po n pc lv (.ref v :: iI i :: .ref a :: st) mi mr ck sk := by
  intro p l e R s m args below meth c H locs ls D cA b base Q C I S L T
  have he := wld_at (cA := cA) (mi := mi) (mr := mr) (b := b) (base := base) ha
  have hcel : cel cA mi mr b base a = .inl (cA (t + 2), z, .inr (.inr (.inr (.inr (fun j => (mr a j).map (adr b base)))))) := by unfold cel; rw [hs]
  rw [hcel] at he
  have hz9 : z ≤ 1000 := by have := SH_len a; rw [hs] at this; exact this
  obtain ⟨CN, F, N, hty, hcl⟩ := tys_q (cA := cA) ht
  have hin := oI_in hi hz9
  have hev := wld_at (cA := cA) (mi := mi) (mr := mr) (b := b) (base := base) hv
  have hcv : cel cA mi mr b base v = .inr (tyq t, (List.range (nF (tyq t))).map (fval mi mr b base v (tyq t))) := by unfold cel; rw [hsv]
  rw [hcv] at hev
  obtain ⟨r', hr', cellV, g1, g2, g3, -⟩ := I.2.1 (v - 1) _ hev
  have hcls := (C.2.2.2.2.2.1.1 _ _ hcl).2
  obtain ⟨kA, comp, k1, k2, k3, -⟩ := (C.2.2.2.2.2.1.2 _ _ hty).2
  have hcomp : comp = D.1 (tyq t) := Option.some.inj (k3.symm.trans hcls.1)
  subst hcomp
  obtain ⟨kC, hkC, -⟩ := hcls.2
  have h0 : ¬ Int32.ofInt i < 0 := fun q => hin (Or.inl q)
  have hlt : (Int32.ofInt i).toNatClampNeg < z := Nat.not_le.mp fun q => hin (Or.inr q)
  refine W.aast (v := adr b base v) (j := Int32.ofInt i) (rest := (st.map (cv b base))) C.1 C.2.1 (I.2.1 (a - 1) _ he) (fun q h => by cases h) (fun h => by cases h) k1 k2 rfl hkC ⟨h0, by show _ < (arrV _ _ _).slots.size; rw [arrV_size]; exact hlt⟩ g1 (fun q h => by rw [g3] at h; cases h) (by rw [g2]; exact hkC) (by rw [g2]; exact va_assign hcls) rfl rfl hd fun H1 e1 e2 e3 => ?_
  have hcel2 : cel cA mi (aup mr a i (some v)) b base a = .inl (cA (t + 2), z, .inr (.inr (.inr (.inr (va_up (fun j => (mr a j).map (adr b base)) (Int32.ofInt i).toNatClampNeg (some (adr b base v))))))) := by
    unfold cel; rw [hs]
    show (Sum.inl (cA (t + 2), z, Sum.inr (Sum.inr (Sum.inr (Sum.inr (fun j : Nat => (aup mr a i (some v) a j).map (adr b base)))))) : va_E) = _
    congr 7
    funext j
    have e := oI_clamp hi.1 (by omega)
    unfold va_up aup
    by_cases hj : j = (Int32.ofInt i).toNatClampNeg
    · simp [hj, e]
    · have hj2 : ¬ ((j : Int) = i) := by omega
      simp [hj, hj2]
  have hP := I.2.1.set (p := a - 1) (e := .inl (cA (t + 2), z, .inr (.inr (.inr (.inr (va_up (fun j => (mr a j).map (adr b base)) (Int32.ofInt i).toNatClampNeg (some (adr b base v)))))))) (wld_D cA mi mr b base n) he (by
    show H1[adr b base a]? = some (vp_cell _ _)
    rw [e1, vp_cell_q, vp_cell_q, arrV_store]
    congr 2
    funext q
    by_cases hq : q = (Int32.ofInt i).toNatClampNeg
    · subst hq
      simp [updV, va_up, va_rf]
    · simp [updV, va_up, hq]) e3
  exact k p l e R s m args below meth c H1 _ ls D cA b base Q C (aI_put I ha hP e2 (fun x j hx => by simp [aup, hx]) hcel2.symm (fun j => I.2.2.1 a j)) (S.put e2 e3 ((wld_D cA mi mr b base n).2 (a - 1) _ he)) L T
theorem aw_alen0 {a z : Nat} (hs : SH a = (1, z)) (ha : 0 < a ∧ a ≤ n) (hd : decode cc pc = .ok (.arraylength, 1)) (k : AW own cc nL d ini kc ks xo Po n (pc + 1) lv (iI (z : Int) :: st) mi mr ck sk) : AW own cc nL d ini kc ks xo Po n pc lv (.ref a :: st) mi mr ck sk := by
  intro p l e R s m args below meth c H locs ls D cA b base Q C I S L T
  have he := wld_at (cA := cA) (mi := mi) (mr := mr) (b := b) (base := base) ha
  have hcel : cel cA mi mr b base a = .inl (cA 0, z, .inl (fun j => Int32.ofInt (mi a j))) := by unfold cel; rw [hs]
  rw [hcel] at he
  have hz9 : z ≤ 1000 := by have := SH_len a; rw [hs] at this; exact this
  exact va_alen (rest := (st.map (cv b base))) (v := Int32.ofInt (z : Int)) C.1 C.2.1 C.2.2.2.2.2.1 I.2.1 (a - 1) 0 he rfl (Int32.ofInt_eq_ofNat).symm hd (k p l e R s m args below meth c H locs ls D cA b base Q C I S L T)
theorem aw_alen1 {a z : Nat} (hs : SH a = (2, z)) (ha : 0 < a ∧ a ≤ n) (hd : decode cc pc = .ok (.arraylength, 1)) (k : AW own cc nL d ini kc ks xo Po n (pc + 1) lv (iI (z : Int) :: st) mi mr ck sk) : AW own cc nL d ini kc ks xo Po n pc lv (.ref a :: st) mi mr ck sk := by
  intro p l e R s m args below meth c H locs ls D cA b base Q C I S L T
  have he := wld_at (cA := cA) (mi := mi) (mr := mr) (b := b) (base := base) ha
  have hcel : cel cA mi mr b base a = .inl (cA 1, z, .inl (fun j => Int32.ofInt (mi a j))) := by unfold cel; rw [hs]
  rw [hcel] at he
  have hz9 : z ≤ 1000 := by have := SH_len a; rw [hs] at this; exact this
  exact va_alen (rest := (st.map (cv b base))) (v := Int32.ofInt (z : Int)) C.1 C.2.1 C.2.2.2.2.2.1 I.2.1 (a - 1) 1 he rfl (Int32.ofInt_eq_ofNat).symm hd (k p l e R s m args below meth c H locs ls D cA b base Q C I S L T)
theorem aw_sld {Ls : Nat} {xs : Int → Int} {i : Int} (hxo : xo = some (Ls, xs)) (hi : 0 ≤ i ∧ i < Ls) (hl : Ls ≤ 2147483647) (hd : decode cc pc = .ok (.iaload, 1)) (k : AW own cc nL d ini kc ks xo Po n (pc + 1) lv (iI (xs i) :: st) mi mr ck sk) : AW own cc nL d ini kc ks xo Po n pc lv (iI i :: .ref 0 :: st) mi mr ck sk := by
  intro p l e R s m args below meth c H locs ls D cA b base Q C I S L T
  obtain ⟨hb0, hb1, hX⟩ := C.2.2.2.2.2.2.2.2.2.2 Ls xs hxo
  have hin : vp_in (Int32.ofInt i) Ls := by rw [vp_in_iff, oI_toInt (by omega)]; exact hi
  refine va_sld (b := b) (i := Int32.ofInt i) (rest := (st.map (cv b base))) C.1 C.2.1 hX (by omega) (by omega) S hin hd ?_
  rw [oI_clamp hi.1 (by omega)]
  exact k p l e R s m args below meth c H locs ls D cA b base Q C I S L T
theorem aw_slen {Ls : Nat} {xs : Int → Int} (hxo : xo = some (Ls, xs)) (hd : decode cc pc = .ok (.arraylength, 1)) (k : AW own cc nL d ini kc ks xo Po n (pc + 1) lv (iI (Ls : Int) :: st) mi mr ck sk) : AW own cc nL d ini kc ks xo Po n pc lv (.ref 0 :: st) mi mr ck sk := by
  intro p l e R s m args below meth c H locs ls D cA b base Q C I S L T
  obtain ⟨hb0, hb1, hX⟩ := C.2.2.2.2.2.2.2.2.2.2 Ls xs hxo
  refine va_slen (b := b) (rest := (st.map (cv b base))) C.1 C.2.1 hX (by omega) (by omega) S hd ?_
  rw [← Int32.ofInt_eq_ofNat]
  exact k p l e R s m args below meth c H locs ls D cA b base Q C I S L T
theorem wld_push (cA : Nat → ClassId) (mi : aM) (mr : aR) (b base n : Nat) : wld cA mi mr b base (n + 1) = wld cA mi mr b base n ++ [(base + n, cel cA mi mr b base (n + 1))] := by
  simp [wld, List.range_succ]
theorem aI_push {D : va_G} {cA : Nat → ClassId} {b base n : Nat} {mi : aM} {mr : aR} {H H1 : Heap} (I : aI D cA b base n mi mr H) (hz : H1.size = H.size + 1) (ho : ∀ q, q < H.size → H1[q]? = H[q]?) (he : va_at D vwCl (base + n, cel cA mi mr b base (n + 1)) H1) : aI D cA b base (n + 1) mi mr H1 := by
  refine ⟨by rw [hz, I.1]; rfl, ?_, I.2.2.1, fun a k ha => I.2.2.2 a k (by omega)⟩
  rw [wld_push]
  refine (I.2.1.kept (fun k x hx => ho x.1 ((I.2.1 k x hx).lt))).app (fun k x hx => ?_)
  have hz2 : k < 1 := (List.getElem?_eq_some_iff.mp hx).1
  rw [show k = 0 by omega] at hx
  cases hx
  exact he
theorem va_S_push {A : Nat → Prop} {H0 H H1 : Heap} {locs : List Loc} (hS : va_S A H0 H locs) (hz : H1.size = H.size + 1) (ho : ∀ q, q < H.size → H1[q]? = H[q]?) : va_S A H0 H1 locs := ⟨Nat.le_trans hS.1 (by omega), fun x h1 h2 => (ho x (Nat.lt_of_lt_of_le h1 hS.1)).trans (hS.2.1 x h1 h2), hS.2.2⟩
theorem aw_new {idx ci N : Nat} {CN : String} {F : u_T} (hs : SH (n + 1) = (0, ci)) (hc : vwCl[ci]? = some (CN, F, N)) (hcl : Cond.classLink own idx CN ∈ aT) (hin : Cond.instantiable CN N ∈ aT ∧ Cond.initialized CN ∈ aT) (hdf : ∀ j, j < N → defaultValue (fty ci j) = if (fty ci j).isReference = true then .null else .int 0) (hck : ck + 1 ≤ kc) (hsk : sk + N ≤ ks) (hd : decode cc pc = .ok (.new idx, 3)) (k : AW own cc nL d ini kc ks xo Po (n + 1) (pc + 3) lv (.ref (n + 1) :: st) mi mr (ck + 1) (sk + N)) : AW own cc nL d ini kc ks xo Po n pc lv st mi mr ck sk := by
  intro p l e R s m args below meth c H locs ls D cA b base Q C I S L T
  obtain ⟨g1, g2, g3, g4⟩ := aIn hc
  have hts := C.2.2.2.2.1
  have hKn := C.2.2.2.2.2.1.1 ci _ hc
  have hR := C.2.2.2.2.2.2.2.2.1
  refine W.newcK C.1 C.2.1 C.2.2.2.1 (hts _ hcl) (hts _ hin.1) (hts _ hin.2) rfl hd (by omega) (by omega) hKn.2.1 I.1 fun H1 kC hkC e1 z1 o1 => ?_
  rw [← I.1] at o1 z1
  have hcel : cel cA mi mr b base (n + 1) = .inr (ci, (List.range (nF ci)).map (fval mi mr b base (n + 1) ci)) := by unfold cel; rw [hs]
  refine k p l e R s m args below meth c H1 locs ls D cA b base Q C (aI_push I z1 o1 ?_) (va_S_push S z1 o1) L T
  rw [hcel]
  refine ⟨_, hc, (u_born (fty ci) hts g1 hKn hkC e1 g2).to (fun j hj => ?_)⟩
  have hj2 : j < nF ci := by rw [← g4]; exact hj
  have h3 := I.2.2.2 (n + 1) j (by omega)
  simp only [vp_V, List.getD_eq_getElem?_getD, List.getElem?_map, List.getElem?_range hj2, Option.map_some, Option.getD_some, fval, h3.1, h3.2, hdf j hj]
  by_cases hq : (fty ci j).isReference = true
  · rw [if_pos hq, if_pos hq]; rfl
  · rw [if_neg hq, if_neg hq]; rfl
theorem aw_newI {z : Nat} (hs : SH (n + 1) = (1, z)) (hck : ck + 1 ≤ kc) (hsk : sk + z ≤ ks) (hd : decode cc pc = .ok (.newarray .int, 2)) (k : AW own cc nL d ini kc ks xo Po (n + 1) (pc + 2) lv (.ref (n + 1) :: st) mi mr (ck + 1) (sk + z)) : AW own cc nL d ini kc ks xo Po n pc lv (iI (z : Int) :: st) mi mr ck sk := by
  intro p l e R s m args below meth c H locs ls D cA b base Q C I S L T
  have hR := C.2.2.2.2.2.2.2.2.1
  have hz9 : z ≤ 1000 := by have := SH_len (n + 1); rw [hs] at this; exact this
  have hcl : (Int32.ofInt (z : Int)).toNatClampNeg = z := by
    have := oI_clamp (i := (z : Int)) (by omega) (by omega)
    omega
  refine va_newaK (atype := .int) (n := Int32.ofInt (z : Int)) (N := z) (rest := (st.map (cv b base))) C.1 C.2.1 (C.2.2.2.2.1 _ arc_int) rfl hd rfl (oI_neg (by omega)) hcl (by show z * 4 ≤ _; omega) (by omega) (by omega) I.1 fun H1 cB e1 z1 o1 hAr hNm => ?_
  rw [← I.1] at o1 z1
  have hcB : cB = cA 0 := by
    have h2 := (C.2.2.2.2.2.1.2 0 _ rfl).2
    exact Option.some.inj (hNm.symm.trans h2)
  subst hcB
  refine k p l e R s m args below meth c H1 locs ls D cA b base Q C (aI_push I z1 o1 ?_) (va_S_push S z1 o1) L T
  have hcel : cel cA mi mr b base (n + 1) = .inl (cA 0, z, .inl (fun j => Int32.ofInt (mi (n + 1) j))) := by unfold cel; rw [hs]
  rw [hcel]
  show H1[base + n]? = some (vp_cell _ _)
  rw [e1, vp_cell_i]
  have e0 : (fun j : Nat => Value.int (Int32.ofInt (mi (n + 1) j))) = fun _ => defaultValue .int := by
    funext j
    rw [(I.2.2.2 (n + 1) j (by omega)).1]
    rfl
  rw [e0]
  rfl
theorem aw_newZ {z : Nat} (hs : SH (n + 1) = (2, z)) (hck : ck + 1 ≤ kc) (hsk : sk + z ≤ ks) (hd : decode cc pc = .ok (.newarray .boolean, 2)) (k : AW own cc nL d ini kc ks xo Po (n + 1) (pc + 2) lv (.ref (n + 1) :: st) mi mr (ck + 1) (sk + z)) : AW own cc nL d ini kc ks xo Po n pc lv (iI (z : Int) :: st) mi mr ck sk := by
  intro p l e R s m args below meth c H locs ls D cA b base Q C I S L T
  have hR := C.2.2.2.2.2.2.2.2.1
  have hz9 : z ≤ 1000 := by have := SH_len (n + 1); rw [hs] at this; exact this
  have hcl : (Int32.ofInt (z : Int)).toNatClampNeg = z := by
    have := oI_clamp (i := (z : Int)) (by omega) (by omega)
    omega
  refine va_newaK (atype := .boolean) (n := Int32.ofInt (z : Int)) (N := z) (rest := (st.map (cv b base))) C.1 C.2.1 (C.2.2.2.2.1 _ arc_boolean) rfl hd rfl (oI_neg (by omega)) hcl (by show z * 1 ≤ _; omega) (by omega) (by omega) I.1 fun H1 cB e1 z1 o1 hAr hNm => ?_
  rw [← I.1] at o1 z1
  have hcB : cB = cA 1 := by
    have h2 := (C.2.2.2.2.2.1.2 1 _ rfl).2
    exact Option.some.inj (hNm.symm.trans h2)
  subst hcB
  refine k p l e R s m args below meth c H1 locs ls D cA b base Q C (aI_push I z1 o1 ?_) (va_S_push S z1 o1) L T
  have hcel : cel cA mi mr b base (n + 1) = .inl (cA 1, z, .inl (fun j => Int32.ofInt (mi (n + 1) j))) := by unfold cel; rw [hs]
  rw [hcel]
  show H1[base + n]? = some (vp_cell _ _)
  rw [e1, vp_cell_i]
  have e0 : (fun j : Nat => Value.int (Int32.ofInt (mi (n + 1) j))) = fun _ => defaultValue .boolean := by
    funext j
    rw [(I.2.2.2 (n + 1) j (by omega)).1]
    rfl
  rw [e0]
  rfl
theorem aw_newQ {idx z t : Nat} {CN : String} {F : u_T} {N : Nat} (hs : SH (n + 1) = (t + 3, z)) (ht : t < 3) (hc : vwCl[tyq t]? = some (CN, F, N)) (hcl : Cond.classLink own idx CN ∈ aT) (hck : ck + 1 ≤ kc) (hsk : sk + z ≤ ks) (hd : decode cc pc = .ok (.anewarray idx, 3)) (k : AW own cc nL d ini kc ks xo Po (n + 1) (pc + 3) lv (.ref (n + 1) :: st) mi mr (ck + 1) (sk + z)) : AW own cc nL d ini kc ks xo Po n pc lv (iI (z : Int) :: st) mi mr ck sk := by
  intro p l e R s m args below meth c H locs ls D cA b base Q C I S L T
  have hR := C.2.2.2.2.2.2.2.2.1
  have hz9 : z ≤ 1000 := by have := SH_len (n + 1); rw [hs] at this; exact this
  have hcl2 : (Int32.ofInt (z : Int)).toNatClampNeg = z := by
    have := oI_clamp (i := (z : Int)) (by omega) (by omega)
    omega
  obtain ⟨CN2, F2, N2, hty, hc2⟩ := tys_q (cA := cA) ht
  have hCN : CN2 = CN := by rw [hc] at hc2; cases hc2; rfl
  subst hCN
  have hAO : va_AO CN2 s := by
    have hN9 := C.2.2.2.2.2.2.1
    match t, ht, hc2 with
    | 0, _, hc2 => cases hc2; exact hN9.2.1
    | 1, _, hc2 => cases hc2; exact hN9.2.2.1
    | 2, _, hc2 => cases hc2; exact hN9.2.2.2
  refine W.anew (n := Int32.ofInt (z : Int)) (rest := (st.map (cv b base))) C.1 C.2.1 C.2.2.2.1 (C.2.2.2.2.1 _ hcl) (va_AO.use hAO) rfl hd rfl (oI_neg (by omega)) (by rw [hcl2]; omega) (by omega) (by rw [hcl2]; omega) fun cB kA comp f1 f2 f3 f4 => ?_
  rw [hcl2]
  generalize hH1 : H.push ({ cls := cB, slots := Array.replicate z .null, vm := .none } : Cell) = H1
  have z1 : H1.size = H.size + 1 := by rw [← hH1, Array.size_push]
  have e1 : H1[H.size]? = some (arrV cB z (fun _ => .null)) := by rw [← hH1, Array.getElem?_push_size, ← arrV_new]
  have o1 : ∀ q : Nat, q < H.size → H1[q]? = H[q]? := fun q hq => by rw [← hH1, Array.getElem?_push, if_neg (Nat.ne_of_lt hq)]
  have hcB : cB = cA (t + 2) := by
    obtain ⟨kA2, comp2, j1, j2, j3, j4⟩ := (C.2.2.2.2.2.1.2 _ _ hty).2
    exact Option.some.inj (f1.symm.trans j4)
  subst hcB
  have hadr : (Value.ref H.size) = cv b base (.ref (n + 1)) := by rw [I.1]; rfl
  rw [hadr]
  refine k p l e R s m args below meth c H1 locs ls D cA b base Q C (aI_push I z1 o1 ?_) (va_S_push S z1 o1) L T
  have hcel : cel cA mi mr b base (n + 1) = .inl (cA (t + 2), z, .inr (.inr (.inr (.inr (fun j => (mr (n + 1) j).map (adr b base)))))) := by unfold cel; rw [hs]
  rw [hcel]
  show H1[base + n]? = some (vp_cell _ _)
  rw [← I.1, e1, vp_cell_q]
  have e0 : (fun j : Nat => va_rf ((mr (n + 1) j).map (adr b base))) = fun _ => Value.null := by
    funext j
    rw [(I.2.2.2 (n + 1) j (by omega)).2]
    rfl
  rw [e0]
theorem aw_obj {idx a : Nat} (hm : Cond.methodLink own idx objectInit ∈ aT) (hr : (st.map fun v => v.category).sum ≤ 8) (hd1 : 1 ≤ d) (hd : decode cc pc = .ok (.invokespecial idx, 3)) (k : AW own cc nL d ini kc ks xo Po n (pc + 3) lv st mi mr ck sk) : AW own cc nL d ini kc ks xo Po n pc lv (.ref a :: st) mi mr ck sk := by
  intro p l e R s m args below meth c H locs ls D cA b base Q C I S L T
  have hts := C.2.2.2.2.1
  have hR := C.2.2.2.2.2.2.2.2.1
  refine W.objInit (a := adr b base a) (rest := (st.map (cv b base))) C.1 C.2.1 C.2.2.2.1 (hts _ hm) (hts _ obj_ini.1) (hts _ obj_ini.2) rfl (by rw [C.2.2.1]; exact L.1) rfl hd (by omega) ?_ (k p l e R s m args below meth c H locs ls D cA b base Q C I S L T)
  have e := cat_sum b base st
  show 2 * 0 + _ + 12 ≤ _
  omega
def acp (mi : aM) (a0 : Nat) (sp : Int) (a : Nat) (dp w : Int) : aM := fun x j => if x = a ∧ dp ≤ j ∧ j < dp + w then mi a0 (sp + (j - dp)) else mi x j
theorem oI_nn {x : Int} (h : 0 ≤ x ∧ x ≤ 2147483647) : ((Int32.ofInt x).toNatClampNeg : Nat) = x.toNat := by
  have := oI_clamp h.1 h.2
  omega
theorem aw_copy {idx a0 a z0 z1 : Nat} {sp dp w : Int} (hm : Cond.methodLink own idx arraycopyName ∈ aT) (hs0 : SH a0 = (1, z0)) (ha0 : 0 < a0 ∧ a0 ≤ n) (hs : SH a = (1, z1)) (ha : 0 < a ∧ a ≤ n) (hsp : 0 ≤ sp) (hdp : 0 ≤ dp) (hw : 0 ≤ w) (h4 : sp + w ≤ z0) (h5 : dp + w ≤ z1) (hr : (st.map fun v => v.category).sum ≤ 8) (hd1 : 1 ≤ d) (hd : decode cc pc = .ok (.invokestatic idx, 3)) (k : AW own cc nL d ini kc ks xo Po n (pc + 3) lv st (acp mi a0 sp a dp w) mr ck sk) : AW own cc nL d ini kc ks xo Po n pc lv (iI w :: iI dp :: .ref a :: iI sp :: .ref a0 :: st) mi mr ck sk := by
  intro p l e R s m args below meth c H locs ls D cA b base Q C I S L T
  have hts := C.2.2.2.2.1
  have hR := C.2.2.2.2.2.2.2.2.1
  have he0 := wld_at (cA := cA) (mi := mi) (mr := mr) (b := b) (base := base) ha0
  have he := wld_at (cA := cA) (mi := mi) (mr := mr) (b := b) (base := base) ha
  have hcel0 : cel cA mi mr b base a0 = .inl (cA 0, z0, .inl (fun j => Int32.ofInt (mi a0 j))) := by unfold cel; rw [hs0]
  have hcel : cel cA mi mr b base a = .inl (cA 0, z1, .inl (fun j => Int32.ofInt (mi a j))) := by unfold cel; rw [hs]
  rw [hcel0] at he0
  rw [hcel] at he
  have hz0 : z0 ≤ 1000 := by have := SH_len a0; rw [hs0] at this; exact this
  have hz1 : z1 ≤ 1000 := by have := SH_len a; rw [hs] at this; exact this
  have t0 : (Int32.ofInt sp).toInt = sp := oI_toInt (by omega)
  have t1 : (Int32.ofInt dp).toInt = dp := oI_toInt (by omega)
  have t2 : (Int32.ofInt w).toInt = w := oI_toInt (by omega)
  have n0 := oI_nn (x := sp) (by omega)
  have n1 := oI_nn (x := dp) (by omega)
  have n2 := oI_nn (x := w) (by omega)
  have hc0 : H[adr b base a0]? = some (vp_cell (cA 0) (z0, .inl (fun j => Int32.ofInt (mi a0 j)))) := I.2.1 (a0 - 1) _ he0
  have hc1 : H[adr b base a]? = some (vp_cell (cA 0) (z1, .inl (fun j => Int32.ofInt (mi a j)))) := I.2.1 (a - 1) _ he
  obtain ⟨-, k0, hk0, cm0, hkk0⟩ := (C.2.2.2.2.2.1.2 0 _ rfl).1 z0 (fun j => .int (Int32.ofInt (mi a0 j)))
  have hcat := cat_sum b base st
  have hnf : nativeFrameWords "java/lang/System" "arraycopy" 5 = 7 := by decide
  intro T0 hT X
  obtain ⟨vm', X', step⟩ := X.arraycopy C.1 C.2.2.2.1 (hts _ hm) (hts _ nat_copy.1) (hts _ nat_copy.2.1) (hts _ nat_copy.2.2) (src := adr b base a0) (dst := adr b base a) (cs := vp_cell (cA 0) (z0, .inl (fun j => Int32.ofInt (mi a0 j)))) (cd := vp_cell (cA 0) (z1, .inl (fun j => Int32.ofInt (mi a j)))) (srcPos := Int32.ofInt sp) (destPos := Int32.ofInt dp) (n := Int32.ofInt w) (by rw [hT]; exact hc0) (by rw [hT]; exact hc1)
    (fun _ h => by cases h) (fun _ h => by cases h) (fun h => by cases h) (fun h => by cases h) hk0 hk0 hkk0 hkk0 (by simp [refKind]) (oI_neg (by omega)) (oI_neg (by omega)) (oI_neg (by omega))
    (by rw [t0, t2]; show ¬ _ > ((arrV (cA 0) z0 (fun j => .int (Int32.ofInt (mi a0 j)))).slots.size : Int); rw [arrV_size]; omega)
    (by rw [t1, t2]; show ¬ _ > ((arrV (cA 0) z1 (fun j => .int (Int32.ofInt (mi a j)))).slots.size : Int); rw [arrV_size]; omega)
    (fun vm₁ _ i hi => by
      have e : (vp_cell (cA 0) (z0, .inl (fun j => Int32.ofInt (mi a0 j)))).slots.getD ((Int32.ofInt sp).toNatClampNeg + i) .null = .int (Int32.ofInt (mi a0 (((Int32.ofInt sp).toNatClampNeg + i : Nat) : Int))) := by
        show (arrV (cA 0) z0 (fun j => .int (Int32.ofInt (mi a0 j)))).slots.getD _ _ = _
        rw [Array.getD_eq_getD_getElem?, arrV_read _ _ (by omega)]
        rfl
      refine ⟨?_, ?_⟩
      · rw [e]
        rfl
      · rw [e]
        exact trivial)
    (g := F0 m pc ls ((iI w :: iI dp :: Value.ref a :: iI sp :: Value.ref a0 :: st).map (cv b base))) rfl (by rw [C.2.2.1]; exact L.1) (rest := st.map (cv b base)) rfl (by rw [C.2.1]; exact hd) (by omega) (by show 2 * 0 + _ + _ ≤ _; rw [hnf, hcat]; omega)
  have e1 : copied (vp_cell (cA 0) (z0, .inl (fun j => Int32.ofInt (mi a0 j)))) (vp_cell (cA 0) (z1, .inl (fun j => Int32.ofInt (mi a j)))) (Int32.ofInt sp) (Int32.ofInt dp) (Int32.ofInt w) = vp_cell (cA 0) (z1, .inl (va_cpy (fun j => Int32.ofInt (mi a0 j)) (fun j => Int32.ofInt (mi a j)) (Int32.ofInt sp).toNatClampNeg (Int32.ofInt dp).toNatClampNeg (Int32.ofInt w).toNatClampNeg)) := va_copied (fun z => .int z) (cA 0) (cA 0) (fun j => Int32.ofInt (mi a0 j)) (fun j => Int32.ofInt (mi a j)) (by omega)
  rw [e1] at X' step
  have hl : adr b base a < H.size := (Array.getElem?_eq_some_iff.mp hc1).1
  have hcel2 : cel cA (acp mi a0 sp a dp w) mr b base a = .inl (cA 0, z1, .inl (va_cpy (fun j => Int32.ofInt (mi a0 j)) (fun j => Int32.ofInt (mi a j)) (Int32.ofInt sp).toNatClampNeg (Int32.ofInt dp).toNatClampNeg (Int32.ofInt w).toNatClampNeg)) := by
    unfold cel; rw [hs]
    show (Sum.inl (cA 0, z1, Sum.inl (fun j : Nat => Int32.ofInt (acp mi a0 sp a dp w a j))) : va_E) = _
    congr 4
    funext j
    rw [n0, n1, n2]
    unfold va_cpy acp
    by_cases hj : dp.toNat ≤ j ∧ j < dp.toNat + w.toNat
    · rw [if_pos hj, if_pos ⟨rfl, by omega, by omega⟩]
      congr 2
      omega
    · rw [if_neg hj, if_neg (by omega)]
  generalize hC2 : vp_cell (cA 0) (z1, .inl (va_cpy (fun j => Int32.ofInt (mi a0 j)) (fun j => Int32.ofInt (mi a j)) (Int32.ofInt sp).toNatClampNeg (Int32.ofInt dp).toNatClampNeg (Int32.ofInt w).toNatClampNeg)) = C2 at X' step
  have hheap : ((T0.setVm vm').setCell (adr b base a) C2).heap = H.setIfInBounds (adr b base a) C2 := by rw [← hT]; rfl
  have oq : ∀ q : Nat, q ≠ adr b base a → (H.setIfInBounds (adr b base a) C2)[q]? = H[q]? := fun q hq => by simp [Array.getElem?_setIfInBounds, Ne.symm hq]
  have hP := I.2.1.set (p := a - 1) (wld_D cA mi mr b base n) he (show va_at D vwCl (adr b base a, .inl (cA 0, z1, .inl (va_cpy (fun j => Int32.ofInt (mi a0 j)) (fun j => Int32.ofInt (mi a j)) (Int32.ofInt sp).toNatClampNeg (Int32.ofInt dp).toNatClampNeg (Int32.ofInt w).toNatClampNeg))) (H.setIfInBounds (adr b base a) C2) from by
    show (H.setIfInBounds (adr b base a) C2)[adr b base a]? = some (vp_cell _ _)
    rw [hC2]
    simp [Array.getElem?_setIfInBounds, hl]) oq
  have hA := (wld_D cA mi mr b base n).2 (a - 1) _ he
  have kk := fun (L9 : List Loc) (hL9 : ∀ q ∈ L9, base ≤ q.base) => k p l e R s m args below meth c (H.setIfInBounds (adr b base a) C2) L9 ls D cA b base Q C (aI_put I ha hP (by simp) (fun x j hx => by simp [acp, hx]) hcel2.symm (fun j => by unfold acp; split <;> exact I.2.2.1 _ _)) ⟨by simp; exact S.1, fun q g1 g2 => by
      rw [oq q (fun e => g2 (by rw [e]; exact hA))]
      exact S.2.1 q g1 g2, hL9⟩ L T
  obtain ⟨t, a1, b1⟩ := kk _ (fun q hq => by
      rcases List.mem_append.mp hq with h | h
      · exact S.2.2 q h
      · obtain ⟨z, -, hz⟩ := List.mem_map.mp h
        rw [← hz]
        exact hA) _ hheap X'
  exact ⟨t, step t a1, b1⟩
theorem aw_iret {x : Int} (hP : Po (some x) n mi mr) (hck : ck ≤ kc) (hsk : sk ≤ ks) (hd : decode cc pc = .ok (.ireturn, 1)) : AW own cc nL d ini kc ks xo Po n pc lv [iI x] mi mr ck sk := by
  intro p l e R s m args below meth c H locs ls D cA b base Q C I S L T
  exact T (some x) n mi mr ck sk H locs pc ls hP I S hck hsk hd
theorem aw_vret (hP : Po none n mi mr) (hck : ck ≤ kc) (hsk : sk ≤ ks) (hd : decode cc pc = .ok (.return_, 1)) : AW own cc nL d ini kc ks xo Po n pc lv [] mi mr ck sk := by
  intro p l e R s m args below meth c H locs ls D cA b base Q C I S L T
  exact T none n mi mr ck sk H locs pc ls hP I S hck hsk hd
theorem aw_post {Po' : Option Int → Nat → aM → aR → Prop} (hP : ∀ v n' mi' mr', Po' v n' mi' mr' → Po v n' mi' mr') (k : AW own cc nL d ini kc ks xo Po' n pc lv st mi mr ck sk) : AW own cc nL d ini kc ks xo Po n pc lv st mi mr ck sk := by
  intro p l e R s m args below meth c H locs ls D cA b base Q C I S L T
  exact k p l e R s m args below meth c H locs ls D cA b base Q C I S L (fun v n' mi' mr' ck' sk' H' locs' pc' ls' h => T v n' mi' mr' ck' sk' H' locs' pc' ls' (hP v n' mi' mr' h))
theorem aw_rng (k : (∀ (a : Nat) (j : Int), -2147483648 ≤ mi a j ∧ mi a j ≤ 2147483647) → AW own cc nL d ini kc ks xo Po n pc lv st mi mr ck sk) : AW own cc nL d ini kc ks xo Po n pc lv st mi mr ck sk := by
  intro p l e R s m args below meth c H locs ls D cA b base Q C I S L T
  exact k I.2.2.1 p l e R s m args below meth c H locs ls D cA b base Q C I S L T
def rmq (d mc ms : Nat) : Room := { frames := d, cells := mc, slots := ms, locals := 60 * d }
def aPc (av : List Value) (D : va_G) (cA : Nat → ClassId) (b base n : Nat) (mi : aM) (mr : aR) : Array Value → State → Prop := va_Pc (av.map (cv b base)) (fun U => aI D cA b base n mi mr U.heap ∧ va_K D vwCl (aTys cA) U ∧ aN U)
def aQ (D : va_G) (cA : Nat → ClassId) (b base : Nat) (Po : Option Int → Nat → aM → aR → Prop) : Array Value → State → Outcome → State → Prop := fun _ st oc t => (∃ v n' mi' mr', oc = .returned (v.map (fun x : Int => Value.int (Int32.ofInt x))) ∧ Po v n' mi' mr' ∧ aI D cA b base n' mi' mr' t.heap) ∧ va_F (fun q => base ≤ q) st t
/-- the contract of a method, whatever calls it: level d, making at most mc cells of ms slots -/
def SP (y : MethodName) (cc : ByteArray) (nL : Nat) (rt : Option FieldType) (d mc ms n : Nat) (av : List Value) (mi : aM) (mr : aR) (Po : Option Int → Nat → aM → aR → Prop) : Prop :=
  ∀ (l : Launch) (D : va_G) (cA : Nat → ClassId) (b base : Nat), Met l y (.code y cc nL rt :: aT) (rmq d mc ms) (aPc av D cA b base n mi mr) (aQ D cA b base Po) mc ms (fun q => base ≤ q)
theorem aN_moved {u U : State} (hvm : u.vm.Alike U.vm) (hN : ∀ w ∈ tables_1, (∃ own idx y host, w = Cond.methodLinkNest own idx y host) → va_Nw w u → va_Nw w U) (h : aN u) : aN U :=
  ⟨fun w hw hx => hN w hw hx (h.1 w hw hx), va_AO.moved hvm h.2.1, va_AO.moved hvm h.2.2.1, va_AO.moved hvm h.2.2.2⟩
theorem aN_warm {s U : State} (hW : s.WarmedH U.vm) (h : aN s) : aN U := aN_moved hW.alike (fun w _ hx hz => by
  obtain ⟨own, idx, y, host, rfl⟩ := hx
  exact va_Nw.warmM hW hz) h
theorem aN_same {u U : State} (hv : u.vm = U.vm) (h : aN u) : aN U := aN_moved (by rw [hv]; exact Vm.Alike.refl _) (fun w _ hx hz => by
  obtain ⟨own, idx, y, host, rfl⟩ := hx
  exact va_Nw.same rfl hv hz) h
theorem aPc_blind (av : List Value) (D : va_G) (cA : Nat → ClassId) (b base n : Nat) (mi : aM) (mr : aR) : FrameBlind (aPc av D cA b base n mi mr) :=
  fun a U g mk q => ⟨q.1, q.2.1, va_K.moved (u := U) (U := U.calling g mk a) (Vm.Alike.refl U.vm) q.2.2.1, aN_same (u := U) (U := U.calling g mk a) rfl q.2.2.2⟩
theorem SP.of {y : MethodName} {rt : Option FieldType} {own : String} {cc : ByteArray} {nL d mc ms n : Nat} {av : List Value} {mi : aM} {mr : aR} {Po : Option Int → Nat → aM → aR → Prop} (ini : Bool) (hown : y.cls = own) (hini : ini = true → y.name = "<init>") (hpl : plainName y.cls = true) (hargs : (lg_sl av).length ≤ nL)
    (hrt : (rt = some .int ∧ ∀ n' mi' mr', ¬ Po none n' mi' mr') ∨ (rt = some .boolean ∧ (∀ n' mi' mr', ¬ Po none n' mi' mr') ∧ ∀ v n' mi' mr', Po (some v) n' mi' mr' → v = 0 ∨ v = 1) ∨ (rt = none ∧ ∀ v n' mi' mr', ¬ Po (some v) n' mi' mr'))
    (h : AW own cc nL d ini mc ms none Po n 0 (lv_args 0 av) [] mi mr 0 0) : SP y cc nL rt d mc ms n av mi mr Po := by
  intro l D cA b base
  refine Met.ofW (cc := cc) (maxL := nL) (ret := rt) hpl rfl ?_
  intro p e s m args below meth c s₁ B hml hv
  obtain ⟨rfl, hI, hK, hN⟩ := hv
  have hts := atoms_spec (ws := .code y cc nL rt :: aT) B.pre
  have hown2 : s.vm.findClass own = some m.cls := by rw [← hown]; exact findClass_of_methodNamed B.named
  have hl := lv_entry (av.map (cv b base)) (n := nL) (by rw [sl_len]; exact hargs)
  rw [lg_entry_eq]
  generalize (lg_sl (av.map (cv b base)) ++ List.replicate (nL - (lg_sl (av.map (cv b base))).length) Slot.unset).toArray = ls at hl ⊢
  rw [clv_args] at hl
  have hsz : base ≤ s.heap.size := by rw [hI.1]; omega
  have hlocks := B.notSynchronized
  refine h p l e _ s m _ below meth c s.heap [] ls D cA b base _ ⟨B.exec, B.bytes, hml, hown2, fun w hw => hts w (List.mem_cons_of_mem _ hw), hK, hN, fun hi => ?_, ⟨Nat.le_refl _, Nat.le_refl _, Nat.le_refl _, Nat.le_refl _⟩, hsz, fun L xs hx => by cases hx⟩ hI va_S.rf hl ?_
  · have := (name_of_methodNamed B.named B.method).1
    rw [this]; exact hini hi
  · intro v n' mi' mr' ck' sk' H' locs' pc' ls' hPo hI' hS' hck hsk hd
    refine W.widen hck hsk ?_
    have hq : ∀ t : State, t.heap = H' → s.WarmedH t.vm → aQ D cA b base Po (av.map (cv b base)).toArray s (.returned (v.map (fun x : Int => Value.int (Int32.ofInt x)))) t := fun t ht _ => ⟨⟨v, n', mi', mr', rfl, hPo, by rw [ht]; exact hI'⟩, hS'.F ht⟩
    cases v with
    | none =>
      rcases hrt with ⟨h1, h2⟩ | ⟨h1, h2, -⟩ | ⟨h1, h2⟩
      · exact absurd hPo (h2 n' mi' mr')
      · exact absurd hPo (h2 n' mi' mr')
      · exact W.vret B.exec B.bytes (by rw [B.returns, h1]) hq hS'.2.2 hd
    | some x =>
      rcases hrt with ⟨h1, h2⟩ | ⟨h1, h2, h3⟩ | ⟨h1, h2⟩
      · exact W.iret B.exec B.bytes (by rw [B.returns, h1]) hq hS'.2.2 hd
      · refine W.zret B.exec B.bytes (by rw [B.returns, h1]) ?_ hq hS'.2.2 hd
        rcases h3 x n' mi' mr' hPo with rfl | rfl <;> decide
      · exact absurd hPo (h2 x n' mi' mr')
theorem aw_callV {y : MethodName} {ccg : ByteArray} {nLg dg mc ms idx na : Nat} {rtg : Option FieldType} {a ci N : Nat} {F : u_T} {As st0 : List Value} {Pg : Option Int → Nat → aM → aR → Prop} (hcal : aCalV own idx y ccg nLg rtg na) (hM : SP y ccg nLg rtg dg mc ms n (.ref a :: As) mi mr Pg) (hs : SH a = (0, ci)) (hc : vwCl[ci]? = some (y.cls, F, N)) (ha : 0 < a ∧ a ≤ n) (hna : As.length = na) (hst9 : st0 = As.reverse ++ .ref a :: st) (hr : (st.map fun v => v.category).sum ≤ 8) (hdd : dg + 1 ≤ d) (hnl : nLg ≤ 40) (hck : ck + mc ≤ kc) (hsk : sk + ms ≤ ks) (hd : decode cc pc = .ok (.invokevirtual idx, 3)) (k : ∀ v n' mi' mr', Pg v n' mi' mr' → AW own cc nL d ini kc ks xo Po n' (pc + 3) lv (aStk v ++ st) mi' mr' (ck + mc) (sk + ms)) : AW own cc nL d ini kc ks xo Po n pc lv st0 mi mr ck sk := by
  intro p l e R s m args below meth c H locs ls D cA b base Q C I S L T
  obtain ⟨hml, hin, hsel, hini, hcode, hy1, hy2, hpd⟩ := hcal
  have hts := C.2.2.2.2.1
  have hR := C.2.2.2.2.2.2.2.2.1
  have hfits : ck + mc ≤ R.cells ∧ sk + ms ≤ R.slots := by omega
  have hG : GoodIn aT (Cond.code y ccg nLg rtg :: aT) := fun w hw => by
    rcases List.mem_cons.mp hw with rfl | hw
    · exact ⟨hcode, good_of_word (aT_good _ hcode)⟩
    · exact ⟨hw, good_of_word (aT_good _ hw)⟩
  have he := wld_at (cA := cA) (mi := mi) (mr := mr) (b := b) (base := base) ha
  have hcel : cel cA mi mr b base a = .inr (ci, (List.range (nF ci)).map (fval mi mr b base a ci)) := by unfold cel; rw [hs]
  rw [hcel] at he
  have hr := va_runV (e := e) (below := below) (meth := meth) (b := adr b base a) (As := As.map (cv b base)) (rest := st.map (cv b base)) (g := F0 m pc ls (st0.map (cv b base))) (H := H) (locs := locs) (cells := ck) (slots := sk) (own := own) (index := idx) (n := na) ⟨C.1, C.2.1, C.2.2.1, C.2.2.2.1, hts⟩ (hM l D cA b base) ⟨callB_of na hts hG rfl rfl rfl (hts _ hini) (hts _ hml) ⟨hy1, hy2, hpd⟩ ⟨by show dg + 1 ≤ R.frames; omega, by show 8 + (nLg + 11) + 60 * dg ≤ R.locals; omega⟩, hts _ hin, hts _ hsel⟩ ⟨aPc_blind _ D cA b base n mi mr, va_recv C.2.2.2.2.2.1 I.2.1 hc he, fun U hU hW => ⟨rfl, by rw [hU]; exact I, va_K.moved hW.alike C.2.2.2.2.2.1, aN_warm hW C.2.2.2.2.2.2.1⟩⟩ rfl (by rw [List.length_map]; exact hna) L.1 (by rw [hst9]; simp [cv]) (lv_room (by rw [cat_sum]; exact hr)) hd hfits
  revert hr
  generalize hU0 : (Value.ref (adr b base a) :: As.map (cv b base)).toArray = U0
  revert U0
  intro U0 hU0 hr T0 hT X
  obtain ⟨v, st₀, t, T1, L1, h0, X1, hL1, e1, e2, ⟨⟨v9, n1, mi1, mr1, ho, hPo, hI1⟩, hF⟩, hst⟩ := hr T0 hT X
  have hv9 : v = v9.map (fun x : Int => Value.int (Int32.ofInt x)) := by cases ho; rfl
  have hS1 : va_S (fun q => base ≤ q) s.heap T1.heap (locs ++ L1) := by
    unfold va_F at hF
    rw [h0] at hF
    rw [e1]
    refine ⟨Nat.le_trans S.1 hF.1, fun q h1 h2 => ?_, fun q hq => ?_⟩
    · rw [hF.2 q (Nat.lt_of_lt_of_le h1 S.1) h2]
      exact S.2.1 q h1 h2
    · rcases List.mem_append.mp hq with h | h
      · exact S.2.2 q h
      · exact hL1 q h
  have kk := k v9 n1 mi1 mr1 hPo p l e R s m args below meth c T1.heap (locs ++ L1) ls D cA b base Q C (by rw [e1]; exact hI1) hS1 L T
  obtain ⟨t2, a1, b1⟩ := kk T1 rfl X1
  refine ⟨t2, hst t2 ?_, b1⟩
  rw [hv9]
  cases v9 <;> exact a1

theorem aw_callS {y : MethodName} {ccg : ByteArray} {nLg dg mc ms idx na : Nat} {rtg : Option FieldType} {As st0 : List Value} {Pg : Option Int → Nat → aM → aR → Prop} (hcal : aCalS own idx y ccg nLg rtg na) (hM : SP y ccg nLg rtg dg mc ms n As mi mr Pg) (hna : As.length = na) (hst9 : st0 = As.reverse ++  st) (hr : (st.map fun v => v.category).sum ≤ 8) (hdd : dg + 1 ≤ d) (hnl : nLg ≤ 40) (hck : ck + mc ≤ kc) (hsk : sk + ms ≤ ks) (hd : decode cc pc = .ok (.invokestatic idx, 3)) (k : ∀ v n' mi' mr', Pg v n' mi' mr' → AW own cc nL d ini kc ks xo Po n' (pc + 3) lv (aStk v ++ st) mi' mr' (ck + mc) (sk + ms)) : AW own cc nL d ini kc ks xo Po n pc lv st0 mi mr ck sk := by
  intro p l e R s m args below meth c H locs ls D cA b base Q C I S L T
  obtain ⟨hml, hsta, hini, hcode, hy1, hy2, hpd⟩ := hcal
  have hts := C.2.2.2.2.1
  have hR := C.2.2.2.2.2.2.2.2.1
  have hfits : ck + mc ≤ R.cells ∧ sk + ms ≤ R.slots := by omega
  have hG : GoodIn aT (Cond.code y ccg nLg rtg :: aT) := fun w hw => by
    rcases List.mem_cons.mp hw with rfl | hw
    · exact ⟨hcode, good_of_word (aT_good _ hcode)⟩
    · exact ⟨hw, good_of_word (aT_good _ hw)⟩
  have hr := va_runS (e := e) (below := below) (meth := meth) (As := As.map (cv b base)) (rest := st.map (cv b base)) (g := F0 m pc ls (st0.map (cv b base))) (H := H) (locs := locs) (cells := ck) (slots := sk) (own := own) (index := idx) (n := na) ⟨C.1, C.2.1, C.2.2.1, C.2.2.2.1, hts⟩ (hM l D cA b base) ⟨callB_of na hts hG rfl rfl rfl (hts _ hini) (hts _ hml) ⟨hy1, hy2, hpd⟩ ⟨by show dg + 1 ≤ R.frames; omega, by show 8 + (nLg + 11) + 60 * dg ≤ R.locals; omega⟩, hts _ hsta⟩ ⟨aPc_blind _ D cA b base n mi mr, fun U hU hW => ⟨rfl, by rw [hU]; exact I, va_K.moved hW.alike C.2.2.2.2.2.1, aN_warm hW C.2.2.2.2.2.2.1⟩⟩ rfl (by rw [List.length_map]; exact hna) L.1 (by rw [hst9]; simp) (lv_room (by rw [cat_sum]; exact hr)) hd hfits
  revert hr
  generalize hU0 : (As.map (cv b base)).toArray = U0
  revert U0
  intro U0 hU0 hr T0 hT X
  obtain ⟨v, st₀, t, T1, L1, h0, X1, hL1, e1, e2, ⟨⟨v9, n1, mi1, mr1, ho, hPo, hI1⟩, hF⟩, hst⟩ := hr T0 hT X
  have hv9 : v = v9.map (fun x : Int => Value.int (Int32.ofInt x)) := by cases ho; rfl
  have hS1 : va_S (fun q => base ≤ q) s.heap T1.heap (locs ++ L1) := by
    unfold va_F at hF
    rw [h0] at hF
    rw [e1]
    refine ⟨Nat.le_trans S.1 hF.1, fun q h1 h2 => ?_, fun q hq => ?_⟩
    · rw [hF.2 q (Nat.lt_of_lt_of_le h1 S.1) h2]
      exact S.2.1 q h1 h2
    · rcases List.mem_append.mp hq with h | h
      · exact S.2.2 q h
      · exact hL1 q h
  have kk := k v9 n1 mi1 mr1 hPo p l e R s m args below meth c T1.heap (locs ++ L1) ls D cA b base Q C (by rw [e1]; exact hI1) hS1 L T
  obtain ⟨t2, a1, b1⟩ := kk T1 rfl X1
  refine ⟨t2, hst t2 ?_, b1⟩
  rw [hv9]
  cases v9 <;> exact a1

theorem aw_callI {y : MethodName} {ccg : ByteArray} {nLg dg mc ms idx na : Nat} {a : Nat} {As st0 : List Value} {Pg : Option Int → Nat → aM → aR → Prop} (hcal : aCalI own idx y ccg nLg na) (hM : SP y ccg nLg none dg mc ms n (.ref a :: As) mi mr Pg) (hna : As.length = na) (hst9 : st0 = As.reverse ++ .ref a :: st) (hr : (st.map fun v => v.category).sum ≤ 8) (hdd : dg + 1 ≤ d) (hnl : nLg ≤ 40) (hck : ck + mc ≤ kc) (hsk : sk + ms ≤ ks) (hd : decode cc pc = .ok (.invokespecial idx, 3)) (k : ∀ v n' mi' mr', Pg v n' mi' mr' → AW own cc nL d ini kc ks xo Po n' (pc + 3) lv (aStk v ++ st) mi' mr' (ck + mc) (sk + ms)) : AW own cc nL d ini kc ks xo Po n pc lv st0 mi mr ck sk := by
  intro p l e R s m args below meth c H locs ls D cA b base Q C I S L T
  obtain ⟨hml, hin, hini, hcode, hnm, hy1, hy2, hpd⟩ := hcal
  have hts := C.2.2.2.2.1
  have hR := C.2.2.2.2.2.2.2.2.1
  have hfits : ck + mc ≤ R.cells ∧ sk + ms ≤ R.slots := by omega
  have hG : GoodIn aT (Cond.code y ccg nLg none :: aT) := fun w hw => by
    rcases List.mem_cons.mp hw with rfl | hw
    · exact ⟨hcode, good_of_word (aT_good _ hcode)⟩
    · exact ⟨hw, good_of_word (aT_good _ hw)⟩
  have hr := va_runI (e := e) (below := below) (meth := meth) (b := adr b base a) (As := As.map (cv b base)) (rest := st.map (cv b base)) (g := F0 m pc ls (st0.map (cv b base))) (H := H) (locs := locs) (cells := ck) (slots := sk) (own := own) (index := idx) (n := na) ⟨C.1, C.2.1, C.2.2.1, C.2.2.2.1, hts⟩ (hM l D cA b base) ⟨callB_of na hts hG rfl rfl rfl (hts _ hini) (hts _ hml) ⟨hy1, hy2, hpd⟩ ⟨by show dg + 1 ≤ R.frames; omega, by show 8 + (nLg + 11) + 60 * dg ≤ R.locals; omega⟩, hnm, hts _ hin⟩ ⟨aPc_blind _ D cA b base n mi mr, fun U hU hW => ⟨rfl, by rw [hU]; exact I, va_K.moved hW.alike C.2.2.2.2.2.1, aN_warm hW C.2.2.2.2.2.2.1⟩⟩ rfl (by rw [List.length_map]; exact hna) L.1 (by rw [hst9]; simp [cv]) (lv_room (by rw [cat_sum]; exact hr)) hd hfits
  revert hr
  generalize hU0 : (Value.ref (adr b base a) :: As.map (cv b base)).toArray = U0
  revert U0
  intro U0 hU0 hr T0 hT X
  obtain ⟨v, st₀, t, T1, L1, h0, X1, hL1, e1, e2, ⟨⟨v9, n1, mi1, mr1, ho, hPo, hI1⟩, hF⟩, hst⟩ := hr T0 hT X
  have hv9 : v = v9.map (fun x : Int => Value.int (Int32.ofInt x)) := by cases ho; rfl
  have hS1 : va_S (fun q => base ≤ q) s.heap T1.heap (locs ++ L1) := by
    unfold va_F at hF
    rw [h0] at hF
    rw [e1]
    refine ⟨Nat.le_trans S.1 hF.1, fun q h1 h2 => ?_, fun q hq => ?_⟩
    · rw [hF.2 q (Nat.lt_of_lt_of_le h1 S.1) h2]
      exact S.2.1 q h1 h2
    · rcases List.mem_append.mp hq with h | h
      · exact S.2.2 q h
      · exact hL1 q h
  have kk := k v9 n1 mi1 mr1 hPo p l e R s m args below meth c T1.heap (locs ++ L1) ls D cA b base Q C (by rw [e1]; exact hI1) hS1 L T
  obtain ⟨t2, a1, b1⟩ := kk T1 rfl X1
  refine ⟨t2, hst t2 ?_, b1⟩
  rw [hv9]
  cases v9 <;> exact a1

theorem aw_callN {y : MethodName} {ccg : ByteArray} {nLg dg mc ms idx na : Nat} {a : Nat} {host : String} {As st0 : List Value} {Pg : Option Int → Nat → aM → aR → Prop} (hcal : aCalN own idx y host ccg nLg na) (hM : SP y ccg nLg none dg mc ms n (.ref a :: As) mi mr Pg) (hna : As.length = na) (hst9 : st0 = As.reverse ++ .ref a :: st) (hr : (st.map fun v => v.category).sum ≤ 8) (hdd : dg + 1 ≤ d) (hnl : nLg ≤ 40) (hck : ck + mc ≤ kc) (hsk : sk + ms ≤ ks) (hd : decode cc pc = .ok (.invokespecial idx, 3)) (k : ∀ v n' mi' mr', Pg v n' mi' mr' → AW own cc nL d ini kc ks xo Po n' (pc + 3) lv (aStk v ++ st) mi' mr' (ck + mc) (sk + ms)) : AW own cc nL d ini kc ks xo Po n pc lv st0 mi mr ck sk := by
  intro p l e R s m args below meth c H locs ls D cA b base Q C I S L T
  obtain ⟨hml, hin, hini, hcode, hnm, hy1, hy2, hpd⟩ := hcal
  have hts := C.2.2.2.2.1
  have hR := C.2.2.2.2.2.2.2.2.1
  have hfits : ck + mc ≤ R.cells ∧ sk + ms ≤ R.slots := by omega
  have hG : GoodIn aT (Cond.code y ccg nLg none :: aT) := fun w hw => by
    rcases List.mem_cons.mp hw with rfl | hw
    · exact ⟨hcode, good_of_word (aT_good _ hcode)⟩
    · exact ⟨hw, good_of_word (aT_good _ hw)⟩
  have hr := va_runIN (e := e) (below := below) (meth := meth) (b := adr b base a) (As := As.map (cv b base)) (rest := st.map (cv b base)) (g := F0 m pc ls (st0.map (cv b base))) (H := H) (locs := locs) (cells := ck) (slots := sk) (own := own) (index := idx) (n := na) ⟨C.1, C.2.1, C.2.2.1, C.2.2.2.1, hts⟩ (hM l D cA b base) ⟨va_cnB na hts hG rfl rfl rfl (C.2.2.2.2.2.2.1.1 _ hml ⟨_, _, _, _, rfl⟩) (hts _ hini) ⟨hy1, hy2, hpd⟩ ⟨by show dg + 1 ≤ R.frames; omega, by show 8 + (nLg + 11) + 60 * dg ≤ R.locals; omega⟩, hnm, hts _ hin⟩ ⟨aPc_blind _ D cA b base n mi mr, fun U hU hW => ⟨rfl, by rw [hU]; exact I, va_K.moved hW.alike C.2.2.2.2.2.1, aN_warm hW C.2.2.2.2.2.2.1⟩⟩ rfl (by rw [List.length_map]; exact hna) L.1 (by rw [hst9]; simp [cv]) (lv_room (by rw [cat_sum]; exact hr)) hd hfits
  revert hr
  generalize hU0 : (Value.ref (adr b base a) :: As.map (cv b base)).toArray = U0
  revert U0
  intro U0 hU0 hr T0 hT X
  obtain ⟨v, st₀, t, T1, L1, h0, X1, hL1, e1, e2, ⟨⟨v9, n1, mi1, mr1, ho, hPo, hI1⟩, hF⟩, hst⟩ := hr T0 hT X
  have hv9 : v = v9.map (fun x : Int => Value.int (Int32.ofInt x)) := by cases ho; rfl
  have hS1 : va_S (fun q => base ≤ q) s.heap T1.heap (locs ++ L1) := by
    unfold va_F at hF
    rw [h0] at hF
    rw [e1]
    refine ⟨Nat.le_trans S.1 hF.1, fun q h1 h2 => ?_, fun q hq => ?_⟩
    · rw [hF.2 q (Nat.lt_of_lt_of_le h1 S.1) h2]
      exact S.2.1 q h1 h2
    · rcases List.mem_append.mp hq with h | h
      · exact S.2.2 q h
      · exact hL1 q h
  have kk := k v9 n1 mi1 mr1 hPo p l e R s m args below meth c T1.heap (locs ++ L1) ls D cA b base Q C (by rw [e1]; exact hI1) hS1 L T
  obtain ⟨t2, a1, b1⟩ := kk T1 rfl X1
  refine ⟨t2, hst t2 ?_, b1⟩
  rw [hv9]
  cases v9 <;> exact a1

end AWR
end
section
theorem dX0_init_0 : decode cX0_init 0 = .ok (.aload_n 0, 1) := by decide +kernel
theorem dX0_init_1 : decode cX0_init 1 = .ok (.invokespecial 3, 3) := by decide +kernel
theorem dX0_init_4 : decode cX0_init 4 = .ok (.aload_n 0, 1) := by decide +kernel
theorem dX0_init_5 : decode cX0_init 5 = .ok (.iconst 1, 1) := by decide +kernel
theorem dX0_init_6 : decode cX0_init 6 = .ok (.putfield 9, 3) := by decide +kernel
theorem dX0_init_9 : decode cX0_init 9 = .ok (.aload_n 0, 1) := by decide +kernel
theorem dX0_init_10 : decode cX0_init 10 = .ok (.iconst 0, 1) := by decide +kernel
theorem dX0_init_11 : decode cX0_init 11 = .ok (.putfield 15, 3) := by decide +kernel
theorem dX0_init_14 : decode cX0_init 14 = .ok (.aload_n 0, 1) := by decide +kernel
theorem dX0_init_15 : decode cX0_init 15 = .ok (.iconst 1, 1) := by decide +kernel
theorem dX0_init_16 : decode cX0_init 16 = .ok (.putfield 18, 3) := by decide +kernel
theorem dX0_init_19 : decode cX0_init 19 = .ok (.aload_n 0, 1) := by decide +kernel
theorem dX0_init_20 : decode cX0_init 20 = .ok (.bipush 10, 2) := by decide +kernel
theorem dX0_init_22 : decode cX0_init 22 = .ok (.putfield 21, 3) := by decide +kernel
theorem dX0_init_25 : decode cX0_init 25 = .ok (.aload_n 0, 1) := by decide +kernel
theorem dX0_init_26 : decode cX0_init 26 = .ok (.iconst 0, 1) := by decide +kernel
theorem dX0_init_27 : decode cX0_init 27 = .ok (.putfield 24, 3) := by decide +kernel
theorem dX0_init_30 : decode cX0_init 30 = .ok (.aload_n 0, 1) := by decide +kernel
theorem dX0_init_31 : decode cX0_init 31 = .ok (.iconst 0, 1) := by decide +kernel
theorem dX0_init_32 : decode cX0_init 32 = .ok (.putfield 27, 3) := by decide +kernel
theorem dX0_init_35 : decode cX0_init 35 = .ok (.aload_n 0, 1) := by decide +kernel
theorem dX0_init_36 : decode cX0_init 36 = .ok (.iconst 0, 1) := by decide +kernel
theorem dX0_init_37 : decode cX0_init 37 = .ok (.putfield 31, 3) := by decide +kernel
theorem dX0_init_40 : decode cX0_init 40 = .ok (.aload_n 0, 1) := by decide +kernel
theorem dX0_init_41 : decode cX0_init 41 = .ok (.iconst 0, 1) := by decide +kernel
theorem dX0_init_42 : decode cX0_init 42 = .ok (.putfield 34, 3) := by decide +kernel
theorem dX0_init_45 : decode cX0_init 45 = .ok (.aload_n 0, 1) := by decide +kernel
theorem dX0_init_46 : decode cX0_init 46 = .ok (.iconst 0, 1) := by decide +kernel
theorem dX0_init_47 : decode cX0_init 47 = .ok (.putfield 37, 3) := by decide +kernel
theorem dX0_init_50 : decode cX0_init 50 = .ok (.aload_n 0, 1) := by decide +kernel
theorem dX0_init_51 : decode cX0_init 51 = .ok (.iconst 1, 1) := by decide +kernel
theorem dX0_init_52 : decode cX0_init 52 = .ok (.putfield 40, 3) := by decide +kernel
theorem dX0_init_55 : decode cX0_init 55 = .ok (.aload_n 0, 1) := by decide +kernel
theorem dX0_init_56 : decode cX0_init 56 = .ok (.iconst 0, 1) := by decide +kernel
theorem dX0_init_57 : decode cX0_init 57 = .ok (.putfield 43, 3) := by decide +kernel
theorem dX0_init_60 : decode cX0_init 60 = .ok (.aload_n 0, 1) := by decide +kernel
theorem dX0_init_61 : decode cX0_init 61 = .ok (.iconst 0, 1) := by decide +kernel
theorem dX0_init_62 : decode cX0_init 62 = .ok (.putfield 46, 3) := by decide +kernel
theorem dX0_init_65 : decode cX0_init 65 = .ok (.return_, 1) := by decide +kernel
theorem dX0_copyFrom_0 : decode cX0_copyFrom 0 = .ok (.aload_n 0, 1) := by decide +kernel
theorem dX0_copyFrom_1 : decode cX0_copyFrom 1 = .ok (.aload_n 1, 1) := by decide +kernel
theorem dX0_copyFrom_2 : decode cX0_copyFrom 2 = .ok (.getfield 18, 3) := by decide +kernel
theorem dX0_copyFrom_5 : decode cX0_copyFrom 5 = .ok (.putfield 18, 3) := by decide +kernel
theorem dX0_copyFrom_8 : decode cX0_copyFrom 8 = .ok (.aload_n 0, 1) := by decide +kernel
theorem dX0_copyFrom_9 : decode cX0_copyFrom 9 = .ok (.aload_n 1, 1) := by decide +kernel
theorem dX0_copyFrom_10 : decode cX0_copyFrom 10 = .ok (.getfield 21, 3) := by decide +kernel
theorem dX0_copyFrom_13 : decode cX0_copyFrom 13 = .ok (.putfield 21, 3) := by decide +kernel
theorem dX0_copyFrom_16 : decode cX0_copyFrom 16 = .ok (.aload_n 0, 1) := by decide +kernel
theorem dX0_copyFrom_17 : decode cX0_copyFrom 17 = .ok (.aload_n 1, 1) := by decide +kernel
theorem dX0_copyFrom_18 : decode cX0_copyFrom 18 = .ok (.getfield 31, 3) := by decide +kernel
theorem dX0_copyFrom_21 : decode cX0_copyFrom 21 = .ok (.putfield 31, 3) := by decide +kernel
theorem dX0_copyFrom_24 : decode cX0_copyFrom 24 = .ok (.aload_n 0, 1) := by decide +kernel
theorem dX0_copyFrom_25 : decode cX0_copyFrom 25 = .ok (.aload_n 1, 1) := by decide +kernel
theorem dX0_copyFrom_26 : decode cX0_copyFrom 26 = .ok (.getfield 34, 3) := by decide +kernel
theorem dX0_copyFrom_29 : decode cX0_copyFrom 29 = .ok (.putfield 34, 3) := by decide +kernel
theorem dX0_copyFrom_32 : decode cX0_copyFrom 32 = .ok (.aload_n 0, 1) := by decide +kernel
theorem dX0_copyFrom_33 : decode cX0_copyFrom 33 = .ok (.aload_n 1, 1) := by decide +kernel
theorem dX0_copyFrom_34 : decode cX0_copyFrom 34 = .ok (.getfield 37, 3) := by decide +kernel
theorem dX0_copyFrom_37 : decode cX0_copyFrom 37 = .ok (.putfield 37, 3) := by decide +kernel
theorem dX0_copyFrom_40 : decode cX0_copyFrom 40 = .ok (.aload_n 0, 1) := by decide +kernel
theorem dX0_copyFrom_41 : decode cX0_copyFrom 41 = .ok (.aload_n 1, 1) := by decide +kernel
theorem dX0_copyFrom_42 : decode cX0_copyFrom 42 = .ok (.getfield 40, 3) := by decide +kernel
theorem dX0_copyFrom_45 : decode cX0_copyFrom 45 = .ok (.putfield 40, 3) := by decide +kernel
theorem dX0_copyFrom_48 : decode cX0_copyFrom 48 = .ok (.aload_n 0, 1) := by decide +kernel
theorem dX0_copyFrom_49 : decode cX0_copyFrom 49 = .ok (.aload_n 1, 1) := by decide +kernel
theorem dX0_copyFrom_50 : decode cX0_copyFrom 50 = .ok (.getfield 43, 3) := by decide +kernel
theorem dX0_copyFrom_53 : decode cX0_copyFrom 53 = .ok (.putfield 43, 3) := by decide +kernel
theorem dX0_copyFrom_56 : decode cX0_copyFrom 56 = .ok (.aload_n 0, 1) := by decide +kernel
theorem dX0_copyFrom_57 : decode cX0_copyFrom 57 = .ok (.aload_n 1, 1) := by decide +kernel
theorem dX0_copyFrom_58 : decode cX0_copyFrom 58 = .ok (.getfield 46, 3) := by decide +kernel
theorem dX0_copyFrom_61 : decode cX0_copyFrom 61 = .ok (.putfield 46, 3) := by decide +kernel
theorem dX0_copyFrom_64 : decode cX0_copyFrom 64 = .ok (.return_, 1) := by decide +kernel
theorem dX0_start_0 : decode cX0_start 0 = .ok (.aload_n 0, 1) := by decide +kernel
theorem dX0_start_1 : decode cX0_start 1 = .ok (.iconst 1, 1) := by decide +kernel
theorem dX0_start_2 : decode cX0_start 2 = .ok (.putfield 31, 3) := by decide +kernel
theorem dX0_start_5 : decode cX0_start 5 = .ok (.aload_n 0, 1) := by decide +kernel
theorem dX0_start_6 : decode cX0_start 6 = .ok (.iconst 1, 1) := by decide +kernel
theorem dX0_start_7 : decode cX0_start 7 = .ok (.putfield 34, 3) := by decide +kernel
theorem dX0_start_10 : decode cX0_start 10 = .ok (.aload_n 0, 1) := by decide +kernel
theorem dX0_start_11 : decode cX0_start 11 = .ok (.iconst 0, 1) := by decide +kernel
theorem dX0_start_12 : decode cX0_start 12 = .ok (.putfield 37, 3) := by decide +kernel
theorem dX0_start_15 : decode cX0_start 15 = .ok (.aload_n 0, 1) := by decide +kernel
theorem dX0_start_16 : decode cX0_start 16 = .ok (.iconst 1, 1) := by decide +kernel
theorem dX0_start_17 : decode cX0_start 17 = .ok (.putfield 40, 3) := by decide +kernel
theorem dX0_start_20 : decode cX0_start 20 = .ok (.aload_n 0, 1) := by decide +kernel
theorem dX0_start_21 : decode cX0_start 21 = .ok (.iload_n 2, 1) := by decide +kernel
theorem dX0_start_22 : decode cX0_start 22 = .ok (.putfield 43, 3) := by decide +kernel
theorem dX0_start_25 : decode cX0_start 25 = .ok (.aload_n 0, 1) := by decide +kernel
theorem dX0_start_26 : decode cX0_start 26 = .ok (.iload_n 1, 1) := by decide +kernel
theorem dX0_start_27 : decode cX0_start 27 = .ok (.putfield 46, 3) := by decide +kernel
theorem dX0_start_30 : decode cX0_start 30 = .ok (.return_, 1) := by decide +kernel
theorem dX0_turnTime_0 : decode cX0_turnTime 0 = .ok (.aload_n 0, 1) := by decide +kernel
theorem dX0_turnTime_1 : decode cX0_turnTime 1 = .ok (.getfield 46, 3) := by decide +kernel
theorem dX0_turnTime_4 : decode cX0_turnTime 4 = .ok (.aload_n 0, 1) := by decide +kernel
theorem dX0_turnTime_5 : decode cX0_turnTime 5 = .ok (.getfield 21, 3) := by decide +kernel
theorem dX0_turnTime_8 : decode cX0_turnTime 8 = .ok (.iadd, 1) := by decide +kernel
theorem dX0_turnTime_9 : decode cX0_turnTime 9 = .ok (.ireturn, 1) := by decide +kernel
theorem dX0_turnsAt_0 : decode cX0_turnsAt 0 = .ok (.aload_n 0, 1) := by decide +kernel
theorem dX0_turnsAt_1 : decode cX0_turnsAt 1 = .ok (.getfield 31, 3) := by decide +kernel
theorem dX0_turnsAt_4 : decode cX0_turnsAt 4 = .ok (.ifCond .eq 15, 3) := by decide +kernel
theorem dX0_turnsAt_7 : decode cX0_turnsAt 7 = .ok (.iload_n 1, 1) := by decide +kernel
theorem dX0_turnsAt_8 : decode cX0_turnsAt 8 = .ok (.aload_n 0, 1) := by decide +kernel
theorem dX0_turnsAt_9 : decode cX0_turnsAt 9 = .ok (.invokevirtual 49, 3) := by decide +kernel
theorem dX0_turnsAt_12 : decode cX0_turnsAt 12 = .ok (.if_icmp .ne 7, 3) := by decide +kernel
theorem dX0_turnsAt_15 : decode cX0_turnsAt 15 = .ok (.iconst 1, 1) := by decide +kernel
theorem dX0_turnsAt_16 : decode cX0_turnsAt 16 = .ok (.goto 4, 3) := by decide +kernel
theorem dX0_turnsAt_19 : decode cX0_turnsAt 19 = .ok (.iconst 0, 1) := by decide +kernel
theorem dX0_turnsAt_20 : decode cX0_turnsAt 20 = .ok (.ireturn, 1) := by decide +kernel
theorem dX0_turn_0 : decode cX0_turn 0 = .ok (.aload_n 0, 1) := by decide +kernel
theorem dX0_turn_1 : decode cX0_turn 1 = .ok (.aload_n 0, 1) := by decide +kernel
theorem dX0_turn_2 : decode cX0_turn 2 = .ok (.invokevirtual 49, 3) := by decide +kernel
theorem dX0_turn_5 : decode cX0_turn 5 = .ok (.putfield 46, 3) := by decide +kernel
theorem dX0_turn_8 : decode cX0_turn 8 = .ok (.aload_n 0, 1) := by decide +kernel
theorem dX0_turn_9 : decode cX0_turn 9 = .ok (.aload_n 0, 1) := by decide +kernel
theorem dX0_turn_10 : decode cX0_turn 10 = .ok (.getfield 40, 3) := by decide +kernel
theorem dX0_turn_13 : decode cX0_turn 13 = .ok (.ineg, 1) := by decide +kernel
theorem dX0_turn_14 : decode cX0_turn 14 = .ok (.putfield 40, 3) := by decide +kernel
theorem dX0_turn_17 : decode cX0_turn 17 = .ok (.aload_n 0, 1) := by decide +kernel
theorem dX0_turn_18 : decode cX0_turn 18 = .ok (.iconst 0, 1) := by decide +kernel
theorem dX0_turn_19 : decode cX0_turn 19 = .ok (.aload_n 0, 1) := by decide +kernel
theorem dX0_turn_20 : decode cX0_turn 20 = .ok (.getfield 37, 3) := by decide +kernel
theorem dX0_turn_23 : decode cX0_turn 23 = .ok (.aload_n 0, 1) := by decide +kernel
theorem dX0_turn_24 : decode cX0_turn 24 = .ok (.getfield 37, 3) := by decide +kernel
theorem dX0_turn_27 : decode cX0_turn 27 = .ok (.bipush 30, 2) := by decide +kernel
theorem dX0_turn_29 : decode cX0_turn 29 = .ok (.imul, 1) := by decide +kernel
theorem dX0_turn_30 : decode cX0_turn 30 = .ok (.sipush 1000, 3) := by decide +kernel
theorem dX0_turn_33 : decode cX0_turn 33 = .ok (.idiv, 1) := by decide +kernel
theorem dX0_turn_34 : decode cX0_turn 34 = .ok (.iconst 2, 1) := by decide +kernel
theorem dX0_turn_35 : decode cX0_turn 35 = .ok (.iadd, 1) := by decide +kernel
theorem dX0_turn_36 : decode cX0_turn 36 = .ok (.isub, 1) := by decide +kernel
theorem dX0_turn_37 : decode cX0_turn 37 = .ok (.invokestatic 53, 3) := by decide +kernel
theorem dX0_turn_40 : decode cX0_turn 40 = .ok (.putfield 37, 3) := by decide +kernel
theorem dX0_turn_43 : decode cX0_turn 43 = .ok (.aload_n 0, 1) := by decide +kernel
theorem dX0_turn_44 : decode cX0_turn 44 = .ok (.getfield 34, 3) := by decide +kernel
theorem dX0_turn_47 : decode cX0_turn 47 = .ok (.ifCond .eq 32, 3) := by decide +kernel
theorem dX0_turn_50 : decode cX0_turn 50 = .ok (.aload_n 0, 1) := by decide +kernel
theorem dX0_turn_51 : decode cX0_turn 51 = .ok (.getfield 37, 3) := by decide +kernel
theorem dX0_turn_54 : decode cX0_turn 54 = .ok (.aload_n 0, 1) := by decide +kernel
theorem dX0_turn_55 : decode cX0_turn 55 = .ok (.getfield 43, 3) := by decide +kernel
theorem dX0_turn_58 : decode cX0_turn 58 = .ok (.if_icmp .ge 21, 3) := by decide +kernel
theorem dX0_turn_61 : decode cX0_turn 61 = .ok (.aload_n 0, 1) := by decide +kernel
theorem dX0_turn_62 : decode cX0_turn 62 = .ok (.aload_n 0, 1) := by decide +kernel
theorem dX0_turn_63 : decode cX0_turn 63 = .ok (.getfield 37, 3) := by decide +kernel
theorem dX0_turn_66 : decode cX0_turn 66 = .ok (.bipush 80, 2) := by decide +kernel
theorem dX0_turn_68 : decode cX0_turn 68 = .ok (.iadd, 1) := by decide +kernel
theorem dX0_turn_69 : decode cX0_turn 69 = .ok (.aload_n 0, 1) := by decide +kernel
theorem dX0_turn_70 : decode cX0_turn 70 = .ok (.getfield 43, 3) := by decide +kernel
theorem dX0_turn_73 : decode cX0_turn 73 = .ok (.invokestatic 59, 3) := by decide +kernel
theorem dX0_turn_76 : decode cX0_turn 76 = .ok (.putfield 37, 3) := by decide +kernel
theorem dX0_turn_79 : decode cX0_turn 79 = .ok (.aload_n 0, 1) := by decide +kernel
theorem dX0_turn_80 : decode cX0_turn 80 = .ok (.getfield 37, 3) := by decide +kernel
theorem dX0_turn_83 : decode cX0_turn 83 = .ok (.ifCond .ne 15, 3) := by decide +kernel
theorem dX0_turn_86 : decode cX0_turn 86 = .ok (.aload_n 0, 1) := by decide +kernel
theorem dX0_turn_87 : decode cX0_turn 87 = .ok (.getfield 34, 3) := by decide +kernel
theorem dX0_turn_90 : decode cX0_turn 90 = .ok (.ifCond .ne 8, 3) := by decide +kernel
theorem dX0_turn_93 : decode cX0_turn 93 = .ok (.aload_n 0, 1) := by decide +kernel
theorem dX0_turn_94 : decode cX0_turn 94 = .ok (.iconst 0, 1) := by decide +kernel
theorem dX0_turn_95 : decode cX0_turn 95 = .ok (.putfield 31, 3) := by decide +kernel
theorem dX0_turn_98 : decode cX0_turn 98 = .ok (.return_, 1) := by decide +kernel
theorem dX0_forceAt_0 : decode cX0_forceAt 0 = .ok (.aload_n 0, 1) := by decide +kernel
theorem dX0_forceAt_1 : decode cX0_forceAt 1 = .ok (.getfield 31, 3) := by decide +kernel
theorem dX0_forceAt_4 : decode cX0_forceAt 4 = .ok (.ifCond .eq 11, 3) := by decide +kernel
theorem dX0_forceAt_7 : decode cX0_forceAt 7 = .ok (.aload_n 0, 1) := by decide +kernel
theorem dX0_forceAt_8 : decode cX0_forceAt 8 = .ok (.getfield 21, 3) := by decide +kernel
theorem dX0_forceAt_11 : decode cX0_forceAt 11 = .ok (.iconst 1, 1) := by decide +kernel
theorem dX0_forceAt_12 : decode cX0_forceAt 12 = .ok (.if_icmp .ge 5, 3) := by decide +kernel
theorem dX0_forceAt_15 : decode cX0_forceAt 15 = .ok (.iconst 0, 1) := by decide +kernel
theorem dX0_forceAt_16 : decode cX0_forceAt 16 = .ok (.ireturn, 1) := by decide +kernel
theorem dX0_forceAt_17 : decode cX0_forceAt 17 = .ok (.iload_n 1, 1) := by decide +kernel
theorem dX0_forceAt_18 : decode cX0_forceAt 18 = .ok (.aload_n 0, 1) := by decide +kernel
theorem dX0_forceAt_19 : decode cX0_forceAt 19 = .ok (.getfield 46, 3) := by decide +kernel
theorem dX0_forceAt_22 : decode cX0_forceAt 22 = .ok (.isub, 1) := by decide +kernel
theorem dX0_forceAt_23 : decode cX0_forceAt 23 = .ok (.istore_n 2, 1) := by decide +kernel
theorem dX0_forceAt_24 : decode cX0_forceAt 24 = .ok (.aload_n 0, 1) := by decide +kernel
theorem dX0_forceAt_25 : decode cX0_forceAt 25 = .ok (.getfield 40, 3) := by decide +kernel
theorem dX0_forceAt_28 : decode cX0_forceAt 28 = .ok (.aload_n 0, 1) := by decide +kernel
theorem dX0_forceAt_29 : decode cX0_forceAt 29 = .ok (.getfield 18, 3) := by decide +kernel
theorem dX0_forceAt_32 : decode cX0_forceAt 32 = .ok (.imul, 1) := by decide +kernel
theorem dX0_forceAt_33 : decode cX0_forceAt 33 = .ok (.aload_n 0, 1) := by decide +kernel
theorem dX0_forceAt_34 : decode cX0_forceAt 34 = .ok (.getfield 37, 3) := by decide +kernel
theorem dX0_forceAt_37 : decode cX0_forceAt 37 = .ok (.imul, 1) := by decide +kernel
theorem dX0_forceAt_38 : decode cX0_forceAt 38 = .ok (.aload_n 0, 1) := by decide +kernel
theorem dX0_forceAt_39 : decode cX0_forceAt 39 = .ok (.getfield 21, 3) := by decide +kernel
theorem dX0_forceAt_42 : decode cX0_forceAt 42 = .ok (.iconst 2, 1) := by decide +kernel
theorem dX0_forceAt_43 : decode cX0_forceAt 43 = .ok (.iload_n 2, 1) := by decide +kernel
theorem dX0_forceAt_44 : decode cX0_forceAt 44 = .ok (.imul, 1) := by decide +kernel
theorem dX0_forceAt_45 : decode cX0_forceAt 45 = .ok (.isub, 1) := by decide +kernel
theorem dX0_forceAt_46 : decode cX0_forceAt 46 = .ok (.imul, 1) := by decide +kernel
theorem dX0_forceAt_47 : decode cX0_forceAt 47 = .ok (.bipush 100, 2) := by decide +kernel
theorem dX0_forceAt_49 : decode cX0_forceAt 49 = .ok (.aload_n 0, 1) := by decide +kernel
theorem dX0_forceAt_50 : decode cX0_forceAt 50 = .ok (.getfield 21, 3) := by decide +kernel
theorem dX0_forceAt_53 : decode cX0_forceAt 53 = .ok (.imul, 1) := by decide +kernel
theorem dX0_forceAt_54 : decode cX0_forceAt 54 = .ok (.idiv, 1) := by decide +kernel
theorem dX0_forceAt_55 : decode cX0_forceAt 55 = .ok (.ireturn, 1) := by decide +kernel
theorem dX0_addForces_0 : decode cX0_addForces 0 = .ok (.iconst 0, 1) := by decide +kernel
theorem dX0_addForces_1 : decode cX0_addForces 1 = .ok (.istore 4, 2) := by decide +kernel
theorem dX0_addForces_3 : decode cX0_addForces 3 = .ok (.iload 4, 2) := by decide +kernel
theorem dX0_addForces_5 : decode cX0_addForces 5 = .ok (.iload_n 3, 1) := by decide +kernel
theorem dX0_addForces_6 : decode cX0_addForces 6 = .ok (.if_icmp .gt 46, 3) := by decide +kernel
theorem dX0_addForces_9 : decode cX0_addForces 9 = .ok (.iload 4, 2) := by decide +kernel
theorem dX0_addForces_11 : decode cX0_addForces 11 = .ok (.aload_n 1, 1) := by decide +kernel
theorem dX0_addForces_12 : decode cX0_addForces 12 = .ok (.arraylength, 1) := by decide +kernel
theorem dX0_addForces_13 : decode cX0_addForces 13 = .ok (.if_icmp .ge 39, 3) := by decide +kernel
theorem dX0_addForces_16 : decode cX0_addForces 16 = .ok (.aload_n 0, 1) := by decide +kernel
theorem dX0_addForces_17 : decode cX0_addForces 17 = .ok (.iload_n 2, 1) := by decide +kernel
theorem dX0_addForces_18 : decode cX0_addForces 18 = .ok (.iload 4, 2) := by decide +kernel
theorem dX0_addForces_20 : decode cX0_addForces 20 = .ok (.iadd, 1) := by decide +kernel
theorem dX0_addForces_21 : decode cX0_addForces 21 = .ok (.invokevirtual 62, 3) := by decide +kernel
theorem dX0_addForces_24 : decode cX0_addForces 24 = .ok (.ifCond .eq 7, 3) := by decide +kernel
theorem dX0_addForces_27 : decode cX0_addForces 27 = .ok (.aload_n 0, 1) := by decide +kernel
theorem dX0_addForces_28 : decode cX0_addForces 28 = .ok (.invokevirtual 66, 3) := by decide +kernel
theorem dX0_addForces_31 : decode cX0_addForces 31 = .ok (.aload_n 1, 1) := by decide +kernel
theorem dX0_addForces_32 : decode cX0_addForces 32 = .ok (.iload 4, 2) := by decide +kernel
theorem dX0_addForces_34 : decode cX0_addForces 34 = .ok (.dup2, 1) := by decide +kernel
theorem dX0_addForces_35 : decode cX0_addForces 35 = .ok (.iaload, 1) := by decide +kernel
theorem dX0_addForces_36 : decode cX0_addForces 36 = .ok (.aload_n 0, 1) := by decide +kernel
theorem dX0_addForces_37 : decode cX0_addForces 37 = .ok (.iload_n 2, 1) := by decide +kernel
theorem dX0_addForces_38 : decode cX0_addForces 38 = .ok (.iload 4, 2) := by decide +kernel
theorem dX0_addForces_40 : decode cX0_addForces 40 = .ok (.iadd, 1) := by decide +kernel
theorem dX0_addForces_41 : decode cX0_addForces 41 = .ok (.invokevirtual 69, 3) := by decide +kernel
theorem dX0_addForces_44 : decode cX0_addForces 44 = .ok (.iadd, 1) := by decide +kernel
theorem dX0_addForces_45 : decode cX0_addForces 45 = .ok (.iastore, 1) := by decide +kernel
theorem dX0_addForces_46 : decode cX0_addForces 46 = .ok (.iinc 4 1, 3) := by decide +kernel
theorem dX0_addForces_49 : decode cX0_addForces 49 = .ok (.goto (-46), 3) := by decide +kernel
theorem dX0_addForces_52 : decode cX0_addForces 52 = .ok (.return_, 1) := by decide +kernel
theorem dX1_init_0 : decode cX1_init 0 = .ok (.aload_n 0, 1) := by decide +kernel
theorem dX1_init_1 : decode cX1_init 1 = .ok (.invokespecial 3, 3) := by decide +kernel
theorem dX1_init_4 : decode cX1_init 4 = .ok (.aload_n 0, 1) := by decide +kernel
theorem dX1_init_5 : decode cX1_init 5 = .ok (.iconst 0, 1) := by decide +kernel
theorem dX1_init_6 : decode cX1_init 6 = .ok (.putfield 9, 3) := by decide +kernel
theorem dX1_init_9 : decode cX1_init 9 = .ok (.aload_n 0, 1) := by decide +kernel
theorem dX1_init_10 : decode cX1_init 10 = .ok (.iconst 0, 1) := by decide +kernel
theorem dX1_init_11 : decode cX1_init 11 = .ok (.putfield 15, 3) := by decide +kernel
theorem dX1_init_14 : decode cX1_init 14 = .ok (.aload_n 0, 1) := by decide +kernel
theorem dX1_init_15 : decode cX1_init 15 = .ok (.iconst 0, 1) := by decide +kernel
theorem dX1_init_16 : decode cX1_init 16 = .ok (.putfield 18, 3) := by decide +kernel
theorem dX1_init_19 : decode cX1_init 19 = .ok (.aload_n 0, 1) := by decide +kernel
theorem dX1_init_20 : decode cX1_init 20 = .ok (.iconst 1, 1) := by decide +kernel
theorem dX1_init_21 : decode cX1_init 21 = .ok (.putfield 21, 3) := by decide +kernel
theorem dX1_init_24 : decode cX1_init 24 = .ok (.aload_n 0, 1) := by decide +kernel
theorem dX1_init_25 : decode cX1_init 25 = .ok (.iconst 0, 1) := by decide +kernel
theorem dX1_init_26 : decode cX1_init 26 = .ok (.putfield 24, 3) := by decide +kernel
theorem dX1_init_29 : decode cX1_init 29 = .ok (.aload_n 0, 1) := by decide +kernel
theorem dX1_init_30 : decode cX1_init 30 = .ok (.iconst (-1), 1) := by decide +kernel
theorem dX1_init_31 : decode cX1_init 31 = .ok (.putfield 27, 3) := by decide +kernel
theorem dX1_init_34 : decode cX1_init 34 = .ok (.return_, 1) := by decide +kernel
theorem dX2_init_0 : decode cX2_init 0 = .ok (.aload_n 0, 1) := by decide +kernel
theorem dX2_init_1 : decode cX2_init 1 = .ok (.invokespecial 3, 3) := by decide +kernel
theorem dX2_init_4 : decode cX2_init 4 = .ok (.aload_n 0, 1) := by decide +kernel
theorem dX2_init_5 : decode cX2_init 5 = .ok (.bipush 100, 2) := by decide +kernel
theorem dX2_init_7 : decode cX2_init 7 = .ok (.newarray .int, 2) := by decide +kernel
theorem dX2_init_9 : decode cX2_init 9 = .ok (.putfield 9, 3) := by decide +kernel
theorem dX2_init_12 : decode cX2_init 12 = .ok (.aload_n 0, 1) := by decide +kernel
theorem dX2_init_13 : decode cX2_init 13 = .ok (.iconst 0, 1) := by decide +kernel
theorem dX2_init_14 : decode cX2_init 14 = .ok (.putfield 15, 3) := by decide +kernel
theorem dX2_init_17 : decode cX2_init 17 = .ok (.return_, 1) := by decide +kernel
theorem dX2_isMissing_0 : decode cX2_isMissing 0 = .ok (.aload_n 0, 1) := by decide +kernel
theorem dX2_isMissing_1 : decode cX2_isMissing 1 = .ok (.getfield 15, 3) := by decide +kernel
theorem dX2_isMissing_4 : decode cX2_isMissing 4 = .ok (.ifCond .ne 7, 3) := by decide +kernel
theorem dX2_isMissing_7 : decode cX2_isMissing 7 = .ok (.iconst 1, 1) := by decide +kernel
theorem dX2_isMissing_8 : decode cX2_isMissing 8 = .ok (.goto 4, 3) := by decide +kernel
theorem dX2_isMissing_11 : decode cX2_isMissing 11 = .ok (.iconst 0, 1) := by decide +kernel
theorem dX2_isMissing_12 : decode cX2_isMissing 12 = .ok (.ireturn, 1) := by decide +kernel
theorem dX2_strokesOf_0 : decode cX2_strokesOf 0 = .ok (.iconst 0, 1) := by decide +kernel
theorem dX2_strokesOf_1 : decode cX2_strokesOf 1 = .ok (.istore_n 2, 1) := by decide +kernel
theorem dX2_strokesOf_2 : decode cX2_strokesOf 2 = .ok (.iconst 0, 1) := by decide +kernel
theorem dX2_strokesOf_3 : decode cX2_strokesOf 3 = .ok (.istore_n 3, 1) := by decide +kernel
theorem dX2_strokesOf_4 : decode cX2_strokesOf 4 = .ok (.iload_n 3, 1) := by decide +kernel
theorem dX2_strokesOf_5 : decode cX2_strokesOf 5 = .ok (.aload_n 0, 1) := by decide +kernel
theorem dX2_strokesOf_6 : decode cX2_strokesOf 6 = .ok (.getfield 15, 3) := by decide +kernel
theorem dX2_strokesOf_9 : decode cX2_strokesOf 9 = .ok (.if_icmp .ge 23, 3) := by decide +kernel
theorem dX2_strokesOf_12 : decode cX2_strokesOf 12 = .ok (.iload_n 2, 1) := by decide +kernel
theorem dX2_strokesOf_13 : decode cX2_strokesOf 13 = .ok (.aload_n 0, 1) := by decide +kernel
theorem dX2_strokesOf_14 : decode cX2_strokesOf 14 = .ok (.getfield 9, 3) := by decide +kernel
theorem dX2_strokesOf_17 : decode cX2_strokesOf 17 = .ok (.iload_n 3, 1) := by decide +kernel
theorem dX2_strokesOf_18 : decode cX2_strokesOf 18 = .ok (.iaload, 1) := by decide +kernel
theorem dX2_strokesOf_19 : decode cX2_strokesOf 19 = .ok (.iload_n 1, 1) := by decide +kernel
theorem dX2_strokesOf_20 : decode cX2_strokesOf 20 = .ok (.iand, 1) := by decide +kernel
theorem dX2_strokesOf_21 : decode cX2_strokesOf 21 = .ok (.invokestatic 19, 3) := by decide +kernel
theorem dX2_strokesOf_24 : decode cX2_strokesOf 24 = .ok (.iadd, 1) := by decide +kernel
theorem dX2_strokesOf_25 : decode cX2_strokesOf 25 = .ok (.istore_n 2, 1) := by decide +kernel
theorem dX2_strokesOf_26 : decode cX2_strokesOf 26 = .ok (.iinc 3 1, 3) := by decide +kernel
theorem dX2_strokesOf_29 : decode cX2_strokesOf 29 = .ok (.goto (-25), 3) := by decide +kernel
theorem dX2_strokesOf_32 : decode cX2_strokesOf 32 = .ok (.iload_n 2, 1) := by decide +kernel
theorem dX2_strokesOf_33 : decode cX2_strokesOf 33 = .ok (.ireturn, 1) := by decide +kernel
theorem dX3_init_0 : decode cX3_init 0 = .ok (.aload_n 0, 1) := by decide +kernel
theorem dX3_init_1 : decode cX3_init 1 = .ok (.invokespecial 3, 3) := by decide +kernel
theorem dX3_init_4 : decode cX3_init 4 = .ok (.aload_n 0, 1) := by decide +kernel
theorem dX3_init_5 : decode cX3_init 5 = .ok (.sipush 300, 3) := by decide +kernel
theorem dX3_init_8 : decode cX3_init 8 = .ok (.newarray .int, 2) := by decide +kernel
theorem dX3_init_10 : decode cX3_init 10 = .ok (.putfield 9, 3) := by decide +kernel
theorem dX3_init_13 : decode cX3_init 13 = .ok (.aload_n 0, 1) := by decide +kernel
theorem dX3_init_14 : decode cX3_init 14 = .ok (.iconst 0, 1) := by decide +kernel
theorem dX3_init_15 : decode cX3_init 15 = .ok (.putfield 15, 3) := by decide +kernel
theorem dX3_init_18 : decode cX3_init 18 = .ok (.aload_n 0, 1) := by decide +kernel
theorem dX3_init_19 : decode cX3_init 19 = .ok (.bipush 100, 2) := by decide +kernel
theorem dX3_init_21 : decode cX3_init 21 = .ok (.newarray .int, 2) := by decide +kernel
theorem dX3_init_23 : decode cX3_init 23 = .ok (.putfield 19, 3) := by decide +kernel
theorem dX3_init_26 : decode cX3_init 26 = .ok (.aload_n 0, 1) := by decide +kernel
theorem dX3_init_27 : decode cX3_init 27 = .ok (.iconst 0, 1) := by decide +kernel
theorem dX3_init_28 : decode cX3_init 28 = .ok (.putfield 22, 3) := by decide +kernel
theorem dX3_init_31 : decode cX3_init 31 = .ok (.aload_n 0, 1) := by decide +kernel
theorem dX3_init_32 : decode cX3_init 32 = .ok (.iconst 0, 1) := by decide +kernel
theorem dX3_init_33 : decode cX3_init 33 = .ok (.putfield 25, 3) := by decide +kernel
theorem dX3_init_36 : decode cX3_init 36 = .ok (.aload_n 0, 1) := by decide +kernel
theorem dX3_init_37 : decode cX3_init 37 = .ok (.iconst (-1), 1) := by decide +kernel
theorem dX3_init_38 : decode cX3_init 38 = .ok (.putfield 28, 3) := by decide +kernel
theorem dX3_init_41 : decode cX3_init 41 = .ok (.aload_n 0, 1) := by decide +kernel
theorem dX3_init_42 : decode cX3_init 42 = .ok (.iconst 0, 1) := by decide +kernel
theorem dX3_init_43 : decode cX3_init 43 = .ok (.putfield 31, 3) := by decide +kernel
theorem dX3_init_46 : decode cX3_init 46 = .ok (.aload_n 0, 1) := by decide +kernel
theorem dX3_init_47 : decode cX3_init 47 = .ok (.iconst 0, 1) := by decide +kernel
theorem dX3_init_48 : decode cX3_init 48 = .ok (.putfield 34, 3) := by decide +kernel
theorem dX3_init_51 : decode cX3_init 51 = .ok (.aload_n 0, 1) := by decide +kernel
theorem dX3_init_52 : decode cX3_init 52 = .ok (.iconst 0, 1) := by decide +kernel
theorem dX3_init_53 : decode cX3_init 53 = .ok (.putfield 37, 3) := by decide +kernel
theorem dX3_init_56 : decode cX3_init 56 = .ok (.aload_n 0, 1) := by decide +kernel
theorem dX3_init_57 : decode cX3_init 57 = .ok (.iconst 3, 1) := by decide +kernel
theorem dX3_init_58 : decode cX3_init 58 = .ok (.newarray .int, 2) := by decide +kernel
theorem dX3_init_60 : decode cX3_init 60 = .ok (.putfield 40, 3) := by decide +kernel
theorem dX3_init_63 : decode cX3_init 63 = .ok (.aload_n 0, 1) := by decide +kernel
theorem dX3_init_64 : decode cX3_init 64 = .ok (.iconst 3, 1) := by decide +kernel
theorem dX3_init_65 : decode cX3_init 65 = .ok (.newarray .int, 2) := by decide +kernel
theorem dX3_init_67 : decode cX3_init 67 = .ok (.putfield 43, 3) := by decide +kernel
theorem dX3_init_70 : decode cX3_init 70 = .ok (.return_, 1) := by decide +kernel
theorem dX3_append_0 : decode cX3_append 0 = .ok (.bipush 24, 2) := by decide +kernel
theorem dX3_append_2 : decode cX3_append 2 = .ok (.istore_n 2, 1) := by decide +kernel
theorem dX3_append_3 : decode cX3_append 3 = .ok (.iload_n 2, 1) := by decide +kernel
theorem dX3_append_4 : decode cX3_append 4 = .ok (.ifCond .lt 45, 3) := by decide +kernel
theorem dX3_append_7 : decode cX3_append 7 = .ok (.aload_n 0, 1) := by decide +kernel
theorem dX3_append_8 : decode cX3_append 8 = .ok (.getfield 15, 3) := by decide +kernel
theorem dX3_append_11 : decode cX3_append 11 = .ok (.sipush 300, 3) := by decide +kernel
theorem dX3_append_14 : decode cX3_append 14 = .ok (.if_icmp .ge 35, 3) := by decide +kernel
theorem dX3_append_17 : decode cX3_append 17 = .ok (.aload_n 0, 1) := by decide +kernel
theorem dX3_append_18 : decode cX3_append 18 = .ok (.getfield 9, 3) := by decide +kernel
theorem dX3_append_21 : decode cX3_append 21 = .ok (.aload_n 0, 1) := by decide +kernel
theorem dX3_append_22 : decode cX3_append 22 = .ok (.getfield 15, 3) := by decide +kernel
theorem dX3_append_25 : decode cX3_append 25 = .ok (.iload_n 1, 1) := by decide +kernel
theorem dX3_append_26 : decode cX3_append 26 = .ok (.iload_n 2, 1) := by decide +kernel
theorem dX3_append_27 : decode cX3_append 27 = .ok (.iushr, 1) := by decide +kernel
theorem dX3_append_28 : decode cX3_append 28 = .ok (.sipush 255, 3) := by decide +kernel
theorem dX3_append_31 : decode cX3_append 31 = .ok (.iand, 1) := by decide +kernel
theorem dX3_append_32 : decode cX3_append 32 = .ok (.iastore, 1) := by decide +kernel
theorem dX3_append_33 : decode cX3_append 33 = .ok (.aload_n 0, 1) := by decide +kernel
theorem dX3_append_34 : decode cX3_append 34 = .ok (.dup, 1) := by decide +kernel
theorem dX3_append_35 : decode cX3_append 35 = .ok (.getfield 15, 3) := by decide +kernel
theorem dX3_append_38 : decode cX3_append 38 = .ok (.iconst 1, 1) := by decide +kernel
theorem dX3_append_39 : decode cX3_append 39 = .ok (.iadd, 1) := by decide +kernel
theorem dX3_append_40 : decode cX3_append 40 = .ok (.putfield 15, 3) := by decide +kernel
theorem dX3_append_43 : decode cX3_append 43 = .ok (.iinc 2 (-8), 3) := by decide +kernel
theorem dX3_append_46 : decode cX3_append 46 = .ok (.goto (-43), 3) := by decide +kernel
theorem dX3_append_49 : decode cX3_append 49 = .ok (.return_, 1) := by decide +kernel
theorem dX3_read_0 : decode cX3_read 0 = .ok (.aload_n 0, 1) := by decide +kernel
theorem dX3_read_1 : decode cX3_read 1 = .ok (.iload_n 1, 1) := by decide +kernel
theorem dX3_read_2 : decode cX3_read 2 = .ok (.aload_n 0, 1) := by decide +kernel
theorem dX3_read_3 : decode cX3_read 3 = .ok (.getfield 15, 3) := by decide +kernel
theorem dX3_read_6 : decode cX3_read 6 = .ok (.invokestatic 46, 3) := by decide +kernel
theorem dX3_read_9 : decode cX3_read 9 = .ok (.putfield 31, 3) := by decide +kernel
theorem dX3_read_12 : decode cX3_read 12 = .ok (.aload_n 0, 1) := by decide +kernel
theorem dX3_read_13 : decode cX3_read 13 = .ok (.iconst 0, 1) := by decide +kernel
theorem dX3_read_14 : decode cX3_read 14 = .ok (.putfield 34, 3) := by decide +kernel
theorem dX3_read_17 : decode cX3_read 17 = .ok (.aload_n 0, 1) := by decide +kernel
theorem dX3_read_18 : decode cX3_read 18 = .ok (.iconst 0, 1) := by decide +kernel
theorem dX3_read_19 : decode cX3_read 19 = .ok (.putfield 37, 3) := by decide +kernel
theorem dX3_read_22 : decode cX3_read 22 = .ok (.aload_n 0, 1) := by decide +kernel
theorem dX3_read_23 : decode cX3_read 23 = .ok (.iconst 0, 1) := by decide +kernel
theorem dX3_read_24 : decode cX3_read 24 = .ok (.putfield 22, 3) := by decide +kernel
theorem dX3_read_27 : decode cX3_read 27 = .ok (.aload_n 0, 1) := by decide +kernel
theorem dX3_read_28 : decode cX3_read 28 = .ok (.iconst 0, 1) := by decide +kernel
theorem dX3_read_29 : decode cX3_read 29 = .ok (.putfield 25, 3) := by decide +kernel
theorem dX3_read_32 : decode cX3_read 32 = .ok (.aload_n 0, 1) := by decide +kernel
theorem dX3_read_33 : decode cX3_read 33 = .ok (.iconst (-1), 1) := by decide +kernel
theorem dX3_read_34 : decode cX3_read 34 = .ok (.putfield 28, 3) := by decide +kernel
theorem dX3_read_37 : decode cX3_read 37 = .ok (.iconst 0, 1) := by decide +kernel
theorem dX3_read_38 : decode cX3_read 38 = .ok (.istore_n 2, 1) := by decide +kernel
theorem dX3_read_39 : decode cX3_read 39 = .ok (.iload_n 2, 1) := by decide +kernel
theorem dX3_read_40 : decode cX3_read 40 = .ok (.sipush 300, 3) := by decide +kernel
theorem dX3_read_43 : decode cX3_read 43 = .ok (.if_icmp .ge 31, 3) := by decide +kernel
theorem dX3_read_46 : decode cX3_read 46 = .ok (.aload_n 0, 1) := by decide +kernel
theorem dX3_read_47 : decode cX3_read 47 = .ok (.getfield 34, 3) := by decide +kernel
theorem dX3_read_50 : decode cX3_read 50 = .ok (.aload_n 0, 1) := by decide +kernel
theorem dX3_read_51 : decode cX3_read 51 = .ok (.getfield 31, 3) := by decide +kernel
theorem dX3_read_54 : decode cX3_read 54 = .ok (.if_icmp .ge 20, 3) := by decide +kernel
theorem dX3_read_57 : decode cX3_read 57 = .ok (.aload_n 0, 1) := by decide +kernel
theorem dX3_read_58 : decode cX3_read 58 = .ok (.getfield 25, 3) := by decide +kernel
theorem dX3_read_61 : decode cX3_read 61 = .ok (.ifCond .ne 13, 3) := by decide +kernel
theorem dX3_read_64 : decode cX3_read 64 = .ok (.aload_n 0, 1) := by decide +kernel
theorem dX3_read_65 : decode cX3_read 65 = .ok (.invokevirtual 52, 3) := by decide +kernel
theorem dX3_read_68 : decode cX3_read 68 = .ok (.iinc 2 1, 3) := by decide +kernel
theorem dX3_read_71 : decode cX3_read 71 = .ok (.goto (-32), 3) := by decide +kernel
theorem dX3_read_74 : decode cX3_read 74 = .ok (.aload_n 0, 1) := by decide +kernel
theorem dX3_read_75 : decode cX3_read 75 = .ok (.getfield 25, 3) := by decide +kernel
theorem dX3_read_78 : decode cX3_read 78 = .ok (.ifCond .ne 22, 3) := by decide +kernel
theorem dX3_read_81 : decode cX3_read 81 = .ok (.aload_n 0, 1) := by decide +kernel
theorem dX3_read_82 : decode cX3_read 82 = .ok (.getfield 37, 3) := by decide +kernel
theorem dX3_read_85 : decode cX3_read 85 = .ok (.ifCond .le 15, 3) := by decide +kernel
theorem dX3_read_88 : decode cX3_read 88 = .ok (.aload_n 0, 1) := by decide +kernel
theorem dX3_read_89 : decode cX3_read 89 = .ok (.iconst 1, 1) := by decide +kernel
theorem dX3_read_90 : decode cX3_read 90 = .ok (.aload_n 0, 1) := by decide +kernel
theorem dX3_read_91 : decode cX3_read 91 = .ok (.getfield 31, 3) := by decide +kernel
theorem dX3_read_94 : decode cX3_read 94 = .ok (.invokevirtual 55, 3) := by decide +kernel
theorem dX3_read_97 : decode cX3_read 97 = .ok (.goto 26, 3) := by decide +kernel
theorem dX3_read_100 : decode cX3_read 100 = .ok (.aload_n 0, 1) := by decide +kernel
theorem dX3_read_101 : decode cX3_read 101 = .ok (.getfield 25, 3) := by decide +kernel
theorem dX3_read_104 : decode cX3_read 104 = .ok (.ifCond .ne 19, 3) := by decide +kernel
theorem dX3_read_107 : decode cX3_read 107 = .ok (.aload_n 0, 1) := by decide +kernel
theorem dX3_read_108 : decode cX3_read 108 = .ok (.getfield 22, 3) := by decide +kernel
theorem dX3_read_111 : decode cX3_read 111 = .ok (.ifCond .ne 12, 3) := by decide +kernel
theorem dX3_read_114 : decode cX3_read 114 = .ok (.aload_n 0, 1) := by decide +kernel
theorem dX3_read_115 : decode cX3_read 115 = .ok (.iconst 5, 1) := by decide +kernel
theorem dX3_read_116 : decode cX3_read 116 = .ok (.aload_n 0, 1) := by decide +kernel
theorem dX3_read_117 : decode cX3_read 117 = .ok (.getfield 31, 3) := by decide +kernel
theorem dX3_read_120 : decode cX3_read 120 = .ok (.invokevirtual 55, 3) := by decide +kernel
theorem dX3_read_123 : decode cX3_read 123 = .ok (.return_, 1) := by decide +kernel
theorem dX3_fail_0 : decode cX3_fail 0 = .ok (.aload_n 0, 1) := by decide +kernel
theorem dX3_fail_1 : decode cX3_fail 1 = .ok (.iload_n 1, 1) := by decide +kernel
theorem dX3_fail_2 : decode cX3_fail 2 = .ok (.putfield 25, 3) := by decide +kernel
theorem dX3_fail_5 : decode cX3_fail 5 = .ok (.aload_n 0, 1) := by decide +kernel
theorem dX3_fail_6 : decode cX3_fail 6 = .ok (.iload_n 2, 1) := by decide +kernel
theorem dX3_fail_7 : decode cX3_fail 7 = .ok (.putfield 28, 3) := by decide +kernel
theorem dX3_fail_10 : decode cX3_fail 10 = .ok (.return_, 1) := by decide +kernel
theorem dX3_readNext_0 : decode cX3_readNext 0 = .ok (.aload_n 0, 1) := by decide +kernel
theorem dX3_readNext_1 : decode cX3_readNext 1 = .ok (.aload_n 0, 1) := by decide +kernel
theorem dX3_readNext_2 : decode cX3_readNext 2 = .ok (.getfield 34, 3) := by decide +kernel
theorem dX3_readNext_5 : decode cX3_readNext 5 = .ok (.invokevirtual 59, 3) := by decide +kernel
theorem dX3_readNext_8 : decode cX3_readNext 8 = .ok (.istore_n 1, 1) := by decide +kernel
theorem dX3_readNext_9 : decode cX3_readNext 9 = .ok (.iload_n 1, 1) := by decide +kernel
theorem dX3_readNext_10 : decode cX3_readNext 10 = .ok (.bipush 32, 2) := by decide +kernel
theorem dX3_readNext_12 : decode cX3_readNext 12 = .ok (.if_icmp .ne 16, 3) := by decide +kernel
theorem dX3_readNext_15 : decode cX3_readNext 15 = .ok (.aload_n 0, 1) := by decide +kernel
theorem dX3_readNext_16 : decode cX3_readNext 16 = .ok (.dup, 1) := by decide +kernel
theorem dX3_readNext_17 : decode cX3_readNext 17 = .ok (.getfield 34, 3) := by decide +kernel
theorem dX3_readNext_20 : decode cX3_readNext 20 = .ok (.iconst 1, 1) := by decide +kernel
theorem dX3_readNext_21 : decode cX3_readNext 21 = .ok (.iadd, 1) := by decide +kernel
theorem dX3_readNext_22 : decode cX3_readNext 22 = .ok (.putfield 34, 3) := by decide +kernel
theorem dX3_readNext_25 : decode cX3_readNext 25 = .ok (.goto 58, 3) := by decide +kernel
theorem dX3_readNext_28 : decode cX3_readNext 28 = .ok (.iload_n 1, 1) := by decide +kernel
theorem dX3_readNext_29 : decode cX3_readNext 29 = .ok (.bipush 40, 2) := by decide +kernel
theorem dX3_readNext_31 : decode cX3_readNext 31 = .ok (.if_icmp .ne 10, 3) := by decide +kernel
theorem dX3_readNext_34 : decode cX3_readNext 34 = .ok (.aload_n 0, 1) := by decide +kernel
theorem dX3_readNext_35 : decode cX3_readNext 35 = .ok (.invokevirtual 63, 3) := by decide +kernel
theorem dX3_readNext_38 : decode cX3_readNext 38 = .ok (.goto 45, 3) := by decide +kernel
theorem dX3_readNext_41 : decode cX3_readNext 41 = .ok (.iload_n 1, 1) := by decide +kernel
theorem dX3_readNext_42 : decode cX3_readNext 42 = .ok (.bipush 41, 2) := by decide +kernel
theorem dX3_readNext_44 : decode cX3_readNext 44 = .ok (.if_icmp .ne 10, 3) := by decide +kernel
theorem dX3_readNext_47 : decode cX3_readNext 47 = .ok (.aload_n 0, 1) := by decide +kernel
theorem dX3_readNext_48 : decode cX3_readNext 48 = .ok (.invokevirtual 66, 3) := by decide +kernel
theorem dX3_readNext_51 : decode cX3_readNext 51 = .ok (.goto 32, 3) := by decide +kernel
theorem dX3_readNext_54 : decode cX3_readNext 54 = .ok (.iload_n 1, 1) := by decide +kernel
theorem dX3_readNext_55 : decode cX3_readNext 55 = .ok (.bipush 45, 2) := by decide +kernel
theorem dX3_readNext_57 : decode cX3_readNext 57 = .ok (.if_icmp .eq 10, 3) := by decide +kernel
theorem dX3_readNext_60 : decode cX3_readNext 60 = .ok (.iload_n 1, 1) := by decide +kernel
theorem dX3_readNext_61 : decode cX3_readNext 61 = .ok (.invokestatic 69, 3) := by decide +kernel
theorem dX3_readNext_64 : decode cX3_readNext 64 = .ok (.ifCond .eq 10, 3) := by decide +kernel
theorem dX3_readNext_67 : decode cX3_readNext 67 = .ok (.aload_n 0, 1) := by decide +kernel
theorem dX3_readNext_68 : decode cX3_readNext 68 = .ok (.invokevirtual 73, 3) := by decide +kernel
theorem dX3_readNext_71 : decode cX3_readNext 71 = .ok (.goto 12, 3) := by decide +kernel
theorem dX3_readNext_74 : decode cX3_readNext 74 = .ok (.aload_n 0, 1) := by decide +kernel
theorem dX3_readNext_75 : decode cX3_readNext 75 = .ok (.iconst 1, 1) := by decide +kernel
theorem dX3_readNext_76 : decode cX3_readNext 76 = .ok (.aload_n 0, 1) := by decide +kernel
theorem dX3_readNext_77 : decode cX3_readNext 77 = .ok (.getfield 34, 3) := by decide +kernel
theorem dX3_readNext_80 : decode cX3_readNext 80 = .ok (.invokevirtual 55, 3) := by decide +kernel
theorem dX3_readNext_83 : decode cX3_readNext 83 = .ok (.return_, 1) := by decide +kernel
theorem dX3_signAt_0 : decode cX3_signAt 0 = .ok (.iload_n 1, 1) := by decide +kernel
theorem dX3_signAt_1 : decode cX3_signAt 1 = .ok (.ifCond .lt 20, 3) := by decide +kernel
theorem dX3_signAt_4 : decode cX3_signAt 4 = .ok (.iload_n 1, 1) := by decide +kernel
theorem dX3_signAt_5 : decode cX3_signAt 5 = .ok (.aload_n 0, 1) := by decide +kernel
theorem dX3_signAt_6 : decode cX3_signAt 6 = .ok (.getfield 31, 3) := by decide +kernel
theorem dX3_signAt_9 : decode cX3_signAt 9 = .ok (.if_icmp .ge 12, 3) := by decide +kernel
theorem dX3_signAt_12 : decode cX3_signAt 12 = .ok (.aload_n 0, 1) := by decide +kernel
theorem dX3_signAt_13 : decode cX3_signAt 13 = .ok (.getfield 9, 3) := by decide +kernel
theorem dX3_signAt_16 : decode cX3_signAt 16 = .ok (.iload_n 1, 1) := by decide +kernel
theorem dX3_signAt_17 : decode cX3_signAt 17 = .ok (.iaload, 1) := by decide +kernel
theorem dX3_signAt_18 : decode cX3_signAt 18 = .ok (.goto 4, 3) := by decide +kernel
theorem dX3_signAt_21 : decode cX3_signAt 21 = .ok (.iconst (-1), 1) := by decide +kernel
theorem dX3_signAt_22 : decode cX3_signAt 22 = .ok (.ireturn, 1) := by decide +kernel
theorem dX3_isLetter_0 : decode cX3_isLetter 0 = .ok (.iload_n 0, 1) := by decide +kernel
theorem dX3_isLetter_1 : decode cX3_isLetter 1 = .ok (.bipush 97, 2) := by decide +kernel
theorem dX3_isLetter_3 : decode cX3_isLetter 3 = .ok (.if_icmp .lt 13, 3) := by decide +kernel
theorem dX3_isLetter_6 : decode cX3_isLetter 6 = .ok (.iload_n 0, 1) := by decide +kernel
theorem dX3_isLetter_7 : decode cX3_isLetter 7 = .ok (.bipush 108, 2) := by decide +kernel
theorem dX3_isLetter_9 : decode cX3_isLetter 9 = .ok (.if_icmp .gt 7, 3) := by decide +kernel
theorem dX3_isLetter_12 : decode cX3_isLetter 12 = .ok (.iconst 1, 1) := by decide +kernel
theorem dX3_isLetter_13 : decode cX3_isLetter 13 = .ok (.goto 4, 3) := by decide +kernel
theorem dX3_isLetter_16 : decode cX3_isLetter 16 = .ok (.iconst 0, 1) := by decide +kernel
theorem dX3_isLetter_17 : decode cX3_isLetter 17 = .ok (.ireturn, 1) := by decide +kernel
theorem dX3_isDigit_0 : decode cX3_isDigit 0 = .ok (.iload_n 0, 1) := by decide +kernel
theorem dX3_isDigit_1 : decode cX3_isDigit 1 = .ok (.bipush 48, 2) := by decide +kernel
theorem dX3_isDigit_3 : decode cX3_isDigit 3 = .ok (.if_icmp .lt 13, 3) := by decide +kernel
theorem dX3_isDigit_6 : decode cX3_isDigit 6 = .ok (.iload_n 0, 1) := by decide +kernel
theorem dX3_isDigit_7 : decode cX3_isDigit 7 = .ok (.bipush 57, 2) := by decide +kernel
theorem dX3_isDigit_9 : decode cX3_isDigit 9 = .ok (.if_icmp .gt 7, 3) := by decide +kernel
theorem dX3_isDigit_12 : decode cX3_isDigit 12 = .ok (.iconst 1, 1) := by decide +kernel
theorem dX3_isDigit_13 : decode cX3_isDigit 13 = .ok (.goto 4, 3) := by decide +kernel
theorem dX3_isDigit_16 : decode cX3_isDigit 16 = .ok (.iconst 0, 1) := by decide +kernel
theorem dX3_isDigit_17 : decode cX3_isDigit 17 = .ok (.ireturn, 1) := by decide +kernel
theorem dX3_readStep_0 : decode cX3_readStep 0 = .ok (.aload_n 0, 1) := by decide +kernel
theorem dX3_readStep_1 : decode cX3_readStep 1 = .ok (.getfield 34, 3) := by decide +kernel
theorem dX3_readStep_4 : decode cX3_readStep 4 = .ok (.istore_n 1, 1) := by decide +kernel
theorem dX3_readStep_5 : decode cX3_readStep 5 = .ok (.iconst 0, 1) := by decide +kernel
theorem dX3_readStep_6 : decode cX3_readStep 6 = .ok (.istore_n 2, 1) := by decide +kernel
theorem dX3_readStep_7 : decode cX3_readStep 7 = .ok (.aload_n 0, 1) := by decide +kernel
theorem dX3_readStep_8 : decode cX3_readStep 8 = .ok (.aload_n 0, 1) := by decide +kernel
theorem dX3_readStep_9 : decode cX3_readStep 9 = .ok (.getfield 34, 3) := by decide +kernel
theorem dX3_readStep_12 : decode cX3_readStep 12 = .ok (.invokevirtual 59, 3) := by decide +kernel
theorem dX3_readStep_15 : decode cX3_readStep 15 = .ok (.bipush 45, 2) := by decide +kernel
theorem dX3_readStep_17 : decode cX3_readStep 17 = .ok (.if_icmp .ne 16, 3) := by decide +kernel
theorem dX3_readStep_20 : decode cX3_readStep 20 = .ok (.aload_n 0, 1) := by decide +kernel
theorem dX3_readStep_21 : decode cX3_readStep 21 = .ok (.dup, 1) := by decide +kernel
theorem dX3_readStep_22 : decode cX3_readStep 22 = .ok (.getfield 34, 3) := by decide +kernel
theorem dX3_readStep_25 : decode cX3_readStep 25 = .ok (.iconst 1, 1) := by decide +kernel
theorem dX3_readStep_26 : decode cX3_readStep 26 = .ok (.iadd, 1) := by decide +kernel
theorem dX3_readStep_27 : decode cX3_readStep 27 = .ok (.putfield 34, 3) := by decide +kernel
theorem dX3_readStep_30 : decode cX3_readStep 30 = .ok (.goto 57, 3) := by decide +kernel
theorem dX3_readStep_33 : decode cX3_readStep 33 = .ok (.aload_n 0, 1) := by decide +kernel
theorem dX3_readStep_34 : decode cX3_readStep 34 = .ok (.getfield 34, 3) := by decide +kernel
theorem dX3_readStep_37 : decode cX3_readStep 37 = .ok (.aload_n 0, 1) := by decide +kernel
theorem dX3_readStep_38 : decode cX3_readStep 38 = .ok (.getfield 31, 3) := by decide +kernel
theorem dX3_readStep_41 : decode cX3_readStep 41 = .ok (.if_icmp .ge 46, 3) := by decide +kernel
theorem dX3_readStep_44 : decode cX3_readStep 44 = .ok (.aload_n 0, 1) := by decide +kernel
theorem dX3_readStep_45 : decode cX3_readStep 45 = .ok (.aload_n 0, 1) := by decide +kernel
theorem dX3_readStep_46 : decode cX3_readStep 46 = .ok (.getfield 34, 3) := by decide +kernel
theorem dX3_readStep_49 : decode cX3_readStep 49 = .ok (.invokevirtual 59, 3) := by decide +kernel
theorem dX3_readStep_52 : decode cX3_readStep 52 = .ok (.invokestatic 69, 3) := by decide +kernel
theorem dX3_readStep_55 : decode cX3_readStep 55 = .ok (.ifCond .eq 32, 3) := by decide +kernel
theorem dX3_readStep_58 : decode cX3_readStep 58 = .ok (.iload_n 2, 1) := by decide +kernel
theorem dX3_readStep_59 : decode cX3_readStep 59 = .ok (.iconst 1, 1) := by decide +kernel
theorem dX3_readStep_60 : decode cX3_readStep 60 = .ok (.aload_n 0, 1) := by decide +kernel
theorem dX3_readStep_61 : decode cX3_readStep 61 = .ok (.aload_n 0, 1) := by decide +kernel
theorem dX3_readStep_62 : decode cX3_readStep 62 = .ok (.getfield 34, 3) := by decide +kernel
theorem dX3_readStep_65 : decode cX3_readStep 65 = .ok (.invokevirtual 59, 3) := by decide +kernel
theorem dX3_readStep_68 : decode cX3_readStep 68 = .ok (.bipush 97, 2) := by decide +kernel
theorem dX3_readStep_70 : decode cX3_readStep 70 = .ok (.isub, 1) := by decide +kernel
theorem dX3_readStep_71 : decode cX3_readStep 71 = .ok (.ishl, 1) := by decide +kernel
theorem dX3_readStep_72 : decode cX3_readStep 72 = .ok (.ior, 1) := by decide +kernel
theorem dX3_readStep_73 : decode cX3_readStep 73 = .ok (.istore_n 2, 1) := by decide +kernel
theorem dX3_readStep_74 : decode cX3_readStep 74 = .ok (.aload_n 0, 1) := by decide +kernel
theorem dX3_readStep_75 : decode cX3_readStep 75 = .ok (.dup, 1) := by decide +kernel
theorem dX3_readStep_76 : decode cX3_readStep 76 = .ok (.getfield 34, 3) := by decide +kernel
theorem dX3_readStep_79 : decode cX3_readStep 79 = .ok (.iconst 1, 1) := by decide +kernel
theorem dX3_readStep_80 : decode cX3_readStep 80 = .ok (.iadd, 1) := by decide +kernel
theorem dX3_readStep_81 : decode cX3_readStep 81 = .ok (.putfield 34, 3) := by decide +kernel
theorem dX3_readStep_84 : decode cX3_readStep 84 = .ok (.goto (-51), 3) := by decide +kernel
theorem dX3_readStep_87 : decode cX3_readStep 87 = .ok (.aload_n 0, 1) := by decide +kernel
theorem dX3_readStep_88 : decode cX3_readStep 88 = .ok (.aload_n 0, 1) := by decide +kernel
theorem dX3_readStep_89 : decode cX3_readStep 89 = .ok (.getfield 34, 3) := by decide +kernel
theorem dX3_readStep_92 : decode cX3_readStep 92 = .ok (.invokevirtual 59, 3) := by decide +kernel
theorem dX3_readStep_95 : decode cX3_readStep 95 = .ok (.invokestatic 76, 3) := by decide +kernel
theorem dX3_readStep_98 : decode cX3_readStep 98 = .ok (.ifCond .eq 10, 3) := by decide +kernel
theorem dX3_readStep_101 : decode cX3_readStep 101 = .ok (.aload_n 0, 1) := by decide +kernel
theorem dX3_readStep_102 : decode cX3_readStep 102 = .ok (.invokevirtual 79, 3) := by decide +kernel
theorem dX3_readStep_105 : decode cX3_readStep 105 = .ok (.goto 4, 3) := by decide +kernel
theorem dX3_readStep_108 : decode cX3_readStep 108 = .ok (.iconst 1, 1) := by decide +kernel
theorem dX3_readStep_109 : decode cX3_readStep 109 = .ok (.istore_n 3, 1) := by decide +kernel
theorem dX3_readStep_110 : decode cX3_readStep 110 = .ok (.aload_n 0, 1) := by decide +kernel
theorem dX3_readStep_111 : decode cX3_readStep 111 = .ok (.getfield 25, 3) := by decide +kernel
theorem dX3_readStep_114 : decode cX3_readStep 114 = .ok (.ifCond .ne 20, 3) := by decide +kernel
theorem dX3_readStep_117 : decode cX3_readStep 117 = .ok (.aload_n 0, 1) := by decide +kernel
theorem dX3_readStep_118 : decode cX3_readStep 118 = .ok (.getfield 22, 3) := by decide +kernel
theorem dX3_readStep_121 : decode cX3_readStep 121 = .ok (.iload_n 3, 1) := by decide +kernel
theorem dX3_readStep_122 : decode cX3_readStep 122 = .ok (.iadd, 1) := by decide +kernel
theorem dX3_readStep_123 : decode cX3_readStep 123 = .ok (.bipush 100, 2) := by decide +kernel
theorem dX3_readStep_125 : decode cX3_readStep 125 = .ok (.if_icmp .le 9, 3) := by decide +kernel
theorem dX3_readStep_128 : decode cX3_readStep 128 = .ok (.aload_n 0, 1) := by decide +kernel
theorem dX3_readStep_129 : decode cX3_readStep 129 = .ok (.iconst 4, 1) := by decide +kernel
theorem dX3_readStep_130 : decode cX3_readStep 130 = .ok (.iload_n 1, 1) := by decide +kernel
theorem dX3_readStep_131 : decode cX3_readStep 131 = .ok (.invokevirtual 55, 3) := by decide +kernel
theorem dX3_readStep_134 : decode cX3_readStep 134 = .ok (.iconst 0, 1) := by decide +kernel
theorem dX3_readStep_135 : decode cX3_readStep 135 = .ok (.istore 4, 2) := by decide +kernel
theorem dX3_readStep_137 : decode cX3_readStep 137 = .ok (.iload 4, 2) := by decide +kernel
theorem dX3_readStep_139 : decode cX3_readStep 139 = .ok (.iload_n 3, 1) := by decide +kernel
theorem dX3_readStep_140 : decode cX3_readStep 140 = .ok (.if_icmp .ge 45, 3) := by decide +kernel
theorem dX3_readStep_143 : decode cX3_readStep 143 = .ok (.aload_n 0, 1) := by decide +kernel
theorem dX3_readStep_144 : decode cX3_readStep 144 = .ok (.getfield 25, 3) := by decide +kernel
theorem dX3_readStep_147 : decode cX3_readStep 147 = .ok (.ifCond .ne 38, 3) := by decide +kernel
theorem dX3_readStep_150 : decode cX3_readStep 150 = .ok (.aload_n 0, 1) := by decide +kernel
theorem dX3_readStep_151 : decode cX3_readStep 151 = .ok (.getfield 19, 3) := by decide +kernel
theorem dX3_readStep_154 : decode cX3_readStep 154 = .ok (.aload_n 0, 1) := by decide +kernel
theorem dX3_readStep_155 : decode cX3_readStep 155 = .ok (.getfield 22, 3) := by decide +kernel
theorem dX3_readStep_158 : decode cX3_readStep 158 = .ok (.iload 4, 2) := by decide +kernel
theorem dX3_readStep_160 : decode cX3_readStep 160 = .ok (.ifCond .ne 7, 3) := by decide +kernel
theorem dX3_readStep_163 : decode cX3_readStep 163 = .ok (.iload_n 2, 1) := by decide +kernel
theorem dX3_readStep_164 : decode cX3_readStep 164 = .ok (.goto 4, 3) := by decide +kernel
theorem dX3_readStep_167 : decode cX3_readStep 167 = .ok (.iconst 0, 1) := by decide +kernel
theorem dX3_readStep_168 : decode cX3_readStep 168 = .ok (.iastore, 1) := by decide +kernel
theorem dX3_readStep_169 : decode cX3_readStep 169 = .ok (.aload_n 0, 1) := by decide +kernel
theorem dX3_readStep_170 : decode cX3_readStep 170 = .ok (.dup, 1) := by decide +kernel
theorem dX3_readStep_171 : decode cX3_readStep 171 = .ok (.getfield 22, 3) := by decide +kernel
theorem dX3_readStep_174 : decode cX3_readStep 174 = .ok (.iconst 1, 1) := by decide +kernel
theorem dX3_readStep_175 : decode cX3_readStep 175 = .ok (.iadd, 1) := by decide +kernel
theorem dX3_readStep_176 : decode cX3_readStep 176 = .ok (.putfield 22, 3) := by decide +kernel
theorem dX3_readStep_179 : decode cX3_readStep 179 = .ok (.iinc 4 1, 3) := by decide +kernel
theorem dX3_readStep_182 : decode cX3_readStep 182 = .ok (.goto (-45), 3) := by decide +kernel
theorem dX3_readStep_185 : decode cX3_readStep 185 = .ok (.return_, 1) := by decide +kernel
theorem dX3_readNumber_0 : decode cX3_readNumber 0 = .ok (.aload_n 0, 1) := by decide +kernel
theorem dX3_readNumber_1 : decode cX3_readNumber 1 = .ok (.getfield 34, 3) := by decide +kernel
theorem dX3_readNumber_4 : decode cX3_readNumber 4 = .ok (.istore_n 1, 1) := by decide +kernel
theorem dX3_readNumber_5 : decode cX3_readNumber 5 = .ok (.iconst 0, 1) := by decide +kernel
theorem dX3_readNumber_6 : decode cX3_readNumber 6 = .ok (.istore_n 2, 1) := by decide +kernel
theorem dX3_readNumber_7 : decode cX3_readNumber 7 = .ok (.aload_n 0, 1) := by decide +kernel
theorem dX3_readNumber_8 : decode cX3_readNumber 8 = .ok (.getfield 34, 3) := by decide +kernel
theorem dX3_readNumber_11 : decode cX3_readNumber 11 = .ok (.iload_n 1, 1) := by decide +kernel
theorem dX3_readNumber_12 : decode cX3_readNumber 12 = .ok (.iconst 2, 1) := by decide +kernel
theorem dX3_readNumber_13 : decode cX3_readNumber 13 = .ok (.iadd, 1) := by decide +kernel
theorem dX3_readNumber_14 : decode cX3_readNumber 14 = .ok (.if_icmp .ge 47, 3) := by decide +kernel
theorem dX3_readNumber_17 : decode cX3_readNumber 17 = .ok (.aload_n 0, 1) := by decide +kernel
theorem dX3_readNumber_18 : decode cX3_readNumber 18 = .ok (.aload_n 0, 1) := by decide +kernel
theorem dX3_readNumber_19 : decode cX3_readNumber 19 = .ok (.getfield 34, 3) := by decide +kernel
theorem dX3_readNumber_22 : decode cX3_readNumber 22 = .ok (.invokevirtual 59, 3) := by decide +kernel
theorem dX3_readNumber_25 : decode cX3_readNumber 25 = .ok (.invokestatic 76, 3) := by decide +kernel
theorem dX3_readNumber_28 : decode cX3_readNumber 28 = .ok (.ifCond .eq 33, 3) := by decide +kernel
theorem dX3_readNumber_31 : decode cX3_readNumber 31 = .ok (.iload_n 2, 1) := by decide +kernel
theorem dX3_readNumber_32 : decode cX3_readNumber 32 = .ok (.bipush 10, 2) := by decide +kernel
theorem dX3_readNumber_34 : decode cX3_readNumber 34 = .ok (.imul, 1) := by decide +kernel
theorem dX3_readNumber_35 : decode cX3_readNumber 35 = .ok (.aload_n 0, 1) := by decide +kernel
theorem dX3_readNumber_36 : decode cX3_readNumber 36 = .ok (.aload_n 0, 1) := by decide +kernel
theorem dX3_readNumber_37 : decode cX3_readNumber 37 = .ok (.getfield 34, 3) := by decide +kernel
theorem dX3_readNumber_40 : decode cX3_readNumber 40 = .ok (.invokevirtual 59, 3) := by decide +kernel
theorem dX3_readNumber_43 : decode cX3_readNumber 43 = .ok (.iadd, 1) := by decide +kernel
theorem dX3_readNumber_44 : decode cX3_readNumber 44 = .ok (.bipush 48, 2) := by decide +kernel
theorem dX3_readNumber_46 : decode cX3_readNumber 46 = .ok (.isub, 1) := by decide +kernel
theorem dX3_readNumber_47 : decode cX3_readNumber 47 = .ok (.istore_n 2, 1) := by decide +kernel
theorem dX3_readNumber_48 : decode cX3_readNumber 48 = .ok (.aload_n 0, 1) := by decide +kernel
theorem dX3_readNumber_49 : decode cX3_readNumber 49 = .ok (.dup, 1) := by decide +kernel
theorem dX3_readNumber_50 : decode cX3_readNumber 50 = .ok (.getfield 34, 3) := by decide +kernel
theorem dX3_readNumber_53 : decode cX3_readNumber 53 = .ok (.iconst 1, 1) := by decide +kernel
theorem dX3_readNumber_54 : decode cX3_readNumber 54 = .ok (.iadd, 1) := by decide +kernel
theorem dX3_readNumber_55 : decode cX3_readNumber 55 = .ok (.putfield 34, 3) := by decide +kernel
theorem dX3_readNumber_58 : decode cX3_readNumber 58 = .ok (.goto (-51), 3) := by decide +kernel
theorem dX3_readNumber_61 : decode cX3_readNumber 61 = .ok (.iload_n 2, 1) := by decide +kernel
theorem dX3_readNumber_62 : decode cX3_readNumber 62 = .ok (.iconst 1, 1) := by decide +kernel
theorem dX3_readNumber_63 : decode cX3_readNumber 63 = .ok (.if_icmp .lt 9, 3) := by decide +kernel
theorem dX3_readNumber_66 : decode cX3_readNumber 66 = .ok (.iload_n 2, 1) := by decide +kernel
theorem dX3_readNumber_67 : decode cX3_readNumber 67 = .ok (.bipush 20, 2) := by decide +kernel
theorem dX3_readNumber_69 : decode cX3_readNumber 69 = .ok (.if_icmp .le 9, 3) := by decide +kernel
theorem dX3_readNumber_72 : decode cX3_readNumber 72 = .ok (.aload_n 0, 1) := by decide +kernel
theorem dX3_readNumber_73 : decode cX3_readNumber 73 = .ok (.iconst 2, 1) := by decide +kernel
theorem dX3_readNumber_74 : decode cX3_readNumber 74 = .ok (.iload_n 1, 1) := by decide +kernel
theorem dX3_readNumber_75 : decode cX3_readNumber 75 = .ok (.invokevirtual 55, 3) := by decide +kernel
theorem dX3_readNumber_78 : decode cX3_readNumber 78 = .ok (.iload_n 2, 1) := by decide +kernel
theorem dX3_readNumber_79 : decode cX3_readNumber 79 = .ok (.ireturn, 1) := by decide +kernel
theorem dX3_openGroup_0 : decode cX3_openGroup 0 = .ok (.aload_n 0, 1) := by decide +kernel
theorem dX3_openGroup_1 : decode cX3_openGroup 1 = .ok (.getfield 37, 3) := by decide +kernel
theorem dX3_openGroup_4 : decode cX3_openGroup 4 = .ok (.iconst 3, 1) := by decide +kernel
theorem dX3_openGroup_5 : decode cX3_openGroup 5 = .ok (.if_icmp .lt 13, 3) := by decide +kernel
theorem dX3_openGroup_8 : decode cX3_openGroup 8 = .ok (.aload_n 0, 1) := by decide +kernel
theorem dX3_openGroup_9 : decode cX3_openGroup 9 = .ok (.iconst 3, 1) := by decide +kernel
theorem dX3_openGroup_10 : decode cX3_openGroup 10 = .ok (.aload_n 0, 1) := by decide +kernel
theorem dX3_openGroup_11 : decode cX3_openGroup 11 = .ok (.getfield 34, 3) := by decide +kernel
theorem dX3_openGroup_14 : decode cX3_openGroup 14 = .ok (.invokevirtual 55, 3) := by decide +kernel
theorem dX3_openGroup_17 : decode cX3_openGroup 17 = .ok (.return_, 1) := by decide +kernel
theorem dX3_openGroup_18 : decode cX3_openGroup 18 = .ok (.aload_n 0, 1) := by decide +kernel
theorem dX3_openGroup_19 : decode cX3_openGroup 19 = .ok (.getfield 40, 3) := by decide +kernel
theorem dX3_openGroup_22 : decode cX3_openGroup 22 = .ok (.aload_n 0, 1) := by decide +kernel
theorem dX3_openGroup_23 : decode cX3_openGroup 23 = .ok (.getfield 37, 3) := by decide +kernel
theorem dX3_openGroup_26 : decode cX3_openGroup 26 = .ok (.aload_n 0, 1) := by decide +kernel
theorem dX3_openGroup_27 : decode cX3_openGroup 27 = .ok (.getfield 34, 3) := by decide +kernel
theorem dX3_openGroup_30 : decode cX3_openGroup 30 = .ok (.iastore, 1) := by decide +kernel
theorem dX3_openGroup_31 : decode cX3_openGroup 31 = .ok (.aload_n 0, 1) := by decide +kernel
theorem dX3_openGroup_32 : decode cX3_openGroup 32 = .ok (.getfield 43, 3) := by decide +kernel
theorem dX3_openGroup_35 : decode cX3_openGroup 35 = .ok (.aload_n 0, 1) := by decide +kernel
theorem dX3_openGroup_36 : decode cX3_openGroup 36 = .ok (.getfield 37, 3) := by decide +kernel
theorem dX3_openGroup_39 : decode cX3_openGroup 39 = .ok (.aload_n 0, 1) := by decide +kernel
theorem dX3_openGroup_40 : decode cX3_openGroup 40 = .ok (.getfield 22, 3) := by decide +kernel
theorem dX3_openGroup_43 : decode cX3_openGroup 43 = .ok (.iastore, 1) := by decide +kernel
theorem dX3_openGroup_44 : decode cX3_openGroup 44 = .ok (.aload_n 0, 1) := by decide +kernel
theorem dX3_openGroup_45 : decode cX3_openGroup 45 = .ok (.dup, 1) := by decide +kernel
theorem dX3_openGroup_46 : decode cX3_openGroup 46 = .ok (.getfield 37, 3) := by decide +kernel
theorem dX3_openGroup_49 : decode cX3_openGroup 49 = .ok (.iconst 1, 1) := by decide +kernel
theorem dX3_openGroup_50 : decode cX3_openGroup 50 = .ok (.iadd, 1) := by decide +kernel
theorem dX3_openGroup_51 : decode cX3_openGroup 51 = .ok (.putfield 37, 3) := by decide +kernel
theorem dX3_openGroup_54 : decode cX3_openGroup 54 = .ok (.aload_n 0, 1) := by decide +kernel
theorem dX3_openGroup_55 : decode cX3_openGroup 55 = .ok (.dup, 1) := by decide +kernel
theorem dX3_openGroup_56 : decode cX3_openGroup 56 = .ok (.getfield 34, 3) := by decide +kernel
theorem dX3_openGroup_59 : decode cX3_openGroup 59 = .ok (.iconst 1, 1) := by decide +kernel
theorem dX3_openGroup_60 : decode cX3_openGroup 60 = .ok (.iadd, 1) := by decide +kernel
theorem dX3_openGroup_61 : decode cX3_openGroup 61 = .ok (.putfield 34, 3) := by decide +kernel
theorem dX3_openGroup_64 : decode cX3_openGroup 64 = .ok (.return_, 1) := by decide +kernel
theorem dX3_closeGroup_0 : decode cX3_closeGroup 0 = .ok (.aload_n 0, 1) := by decide +kernel
theorem dX3_closeGroup_1 : decode cX3_closeGroup 1 = .ok (.getfield 37, 3) := by decide +kernel
theorem dX3_closeGroup_4 : decode cX3_closeGroup 4 = .ok (.iconst 1, 1) := by decide +kernel
theorem dX3_closeGroup_5 : decode cX3_closeGroup 5 = .ok (.if_icmp .ge 13, 3) := by decide +kernel
theorem dX3_closeGroup_8 : decode cX3_closeGroup 8 = .ok (.aload_n 0, 1) := by decide +kernel
theorem dX3_closeGroup_9 : decode cX3_closeGroup 9 = .ok (.iconst 1, 1) := by decide +kernel
theorem dX3_closeGroup_10 : decode cX3_closeGroup 10 = .ok (.aload_n 0, 1) := by decide +kernel
theorem dX3_closeGroup_11 : decode cX3_closeGroup 11 = .ok (.getfield 34, 3) := by decide +kernel
theorem dX3_closeGroup_14 : decode cX3_closeGroup 14 = .ok (.invokevirtual 55, 3) := by decide +kernel
theorem dX3_closeGroup_17 : decode cX3_closeGroup 17 = .ok (.return_, 1) := by decide +kernel
theorem dX3_closeGroup_18 : decode cX3_closeGroup 18 = .ok (.aload_n 0, 1) := by decide +kernel
theorem dX3_closeGroup_19 : decode cX3_closeGroup 19 = .ok (.dup, 1) := by decide +kernel
theorem dX3_closeGroup_20 : decode cX3_closeGroup 20 = .ok (.getfield 37, 3) := by decide +kernel
theorem dX3_closeGroup_23 : decode cX3_closeGroup 23 = .ok (.iconst 1, 1) := by decide +kernel
theorem dX3_closeGroup_24 : decode cX3_closeGroup 24 = .ok (.isub, 1) := by decide +kernel
theorem dX3_closeGroup_25 : decode cX3_closeGroup 25 = .ok (.putfield 37, 3) := by decide +kernel
theorem dX3_closeGroup_28 : decode cX3_closeGroup 28 = .ok (.aload_n 0, 1) := by decide +kernel
theorem dX3_closeGroup_29 : decode cX3_closeGroup 29 = .ok (.getfield 22, 3) := by decide +kernel
theorem dX3_closeGroup_32 : decode cX3_closeGroup 32 = .ok (.aload_n 0, 1) := by decide +kernel
theorem dX3_closeGroup_33 : decode cX3_closeGroup 33 = .ok (.getfield 43, 3) := by decide +kernel
theorem dX3_closeGroup_36 : decode cX3_closeGroup 36 = .ok (.aload_n 0, 1) := by decide +kernel
theorem dX3_closeGroup_37 : decode cX3_closeGroup 37 = .ok (.getfield 37, 3) := by decide +kernel
theorem dX3_closeGroup_40 : decode cX3_closeGroup 40 = .ok (.iaload, 1) := by decide +kernel
theorem dX3_closeGroup_41 : decode cX3_closeGroup 41 = .ok (.if_icmp .ne 13, 3) := by decide +kernel
theorem dX3_closeGroup_44 : decode cX3_closeGroup 44 = .ok (.aload_n 0, 1) := by decide +kernel
theorem dX3_closeGroup_45 : decode cX3_closeGroup 45 = .ok (.iconst 5, 1) := by decide +kernel
theorem dX3_closeGroup_46 : decode cX3_closeGroup 46 = .ok (.aload_n 0, 1) := by decide +kernel
theorem dX3_closeGroup_47 : decode cX3_closeGroup 47 = .ok (.getfield 34, 3) := by decide +kernel
theorem dX3_closeGroup_50 : decode cX3_closeGroup 50 = .ok (.invokevirtual 55, 3) := by decide +kernel
theorem dX3_closeGroup_53 : decode cX3_closeGroup 53 = .ok (.return_, 1) := by decide +kernel
theorem dX3_closeGroup_54 : decode cX3_closeGroup 54 = .ok (.aload_n 0, 1) := by decide +kernel
theorem dX3_closeGroup_55 : decode cX3_closeGroup 55 = .ok (.dup, 1) := by decide +kernel
theorem dX3_closeGroup_56 : decode cX3_closeGroup 56 = .ok (.getfield 34, 3) := by decide +kernel
theorem dX3_closeGroup_59 : decode cX3_closeGroup 59 = .ok (.iconst 1, 1) := by decide +kernel
theorem dX3_closeGroup_60 : decode cX3_closeGroup 60 = .ok (.iadd, 1) := by decide +kernel
theorem dX3_closeGroup_61 : decode cX3_closeGroup 61 = .ok (.putfield 34, 3) := by decide +kernel
theorem dX3_closeGroup_64 : decode cX3_closeGroup 64 = .ok (.aload_n 0, 1) := by decide +kernel
theorem dX3_closeGroup_65 : decode cX3_closeGroup 65 = .ok (.aload_n 0, 1) := by decide +kernel
theorem dX3_closeGroup_66 : decode cX3_closeGroup 66 = .ok (.getfield 34, 3) := by decide +kernel
theorem dX3_closeGroup_69 : decode cX3_closeGroup 69 = .ok (.invokevirtual 59, 3) := by decide +kernel
theorem dX3_closeGroup_72 : decode cX3_closeGroup 72 = .ok (.invokestatic 76, 3) := by decide +kernel
theorem dX3_closeGroup_75 : decode cX3_closeGroup 75 = .ok (.ifCond .ne 13, 3) := by decide +kernel
theorem dX3_closeGroup_78 : decode cX3_closeGroup 78 = .ok (.aload_n 0, 1) := by decide +kernel
theorem dX3_closeGroup_79 : decode cX3_closeGroup 79 = .ok (.iconst 1, 1) := by decide +kernel
theorem dX3_closeGroup_80 : decode cX3_closeGroup 80 = .ok (.aload_n 0, 1) := by decide +kernel
theorem dX3_closeGroup_81 : decode cX3_closeGroup 81 = .ok (.getfield 34, 3) := by decide +kernel
theorem dX3_closeGroup_84 : decode cX3_closeGroup 84 = .ok (.invokevirtual 55, 3) := by decide +kernel
theorem dX3_closeGroup_87 : decode cX3_closeGroup 87 = .ok (.return_, 1) := by decide +kernel
theorem dX3_closeGroup_88 : decode cX3_closeGroup 88 = .ok (.aload_n 0, 1) := by decide +kernel
theorem dX3_closeGroup_89 : decode cX3_closeGroup 89 = .ok (.invokevirtual 79, 3) := by decide +kernel
theorem dX3_closeGroup_92 : decode cX3_closeGroup 92 = .ok (.istore_n 1, 1) := by decide +kernel
theorem dX3_closeGroup_93 : decode cX3_closeGroup 93 = .ok (.aload_n 0, 1) := by decide +kernel
theorem dX3_closeGroup_94 : decode cX3_closeGroup 94 = .ok (.getfield 25, 3) := by decide +kernel
theorem dX3_closeGroup_97 : decode cX3_closeGroup 97 = .ok (.ifCond .ne 12, 3) := by decide +kernel
theorem dX3_closeGroup_100 : decode cX3_closeGroup 100 = .ok (.aload_n 0, 1) := by decide +kernel
theorem dX3_closeGroup_101 : decode cX3_closeGroup 101 = .ok (.aload_n 0, 1) := by decide +kernel
theorem dX3_closeGroup_102 : decode cX3_closeGroup 102 = .ok (.getfield 37, 3) := by decide +kernel
theorem dX3_closeGroup_105 : decode cX3_closeGroup 105 = .ok (.iload_n 1, 1) := by decide +kernel
theorem dX3_closeGroup_106 : decode cX3_closeGroup 106 = .ok (.invokevirtual 83, 3) := by decide +kernel
theorem dX3_closeGroup_109 : decode cX3_closeGroup 109 = .ok (.return_, 1) := by decide +kernel
theorem dX3_repeatGroup_0 : decode cX3_repeatGroup 0 = .ok (.aload_n 0, 1) := by decide +kernel
theorem dX3_repeatGroup_1 : decode cX3_repeatGroup 1 = .ok (.getfield 43, 3) := by decide +kernel
theorem dX3_repeatGroup_4 : decode cX3_repeatGroup 4 = .ok (.iload_n 1, 1) := by decide +kernel
theorem dX3_repeatGroup_5 : decode cX3_repeatGroup 5 = .ok (.iaload, 1) := by decide +kernel
theorem dX3_repeatGroup_6 : decode cX3_repeatGroup 6 = .ok (.istore_n 3, 1) := by decide +kernel
theorem dX3_repeatGroup_7 : decode cX3_repeatGroup 7 = .ok (.aload_n 0, 1) := by decide +kernel
theorem dX3_repeatGroup_8 : decode cX3_repeatGroup 8 = .ok (.getfield 22, 3) := by decide +kernel
theorem dX3_repeatGroup_11 : decode cX3_repeatGroup 11 = .ok (.iload_n 3, 1) := by decide +kernel
theorem dX3_repeatGroup_12 : decode cX3_repeatGroup 12 = .ok (.isub, 1) := by decide +kernel
theorem dX3_repeatGroup_13 : decode cX3_repeatGroup 13 = .ok (.istore 4, 2) := by decide +kernel
theorem dX3_repeatGroup_15 : decode cX3_repeatGroup 15 = .ok (.iload_n 3, 1) := by decide +kernel
theorem dX3_repeatGroup_16 : decode cX3_repeatGroup 16 = .ok (.iload 4, 2) := by decide +kernel
theorem dX3_repeatGroup_18 : decode cX3_repeatGroup 18 = .ok (.iload_n 2, 1) := by decide +kernel
theorem dX3_repeatGroup_19 : decode cX3_repeatGroup 19 = .ok (.imul, 1) := by decide +kernel
theorem dX3_repeatGroup_20 : decode cX3_repeatGroup 20 = .ok (.iadd, 1) := by decide +kernel
theorem dX3_repeatGroup_21 : decode cX3_repeatGroup 21 = .ok (.bipush 100, 2) := by decide +kernel
theorem dX3_repeatGroup_23 : decode cX3_repeatGroup 23 = .ok (.if_icmp .le 15, 3) := by decide +kernel
theorem dX3_repeatGroup_26 : decode cX3_repeatGroup 26 = .ok (.aload_n 0, 1) := by decide +kernel
theorem dX3_repeatGroup_27 : decode cX3_repeatGroup 27 = .ok (.iconst 4, 1) := by decide +kernel
theorem dX3_repeatGroup_28 : decode cX3_repeatGroup 28 = .ok (.aload_n 0, 1) := by decide +kernel
theorem dX3_repeatGroup_29 : decode cX3_repeatGroup 29 = .ok (.getfield 40, 3) := by decide +kernel
theorem dX3_repeatGroup_32 : decode cX3_repeatGroup 32 = .ok (.iload_n 1, 1) := by decide +kernel
theorem dX3_repeatGroup_33 : decode cX3_repeatGroup 33 = .ok (.iaload, 1) := by decide +kernel
theorem dX3_repeatGroup_34 : decode cX3_repeatGroup 34 = .ok (.invokevirtual 55, 3) := by decide +kernel
theorem dX3_repeatGroup_37 : decode cX3_repeatGroup 37 = .ok (.return_, 1) := by decide +kernel
theorem dX3_repeatGroup_38 : decode cX3_repeatGroup 38 = .ok (.iconst 1, 1) := by decide +kernel
theorem dX3_repeatGroup_39 : decode cX3_repeatGroup 39 = .ok (.istore 5, 2) := by decide +kernel
theorem dX3_repeatGroup_41 : decode cX3_repeatGroup 41 = .ok (.iload 5, 2) := by decide +kernel
theorem dX3_repeatGroup_43 : decode cX3_repeatGroup 43 = .ok (.iload_n 2, 1) := by decide +kernel
theorem dX3_repeatGroup_44 : decode cX3_repeatGroup 44 = .ok (.if_icmp .ge 38, 3) := by decide +kernel
theorem dX3_repeatGroup_47 : decode cX3_repeatGroup 47 = .ok (.aload_n 0, 1) := by decide +kernel
theorem dX3_repeatGroup_48 : decode cX3_repeatGroup 48 = .ok (.getfield 19, 3) := by decide +kernel
theorem dX3_repeatGroup_51 : decode cX3_repeatGroup 51 = .ok (.iload_n 3, 1) := by decide +kernel
theorem dX3_repeatGroup_52 : decode cX3_repeatGroup 52 = .ok (.aload_n 0, 1) := by decide +kernel
theorem dX3_repeatGroup_53 : decode cX3_repeatGroup 53 = .ok (.getfield 19, 3) := by decide +kernel
theorem dX3_repeatGroup_56 : decode cX3_repeatGroup 56 = .ok (.aload_n 0, 1) := by decide +kernel
theorem dX3_repeatGroup_57 : decode cX3_repeatGroup 57 = .ok (.getfield 22, 3) := by decide +kernel
theorem dX3_repeatGroup_60 : decode cX3_repeatGroup 60 = .ok (.iload 4, 2) := by decide +kernel
theorem dX3_repeatGroup_62 : decode cX3_repeatGroup 62 = .ok (.invokestatic 86, 3) := by decide +kernel
theorem dX3_repeatGroup_65 : decode cX3_repeatGroup 65 = .ok (.aload_n 0, 1) := by decide +kernel
theorem dX3_repeatGroup_66 : decode cX3_repeatGroup 66 = .ok (.dup, 1) := by decide +kernel
theorem dX3_repeatGroup_67 : decode cX3_repeatGroup 67 = .ok (.getfield 22, 3) := by decide +kernel
theorem dX3_repeatGroup_70 : decode cX3_repeatGroup 70 = .ok (.iload 4, 2) := by decide +kernel
theorem dX3_repeatGroup_72 : decode cX3_repeatGroup 72 = .ok (.iadd, 1) := by decide +kernel
theorem dX3_repeatGroup_73 : decode cX3_repeatGroup 73 = .ok (.putfield 22, 3) := by decide +kernel
theorem dX3_repeatGroup_76 : decode cX3_repeatGroup 76 = .ok (.iinc 5 1, 3) := by decide +kernel
theorem dX3_repeatGroup_79 : decode cX3_repeatGroup 79 = .ok (.goto (-38), 3) := by decide +kernel
theorem dX3_repeatGroup_82 : decode cX3_repeatGroup 82 = .ok (.return_, 1) := by decide +kernel
theorem dX4_init_0 : decode cX4_init 0 = .ok (.aload_n 0, 1) := by decide +kernel
theorem dX4_init_1 : decode cX4_init 1 = .ok (.invokespecial 3, 3) := by decide +kernel
theorem dX4_init_4 : decode cX4_init 4 = .ok (.aload_n 0, 1) := by decide +kernel
theorem dX4_init_5 : decode cX4_init 5 = .ok (.sipush 300, 3) := by decide +kernel
theorem dX4_init_8 : decode cX4_init 8 = .ok (.newarray .int, 2) := by decide +kernel
theorem dX4_init_10 : decode cX4_init 10 = .ok (.putfield 9, 3) := by decide +kernel
theorem dX4_init_13 : decode cX4_init 13 = .ok (.aload_n 0, 1) := by decide +kernel
theorem dX4_init_14 : decode cX4_init 14 = .ok (.sipush 300, 3) := by decide +kernel
theorem dX4_init_17 : decode cX4_init 17 = .ok (.newarray .int, 2) := by decide +kernel
theorem dX4_init_19 : decode cX4_init 19 = .ok (.putfield 15, 3) := by decide +kernel
theorem dX4_init_22 : decode cX4_init 22 = .ok (.aload_n 0, 1) := by decide +kernel
theorem dX4_init_23 : decode cX4_init 23 = .ok (.sipush 300, 3) := by decide +kernel
theorem dX4_init_26 : decode cX4_init 26 = .ok (.newarray .int, 2) := by decide +kernel
theorem dX4_init_28 : decode cX4_init 28 = .ok (.putfield 18, 3) := by decide +kernel
theorem dX4_init_31 : decode cX4_init 31 = .ok (.aload_n 0, 1) := by decide +kernel
theorem dX4_init_32 : decode cX4_init 32 = .ok (.bipush 51, 2) := by decide +kernel
theorem dX4_init_34 : decode cX4_init 34 = .ok (.newarray .int, 2) := by decide +kernel
theorem dX4_init_36 : decode cX4_init 36 = .ok (.putfield 21, 3) := by decide +kernel
theorem dX4_init_39 : decode cX4_init 39 = .ok (.aload_n 0, 1) := by decide +kernel
theorem dX4_init_40 : decode cX4_init 40 = .ok (.iconst 0, 1) := by decide +kernel
theorem dX4_init_41 : decode cX4_init 41 = .ok (.putfield 24, 3) := by decide +kernel
theorem dX4_init_44 : decode cX4_init 44 = .ok (.return_, 1) := by decide +kernel
theorem dX4_isFull_0 : decode cX4_isFull 0 = .ok (.aload_n 0, 1) := by decide +kernel
theorem dX4_isFull_1 : decode cX4_isFull 1 = .ok (.getfield 24, 3) := by decide +kernel
theorem dX4_isFull_4 : decode cX4_isFull 4 = .ok (.sipush 300, 3) := by decide +kernel
theorem dX4_isFull_7 : decode cX4_isFull 7 = .ok (.if_icmp .lt 7, 3) := by decide +kernel
theorem dX4_isFull_10 : decode cX4_isFull 10 = .ok (.iconst 1, 1) := by decide +kernel
theorem dX4_isFull_11 : decode cX4_isFull 11 = .ok (.goto 4, 3) := by decide +kernel
theorem dX4_isFull_14 : decode cX4_isFull 14 = .ok (.iconst 0, 1) := by decide +kernel
theorem dX4_isFull_15 : decode cX4_isFull 15 = .ok (.ireturn, 1) := by decide +kernel
theorem dX4_copyFrom_0 : decode cX4_copyFrom 0 = .ok (.aload_n 0, 1) := by decide +kernel
theorem dX4_copyFrom_1 : decode cX4_copyFrom 1 = .ok (.aload_n 1, 1) := by decide +kernel
theorem dX4_copyFrom_2 : decode cX4_copyFrom 2 = .ok (.getfield 24, 3) := by decide +kernel
theorem dX4_copyFrom_5 : decode cX4_copyFrom 5 = .ok (.putfield 24, 3) := by decide +kernel
theorem dX4_copyFrom_8 : decode cX4_copyFrom 8 = .ok (.aload_n 1, 1) := by decide +kernel
theorem dX4_copyFrom_9 : decode cX4_copyFrom 9 = .ok (.getfield 9, 3) := by decide +kernel
theorem dX4_copyFrom_12 : decode cX4_copyFrom 12 = .ok (.iconst 0, 1) := by decide +kernel
theorem dX4_copyFrom_13 : decode cX4_copyFrom 13 = .ok (.aload_n 0, 1) := by decide +kernel
theorem dX4_copyFrom_14 : decode cX4_copyFrom 14 = .ok (.getfield 9, 3) := by decide +kernel
theorem dX4_copyFrom_17 : decode cX4_copyFrom 17 = .ok (.iconst 0, 1) := by decide +kernel
theorem dX4_copyFrom_18 : decode cX4_copyFrom 18 = .ok (.aload_n 0, 1) := by decide +kernel
theorem dX4_copyFrom_19 : decode cX4_copyFrom 19 = .ok (.getfield 24, 3) := by decide +kernel
theorem dX4_copyFrom_22 : decode cX4_copyFrom 22 = .ok (.invokestatic 28, 3) := by decide +kernel
theorem dX4_copyFrom_25 : decode cX4_copyFrom 25 = .ok (.aload_n 1, 1) := by decide +kernel
theorem dX4_copyFrom_26 : decode cX4_copyFrom 26 = .ok (.getfield 15, 3) := by decide +kernel
theorem dX4_copyFrom_29 : decode cX4_copyFrom 29 = .ok (.iconst 0, 1) := by decide +kernel
theorem dX4_copyFrom_30 : decode cX4_copyFrom 30 = .ok (.aload_n 0, 1) := by decide +kernel
theorem dX4_copyFrom_31 : decode cX4_copyFrom 31 = .ok (.getfield 15, 3) := by decide +kernel
theorem dX4_copyFrom_34 : decode cX4_copyFrom 34 = .ok (.iconst 0, 1) := by decide +kernel
theorem dX4_copyFrom_35 : decode cX4_copyFrom 35 = .ok (.aload_n 0, 1) := by decide +kernel
theorem dX4_copyFrom_36 : decode cX4_copyFrom 36 = .ok (.getfield 24, 3) := by decide +kernel
theorem dX4_copyFrom_39 : decode cX4_copyFrom 39 = .ok (.invokestatic 28, 3) := by decide +kernel
theorem dX4_copyFrom_42 : decode cX4_copyFrom 42 = .ok (.aload_n 1, 1) := by decide +kernel
theorem dX4_copyFrom_43 : decode cX4_copyFrom 43 = .ok (.getfield 18, 3) := by decide +kernel
theorem dX4_copyFrom_46 : decode cX4_copyFrom 46 = .ok (.iconst 0, 1) := by decide +kernel
theorem dX4_copyFrom_47 : decode cX4_copyFrom 47 = .ok (.aload_n 0, 1) := by decide +kernel
theorem dX4_copyFrom_48 : decode cX4_copyFrom 48 = .ok (.getfield 18, 3) := by decide +kernel
theorem dX4_copyFrom_51 : decode cX4_copyFrom 51 = .ok (.iconst 0, 1) := by decide +kernel
theorem dX4_copyFrom_52 : decode cX4_copyFrom 52 = .ok (.aload_n 0, 1) := by decide +kernel
theorem dX4_copyFrom_53 : decode cX4_copyFrom 53 = .ok (.getfield 24, 3) := by decide +kernel
theorem dX4_copyFrom_56 : decode cX4_copyFrom 56 = .ok (.invokestatic 28, 3) := by decide +kernel
theorem dX4_copyFrom_59 : decode cX4_copyFrom 59 = .ok (.return_, 1) := by decide +kernel
theorem dX4_rankOf_0 : decode cX4_rankOf 0 = .ok (.iconst 0, 1) := by decide +kernel
theorem dX4_rankOf_1 : decode cX4_rankOf 1 = .ok (.istore_n 2, 1) := by decide +kernel
theorem dX4_rankOf_2 : decode cX4_rankOf 2 = .ok (.sipush 256, 3) := by decide +kernel
theorem dX4_rankOf_5 : decode cX4_rankOf 5 = .ok (.istore_n 3, 1) := by decide +kernel
theorem dX4_rankOf_6 : decode cX4_rankOf 6 = .ok (.iload_n 3, 1) := by decide +kernel
theorem dX4_rankOf_7 : decode cX4_rankOf 7 = .ok (.ifCond .le 38, 3) := by decide +kernel
theorem dX4_rankOf_10 : decode cX4_rankOf 10 = .ok (.iload_n 2, 1) := by decide +kernel
theorem dX4_rankOf_11 : decode cX4_rankOf 11 = .ok (.iload_n 3, 1) := by decide +kernel
theorem dX4_rankOf_12 : decode cX4_rankOf 12 = .ok (.iadd, 1) := by decide +kernel
theorem dX4_rankOf_13 : decode cX4_rankOf 13 = .ok (.aload_n 0, 1) := by decide +kernel
theorem dX4_rankOf_14 : decode cX4_rankOf 14 = .ok (.getfield 24, 3) := by decide +kernel
theorem dX4_rankOf_17 : decode cX4_rankOf 17 = .ok (.if_icmp .gt 21, 3) := by decide +kernel
theorem dX4_rankOf_20 : decode cX4_rankOf 20 = .ok (.aload_n 0, 1) := by decide +kernel
theorem dX4_rankOf_21 : decode cX4_rankOf 21 = .ok (.getfield 15, 3) := by decide +kernel
theorem dX4_rankOf_24 : decode cX4_rankOf 24 = .ok (.iload_n 2, 1) := by decide +kernel
theorem dX4_rankOf_25 : decode cX4_rankOf 25 = .ok (.iload_n 3, 1) := by decide +kernel
theorem dX4_rankOf_26 : decode cX4_rankOf 26 = .ok (.iadd, 1) := by decide +kernel
theorem dX4_rankOf_27 : decode cX4_rankOf 27 = .ok (.iconst 1, 1) := by decide +kernel
theorem dX4_rankOf_28 : decode cX4_rankOf 28 = .ok (.isub, 1) := by decide +kernel
theorem dX4_rankOf_29 : decode cX4_rankOf 29 = .ok (.iaload, 1) := by decide +kernel
theorem dX4_rankOf_30 : decode cX4_rankOf 30 = .ok (.iload_n 1, 1) := by decide +kernel
theorem dX4_rankOf_31 : decode cX4_rankOf 31 = .ok (.if_icmp .ge 7, 3) := by decide +kernel
theorem dX4_rankOf_34 : decode cX4_rankOf 34 = .ok (.iload_n 2, 1) := by decide +kernel
theorem dX4_rankOf_35 : decode cX4_rankOf 35 = .ok (.iload_n 3, 1) := by decide +kernel
theorem dX4_rankOf_36 : decode cX4_rankOf 36 = .ok (.iadd, 1) := by decide +kernel
theorem dX4_rankOf_37 : decode cX4_rankOf 37 = .ok (.istore_n 2, 1) := by decide +kernel
theorem dX4_rankOf_38 : decode cX4_rankOf 38 = .ok (.iload_n 3, 1) := by decide +kernel
theorem dX4_rankOf_39 : decode cX4_rankOf 39 = .ok (.iconst 2, 1) := by decide +kernel
theorem dX4_rankOf_40 : decode cX4_rankOf 40 = .ok (.idiv, 1) := by decide +kernel
theorem dX4_rankOf_41 : decode cX4_rankOf 41 = .ok (.istore_n 3, 1) := by decide +kernel
theorem dX4_rankOf_42 : decode cX4_rankOf 42 = .ok (.goto (-36), 3) := by decide +kernel
theorem dX4_rankOf_45 : decode cX4_rankOf 45 = .ok (.iload_n 2, 1) := by decide +kernel
theorem dX4_rankOf_46 : decode cX4_rankOf 46 = .ok (.ireturn, 1) := by decide +kernel
theorem dX4_insert_0 : decode cX4_insert 0 = .ok (.aload_n 0, 1) := by decide +kernel
theorem dX4_insert_1 : decode cX4_insert 1 = .ok (.invokevirtual 34, 3) := by decide +kernel
theorem dX4_insert_4 : decode cX4_insert 4 = .ok (.ifCond .eq 4, 3) := by decide +kernel
theorem dX4_insert_7 : decode cX4_insert 7 = .ok (.return_, 1) := by decide +kernel
theorem dX4_insert_8 : decode cX4_insert 8 = .ok (.aload_n 0, 1) := by decide +kernel
theorem dX4_insert_9 : decode cX4_insert 9 = .ok (.iload_n 2, 1) := by decide +kernel
theorem dX4_insert_10 : decode cX4_insert 10 = .ok (.invokevirtual 38, 3) := by decide +kernel
theorem dX4_insert_13 : decode cX4_insert 13 = .ok (.istore 4, 2) := by decide +kernel
theorem dX4_insert_15 : decode cX4_insert 15 = .ok (.iload 4, 2) := by decide +kernel
theorem dX4_insert_17 : decode cX4_insert 17 = .ok (.aload_n 0, 1) := by decide +kernel
theorem dX4_insert_18 : decode cX4_insert 18 = .ok (.getfield 24, 3) := by decide +kernel
theorem dX4_insert_21 : decode cX4_insert 21 = .ok (.if_icmp .ge 31, 3) := by decide +kernel
theorem dX4_insert_24 : decode cX4_insert 24 = .ok (.aload_n 0, 1) := by decide +kernel
theorem dX4_insert_25 : decode cX4_insert 25 = .ok (.getfield 15, 3) := by decide +kernel
theorem dX4_insert_28 : decode cX4_insert 28 = .ok (.iload 4, 2) := by decide +kernel
theorem dX4_insert_30 : decode cX4_insert 30 = .ok (.iaload, 1) := by decide +kernel
theorem dX4_insert_31 : decode cX4_insert 31 = .ok (.iload_n 2, 1) := by decide +kernel
theorem dX4_insert_32 : decode cX4_insert 32 = .ok (.if_icmp .ne 20, 3) := by decide +kernel
theorem dX4_insert_35 : decode cX4_insert 35 = .ok (.aload_n 0, 1) := by decide +kernel
theorem dX4_insert_36 : decode cX4_insert 36 = .ok (.getfield 9, 3) := by decide +kernel
theorem dX4_insert_39 : decode cX4_insert 39 = .ok (.iload 4, 2) := by decide +kernel
theorem dX4_insert_41 : decode cX4_insert 41 = .ok (.iaload, 1) := by decide +kernel
theorem dX4_insert_42 : decode cX4_insert 42 = .ok (.iload_n 1, 1) := by decide +kernel
theorem dX4_insert_43 : decode cX4_insert 43 = .ok (.if_icmp .ge 9, 3) := by decide +kernel
theorem dX4_insert_46 : decode cX4_insert 46 = .ok (.iinc 4 1, 3) := by decide +kernel
theorem dX4_insert_49 : decode cX4_insert 49 = .ok (.goto (-34), 3) := by decide +kernel
theorem dX4_insert_52 : decode cX4_insert 52 = .ok (.aload_n 0, 1) := by decide +kernel
theorem dX4_insert_53 : decode cX4_insert 53 = .ok (.getfield 9, 3) := by decide +kernel
theorem dX4_insert_56 : decode cX4_insert 56 = .ok (.iload 4, 2) := by decide +kernel
theorem dX4_insert_58 : decode cX4_insert 58 = .ok (.aload_n 0, 1) := by decide +kernel
theorem dX4_insert_59 : decode cX4_insert 59 = .ok (.getfield 9, 3) := by decide +kernel
theorem dX4_insert_62 : decode cX4_insert 62 = .ok (.iload 4, 2) := by decide +kernel
theorem dX4_insert_64 : decode cX4_insert 64 = .ok (.iconst 1, 1) := by decide +kernel
theorem dX4_insert_65 : decode cX4_insert 65 = .ok (.iadd, 1) := by decide +kernel
theorem dX4_insert_66 : decode cX4_insert 66 = .ok (.aload_n 0, 1) := by decide +kernel
theorem dX4_insert_67 : decode cX4_insert 67 = .ok (.getfield 24, 3) := by decide +kernel
theorem dX4_insert_70 : decode cX4_insert 70 = .ok (.iload 4, 2) := by decide +kernel
theorem dX4_insert_72 : decode cX4_insert 72 = .ok (.isub, 1) := by decide +kernel
theorem dX4_insert_73 : decode cX4_insert 73 = .ok (.invokestatic 28, 3) := by decide +kernel
theorem dX4_insert_76 : decode cX4_insert 76 = .ok (.aload_n 0, 1) := by decide +kernel
theorem dX4_insert_77 : decode cX4_insert 77 = .ok (.getfield 15, 3) := by decide +kernel
theorem dX4_insert_80 : decode cX4_insert 80 = .ok (.iload 4, 2) := by decide +kernel
theorem dX4_insert_82 : decode cX4_insert 82 = .ok (.aload_n 0, 1) := by decide +kernel
theorem dX4_insert_83 : decode cX4_insert 83 = .ok (.getfield 15, 3) := by decide +kernel
theorem dX4_insert_86 : decode cX4_insert 86 = .ok (.iload 4, 2) := by decide +kernel
theorem dX4_insert_88 : decode cX4_insert 88 = .ok (.iconst 1, 1) := by decide +kernel
theorem dX4_insert_89 : decode cX4_insert 89 = .ok (.iadd, 1) := by decide +kernel
theorem dX4_insert_90 : decode cX4_insert 90 = .ok (.aload_n 0, 1) := by decide +kernel
theorem dX4_insert_91 : decode cX4_insert 91 = .ok (.getfield 24, 3) := by decide +kernel
theorem dX4_insert_94 : decode cX4_insert 94 = .ok (.iload 4, 2) := by decide +kernel
theorem dX4_insert_96 : decode cX4_insert 96 = .ok (.isub, 1) := by decide +kernel
theorem dX4_insert_97 : decode cX4_insert 97 = .ok (.invokestatic 28, 3) := by decide +kernel
theorem dX4_insert_100 : decode cX4_insert 100 = .ok (.aload_n 0, 1) := by decide +kernel
theorem dX4_insert_101 : decode cX4_insert 101 = .ok (.getfield 18, 3) := by decide +kernel
theorem dX4_insert_104 : decode cX4_insert 104 = .ok (.iload 4, 2) := by decide +kernel
theorem dX4_insert_106 : decode cX4_insert 106 = .ok (.aload_n 0, 1) := by decide +kernel
theorem dX4_insert_107 : decode cX4_insert 107 = .ok (.getfield 18, 3) := by decide +kernel
theorem dX4_insert_110 : decode cX4_insert 110 = .ok (.iload 4, 2) := by decide +kernel
theorem dX4_insert_112 : decode cX4_insert 112 = .ok (.iconst 1, 1) := by decide +kernel
theorem dX4_insert_113 : decode cX4_insert 113 = .ok (.iadd, 1) := by decide +kernel
theorem dX4_insert_114 : decode cX4_insert 114 = .ok (.aload_n 0, 1) := by decide +kernel
theorem dX4_insert_115 : decode cX4_insert 115 = .ok (.getfield 24, 3) := by decide +kernel
theorem dX4_insert_118 : decode cX4_insert 118 = .ok (.iload 4, 2) := by decide +kernel
theorem dX4_insert_120 : decode cX4_insert 120 = .ok (.isub, 1) := by decide +kernel
theorem dX4_insert_121 : decode cX4_insert 121 = .ok (.invokestatic 28, 3) := by decide +kernel
theorem dX4_insert_124 : decode cX4_insert 124 = .ok (.aload_n 0, 1) := by decide +kernel
theorem dX4_insert_125 : decode cX4_insert 125 = .ok (.getfield 9, 3) := by decide +kernel
theorem dX4_insert_128 : decode cX4_insert 128 = .ok (.iload 4, 2) := by decide +kernel
theorem dX4_insert_130 : decode cX4_insert 130 = .ok (.iload_n 1, 1) := by decide +kernel
theorem dX4_insert_131 : decode cX4_insert 131 = .ok (.iastore, 1) := by decide +kernel
theorem dX4_insert_132 : decode cX4_insert 132 = .ok (.aload_n 0, 1) := by decide +kernel
theorem dX4_insert_133 : decode cX4_insert 133 = .ok (.getfield 15, 3) := by decide +kernel
theorem dX4_insert_136 : decode cX4_insert 136 = .ok (.iload 4, 2) := by decide +kernel
theorem dX4_insert_138 : decode cX4_insert 138 = .ok (.iload_n 2, 1) := by decide +kernel
theorem dX4_insert_139 : decode cX4_insert 139 = .ok (.iastore, 1) := by decide +kernel
theorem dX4_insert_140 : decode cX4_insert 140 = .ok (.aload_n 0, 1) := by decide +kernel
theorem dX4_insert_141 : decode cX4_insert 141 = .ok (.getfield 18, 3) := by decide +kernel
theorem dX4_insert_144 : decode cX4_insert 144 = .ok (.iload 4, 2) := by decide +kernel
theorem dX4_insert_146 : decode cX4_insert 146 = .ok (.iload_n 3, 1) := by decide +kernel
theorem dX4_insert_147 : decode cX4_insert 147 = .ok (.iastore, 1) := by decide +kernel
theorem dX4_insert_148 : decode cX4_insert 148 = .ok (.aload_n 0, 1) := by decide +kernel
theorem dX4_insert_149 : decode cX4_insert 149 = .ok (.dup, 1) := by decide +kernel
theorem dX4_insert_150 : decode cX4_insert 150 = .ok (.getfield 24, 3) := by decide +kernel
theorem dX4_insert_153 : decode cX4_insert 153 = .ok (.iconst 1, 1) := by decide +kernel
theorem dX4_insert_154 : decode cX4_insert 154 = .ok (.iadd, 1) := by decide +kernel
theorem dX4_insert_155 : decode cX4_insert 155 = .ok (.putfield 24, 3) := by decide +kernel
theorem dX4_insert_158 : decode cX4_insert 158 = .ok (.return_, 1) := by decide +kernel
theorem dX4_removeAt_0 : decode cX4_removeAt 0 = .ok (.iload_n 1, 1) := by decide +kernel
theorem dX4_removeAt_1 : decode cX4_removeAt 1 = .ok (.ifCond .lt 11, 3) := by decide +kernel
theorem dX4_removeAt_4 : decode cX4_removeAt 4 = .ok (.iload_n 1, 1) := by decide +kernel
theorem dX4_removeAt_5 : decode cX4_removeAt 5 = .ok (.aload_n 0, 1) := by decide +kernel
theorem dX4_removeAt_6 : decode cX4_removeAt 6 = .ok (.getfield 24, 3) := by decide +kernel
theorem dX4_removeAt_9 : decode cX4_removeAt 9 = .ok (.if_icmp .lt 4, 3) := by decide +kernel
theorem dX4_removeAt_12 : decode cX4_removeAt 12 = .ok (.return_, 1) := by decide +kernel
theorem dX4_removeAt_13 : decode cX4_removeAt 13 = .ok (.aload_n 0, 1) := by decide +kernel
theorem dX4_removeAt_14 : decode cX4_removeAt 14 = .ok (.dup, 1) := by decide +kernel
theorem dX4_removeAt_15 : decode cX4_removeAt 15 = .ok (.getfield 24, 3) := by decide +kernel
theorem dX4_removeAt_18 : decode cX4_removeAt 18 = .ok (.iconst 1, 1) := by decide +kernel
theorem dX4_removeAt_19 : decode cX4_removeAt 19 = .ok (.isub, 1) := by decide +kernel
theorem dX4_removeAt_20 : decode cX4_removeAt 20 = .ok (.putfield 24, 3) := by decide +kernel
theorem dX4_removeAt_23 : decode cX4_removeAt 23 = .ok (.aload_n 0, 1) := by decide +kernel
theorem dX4_removeAt_24 : decode cX4_removeAt 24 = .ok (.getfield 9, 3) := by decide +kernel
theorem dX4_removeAt_27 : decode cX4_removeAt 27 = .ok (.iload_n 1, 1) := by decide +kernel
theorem dX4_removeAt_28 : decode cX4_removeAt 28 = .ok (.iconst 1, 1) := by decide +kernel
theorem dX4_removeAt_29 : decode cX4_removeAt 29 = .ok (.iadd, 1) := by decide +kernel
theorem dX4_removeAt_30 : decode cX4_removeAt 30 = .ok (.aload_n 0, 1) := by decide +kernel
theorem dX4_removeAt_31 : decode cX4_removeAt 31 = .ok (.getfield 9, 3) := by decide +kernel
theorem dX4_removeAt_34 : decode cX4_removeAt 34 = .ok (.iload_n 1, 1) := by decide +kernel
theorem dX4_removeAt_35 : decode cX4_removeAt 35 = .ok (.aload_n 0, 1) := by decide +kernel
theorem dX4_removeAt_36 : decode cX4_removeAt 36 = .ok (.getfield 24, 3) := by decide +kernel
theorem dX4_removeAt_39 : decode cX4_removeAt 39 = .ok (.iload_n 1, 1) := by decide +kernel
theorem dX4_removeAt_40 : decode cX4_removeAt 40 = .ok (.isub, 1) := by decide +kernel
theorem dX4_removeAt_41 : decode cX4_removeAt 41 = .ok (.invokestatic 28, 3) := by decide +kernel
theorem dX4_removeAt_44 : decode cX4_removeAt 44 = .ok (.aload_n 0, 1) := by decide +kernel
theorem dX4_removeAt_45 : decode cX4_removeAt 45 = .ok (.getfield 15, 3) := by decide +kernel
theorem dX4_removeAt_48 : decode cX4_removeAt 48 = .ok (.iload_n 1, 1) := by decide +kernel
theorem dX4_removeAt_49 : decode cX4_removeAt 49 = .ok (.iconst 1, 1) := by decide +kernel
theorem dX4_removeAt_50 : decode cX4_removeAt 50 = .ok (.iadd, 1) := by decide +kernel
theorem dX4_removeAt_51 : decode cX4_removeAt 51 = .ok (.aload_n 0, 1) := by decide +kernel
theorem dX4_removeAt_52 : decode cX4_removeAt 52 = .ok (.getfield 15, 3) := by decide +kernel
theorem dX4_removeAt_55 : decode cX4_removeAt 55 = .ok (.iload_n 1, 1) := by decide +kernel
theorem dX4_removeAt_56 : decode cX4_removeAt 56 = .ok (.aload_n 0, 1) := by decide +kernel
theorem dX4_removeAt_57 : decode cX4_removeAt 57 = .ok (.getfield 24, 3) := by decide +kernel
theorem dX4_removeAt_60 : decode cX4_removeAt 60 = .ok (.iload_n 1, 1) := by decide +kernel
theorem dX4_removeAt_61 : decode cX4_removeAt 61 = .ok (.isub, 1) := by decide +kernel
theorem dX4_removeAt_62 : decode cX4_removeAt 62 = .ok (.invokestatic 28, 3) := by decide +kernel
theorem dX4_removeAt_65 : decode cX4_removeAt 65 = .ok (.aload_n 0, 1) := by decide +kernel
theorem dX4_removeAt_66 : decode cX4_removeAt 66 = .ok (.getfield 18, 3) := by decide +kernel
theorem dX4_removeAt_69 : decode cX4_removeAt 69 = .ok (.iload_n 1, 1) := by decide +kernel
theorem dX4_removeAt_70 : decode cX4_removeAt 70 = .ok (.iconst 1, 1) := by decide +kernel
theorem dX4_removeAt_71 : decode cX4_removeAt 71 = .ok (.iadd, 1) := by decide +kernel
theorem dX4_removeAt_72 : decode cX4_removeAt 72 = .ok (.aload_n 0, 1) := by decide +kernel
theorem dX4_removeAt_73 : decode cX4_removeAt 73 = .ok (.getfield 18, 3) := by decide +kernel
theorem dX4_removeAt_76 : decode cX4_removeAt 76 = .ok (.iload_n 1, 1) := by decide +kernel
theorem dX4_removeAt_77 : decode cX4_removeAt 77 = .ok (.aload_n 0, 1) := by decide +kernel
theorem dX4_removeAt_78 : decode cX4_removeAt 78 = .ok (.getfield 24, 3) := by decide +kernel
theorem dX4_removeAt_81 : decode cX4_removeAt 81 = .ok (.iload_n 1, 1) := by decide +kernel
theorem dX4_removeAt_82 : decode cX4_removeAt 82 = .ok (.isub, 1) := by decide +kernel
theorem dX4_removeAt_83 : decode cX4_removeAt 83 = .ok (.invokestatic 28, 3) := by decide +kernel
theorem dX4_removeAt_86 : decode cX4_removeAt 86 = .ok (.return_, 1) := by decide +kernel
theorem dX4_indexOf_0 : decode cX4_indexOf 0 = .ok (.iconst 0, 1) := by decide +kernel
theorem dX4_indexOf_1 : decode cX4_indexOf 1 = .ok (.istore_n 3, 1) := by decide +kernel
theorem dX4_indexOf_2 : decode cX4_indexOf 2 = .ok (.iload_n 3, 1) := by decide +kernel
theorem dX4_indexOf_3 : decode cX4_indexOf 3 = .ok (.aload_n 0, 1) := by decide +kernel
theorem dX4_indexOf_4 : decode cX4_indexOf 4 = .ok (.getfield 24, 3) := by decide +kernel
theorem dX4_indexOf_7 : decode cX4_indexOf 7 = .ok (.if_icmp .ge 31, 3) := by decide +kernel
theorem dX4_indexOf_10 : decode cX4_indexOf 10 = .ok (.aload_n 0, 1) := by decide +kernel
theorem dX4_indexOf_11 : decode cX4_indexOf 11 = .ok (.getfield 9, 3) := by decide +kernel
theorem dX4_indexOf_14 : decode cX4_indexOf 14 = .ok (.iload_n 3, 1) := by decide +kernel
theorem dX4_indexOf_15 : decode cX4_indexOf 15 = .ok (.iaload, 1) := by decide +kernel
theorem dX4_indexOf_16 : decode cX4_indexOf 16 = .ok (.iload_n 1, 1) := by decide +kernel
theorem dX4_indexOf_17 : decode cX4_indexOf 17 = .ok (.if_icmp .ne 15, 3) := by decide +kernel
theorem dX4_indexOf_20 : decode cX4_indexOf 20 = .ok (.aload_n 0, 1) := by decide +kernel
theorem dX4_indexOf_21 : decode cX4_indexOf 21 = .ok (.getfield 18, 3) := by decide +kernel
theorem dX4_indexOf_24 : decode cX4_indexOf 24 = .ok (.iload_n 3, 1) := by decide +kernel
theorem dX4_indexOf_25 : decode cX4_indexOf 25 = .ok (.iaload, 1) := by decide +kernel
theorem dX4_indexOf_26 : decode cX4_indexOf 26 = .ok (.iload_n 2, 1) := by decide +kernel
theorem dX4_indexOf_27 : decode cX4_indexOf 27 = .ok (.if_icmp .ne 5, 3) := by decide +kernel
theorem dX4_indexOf_30 : decode cX4_indexOf 30 = .ok (.iload_n 3, 1) := by decide +kernel
theorem dX4_indexOf_31 : decode cX4_indexOf 31 = .ok (.ireturn, 1) := by decide +kernel
theorem dX4_indexOf_32 : decode cX4_indexOf 32 = .ok (.iinc 3 1, 3) := by decide +kernel
theorem dX4_indexOf_35 : decode cX4_indexOf 35 = .ok (.goto (-33), 3) := by decide +kernel
theorem dX4_indexOf_38 : decode cX4_indexOf 38 = .ok (.iconst (-1), 1) := by decide +kernel
theorem dX4_indexOf_39 : decode cX4_indexOf 39 = .ok (.ireturn, 1) := by decide +kernel
theorem dX4_firstTimeOf_0 : decode cX4_firstTimeOf 0 = .ok (.iconst 0, 1) := by decide +kernel
theorem dX4_firstTimeOf_1 : decode cX4_firstTimeOf 1 = .ok (.istore_n 2, 1) := by decide +kernel
theorem dX4_firstTimeOf_2 : decode cX4_firstTimeOf 2 = .ok (.iload_n 2, 1) := by decide +kernel
theorem dX4_firstTimeOf_3 : decode cX4_firstTimeOf 3 = .ok (.aload_n 0, 1) := by decide +kernel
theorem dX4_firstTimeOf_4 : decode cX4_firstTimeOf 4 = .ok (.getfield 24, 3) := by decide +kernel
theorem dX4_firstTimeOf_7 : decode cX4_firstTimeOf 7 = .ok (.if_icmp .ge 26, 3) := by decide +kernel
theorem dX4_firstTimeOf_10 : decode cX4_firstTimeOf 10 = .ok (.aload_n 0, 1) := by decide +kernel
theorem dX4_firstTimeOf_11 : decode cX4_firstTimeOf 11 = .ok (.getfield 9, 3) := by decide +kernel
theorem dX4_firstTimeOf_14 : decode cX4_firstTimeOf 14 = .ok (.iload_n 2, 1) := by decide +kernel
theorem dX4_firstTimeOf_15 : decode cX4_firstTimeOf 15 = .ok (.iaload, 1) := by decide +kernel
theorem dX4_firstTimeOf_16 : decode cX4_firstTimeOf 16 = .ok (.iload_n 1, 1) := by decide +kernel
theorem dX4_firstTimeOf_17 : decode cX4_firstTimeOf 17 = .ok (.if_icmp .ne 10, 3) := by decide +kernel
theorem dX4_firstTimeOf_20 : decode cX4_firstTimeOf 20 = .ok (.aload_n 0, 1) := by decide +kernel
theorem dX4_firstTimeOf_21 : decode cX4_firstTimeOf 21 = .ok (.getfield 18, 3) := by decide +kernel
theorem dX4_firstTimeOf_24 : decode cX4_firstTimeOf 24 = .ok (.iload_n 2, 1) := by decide +kernel
theorem dX4_firstTimeOf_25 : decode cX4_firstTimeOf 25 = .ok (.iaload, 1) := by decide +kernel
theorem dX4_firstTimeOf_26 : decode cX4_firstTimeOf 26 = .ok (.ireturn, 1) := by decide +kernel
theorem dX4_firstTimeOf_27 : decode cX4_firstTimeOf 27 = .ok (.iinc 2 1, 3) := by decide +kernel
theorem dX4_firstTimeOf_30 : decode cX4_firstTimeOf 30 = .ok (.goto (-28), 3) := by decide +kernel
theorem dX4_firstTimeOf_33 : decode cX4_firstTimeOf 33 = .ok (.iconst (-1), 1) := by decide +kernel
theorem dX4_firstTimeOf_34 : decode cX4_firstTimeOf 34 = .ok (.ireturn, 1) := by decide +kernel
theorem dX4_movingAt_0 : decode cX4_movingAt 0 = .ok (.iconst 0, 1) := by decide +kernel
theorem dX4_movingAt_1 : decode cX4_movingAt 1 = .ok (.istore_n 2, 1) := by decide +kernel
theorem dX4_movingAt_2 : decode cX4_movingAt 2 = .ok (.iconst 0, 1) := by decide +kernel
theorem dX4_movingAt_3 : decode cX4_movingAt 3 = .ok (.istore_n 3, 1) := by decide +kernel
theorem dX4_movingAt_4 : decode cX4_movingAt 4 = .ok (.iload_n 3, 1) := by decide +kernel
theorem dX4_movingAt_5 : decode cX4_movingAt 5 = .ok (.aload_n 0, 1) := by decide +kernel
theorem dX4_movingAt_6 : decode cX4_movingAt 6 = .ok (.getfield 24, 3) := by decide +kernel
theorem dX4_movingAt_9 : decode cX4_movingAt 9 = .ok (.if_icmp .ge 32, 3) := by decide +kernel
theorem dX4_movingAt_12 : decode cX4_movingAt 12 = .ok (.aload_n 0, 1) := by decide +kernel
theorem dX4_movingAt_13 : decode cX4_movingAt 13 = .ok (.getfield 15, 3) := by decide +kernel
theorem dX4_movingAt_16 : decode cX4_movingAt 16 = .ok (.iload_n 3, 1) := by decide +kernel
theorem dX4_movingAt_17 : decode cX4_movingAt 17 = .ok (.iaload, 1) := by decide +kernel
theorem dX4_movingAt_18 : decode cX4_movingAt 18 = .ok (.iload_n 1, 1) := by decide +kernel
theorem dX4_movingAt_19 : decode cX4_movingAt 19 = .ok (.if_icmp .gt 22, 3) := by decide +kernel
theorem dX4_movingAt_22 : decode cX4_movingAt 22 = .ok (.aload_n 0, 1) := by decide +kernel
theorem dX4_movingAt_23 : decode cX4_movingAt 23 = .ok (.getfield 18, 3) := by decide +kernel
theorem dX4_movingAt_26 : decode cX4_movingAt 26 = .ok (.iload_n 3, 1) := by decide +kernel
theorem dX4_movingAt_27 : decode cX4_movingAt 27 = .ok (.iaload, 1) := by decide +kernel
theorem dX4_movingAt_28 : decode cX4_movingAt 28 = .ok (.iload_n 1, 1) := by decide +kernel
theorem dX4_movingAt_29 : decode cX4_movingAt 29 = .ok (.if_icmp .le 6, 3) := by decide +kernel
theorem dX4_movingAt_32 : decode cX4_movingAt 32 = .ok (.iinc 2 1, 3) := by decide +kernel
theorem dX4_movingAt_35 : decode cX4_movingAt 35 = .ok (.iinc 3 1, 3) := by decide +kernel
theorem dX4_movingAt_38 : decode cX4_movingAt 38 = .ok (.goto (-34), 3) := by decide +kernel
theorem dX4_movingAt_41 : decode cX4_movingAt 41 = .ok (.iload_n 2, 1) := by decide +kernel
theorem dX4_movingAt_42 : decode cX4_movingAt 42 = .ok (.ireturn, 1) := by decide +kernel
theorem dX4_takeSounding_0 : decode cX4_takeSounding 0 = .ok (.iconst 0, 1) := by decide +kernel
theorem dX4_takeSounding_1 : decode cX4_takeSounding 1 = .ok (.istore_n 2, 1) := by decide +kernel
theorem dX4_takeSounding_2 : decode cX4_takeSounding 2 = .ok (.iconst 0, 1) := by decide +kernel
theorem dX4_takeSounding_3 : decode cX4_takeSounding 3 = .ok (.istore_n 3, 1) := by decide +kernel
theorem dX4_takeSounding_4 : decode cX4_takeSounding 4 = .ok (.iload_n 3, 1) := by decide +kernel
theorem dX4_takeSounding_5 : decode cX4_takeSounding 5 = .ok (.aload_n 0, 1) := by decide +kernel
theorem dX4_takeSounding_6 : decode cX4_takeSounding 6 = .ok (.getfield 24, 3) := by decide +kernel
theorem dX4_takeSounding_9 : decode cX4_takeSounding 9 = .ok (.if_icmp .ge 19, 3) := by decide +kernel
theorem dX4_takeSounding_12 : decode cX4_takeSounding 12 = .ok (.aload_n 0, 1) := by decide +kernel
theorem dX4_takeSounding_13 : decode cX4_takeSounding 13 = .ok (.getfield 15, 3) := by decide +kernel
theorem dX4_takeSounding_16 : decode cX4_takeSounding 16 = .ok (.iload_n 3, 1) := by decide +kernel
theorem dX4_takeSounding_17 : decode cX4_takeSounding 17 = .ok (.iaload, 1) := by decide +kernel
theorem dX4_takeSounding_18 : decode cX4_takeSounding 18 = .ok (.iload_n 1, 1) := by decide +kernel
theorem dX4_takeSounding_19 : decode cX4_takeSounding 19 = .ok (.if_icmp .ge 9, 3) := by decide +kernel
theorem dX4_takeSounding_22 : decode cX4_takeSounding 22 = .ok (.iinc 3 1, 3) := by decide +kernel
theorem dX4_takeSounding_25 : decode cX4_takeSounding 25 = .ok (.goto (-21), 3) := by decide +kernel
theorem dX4_takeSounding_28 : decode cX4_takeSounding 28 = .ok (.iload_n 3, 1) := by decide +kernel
theorem dX4_takeSounding_29 : decode cX4_takeSounding 29 = .ok (.iconst 1, 1) := by decide +kernel
theorem dX4_takeSounding_30 : decode cX4_takeSounding 30 = .ok (.isub, 1) := by decide +kernel
theorem dX4_takeSounding_31 : decode cX4_takeSounding 31 = .ok (.istore 4, 2) := by decide +kernel
theorem dX4_takeSounding_33 : decode cX4_takeSounding 33 = .ok (.iload 4, 2) := by decide +kernel
theorem dX4_takeSounding_35 : decode cX4_takeSounding 35 = .ok (.ifCond .lt 38, 3) := by decide +kernel
theorem dX4_takeSounding_38 : decode cX4_takeSounding 38 = .ok (.aload_n 0, 1) := by decide +kernel
theorem dX4_takeSounding_39 : decode cX4_takeSounding 39 = .ok (.getfield 18, 3) := by decide +kernel
theorem dX4_takeSounding_42 : decode cX4_takeSounding 42 = .ok (.iload 4, 2) := by decide +kernel
theorem dX4_takeSounding_44 : decode cX4_takeSounding 44 = .ok (.iaload, 1) := by decide +kernel
theorem dX4_takeSounding_45 : decode cX4_takeSounding 45 = .ok (.iload_n 1, 1) := by decide +kernel
theorem dX4_takeSounding_46 : decode cX4_takeSounding 46 = .ok (.if_icmp .ne 21, 3) := by decide +kernel
theorem dX4_takeSounding_49 : decode cX4_takeSounding 49 = .ok (.iload_n 2, 1) := by decide +kernel
theorem dX4_takeSounding_50 : decode cX4_takeSounding 50 = .ok (.iconst 1, 1) := by decide +kernel
theorem dX4_takeSounding_51 : decode cX4_takeSounding 51 = .ok (.aload_n 0, 1) := by decide +kernel
theorem dX4_takeSounding_52 : decode cX4_takeSounding 52 = .ok (.getfield 9, 3) := by decide +kernel
theorem dX4_takeSounding_55 : decode cX4_takeSounding 55 = .ok (.iload 4, 2) := by decide +kernel
theorem dX4_takeSounding_57 : decode cX4_takeSounding 57 = .ok (.iaload, 1) := by decide +kernel
theorem dX4_takeSounding_58 : decode cX4_takeSounding 58 = .ok (.ishl, 1) := by decide +kernel
theorem dX4_takeSounding_59 : decode cX4_takeSounding 59 = .ok (.ior, 1) := by decide +kernel
theorem dX4_takeSounding_60 : decode cX4_takeSounding 60 = .ok (.istore_n 2, 1) := by decide +kernel
theorem dX4_takeSounding_61 : decode cX4_takeSounding 61 = .ok (.aload_n 0, 1) := by decide +kernel
theorem dX4_takeSounding_62 : decode cX4_takeSounding 62 = .ok (.iload 4, 2) := by decide +kernel
theorem dX4_takeSounding_64 : decode cX4_takeSounding 64 = .ok (.invokevirtual 42, 3) := by decide +kernel
theorem dX4_takeSounding_67 : decode cX4_takeSounding 67 = .ok (.iinc 4 (-1), 3) := by decide +kernel
theorem dX4_takeSounding_70 : decode cX4_takeSounding 70 = .ok (.goto (-37), 3) := by decide +kernel
theorem dX4_takeSounding_73 : decode cX4_takeSounding 73 = .ok (.iload_n 2, 1) := by decide +kernel
theorem dX4_takeSounding_74 : decode cX4_takeSounding 74 = .ok (.ireturn, 1) := by decide +kernel
theorem dX4_clashes_0 : decode cX4_clashes 0 = .ok (.iload_n 1, 1) := by decide +kernel
theorem dX4_clashes_1 : decode cX4_clashes 1 = .ok (.istore 6, 2) := by decide +kernel
theorem dX4_clashes_3 : decode cX4_clashes 3 = .ok (.iload 6, 2) := by decide +kernel
theorem dX4_clashes_5 : decode cX4_clashes 5 = .ok (.aload_n 0, 1) := by decide +kernel
theorem dX4_clashes_6 : decode cX4_clashes 6 = .ok (.getfield 24, 3) := by decide +kernel
theorem dX4_clashes_9 : decode cX4_clashes 9 = .ok (.if_icmp .ge 51, 3) := by decide +kernel
theorem dX4_clashes_12 : decode cX4_clashes 12 = .ok (.aload_n 0, 1) := by decide +kernel
theorem dX4_clashes_13 : decode cX4_clashes 13 = .ok (.getfield 15, 3) := by decide +kernel
theorem dX4_clashes_16 : decode cX4_clashes 16 = .ok (.iload 6, 2) := by decide +kernel
theorem dX4_clashes_18 : decode cX4_clashes 18 = .ok (.iaload, 1) := by decide +kernel
theorem dX4_clashes_19 : decode cX4_clashes 19 = .ok (.iload 4, 2) := by decide +kernel
theorem dX4_clashes_21 : decode cX4_clashes 21 = .ok (.iload 5, 2) := by decide +kernel
theorem dX4_clashes_23 : decode cX4_clashes 23 = .ok (.iadd, 1) := by decide +kernel
theorem dX4_clashes_24 : decode cX4_clashes 24 = .ok (.if_icmp .ge 36, 3) := by decide +kernel
theorem dX4_clashes_27 : decode cX4_clashes 27 = .ok (.aload_n 0, 1) := by decide +kernel
theorem dX4_clashes_28 : decode cX4_clashes 28 = .ok (.getfield 9, 3) := by decide +kernel
theorem dX4_clashes_31 : decode cX4_clashes 31 = .ok (.iload 6, 2) := by decide +kernel
theorem dX4_clashes_33 : decode cX4_clashes 33 = .ok (.iaload, 1) := by decide +kernel
theorem dX4_clashes_34 : decode cX4_clashes 34 = .ok (.iload_n 2, 1) := by decide +kernel
theorem dX4_clashes_35 : decode cX4_clashes 35 = .ok (.if_icmp .ne 19, 3) := by decide +kernel
theorem dX4_clashes_38 : decode cX4_clashes 38 = .ok (.aload_n 0, 1) := by decide +kernel
theorem dX4_clashes_39 : decode cX4_clashes 39 = .ok (.getfield 18, 3) := by decide +kernel
theorem dX4_clashes_42 : decode cX4_clashes 42 = .ok (.iload 6, 2) := by decide +kernel
theorem dX4_clashes_44 : decode cX4_clashes 44 = .ok (.iaload, 1) := by decide +kernel
theorem dX4_clashes_45 : decode cX4_clashes 45 = .ok (.iload 5, 2) := by decide +kernel
theorem dX4_clashes_47 : decode cX4_clashes 47 = .ok (.iadd, 1) := by decide +kernel
theorem dX4_clashes_48 : decode cX4_clashes 48 = .ok (.iload_n 3, 1) := by decide +kernel
theorem dX4_clashes_49 : decode cX4_clashes 49 = .ok (.if_icmp .le 5, 3) := by decide +kernel
theorem dX4_clashes_52 : decode cX4_clashes 52 = .ok (.iconst 1, 1) := by decide +kernel
theorem dX4_clashes_53 : decode cX4_clashes 53 = .ok (.ireturn, 1) := by decide +kernel
theorem dX4_clashes_54 : decode cX4_clashes 54 = .ok (.iinc 6 1, 3) := by decide +kernel
theorem dX4_clashes_57 : decode cX4_clashes 57 = .ok (.goto (-54), 3) := by decide +kernel
theorem dX4_clashes_60 : decode cX4_clashes 60 = .ok (.iconst 0, 1) := by decide +kernel
theorem dX4_clashes_61 : decode cX4_clashes 61 = .ok (.ireturn, 1) := by decide +kernel
theorem dX4_overloads_0 : decode cX4_overloads 0 = .ok (.iload_n 3, 1) := by decide +kernel
theorem dX4_overloads_1 : decode cX4_overloads 1 = .ok (.iload_n 2, 1) := by decide +kernel
theorem dX4_overloads_2 : decode cX4_overloads 2 = .ok (.isub, 1) := by decide +kernel
theorem dX4_overloads_3 : decode cX4_overloads 3 = .ok (.bipush 50, 2) := by decide +kernel
theorem dX4_overloads_5 : decode cX4_overloads 5 = .ok (.invokestatic 46, 3) := by decide +kernel
theorem dX4_overloads_8 : decode cX4_overloads 8 = .ok (.istore 5, 2) := by decide +kernel
theorem dX4_overloads_10 : decode cX4_overloads 10 = .ok (.iconst 0, 1) := by decide +kernel
theorem dX4_overloads_11 : decode cX4_overloads 11 = .ok (.istore 6, 2) := by decide +kernel
theorem dX4_overloads_13 : decode cX4_overloads 13 = .ok (.iload 6, 2) := by decide +kernel
theorem dX4_overloads_15 : decode cX4_overloads 15 = .ok (.iload 5, 2) := by decide +kernel
theorem dX4_overloads_17 : decode cX4_overloads 17 = .ok (.if_icmp .gt 17, 3) := by decide +kernel
theorem dX4_overloads_20 : decode cX4_overloads 20 = .ok (.aload_n 0, 1) := by decide +kernel
theorem dX4_overloads_21 : decode cX4_overloads 21 = .ok (.getfield 21, 3) := by decide +kernel
theorem dX4_overloads_24 : decode cX4_overloads 24 = .ok (.iload 6, 2) := by decide +kernel
theorem dX4_overloads_26 : decode cX4_overloads 26 = .ok (.iconst 0, 1) := by decide +kernel
theorem dX4_overloads_27 : decode cX4_overloads 27 = .ok (.iastore, 1) := by decide +kernel
theorem dX4_overloads_28 : decode cX4_overloads 28 = .ok (.iinc 6 1, 3) := by decide +kernel
theorem dX4_overloads_31 : decode cX4_overloads 31 = .ok (.goto (-18), 3) := by decide +kernel
theorem dX4_overloads_34 : decode cX4_overloads 34 = .ok (.iload_n 1, 1) := by decide +kernel
theorem dX4_overloads_35 : decode cX4_overloads 35 = .ok (.istore 6, 2) := by decide +kernel
theorem dX4_overloads_37 : decode cX4_overloads 37 = .ok (.iload 6, 2) := by decide +kernel
theorem dX4_overloads_39 : decode cX4_overloads 39 = .ok (.aload_n 0, 1) := by decide +kernel
theorem dX4_overloads_40 : decode cX4_overloads 40 = .ok (.getfield 24, 3) := by decide +kernel
theorem dX4_overloads_43 : decode cX4_overloads 43 = .ok (.if_icmp .ge 76, 3) := by decide +kernel
theorem dX4_overloads_46 : decode cX4_overloads 46 = .ok (.aload_n 0, 1) := by decide +kernel
theorem dX4_overloads_47 : decode cX4_overloads 47 = .ok (.getfield 15, 3) := by decide +kernel
theorem dX4_overloads_50 : decode cX4_overloads 50 = .ok (.iload 6, 2) := by decide +kernel
theorem dX4_overloads_52 : decode cX4_overloads 52 = .ok (.iaload, 1) := by decide +kernel
theorem dX4_overloads_53 : decode cX4_overloads 53 = .ok (.iload_n 3, 1) := by decide +kernel
theorem dX4_overloads_54 : decode cX4_overloads 54 = .ok (.if_icmp .ge 65, 3) := by decide +kernel
theorem dX4_overloads_57 : decode cX4_overloads 57 = .ok (.aload_n 0, 1) := by decide +kernel
theorem dX4_overloads_58 : decode cX4_overloads 58 = .ok (.getfield 18, 3) := by decide +kernel
theorem dX4_overloads_61 : decode cX4_overloads 61 = .ok (.iload 6, 2) := by decide +kernel
theorem dX4_overloads_63 : decode cX4_overloads 63 = .ok (.iaload, 1) := by decide +kernel
theorem dX4_overloads_64 : decode cX4_overloads 64 = .ok (.iload_n 2, 1) := by decide +kernel
theorem dX4_overloads_65 : decode cX4_overloads 65 = .ok (.if_icmp .le 48, 3) := by decide +kernel
theorem dX4_overloads_68 : decode cX4_overloads 68 = .ok (.aload_n 0, 1) := by decide +kernel
theorem dX4_overloads_69 : decode cX4_overloads 69 = .ok (.getfield 21, 3) := by decide +kernel
theorem dX4_overloads_72 : decode cX4_overloads 72 = .ok (.aload_n 0, 1) := by decide +kernel
theorem dX4_overloads_73 : decode cX4_overloads 73 = .ok (.getfield 15, 3) := by decide +kernel
theorem dX4_overloads_76 : decode cX4_overloads 76 = .ok (.iload 6, 2) := by decide +kernel
theorem dX4_overloads_78 : decode cX4_overloads 78 = .ok (.iaload, 1) := by decide +kernel
theorem dX4_overloads_79 : decode cX4_overloads 79 = .ok (.iload_n 2, 1) := by decide +kernel
theorem dX4_overloads_80 : decode cX4_overloads 80 = .ok (.isub, 1) := by decide +kernel
theorem dX4_overloads_81 : decode cX4_overloads 81 = .ok (.iconst 0, 1) := by decide +kernel
theorem dX4_overloads_82 : decode cX4_overloads 82 = .ok (.invokestatic 52, 3) := by decide +kernel
theorem dX4_overloads_85 : decode cX4_overloads 85 = .ok (.dup2, 1) := by decide +kernel
theorem dX4_overloads_86 : decode cX4_overloads 86 = .ok (.iaload, 1) := by decide +kernel
theorem dX4_overloads_87 : decode cX4_overloads 87 = .ok (.iconst 1, 1) := by decide +kernel
theorem dX4_overloads_88 : decode cX4_overloads 88 = .ok (.iadd, 1) := by decide +kernel
theorem dX4_overloads_89 : decode cX4_overloads 89 = .ok (.iastore, 1) := by decide +kernel
theorem dX4_overloads_90 : decode cX4_overloads 90 = .ok (.aload_n 0, 1) := by decide +kernel
theorem dX4_overloads_91 : decode cX4_overloads 91 = .ok (.getfield 21, 3) := by decide +kernel
theorem dX4_overloads_94 : decode cX4_overloads 94 = .ok (.aload_n 0, 1) := by decide +kernel
theorem dX4_overloads_95 : decode cX4_overloads 95 = .ok (.getfield 18, 3) := by decide +kernel
theorem dX4_overloads_98 : decode cX4_overloads 98 = .ok (.iload 6, 2) := by decide +kernel
theorem dX4_overloads_100 : decode cX4_overloads 100 = .ok (.iaload, 1) := by decide +kernel
theorem dX4_overloads_101 : decode cX4_overloads 101 = .ok (.iload_n 2, 1) := by decide +kernel
theorem dX4_overloads_102 : decode cX4_overloads 102 = .ok (.isub, 1) := by decide +kernel
theorem dX4_overloads_103 : decode cX4_overloads 103 = .ok (.iload 5, 2) := by decide +kernel
theorem dX4_overloads_105 : decode cX4_overloads 105 = .ok (.invokestatic 46, 3) := by decide +kernel
theorem dX4_overloads_108 : decode cX4_overloads 108 = .ok (.dup2, 1) := by decide +kernel
theorem dX4_overloads_109 : decode cX4_overloads 109 = .ok (.iaload, 1) := by decide +kernel
theorem dX4_overloads_110 : decode cX4_overloads 110 = .ok (.iconst 1, 1) := by decide +kernel
theorem dX4_overloads_111 : decode cX4_overloads 111 = .ok (.isub, 1) := by decide +kernel
theorem dX4_overloads_112 : decode cX4_overloads 112 = .ok (.iastore, 1) := by decide +kernel
theorem dX4_overloads_113 : decode cX4_overloads 113 = .ok (.iinc 6 1, 3) := by decide +kernel
theorem dX4_overloads_116 : decode cX4_overloads 116 = .ok (.goto (-79), 3) := by decide +kernel
theorem dX4_overloads_119 : decode cX4_overloads 119 = .ok (.iconst 1, 1) := by decide +kernel
theorem dX4_overloads_120 : decode cX4_overloads 120 = .ok (.istore 6, 2) := by decide +kernel
theorem dX4_overloads_122 : decode cX4_overloads 122 = .ok (.iconst 0, 1) := by decide +kernel
theorem dX4_overloads_123 : decode cX4_overloads 123 = .ok (.istore 7, 2) := by decide +kernel
theorem dX4_overloads_125 : decode cX4_overloads 125 = .ok (.iload 7, 2) := by decide +kernel
theorem dX4_overloads_127 : decode cX4_overloads 127 = .ok (.iload 5, 2) := by decide +kernel
theorem dX4_overloads_129 : decode cX4_overloads 129 = .ok (.if_icmp .ge 30, 3) := by decide +kernel
theorem dX4_overloads_132 : decode cX4_overloads 132 = .ok (.iload 6, 2) := by decide +kernel
theorem dX4_overloads_134 : decode cX4_overloads 134 = .ok (.aload_n 0, 1) := by decide +kernel
theorem dX4_overloads_135 : decode cX4_overloads 135 = .ok (.getfield 21, 3) := by decide +kernel
theorem dX4_overloads_138 : decode cX4_overloads 138 = .ok (.iload 7, 2) := by decide +kernel
theorem dX4_overloads_140 : decode cX4_overloads 140 = .ok (.iaload, 1) := by decide +kernel
theorem dX4_overloads_141 : decode cX4_overloads 141 = .ok (.iadd, 1) := by decide +kernel
theorem dX4_overloads_142 : decode cX4_overloads 142 = .ok (.istore 6, 2) := by decide +kernel
theorem dX4_overloads_144 : decode cX4_overloads 144 = .ok (.iload 6, 2) := by decide +kernel
theorem dX4_overloads_146 : decode cX4_overloads 146 = .ok (.iload 4, 2) := by decide +kernel
theorem dX4_overloads_148 : decode cX4_overloads 148 = .ok (.if_icmp .le 5, 3) := by decide +kernel
theorem dX4_overloads_151 : decode cX4_overloads 151 = .ok (.iconst 1, 1) := by decide +kernel
theorem dX4_overloads_152 : decode cX4_overloads 152 = .ok (.ireturn, 1) := by decide +kernel
theorem dX4_overloads_153 : decode cX4_overloads 153 = .ok (.iinc 7 1, 3) := by decide +kernel
theorem dX4_overloads_156 : decode cX4_overloads 156 = .ok (.goto (-31), 3) := by decide +kernel
theorem dX4_overloads_159 : decode cX4_overloads 159 = .ok (.iconst 0, 1) := by decide +kernel
theorem dX4_overloads_160 : decode cX4_overloads 160 = .ok (.ireturn, 1) := by decide +kernel
theorem dX5_init_0 : decode cX5_init 0 = .ok (.aload_n 0, 1) := by decide +kernel
theorem dX5_init_1 : decode cX5_init 1 = .ok (.invokespecial 3, 3) := by decide +kernel
theorem dX5_init_4 : decode cX5_init 4 = .ok (.aload_n 0, 1) := by decide +kernel
theorem dX5_init_5 : decode cX5_init 5 = .ok (.sipush 200, 3) := by decide +kernel
theorem dX5_init_8 : decode cX5_init 8 = .ok (.newarray .int, 2) := by decide +kernel
theorem dX5_init_10 : decode cX5_init 10 = .ok (.putfield 9, 3) := by decide +kernel
theorem dX5_init_13 : decode cX5_init 13 = .ok (.aload_n 0, 1) := by decide +kernel
theorem dX5_init_14 : decode cX5_init 14 = .ok (.sipush 200, 3) := by decide +kernel
theorem dX5_init_17 : decode cX5_init 17 = .ok (.newarray .int, 2) := by decide +kernel
theorem dX5_init_19 : decode cX5_init 19 = .ok (.putfield 15, 3) := by decide +kernel
theorem dX5_init_22 : decode cX5_init 22 = .ok (.aload_n 0, 1) := by decide +kernel
theorem dX5_init_23 : decode cX5_init 23 = .ok (.sipush 200, 3) := by decide +kernel
theorem dX5_init_26 : decode cX5_init 26 = .ok (.newarray .int, 2) := by decide +kernel
theorem dX5_init_28 : decode cX5_init 28 = .ok (.putfield 18, 3) := by decide +kernel
theorem dX5_init_31 : decode cX5_init 31 = .ok (.aload_n 0, 1) := by decide +kernel
theorem dX5_init_32 : decode cX5_init 32 = .ok (.iconst 0, 1) := by decide +kernel
theorem dX5_init_33 : decode cX5_init 33 = .ok (.putfield 21, 3) := by decide +kernel
theorem dX5_init_36 : decode cX5_init 36 = .ok (.aload_n 0, 1) := by decide +kernel
theorem dX5_init_37 : decode cX5_init 37 = .ok (.iconst 0, 1) := by decide +kernel
theorem dX5_init_38 : decode cX5_init 38 = .ok (.putfield 25, 3) := by decide +kernel
theorem dX5_init_41 : decode cX5_init 41 = .ok (.return_, 1) := by decide +kernel
theorem dX5_add_0 : decode cX5_add 0 = .ok (.aload_n 0, 1) := by decide +kernel
theorem dX5_add_1 : decode cX5_add 1 = .ok (.getfield 9, 3) := by decide +kernel
theorem dX5_add_4 : decode cX5_add 4 = .ok (.aload_n 0, 1) := by decide +kernel
theorem dX5_add_5 : decode cX5_add 5 = .ok (.getfield 25, 3) := by decide +kernel
theorem dX5_add_8 : decode cX5_add 8 = .ok (.iload_n 1, 1) := by decide +kernel
theorem dX5_add_9 : decode cX5_add 9 = .ok (.iastore, 1) := by decide +kernel
theorem dX5_add_10 : decode cX5_add 10 = .ok (.aload_n 0, 1) := by decide +kernel
theorem dX5_add_11 : decode cX5_add 11 = .ok (.getfield 15, 3) := by decide +kernel
theorem dX5_add_14 : decode cX5_add 14 = .ok (.aload_n 0, 1) := by decide +kernel
theorem dX5_add_15 : decode cX5_add 15 = .ok (.getfield 25, 3) := by decide +kernel
theorem dX5_add_18 : decode cX5_add 18 = .ok (.iload_n 2, 1) := by decide +kernel
theorem dX5_add_19 : decode cX5_add 19 = .ok (.iastore, 1) := by decide +kernel
theorem dX5_add_20 : decode cX5_add 20 = .ok (.aload_n 0, 1) := by decide +kernel
theorem dX5_add_21 : decode cX5_add 21 = .ok (.getfield 18, 3) := by decide +kernel
theorem dX5_add_24 : decode cX5_add 24 = .ok (.aload_n 0, 1) := by decide +kernel
theorem dX5_add_25 : decode cX5_add 25 = .ok (.getfield 25, 3) := by decide +kernel
theorem dX5_add_28 : decode cX5_add 28 = .ok (.iload_n 3, 1) := by decide +kernel
theorem dX5_add_29 : decode cX5_add 29 = .ok (.iastore, 1) := by decide +kernel
theorem dX5_add_30 : decode cX5_add 30 = .ok (.aload_n 0, 1) := by decide +kernel
theorem dX5_add_31 : decode cX5_add 31 = .ok (.aload_n 0, 1) := by decide +kernel
theorem dX5_add_32 : decode cX5_add 32 = .ok (.getfield 25, 3) := by decide +kernel
theorem dX5_add_35 : decode cX5_add 35 = .ok (.iconst 1, 1) := by decide +kernel
theorem dX5_add_36 : decode cX5_add 36 = .ok (.iadd, 1) := by decide +kernel
theorem dX5_add_37 : decode cX5_add 37 = .ok (.sipush 200, 3) := by decide +kernel
theorem dX5_add_40 : decode cX5_add 40 = .ok (.if_icmp .ge 12, 3) := by decide +kernel
theorem dX5_add_43 : decode cX5_add 43 = .ok (.aload_n 0, 1) := by decide +kernel
theorem dX5_add_44 : decode cX5_add 44 = .ok (.getfield 25, 3) := by decide +kernel
theorem dX5_add_47 : decode cX5_add 47 = .ok (.iconst 1, 1) := by decide +kernel
theorem dX5_add_48 : decode cX5_add 48 = .ok (.iadd, 1) := by decide +kernel
theorem dX5_add_49 : decode cX5_add 49 = .ok (.goto 4, 3) := by decide +kernel
theorem dX5_add_52 : decode cX5_add 52 = .ok (.iconst 0, 1) := by decide +kernel
theorem dX5_add_53 : decode cX5_add 53 = .ok (.putfield 25, 3) := by decide +kernel
theorem dX5_add_56 : decode cX5_add 56 = .ok (.aload_n 0, 1) := by decide +kernel
theorem dX5_add_57 : decode cX5_add 57 = .ok (.aload_n 0, 1) := by decide +kernel
theorem dX5_add_58 : decode cX5_add 58 = .ok (.getfield 21, 3) := by decide +kernel
theorem dX5_add_61 : decode cX5_add 61 = .ok (.iconst 1, 1) := by decide +kernel
theorem dX5_add_62 : decode cX5_add 62 = .ok (.iadd, 1) := by decide +kernel
theorem dX5_add_63 : decode cX5_add 63 = .ok (.sipush 200, 3) := by decide +kernel
theorem dX5_add_66 : decode cX5_add 66 = .ok (.invokestatic 28, 3) := by decide +kernel
theorem dX5_add_69 : decode cX5_add 69 = .ok (.putfield 21, 3) := by decide +kernel
theorem dX5_add_72 : decode cX5_add 72 = .ok (.return_, 1) := by decide +kernel
theorem dX5_slotOf_0 : decode cX5_slotOf 0 = .ok (.iload_n 1, 1) := by decide +kernel
theorem dX5_slotOf_1 : decode cX5_slotOf 1 = .ok (.ifCond .lt 11, 3) := by decide +kernel
theorem dX5_slotOf_4 : decode cX5_slotOf 4 = .ok (.iload_n 1, 1) := by decide +kernel
theorem dX5_slotOf_5 : decode cX5_slotOf 5 = .ok (.aload_n 0, 1) := by decide +kernel
theorem dX5_slotOf_6 : decode cX5_slotOf 6 = .ok (.getfield 21, 3) := by decide +kernel
theorem dX5_slotOf_9 : decode cX5_slotOf 9 = .ok (.if_icmp .lt 5, 3) := by decide +kernel
theorem dX5_slotOf_12 : decode cX5_slotOf 12 = .ok (.iconst (-1), 1) := by decide +kernel
theorem dX5_slotOf_13 : decode cX5_slotOf 13 = .ok (.ireturn, 1) := by decide +kernel
theorem dX5_slotOf_14 : decode cX5_slotOf 14 = .ok (.aload_n 0, 1) := by decide +kernel
theorem dX5_slotOf_15 : decode cX5_slotOf 15 = .ok (.getfield 25, 3) := by decide +kernel
theorem dX5_slotOf_18 : decode cX5_slotOf 18 = .ok (.iconst 1, 1) := by decide +kernel
theorem dX5_slotOf_19 : decode cX5_slotOf 19 = .ok (.isub, 1) := by decide +kernel
theorem dX5_slotOf_20 : decode cX5_slotOf 20 = .ok (.iload_n 1, 1) := by decide +kernel
theorem dX5_slotOf_21 : decode cX5_slotOf 21 = .ok (.isub, 1) := by decide +kernel
theorem dX5_slotOf_22 : decode cX5_slotOf 22 = .ok (.istore_n 2, 1) := by decide +kernel
theorem dX5_slotOf_23 : decode cX5_slotOf 23 = .ok (.iload_n 2, 1) := by decide +kernel
theorem dX5_slotOf_24 : decode cX5_slotOf 24 = .ok (.ifCond .ge 11, 3) := by decide +kernel
theorem dX5_slotOf_27 : decode cX5_slotOf 27 = .ok (.iload_n 2, 1) := by decide +kernel
theorem dX5_slotOf_28 : decode cX5_slotOf 28 = .ok (.sipush 200, 3) := by decide +kernel
theorem dX5_slotOf_31 : decode cX5_slotOf 31 = .ok (.iadd, 1) := by decide +kernel
theorem dX5_slotOf_32 : decode cX5_slotOf 32 = .ok (.goto 4, 3) := by decide +kernel
theorem dX5_slotOf_35 : decode cX5_slotOf 35 = .ok (.iload_n 2, 1) := by decide +kernel
theorem dX5_slotOf_36 : decode cX5_slotOf 36 = .ok (.ireturn, 1) := by decide +kernel
theorem dX6_init_0 : decode cX6_init 0 = .ok (.aload_n 0, 1) := by decide +kernel
theorem dX6_init_1 : decode cX6_init 1 = .ok (.invokespecial 3, 3) := by decide +kernel
theorem dX6_init_4 : decode cX6_init 4 = .ok (.aload_n 0, 1) := by decide +kernel
theorem dX6_init_5 : decode cX6_init 5 = .ok (.bipush 12, 2) := by decide +kernel
theorem dX6_init_7 : decode cX6_init 7 = .ok (.anewarray 9, 3) := by decide +kernel
theorem dX6_init_10 : decode cX6_init 10 = .ok (.putfield 11, 3) := by decide +kernel
theorem dX6_init_13 : decode cX6_init 13 = .ok (.aload_n 0, 1) := by decide +kernel
theorem dX6_init_14 : decode cX6_init 14 = .ok (.new 9, 3) := by decide +kernel
theorem dX6_init_17 : decode cX6_init 17 = .ok (.dup, 1) := by decide +kernel
theorem dX6_init_18 : decode cX6_init 18 = .ok (.invokespecial 15, 3) := by decide +kernel
theorem dX6_init_21 : decode cX6_init 21 = .ok (.putfield 16, 3) := by decide +kernel
theorem dX6_init_24 : decode cX6_init 24 = .ok (.aload_n 0, 1) := by decide +kernel
theorem dX6_init_25 : decode cX6_init 25 = .ok (.new 20, 3) := by decide +kernel
theorem dX6_init_28 : decode cX6_init 28 = .ok (.dup, 1) := by decide +kernel
theorem dX6_init_29 : decode cX6_init 29 = .ok (.invokespecial 22, 3) := by decide +kernel
theorem dX6_init_32 : decode cX6_init 32 = .ok (.putfield 23, 3) := by decide +kernel
theorem dX6_init_35 : decode cX6_init 35 = .ok (.aload_n 0, 1) := by decide +kernel
theorem dX6_init_36 : decode cX6_init 36 = .ok (.new 27, 3) := by decide +kernel
theorem dX6_init_39 : decode cX6_init 39 = .ok (.dup, 1) := by decide +kernel
theorem dX6_init_40 : decode cX6_init 40 = .ok (.invokespecial 29, 3) := by decide +kernel
theorem dX6_init_43 : decode cX6_init 43 = .ok (.putfield 30, 3) := by decide +kernel
theorem dX6_init_46 : decode cX6_init 46 = .ok (.aload_n 0, 1) := by decide +kernel
theorem dX6_init_47 : decode cX6_init 47 = .ok (.new 27, 3) := by decide +kernel
theorem dX6_init_50 : decode cX6_init 50 = .ok (.dup, 1) := by decide +kernel
theorem dX6_init_51 : decode cX6_init 51 = .ok (.invokespecial 29, 3) := by decide +kernel
theorem dX6_init_54 : decode cX6_init 54 = .ok (.putfield 34, 3) := by decide +kernel
theorem dX6_init_57 : decode cX6_init 57 = .ok (.aload_n 0, 1) := by decide +kernel
theorem dX6_init_58 : decode cX6_init 58 = .ok (.new 37, 3) := by decide +kernel
theorem dX6_init_61 : decode cX6_init 61 = .ok (.dup, 1) := by decide +kernel
theorem dX6_init_62 : decode cX6_init 62 = .ok (.invokespecial 39, 3) := by decide +kernel
theorem dX6_init_65 : decode cX6_init 65 = .ok (.putfield 40, 3) := by decide +kernel
theorem dX6_init_68 : decode cX6_init 68 = .ok (.aload_n 0, 1) := by decide +kernel
theorem dX6_init_69 : decode cX6_init 69 = .ok (.iconst 5, 1) := by decide +kernel
theorem dX6_init_70 : decode cX6_init 70 = .ok (.anewarray 44, 3) := by decide +kernel
theorem dX6_init_73 : decode cX6_init 73 = .ok (.putfield 46, 3) := by decide +kernel
theorem dX6_init_76 : decode cX6_init 76 = .ok (.aload_n 0, 1) := by decide +kernel
theorem dX6_init_77 : decode cX6_init 77 = .ok (.bipush 8, 2) := by decide +kernel
theorem dX6_init_79 : decode cX6_init 79 = .ok (.anewarray 50, 3) := by decide +kernel
theorem dX6_init_82 : decode cX6_init 82 = .ok (.putfield 52, 3) := by decide +kernel
theorem dX6_init_85 : decode cX6_init 85 = .ok (.aload_n 0, 1) := by decide +kernel
theorem dX6_init_86 : decode cX6_init 86 = .ok (.sipush 720, 3) := by decide +kernel
theorem dX6_init_89 : decode cX6_init 89 = .ok (.newarray .int, 2) := by decide +kernel
theorem dX6_init_91 : decode cX6_init 91 = .ok (.putfield 56, 3) := by decide +kernel
theorem dX6_init_94 : decode cX6_init 94 = .ok (.aload_n 0, 1) := by decide +kernel
theorem dX6_init_95 : decode cX6_init 95 = .ok (.sipush 601, 3) := by decide +kernel
theorem dX6_init_98 : decode cX6_init 98 = .ok (.newarray .int, 2) := by decide +kernel
theorem dX6_init_100 : decode cX6_init 100 = .ok (.putfield 60, 3) := by decide +kernel
theorem dX6_init_103 : decode cX6_init 103 = .ok (.aload_n 0, 1) := by decide +kernel
theorem dX6_init_104 : decode cX6_init 104 = .ok (.bipush 51, 2) := by decide +kernel
theorem dX6_init_106 : decode cX6_init 106 = .ok (.newarray .int, 2) := by decide +kernel
theorem dX6_init_108 : decode cX6_init 108 = .ok (.putfield 63, 3) := by decide +kernel
theorem dX6_init_111 : decode cX6_init 111 = .ok (.aload_n 0, 1) := by decide +kernel
theorem dX6_init_112 : decode cX6_init 112 = .ok (.iconst 0, 1) := by decide +kernel
theorem dX6_init_113 : decode cX6_init 113 = .ok (.putfield 66, 3) := by decide +kernel
theorem dX6_init_116 : decode cX6_init 116 = .ok (.aload_n 0, 1) := by decide +kernel
theorem dX6_init_117 : decode cX6_init 117 = .ok (.iconst 0, 1) := by decide +kernel
theorem dX6_init_118 : decode cX6_init 118 = .ok (.putfield 70, 3) := by decide +kernel
theorem dX6_init_121 : decode cX6_init 121 = .ok (.aload_n 0, 1) := by decide +kernel
theorem dX6_init_122 : decode cX6_init 122 = .ok (.iconst 0, 1) := by decide +kernel
theorem dX6_init_123 : decode cX6_init 123 = .ok (.putfield 73, 3) := by decide +kernel
theorem dX6_init_126 : decode cX6_init 126 = .ok (.aload_n 0, 1) := by decide +kernel
theorem dX6_init_127 : decode cX6_init 127 = .ok (.iconst 3, 1) := by decide +kernel
theorem dX6_init_128 : decode cX6_init 128 = .ok (.putfield 76, 3) := by decide +kernel
theorem dX6_init_131 : decode cX6_init 131 = .ok (.aload_n 0, 1) := by decide +kernel
theorem dX6_init_132 : decode cX6_init 132 = .ok (.sipush 2000, 3) := by decide +kernel
theorem dX6_init_135 : decode cX6_init 135 = .ok (.putfield 79, 3) := by decide +kernel
theorem dX6_init_138 : decode cX6_init 138 = .ok (.aload_n 0, 1) := by decide +kernel
theorem dX6_init_139 : decode cX6_init 139 = .ok (.iconst 0, 1) := by decide +kernel
theorem dX6_init_140 : decode cX6_init 140 = .ok (.putfield 82, 3) := by decide +kernel
theorem dX6_init_143 : decode cX6_init 143 = .ok (.iconst 0, 1) := by decide +kernel
theorem dX6_init_144 : decode cX6_init 144 = .ok (.istore_n 1, 1) := by decide +kernel
theorem dX6_init_145 : decode cX6_init 145 = .ok (.iload_n 1, 1) := by decide +kernel
theorem dX6_init_146 : decode cX6_init 146 = .ok (.bipush 12, 2) := by decide +kernel
theorem dX6_init_148 : decode cX6_init 148 = .ok (.if_icmp .ge 22, 3) := by decide +kernel
theorem dX6_init_151 : decode cX6_init 151 = .ok (.aload_n 0, 1) := by decide +kernel
theorem dX6_init_152 : decode cX6_init 152 = .ok (.getfield 11, 3) := by decide +kernel
theorem dX6_init_155 : decode cX6_init 155 = .ok (.iload_n 1, 1) := by decide +kernel
theorem dX6_init_156 : decode cX6_init 156 = .ok (.new 9, 3) := by decide +kernel
theorem dX6_init_159 : decode cX6_init 159 = .ok (.dup, 1) := by decide +kernel
theorem dX6_init_160 : decode cX6_init 160 = .ok (.invokespecial 15, 3) := by decide +kernel
theorem dX6_init_163 : decode cX6_init 163 = .ok (.aastore, 1) := by decide +kernel
theorem dX6_init_164 : decode cX6_init 164 = .ok (.iinc 1 1, 3) := by decide +kernel
theorem dX6_init_167 : decode cX6_init 167 = .ok (.goto (-22), 3) := by decide +kernel
theorem dX6_init_170 : decode cX6_init 170 = .ok (.iconst 0, 1) := by decide +kernel
theorem dX6_init_171 : decode cX6_init 171 = .ok (.istore_n 1, 1) := by decide +kernel
theorem dX6_init_172 : decode cX6_init 172 = .ok (.iload_n 1, 1) := by decide +kernel
theorem dX6_init_173 : decode cX6_init 173 = .ok (.iconst 5, 1) := by decide +kernel
theorem dX6_init_174 : decode cX6_init 174 = .ok (.if_icmp .ge 22, 3) := by decide +kernel
theorem dX6_init_177 : decode cX6_init 177 = .ok (.aload_n 0, 1) := by decide +kernel
theorem dX6_init_178 : decode cX6_init 178 = .ok (.getfield 46, 3) := by decide +kernel
theorem dX6_init_181 : decode cX6_init 181 = .ok (.iload_n 1, 1) := by decide +kernel
theorem dX6_init_182 : decode cX6_init 182 = .ok (.new 44, 3) := by decide +kernel
theorem dX6_init_185 : decode cX6_init 185 = .ok (.dup, 1) := by decide +kernel
theorem dX6_init_186 : decode cX6_init 186 = .ok (.invokespecial 85, 3) := by decide +kernel
theorem dX6_init_189 : decode cX6_init 189 = .ok (.aastore, 1) := by decide +kernel
theorem dX6_init_190 : decode cX6_init 190 = .ok (.iinc 1 1, 3) := by decide +kernel
theorem dX6_init_193 : decode cX6_init 193 = .ok (.goto (-21), 3) := by decide +kernel
theorem dX6_init_196 : decode cX6_init 196 = .ok (.iconst 0, 1) := by decide +kernel
theorem dX6_init_197 : decode cX6_init 197 = .ok (.istore_n 1, 1) := by decide +kernel
theorem dX6_init_198 : decode cX6_init 198 = .ok (.iload_n 1, 1) := by decide +kernel
theorem dX6_init_199 : decode cX6_init 199 = .ok (.bipush 8, 2) := by decide +kernel
theorem dX6_init_201 : decode cX6_init 201 = .ok (.if_icmp .ge 22, 3) := by decide +kernel
theorem dX6_init_204 : decode cX6_init 204 = .ok (.aload_n 0, 1) := by decide +kernel
theorem dX6_init_205 : decode cX6_init 205 = .ok (.getfield 52, 3) := by decide +kernel
theorem dX6_init_208 : decode cX6_init 208 = .ok (.iload_n 1, 1) := by decide +kernel
theorem dX6_init_209 : decode cX6_init 209 = .ok (.new 50, 3) := by decide +kernel
theorem dX6_init_212 : decode cX6_init 212 = .ok (.dup, 1) := by decide +kernel
theorem dX6_init_213 : decode cX6_init 213 = .ok (.invokespecial 86, 3) := by decide +kernel
theorem dX6_init_216 : decode cX6_init 216 = .ok (.aastore, 1) := by decide +kernel
theorem dX6_init_217 : decode cX6_init 217 = .ok (.iinc 1 1, 3) := by decide +kernel
theorem dX6_init_220 : decode cX6_init 220 = .ok (.goto (-22), 3) := by decide +kernel
theorem dX6_init_223 : decode cX6_init 223 = .ok (.return_, 1) := by decide +kernel
theorem dX6_addBell_0 : decode cX6_addBell 0 = .ok (.iload_n 1, 1) := by decide +kernel
theorem dX6_addBell_1 : decode cX6_addBell 1 = .ok (.iconst 1, 1) := by decide +kernel
theorem dX6_addBell_2 : decode cX6_addBell 2 = .ok (.bipush 50, 2) := by decide +kernel
theorem dX6_addBell_4 : decode cX6_addBell 4 = .ok (.invokestatic 87, 3) := by decide +kernel
theorem dX6_addBell_7 : decode cX6_addBell 7 = .ok (.ifCond .ne 35, 3) := by decide +kernel
theorem dX6_addBell_10 : decode cX6_addBell 10 = .ok (.iload_n 2, 1) := by decide +kernel
theorem dX6_addBell_11 : decode cX6_addBell 11 = .ok (.iconst 0, 1) := by decide +kernel
theorem dX6_addBell_12 : decode cX6_addBell 12 = .ok (.bipush 100, 2) := by decide +kernel
theorem dX6_addBell_14 : decode cX6_addBell 14 = .ok (.invokestatic 87, 3) := by decide +kernel
theorem dX6_addBell_17 : decode cX6_addBell 17 = .ok (.ifCond .ne 25, 3) := by decide +kernel
theorem dX6_addBell_20 : decode cX6_addBell 20 = .ok (.iload_n 3, 1) := by decide +kernel
theorem dX6_addBell_21 : decode cX6_addBell 21 = .ok (.iconst 1, 1) := by decide +kernel
theorem dX6_addBell_22 : decode cX6_addBell 22 = .ok (.bipush 99, 2) := by decide +kernel
theorem dX6_addBell_24 : decode cX6_addBell 24 = .ok (.invokestatic 87, 3) := by decide +kernel
theorem dX6_addBell_27 : decode cX6_addBell 27 = .ok (.ifCond .ne 15, 3) := by decide +kernel
theorem dX6_addBell_30 : decode cX6_addBell 30 = .ok (.iload 4, 2) := by decide +kernel
theorem dX6_addBell_32 : decode cX6_addBell 32 = .ok (.bipush 10, 2) := by decide +kernel
theorem dX6_addBell_34 : decode cX6_addBell 34 = .ok (.bipush 60, 2) := by decide +kernel
theorem dX6_addBell_36 : decode cX6_addBell 36 = .ok (.invokestatic 87, 3) := by decide +kernel
theorem dX6_addBell_39 : decode cX6_addBell 39 = .ok (.ifCond .eq 6, 3) := by decide +kernel
theorem dX6_addBell_42 : decode cX6_addBell 42 = .ok (.bipush (-3), 2) := by decide +kernel
theorem dX6_addBell_44 : decode cX6_addBell 44 = .ok (.ireturn, 1) := by decide +kernel
theorem dX6_addBell_45 : decode cX6_addBell 45 = .ok (.aload_n 0, 1) := by decide +kernel
theorem dX6_addBell_46 : decode cX6_addBell 46 = .ok (.getfield 66, 3) := by decide +kernel
theorem dX6_addBell_49 : decode cX6_addBell 49 = .ok (.bipush 12, 2) := by decide +kernel
theorem dX6_addBell_51 : decode cX6_addBell 51 = .ok (.if_icmp .lt 6, 3) := by decide +kernel
theorem dX6_addBell_54 : decode cX6_addBell 54 = .ok (.bipush (-4), 2) := by decide +kernel
theorem dX6_addBell_56 : decode cX6_addBell 56 = .ok (.ireturn, 1) := by decide +kernel
theorem dX6_addBell_57 : decode cX6_addBell 57 = .ok (.aload_n 0, 1) := by decide +kernel
theorem dX6_addBell_58 : decode cX6_addBell 58 = .ok (.getfield 11, 3) := by decide +kernel
theorem dX6_addBell_61 : decode cX6_addBell 61 = .ok (.aload_n 0, 1) := by decide +kernel
theorem dX6_addBell_62 : decode cX6_addBell 62 = .ok (.getfield 66, 3) := by decide +kernel
theorem dX6_addBell_65 : decode cX6_addBell 65 = .ok (.aaload, 1) := by decide +kernel
theorem dX6_addBell_66 : decode cX6_addBell 66 = .ok (.astore 5, 2) := by decide +kernel
theorem dX6_addBell_68 : decode cX6_addBell 68 = .ok (.aload 5, 2) := by decide +kernel
theorem dX6_addBell_70 : decode cX6_addBell 70 = .ok (.iload_n 1, 1) := by decide +kernel
theorem dX6_addBell_71 : decode cX6_addBell 71 = .ok (.putfield 91, 3) := by decide +kernel
theorem dX6_addBell_74 : decode cX6_addBell 74 = .ok (.aload 5, 2) := by decide +kernel
theorem dX6_addBell_76 : decode cX6_addBell 76 = .ok (.iload_n 2, 1) := by decide +kernel
theorem dX6_addBell_77 : decode cX6_addBell 77 = .ok (.putfield 94, 3) := by decide +kernel
theorem dX6_addBell_80 : decode cX6_addBell 80 = .ok (.aload 5, 2) := by decide +kernel
theorem dX6_addBell_82 : decode cX6_addBell 82 = .ok (.iload_n 3, 1) := by decide +kernel
theorem dX6_addBell_83 : decode cX6_addBell 83 = .ok (.putfield 97, 3) := by decide +kernel
theorem dX6_addBell_86 : decode cX6_addBell 86 = .ok (.aload 5, 2) := by decide +kernel
theorem dX6_addBell_88 : decode cX6_addBell 88 = .ok (.iload 4, 2) := by decide +kernel
theorem dX6_addBell_90 : decode cX6_addBell 90 = .ok (.putfield 100, 3) := by decide +kernel
theorem dX6_addBell_93 : decode cX6_addBell 93 = .ok (.aload_n 0, 1) := by decide +kernel
theorem dX6_addBell_94 : decode cX6_addBell 94 = .ok (.dup, 1) := by decide +kernel
theorem dX6_addBell_95 : decode cX6_addBell 95 = .ok (.getfield 66, 3) := by decide +kernel
theorem dX6_addBell_98 : decode cX6_addBell 98 = .ok (.iconst 1, 1) := by decide +kernel
theorem dX6_addBell_99 : decode cX6_addBell 99 = .ok (.iadd, 1) := by decide +kernel
theorem dX6_addBell_100 : decode cX6_addBell 100 = .ok (.putfield 66, 3) := by decide +kernel
theorem dX6_addBell_103 : decode cX6_addBell 103 = .ok (.aload_n 0, 1) := by decide +kernel
theorem dX6_addBell_104 : decode cX6_addBell 104 = .ok (.getfield 66, 3) := by decide +kernel
theorem dX6_addBell_107 : decode cX6_addBell 107 = .ok (.iconst 1, 1) := by decide +kernel
theorem dX6_addBell_108 : decode cX6_addBell 108 = .ok (.isub, 1) := by decide +kernel
theorem dX6_addBell_109 : decode cX6_addBell 109 = .ok (.ireturn, 1) := by decide +kernel
theorem dX6_bellCount_0 : decode cX6_bellCount 0 = .ok (.aload_n 0, 1) := by decide +kernel
theorem dX6_bellCount_1 : decode cX6_bellCount 1 = .ok (.getfield 66, 3) := by decide +kernel
theorem dX6_bellCount_4 : decode cX6_bellCount 4 = .ok (.ireturn, 1) := by decide +kernel
theorem dX6_delay_0 : decode cX6_delay 0 = .ok (.aload_n 0, 1) := by decide +kernel
theorem dX6_delay_1 : decode cX6_delay 1 = .ok (.iload_n 1, 1) := by decide +kernel
theorem dX6_delay_2 : decode cX6_delay 2 = .ok (.invokevirtual 103, 3) := by decide +kernel
theorem dX6_delay_5 : decode cX6_delay 5 = .ok (.ifCond .eq 15, 3) := by decide +kernel
theorem dX6_delay_8 : decode cX6_delay 8 = .ok (.aload_n 0, 1) := by decide +kernel
theorem dX6_delay_9 : decode cX6_delay 9 = .ok (.getfield 11, 3) := by decide +kernel
theorem dX6_delay_12 : decode cX6_delay 12 = .ok (.iload_n 1, 1) := by decide +kernel
theorem dX6_delay_13 : decode cX6_delay 13 = .ok (.aaload, 1) := by decide +kernel
theorem dX6_delay_14 : decode cX6_delay 14 = .ok (.getfield 91, 3) := by decide +kernel
theorem dX6_delay_17 : decode cX6_delay 17 = .ok (.goto 5, 3) := by decide +kernel
theorem dX6_delay_20 : decode cX6_delay 20 = .ok (.bipush (-2), 2) := by decide +kernel
theorem dX6_delay_22 : decode cX6_delay 22 = .ok (.ireturn, 1) := by decide +kernel
theorem dX6_calibrate_0 : decode cX6_calibrate 0 = .ok (.aload_n 0, 1) := by decide +kernel
theorem dX6_calibrate_1 : decode cX6_calibrate 1 = .ok (.iload_n 1, 1) := by decide +kernel
theorem dX6_calibrate_2 : decode cX6_calibrate 2 = .ok (.invokevirtual 103, 3) := by decide +kernel
theorem dX6_calibrate_5 : decode cX6_calibrate 5 = .ok (.ifCond .ne 6, 3) := by decide +kernel
theorem dX6_calibrate_8 : decode cX6_calibrate 8 = .ok (.bipush (-2), 2) := by decide +kernel
theorem dX6_calibrate_10 : decode cX6_calibrate 10 = .ok (.ireturn, 1) := by decide +kernel
theorem dX6_calibrate_11 : decode cX6_calibrate 11 = .ok (.iload_n 2, 1) := by decide +kernel
theorem dX6_calibrate_12 : decode cX6_calibrate 12 = .ok (.iconst 1, 1) := by decide +kernel
theorem dX6_calibrate_13 : decode cX6_calibrate 13 = .ok (.bipush 50, 2) := by decide +kernel
theorem dX6_calibrate_15 : decode cX6_calibrate 15 = .ok (.invokestatic 87, 3) := by decide +kernel
theorem dX6_calibrate_18 : decode cX6_calibrate 18 = .ok (.ifCond .eq 6, 3) := by decide +kernel
theorem dX6_calibrate_21 : decode cX6_calibrate 21 = .ok (.bipush (-3), 2) := by decide +kernel
theorem dX6_calibrate_23 : decode cX6_calibrate 23 = .ok (.ireturn, 1) := by decide +kernel
theorem dX6_calibrate_24 : decode cX6_calibrate 24 = .ok (.aload_n 0, 1) := by decide +kernel
theorem dX6_calibrate_25 : decode cX6_calibrate 25 = .ok (.getfield 11, 3) := by decide +kernel
theorem dX6_calibrate_28 : decode cX6_calibrate 28 = .ok (.iload_n 1, 1) := by decide +kernel
theorem dX6_calibrate_29 : decode cX6_calibrate 29 = .ok (.aaload, 1) := by decide +kernel
theorem dX6_calibrate_30 : decode cX6_calibrate 30 = .ok (.astore_n 3, 1) := by decide +kernel
theorem dX6_calibrate_31 : decode cX6_calibrate 31 = .ok (.aload_n 3, 1) := by decide +kernel
theorem dX6_calibrate_32 : decode cX6_calibrate 32 = .ok (.iconst 3, 1) := by decide +kernel
theorem dX6_calibrate_33 : decode cX6_calibrate 33 = .ok (.aload_n 3, 1) := by decide +kernel
theorem dX6_calibrate_34 : decode cX6_calibrate 34 = .ok (.getfield 91, 3) := by decide +kernel
theorem dX6_calibrate_37 : decode cX6_calibrate 37 = .ok (.imul, 1) := by decide +kernel
theorem dX6_calibrate_38 : decode cX6_calibrate 38 = .ok (.iload_n 2, 1) := by decide +kernel
theorem dX6_calibrate_39 : decode cX6_calibrate 39 = .ok (.iadd, 1) := by decide +kernel
theorem dX6_calibrate_40 : decode cX6_calibrate 40 = .ok (.iconst 2, 1) := by decide +kernel
theorem dX6_calibrate_41 : decode cX6_calibrate 41 = .ok (.iadd, 1) := by decide +kernel
theorem dX6_calibrate_42 : decode cX6_calibrate 42 = .ok (.iconst 4, 1) := by decide +kernel
theorem dX6_calibrate_43 : decode cX6_calibrate 43 = .ok (.idiv, 1) := by decide +kernel
theorem dX6_calibrate_44 : decode cX6_calibrate 44 = .ok (.putfield 91, 3) := by decide +kernel
theorem dX6_calibrate_47 : decode cX6_calibrate 47 = .ok (.aload_n 3, 1) := by decide +kernel
theorem dX6_calibrate_48 : decode cX6_calibrate 48 = .ok (.getfield 91, 3) := by decide +kernel
theorem dX6_calibrate_51 : decode cX6_calibrate 51 = .ok (.ireturn, 1) := by decide +kernel
theorem dX6_setPowerLimit_0 : decode cX6_setPowerLimit 0 = .ok (.iload_n 1, 1) := by decide +kernel
theorem dX6_setPowerLimit_1 : decode cX6_setPowerLimit 1 = .ok (.iconst 1, 1) := by decide +kernel
theorem dX6_setPowerLimit_2 : decode cX6_setPowerLimit 2 = .ok (.bipush 12, 2) := by decide +kernel
theorem dX6_setPowerLimit_4 : decode cX6_setPowerLimit 4 = .ok (.invokestatic 87, 3) := by decide +kernel
theorem dX6_setPowerLimit_7 : decode cX6_setPowerLimit 7 = .ok (.ifCond .eq 6, 3) := by decide +kernel
theorem dX6_setPowerLimit_10 : decode cX6_setPowerLimit 10 = .ok (.bipush (-3), 2) := by decide +kernel
theorem dX6_setPowerLimit_12 : decode cX6_setPowerLimit 12 = .ok (.ireturn, 1) := by decide +kernel
theorem dX6_setPowerLimit_13 : decode cX6_setPowerLimit 13 = .ok (.aload_n 0, 1) := by decide +kernel
theorem dX6_setPowerLimit_14 : decode cX6_setPowerLimit 14 = .ok (.getfield 76, 3) := by decide +kernel
theorem dX6_setPowerLimit_17 : decode cX6_setPowerLimit 17 = .ok (.istore_n 2, 1) := by decide +kernel
theorem dX6_setPowerLimit_18 : decode cX6_setPowerLimit 18 = .ok (.aload_n 0, 1) := by decide +kernel
theorem dX6_setPowerLimit_19 : decode cX6_setPowerLimit 19 = .ok (.iload_n 1, 1) := by decide +kernel
theorem dX6_setPowerLimit_20 : decode cX6_setPowerLimit 20 = .ok (.putfield 76, 3) := by decide +kernel
theorem dX6_setPowerLimit_23 : decode cX6_setPowerLimit 23 = .ok (.iload_n 2, 1) := by decide +kernel
theorem dX6_setPowerLimit_24 : decode cX6_setPowerLimit 24 = .ok (.ireturn, 1) := by decide +kernel
theorem dX6_currentTime_0 : decode cX6_currentTime 0 = .ok (.aload_n 0, 1) := by decide +kernel
theorem dX6_currentTime_1 : decode cX6_currentTime 1 = .ok (.getfield 73, 3) := by decide +kernel
theorem dX6_currentTime_4 : decode cX6_currentTime 4 = .ok (.ireturn, 1) := by decide +kernel
theorem dX6_advance_0 : decode cX6_advance 0 = .ok (.iload_n 1, 1) := by decide +kernel
theorem dX6_advance_1 : decode cX6_advance 1 = .ok (.iconst 0, 1) := by decide +kernel
theorem dX6_advance_2 : decode cX6_advance 2 = .ok (.sipush 2000, 3) := by decide +kernel
theorem dX6_advance_5 : decode cX6_advance 5 = .ok (.invokestatic 87, 3) := by decide +kernel
theorem dX6_advance_8 : decode cX6_advance 8 = .ok (.ifCond .eq 6, 3) := by decide +kernel
theorem dX6_advance_11 : decode cX6_advance 11 = .ok (.bipush (-3), 2) := by decide +kernel
theorem dX6_advance_13 : decode cX6_advance 13 = .ok (.ireturn, 1) := by decide +kernel
theorem dX6_advance_14 : decode cX6_advance 14 = .ok (.aload_n 0, 1) := by decide +kernel
theorem dX6_advance_15 : decode cX6_advance 15 = .ok (.getfield 73, 3) := by decide +kernel
theorem dX6_advance_18 : decode cX6_advance 18 = .ok (.iload_n 1, 1) := by decide +kernel
theorem dX6_advance_19 : decode cX6_advance 19 = .ok (.iadd, 1) := by decide +kernel
theorem dX6_advance_20 : decode cX6_advance 20 = .ok (.ldc 107, 2) := by decide +kernel
theorem dX6_advance_22 : decode cX6_advance 22 = .ok (.if_icmp .le 6, 3) := by decide +kernel
theorem dX6_advance_25 : decode cX6_advance 25 = .ok (.bipush (-4), 2) := by decide +kernel
theorem dX6_advance_27 : decode cX6_advance 27 = .ok (.ireturn, 1) := by decide +kernel
theorem dX6_advance_28 : decode cX6_advance 28 = .ok (.iconst 0, 1) := by decide +kernel
theorem dX6_advance_29 : decode cX6_advance 29 = .ok (.istore_n 2, 1) := by decide +kernel
theorem dX6_advance_30 : decode cX6_advance 30 = .ok (.iload_n 1, 1) := by decide +kernel
theorem dX6_advance_31 : decode cX6_advance 31 = .ok (.istore_n 3, 1) := by decide +kernel
theorem dX6_advance_32 : decode cX6_advance 32 = .ok (.iload_n 3, 1) := by decide +kernel
theorem dX6_advance_33 : decode cX6_advance 33 = .ok (.ifCond .le 37, 3) := by decide +kernel
theorem dX6_advance_36 : decode cX6_advance 36 = .ok (.aload_n 0, 1) := by decide +kernel
theorem dX6_advance_37 : decode cX6_advance 37 = .ok (.dup, 1) := by decide +kernel
theorem dX6_advance_38 : decode cX6_advance 38 = .ok (.getfield 73, 3) := by decide +kernel
theorem dX6_advance_41 : decode cX6_advance 41 = .ok (.iconst 1, 1) := by decide +kernel
theorem dX6_advance_42 : decode cX6_advance 42 = .ok (.iadd, 1) := by decide +kernel
theorem dX6_advance_43 : decode cX6_advance 43 = .ok (.putfield 73, 3) := by decide +kernel
theorem dX6_advance_46 : decode cX6_advance 46 = .ok (.iload_n 2, 1) := by decide +kernel
theorem dX6_advance_47 : decode cX6_advance 47 = .ok (.aload_n 0, 1) := by decide +kernel
theorem dX6_advance_48 : decode cX6_advance 48 = .ok (.invokevirtual 108, 3) := by decide +kernel
theorem dX6_advance_51 : decode cX6_advance 51 = .ok (.iadd, 1) := by decide +kernel
theorem dX6_advance_52 : decode cX6_advance 52 = .ok (.istore_n 2, 1) := by decide +kernel
theorem dX6_advance_53 : decode cX6_advance 53 = .ok (.iload_n 2, 1) := by decide +kernel
theorem dX6_advance_54 : decode cX6_advance 54 = .ok (.aload_n 0, 1) := by decide +kernel
theorem dX6_advance_55 : decode cX6_advance 55 = .ok (.invokevirtual 112, 3) := by decide +kernel
theorem dX6_advance_58 : decode cX6_advance 58 = .ok (.iadd, 1) := by decide +kernel
theorem dX6_advance_59 : decode cX6_advance 59 = .ok (.istore_n 2, 1) := by decide +kernel
theorem dX6_advance_60 : decode cX6_advance 60 = .ok (.aload_n 0, 1) := by decide +kernel
theorem dX6_advance_61 : decode cX6_advance 61 = .ok (.invokevirtual 115, 3) := by decide +kernel
theorem dX6_advance_64 : decode cX6_advance 64 = .ok (.iinc 3 (-1), 3) := by decide +kernel
theorem dX6_advance_67 : decode cX6_advance 67 = .ok (.goto (-35), 3) := by decide +kernel
theorem dX6_advance_70 : decode cX6_advance 70 = .ok (.iload_n 2, 1) := by decide +kernel
theorem dX6_advance_71 : decode cX6_advance 71 = .ok (.ireturn, 1) := by decide +kernel
theorem dX6_recordLength_0 : decode cX6_recordLength 0 = .ok (.aload_n 0, 1) := by decide +kernel
theorem dX6_recordLength_1 : decode cX6_recordLength 1 = .ok (.getfield 23, 3) := by decide +kernel
theorem dX6_recordLength_4 : decode cX6_recordLength 4 = .ok (.getfield 118, 3) := by decide +kernel
theorem dX6_recordLength_7 : decode cX6_recordLength 7 = .ok (.ireturn, 1) := by decide +kernel
theorem dX6_recordBell_0 : decode cX6_recordBell 0 = .ok (.iload_n 1, 1) := by decide +kernel
theorem dX6_recordBell_1 : decode cX6_recordBell 1 = .ok (.ifCond .ge 6, 3) := by decide +kernel
theorem dX6_recordBell_4 : decode cX6_recordBell 4 = .ok (.bipush (-3), 2) := by decide +kernel
theorem dX6_recordBell_6 : decode cX6_recordBell 6 = .ok (.ireturn, 1) := by decide +kernel
theorem dX6_recordBell_7 : decode cX6_recordBell 7 = .ok (.aload_n 0, 1) := by decide +kernel
theorem dX6_recordBell_8 : decode cX6_recordBell 8 = .ok (.getfield 23, 3) := by decide +kernel
theorem dX6_recordBell_11 : decode cX6_recordBell 11 = .ok (.iload_n 1, 1) := by decide +kernel
theorem dX6_recordBell_12 : decode cX6_recordBell 12 = .ok (.invokevirtual 121, 3) := by decide +kernel
theorem dX6_recordBell_15 : decode cX6_recordBell 15 = .ok (.istore_n 2, 1) := by decide +kernel
theorem dX6_recordBell_16 : decode cX6_recordBell 16 = .ok (.iload_n 2, 1) := by decide +kernel
theorem dX6_recordBell_17 : decode cX6_recordBell 17 = .ok (.ifCond .ge 7, 3) := by decide +kernel
theorem dX6_recordBell_20 : decode cX6_recordBell 20 = .ok (.iconst (-1), 1) := by decide +kernel
theorem dX6_recordBell_21 : decode cX6_recordBell 21 = .ok (.goto 12, 3) := by decide +kernel
theorem dX6_recordBell_24 : decode cX6_recordBell 24 = .ok (.aload_n 0, 1) := by decide +kernel
theorem dX6_recordBell_25 : decode cX6_recordBell 25 = .ok (.getfield 23, 3) := by decide +kernel
theorem dX6_recordBell_28 : decode cX6_recordBell 28 = .ok (.getfield 125, 3) := by decide +kernel
theorem dX6_recordBell_31 : decode cX6_recordBell 31 = .ok (.iload_n 2, 1) := by decide +kernel
theorem dX6_recordBell_32 : decode cX6_recordBell 32 = .ok (.iaload, 1) := by decide +kernel
theorem dX6_recordBell_33 : decode cX6_recordBell 33 = .ok (.ireturn, 1) := by decide +kernel
theorem dX6_recordTime_0 : decode cX6_recordTime 0 = .ok (.iload_n 1, 1) := by decide +kernel
theorem dX6_recordTime_1 : decode cX6_recordTime 1 = .ok (.ifCond .ge 6, 3) := by decide +kernel
theorem dX6_recordTime_4 : decode cX6_recordTime 4 = .ok (.bipush (-3), 2) := by decide +kernel
theorem dX6_recordTime_6 : decode cX6_recordTime 6 = .ok (.ireturn, 1) := by decide +kernel
theorem dX6_recordTime_7 : decode cX6_recordTime 7 = .ok (.aload_n 0, 1) := by decide +kernel
theorem dX6_recordTime_8 : decode cX6_recordTime 8 = .ok (.getfield 23, 3) := by decide +kernel
theorem dX6_recordTime_11 : decode cX6_recordTime 11 = .ok (.iload_n 1, 1) := by decide +kernel
theorem dX6_recordTime_12 : decode cX6_recordTime 12 = .ok (.invokevirtual 121, 3) := by decide +kernel
theorem dX6_recordTime_15 : decode cX6_recordTime 15 = .ok (.istore_n 2, 1) := by decide +kernel
theorem dX6_recordTime_16 : decode cX6_recordTime 16 = .ok (.iload_n 2, 1) := by decide +kernel
theorem dX6_recordTime_17 : decode cX6_recordTime 17 = .ok (.ifCond .ge 7, 3) := by decide +kernel
theorem dX6_recordTime_20 : decode cX6_recordTime 20 = .ok (.iconst (-1), 1) := by decide +kernel
theorem dX6_recordTime_21 : decode cX6_recordTime 21 = .ok (.goto 12, 3) := by decide +kernel
theorem dX6_recordTime_24 : decode cX6_recordTime 24 = .ok (.aload_n 0, 1) := by decide +kernel
theorem dX6_recordTime_25 : decode cX6_recordTime 25 = .ok (.getfield 23, 3) := by decide +kernel
theorem dX6_recordTime_28 : decode cX6_recordTime 28 = .ok (.getfield 127, 3) := by decide +kernel
theorem dX6_recordTime_31 : decode cX6_recordTime 31 = .ok (.iload_n 2, 1) := by decide +kernel
theorem dX6_recordTime_32 : decode cX6_recordTime 32 = .ok (.iaload, 1) := by decide +kernel
theorem dX6_recordTime_33 : decode cX6_recordTime 33 = .ok (.ireturn, 1) := by decide +kernel
theorem dX6_recordClapper_0 : decode cX6_recordClapper 0 = .ok (.iload_n 1, 1) := by decide +kernel
theorem dX6_recordClapper_1 : decode cX6_recordClapper 1 = .ok (.ifCond .ge 6, 3) := by decide +kernel
theorem dX6_recordClapper_4 : decode cX6_recordClapper 4 = .ok (.bipush (-3), 2) := by decide +kernel
theorem dX6_recordClapper_6 : decode cX6_recordClapper 6 = .ok (.ireturn, 1) := by decide +kernel
theorem dX6_recordClapper_7 : decode cX6_recordClapper 7 = .ok (.aload_n 0, 1) := by decide +kernel
theorem dX6_recordClapper_8 : decode cX6_recordClapper 8 = .ok (.getfield 23, 3) := by decide +kernel
theorem dX6_recordClapper_11 : decode cX6_recordClapper 11 = .ok (.iload_n 1, 1) := by decide +kernel
theorem dX6_recordClapper_12 : decode cX6_recordClapper 12 = .ok (.invokevirtual 121, 3) := by decide +kernel
theorem dX6_recordClapper_15 : decode cX6_recordClapper 15 = .ok (.istore_n 2, 1) := by decide +kernel
theorem dX6_recordClapper_16 : decode cX6_recordClapper 16 = .ok (.iload_n 2, 1) := by decide +kernel
theorem dX6_recordClapper_17 : decode cX6_recordClapper 17 = .ok (.ifCond .ge 7, 3) := by decide +kernel
theorem dX6_recordClapper_20 : decode cX6_recordClapper 20 = .ok (.iconst (-1), 1) := by decide +kernel
theorem dX6_recordClapper_21 : decode cX6_recordClapper 21 = .ok (.goto 12, 3) := by decide +kernel
theorem dX6_recordClapper_24 : decode cX6_recordClapper 24 = .ok (.aload_n 0, 1) := by decide +kernel
theorem dX6_recordClapper_25 : decode cX6_recordClapper 25 = .ok (.getfield 23, 3) := by decide +kernel
theorem dX6_recordClapper_28 : decode cX6_recordClapper 28 = .ok (.getfield 130, 3) := by decide +kernel
theorem dX6_recordClapper_31 : decode cX6_recordClapper 31 = .ok (.iload_n 2, 1) := by decide +kernel
theorem dX6_recordClapper_32 : decode cX6_recordClapper 32 = .ok (.iaload, 1) := by decide +kernel
theorem dX6_recordClapper_33 : decode cX6_recordClapper 33 = .ok (.ireturn, 1) := by decide +kernel
theorem dX6_scheduleStroke_0 : decode cX6_scheduleStroke 0 = .ok (.aload_n 0, 1) := by decide +kernel
theorem dX6_scheduleStroke_1 : decode cX6_scheduleStroke 1 = .ok (.iload_n 1, 1) := by decide +kernel
theorem dX6_scheduleStroke_2 : decode cX6_scheduleStroke 2 = .ok (.invokevirtual 103, 3) := by decide +kernel
theorem dX6_scheduleStroke_5 : decode cX6_scheduleStroke 5 = .ok (.ifCond .ne 6, 3) := by decide +kernel
theorem dX6_scheduleStroke_8 : decode cX6_scheduleStroke 8 = .ok (.bipush (-2), 2) := by decide +kernel
theorem dX6_scheduleStroke_10 : decode cX6_scheduleStroke 10 = .ok (.ireturn, 1) := by decide +kernel
theorem dX6_scheduleStroke_11 : decode cX6_scheduleStroke 11 = .ok (.iload_n 2, 1) := by decide +kernel
theorem dX6_scheduleStroke_12 : decode cX6_scheduleStroke 12 = .ok (.iconst 0, 1) := by decide +kernel
theorem dX6_scheduleStroke_13 : decode cX6_scheduleStroke 13 = .ok (.ldc 107, 2) := by decide +kernel
theorem dX6_scheduleStroke_15 : decode cX6_scheduleStroke 15 = .ok (.invokestatic 87, 3) := by decide +kernel
theorem dX6_scheduleStroke_18 : decode cX6_scheduleStroke 18 = .ok (.ifCond .eq 6, 3) := by decide +kernel
theorem dX6_scheduleStroke_21 : decode cX6_scheduleStroke 21 = .ok (.bipush (-3), 2) := by decide +kernel
theorem dX6_scheduleStroke_23 : decode cX6_scheduleStroke 23 = .ok (.ireturn, 1) := by decide +kernel
theorem dX6_scheduleStroke_24 : decode cX6_scheduleStroke 24 = .ok (.aload_n 0, 1) := by decide +kernel
theorem dX6_scheduleStroke_25 : decode cX6_scheduleStroke 25 = .ok (.aload_n 0, 1) := by decide +kernel
theorem dX6_scheduleStroke_26 : decode cX6_scheduleStroke 26 = .ok (.getfield 30, 3) := by decide +kernel
theorem dX6_scheduleStroke_29 : decode cX6_scheduleStroke 29 = .ok (.iload_n 1, 1) := by decide +kernel
theorem dX6_scheduleStroke_30 : decode cX6_scheduleStroke 30 = .ok (.iload_n 2, 1) := by decide +kernel
theorem dX6_scheduleStroke_31 : decode cX6_scheduleStroke 31 = .ok (.invokevirtual 133, 3) := by decide +kernel
theorem dX6_scheduleStroke_34 : decode cX6_scheduleStroke 34 = .ok (.istore_n 3, 1) := by decide +kernel
theorem dX6_scheduleStroke_35 : decode cX6_scheduleStroke 35 = .ok (.iload_n 3, 1) := by decide +kernel
theorem dX6_scheduleStroke_36 : decode cX6_scheduleStroke 36 = .ok (.ifCond .eq 5, 3) := by decide +kernel
theorem dX6_scheduleStroke_39 : decode cX6_scheduleStroke 39 = .ok (.iload_n 3, 1) := by decide +kernel
theorem dX6_scheduleStroke_40 : decode cX6_scheduleStroke 40 = .ok (.ireturn, 1) := by decide +kernel
theorem dX6_scheduleStroke_41 : decode cX6_scheduleStroke 41 = .ok (.iload_n 2, 1) := by decide +kernel
theorem dX6_scheduleStroke_42 : decode cX6_scheduleStroke 42 = .ok (.aload_n 0, 1) := by decide +kernel
theorem dX6_scheduleStroke_43 : decode cX6_scheduleStroke 43 = .ok (.getfield 11, 3) := by decide +kernel
theorem dX6_scheduleStroke_46 : decode cX6_scheduleStroke 46 = .ok (.iload_n 1, 1) := by decide +kernel
theorem dX6_scheduleStroke_47 : decode cX6_scheduleStroke 47 = .ok (.aaload, 1) := by decide +kernel
theorem dX6_scheduleStroke_48 : decode cX6_scheduleStroke 48 = .ok (.getfield 91, 3) := by decide +kernel
theorem dX6_scheduleStroke_51 : decode cX6_scheduleStroke 51 = .ok (.isub, 1) := by decide +kernel
theorem dX6_scheduleStroke_52 : decode cX6_scheduleStroke 52 = .ok (.istore 4, 2) := by decide +kernel
theorem dX6_scheduleStroke_54 : decode cX6_scheduleStroke 54 = .ok (.aload_n 0, 1) := by decide +kernel
theorem dX6_scheduleStroke_55 : decode cX6_scheduleStroke 55 = .ok (.getfield 30, 3) := by decide +kernel
theorem dX6_scheduleStroke_58 : decode cX6_scheduleStroke 58 = .ok (.iload_n 1, 1) := by decide +kernel
theorem dX6_scheduleStroke_59 : decode cX6_scheduleStroke 59 = .ok (.iload 4, 2) := by decide +kernel
theorem dX6_scheduleStroke_61 : decode cX6_scheduleStroke 61 = .ok (.iload_n 2, 1) := by decide +kernel
theorem dX6_scheduleStroke_62 : decode cX6_scheduleStroke 62 = .ok (.invokevirtual 137, 3) := by decide +kernel
theorem dX6_scheduleStroke_65 : decode cX6_scheduleStroke 65 = .ok (.iload 4, 2) := by decide +kernel
theorem dX6_scheduleStroke_67 : decode cX6_scheduleStroke 67 = .ok (.ireturn, 1) := by decide +kernel
theorem dX6_cancelStroke_0 : decode cX6_cancelStroke 0 = .ok (.aload_n 0, 1) := by decide +kernel
theorem dX6_cancelStroke_1 : decode cX6_cancelStroke 1 = .ok (.iload_n 1, 1) := by decide +kernel
theorem dX6_cancelStroke_2 : decode cX6_cancelStroke 2 = .ok (.invokevirtual 103, 3) := by decide +kernel
theorem dX6_cancelStroke_5 : decode cX6_cancelStroke 5 = .ok (.ifCond .ne 6, 3) := by decide +kernel
theorem dX6_cancelStroke_8 : decode cX6_cancelStroke 8 = .ok (.bipush (-2), 2) := by decide +kernel
theorem dX6_cancelStroke_10 : decode cX6_cancelStroke 10 = .ok (.ireturn, 1) := by decide +kernel
theorem dX6_cancelStroke_11 : decode cX6_cancelStroke 11 = .ok (.aload_n 0, 1) := by decide +kernel
theorem dX6_cancelStroke_12 : decode cX6_cancelStroke 12 = .ok (.getfield 30, 3) := by decide +kernel
theorem dX6_cancelStroke_15 : decode cX6_cancelStroke 15 = .ok (.iload_n 1, 1) := by decide +kernel
theorem dX6_cancelStroke_16 : decode cX6_cancelStroke 16 = .ok (.iload_n 2, 1) := by decide +kernel
theorem dX6_cancelStroke_17 : decode cX6_cancelStroke 17 = .ok (.invokevirtual 141, 3) := by decide +kernel
theorem dX6_cancelStroke_20 : decode cX6_cancelStroke 20 = .ok (.istore_n 3, 1) := by decide +kernel
theorem dX6_cancelStroke_21 : decode cX6_cancelStroke 21 = .ok (.iload_n 3, 1) := by decide +kernel
theorem dX6_cancelStroke_22 : decode cX6_cancelStroke 22 = .ok (.ifCond .ge 6, 3) := by decide +kernel
theorem dX6_cancelStroke_25 : decode cX6_cancelStroke 25 = .ok (.bipush (-2), 2) := by decide +kernel
theorem dX6_cancelStroke_27 : decode cX6_cancelStroke 27 = .ok (.ireturn, 1) := by decide +kernel
theorem dX6_cancelStroke_28 : decode cX6_cancelStroke 28 = .ok (.aload_n 0, 1) := by decide +kernel
theorem dX6_cancelStroke_29 : decode cX6_cancelStroke 29 = .ok (.getfield 30, 3) := by decide +kernel
theorem dX6_cancelStroke_32 : decode cX6_cancelStroke 32 = .ok (.getfield 145, 3) := by decide +kernel
theorem dX6_cancelStroke_35 : decode cX6_cancelStroke 35 = .ok (.iload_n 3, 1) := by decide +kernel
theorem dX6_cancelStroke_36 : decode cX6_cancelStroke 36 = .ok (.iaload, 1) := by decide +kernel
theorem dX6_cancelStroke_37 : decode cX6_cancelStroke 37 = .ok (.aload_n 0, 1) := by decide +kernel
theorem dX6_cancelStroke_38 : decode cX6_cancelStroke 38 = .ok (.getfield 73, 3) := by decide +kernel
theorem dX6_cancelStroke_41 : decode cX6_cancelStroke 41 = .ok (.if_icmp .gt 6, 3) := by decide +kernel
theorem dX6_cancelStroke_44 : decode cX6_cancelStroke 44 = .ok (.bipush (-5), 2) := by decide +kernel
theorem dX6_cancelStroke_46 : decode cX6_cancelStroke 46 = .ok (.ireturn, 1) := by decide +kernel
theorem dX6_cancelStroke_47 : decode cX6_cancelStroke 47 = .ok (.aload_n 0, 1) := by decide +kernel
theorem dX6_cancelStroke_48 : decode cX6_cancelStroke 48 = .ok (.getfield 30, 3) := by decide +kernel
theorem dX6_cancelStroke_51 : decode cX6_cancelStroke 51 = .ok (.iload_n 3, 1) := by decide +kernel
theorem dX6_cancelStroke_52 : decode cX6_cancelStroke 52 = .ok (.invokevirtual 148, 3) := by decide +kernel
theorem dX6_cancelStroke_55 : decode cX6_cancelStroke 55 = .ok (.aload_n 0, 1) := by decide +kernel
theorem dX6_cancelStroke_56 : decode cX6_cancelStroke 56 = .ok (.getfield 30, 3) := by decide +kernel
theorem dX6_cancelStroke_59 : decode cX6_cancelStroke 59 = .ok (.getfield 152, 3) := by decide +kernel
theorem dX6_cancelStroke_62 : decode cX6_cancelStroke 62 = .ok (.ireturn, 1) := by decide +kernel
theorem dX6_scheduledCount_0 : decode cX6_scheduledCount 0 = .ok (.aload_n 0, 1) := by decide +kernel
theorem dX6_scheduledCount_1 : decode cX6_scheduledCount 1 = .ok (.getfield 30, 3) := by decide +kernel
theorem dX6_scheduledCount_4 : decode cX6_scheduledCount 4 = .ok (.getfield 152, 3) := by decide +kernel
theorem dX6_scheduledCount_7 : decode cX6_scheduledCount 7 = .ok (.ireturn, 1) := by decide +kernel
theorem dX6_nextStroke_0 : decode cX6_nextStroke 0 = .ok (.aload_n 0, 1) := by decide +kernel
theorem dX6_nextStroke_1 : decode cX6_nextStroke 1 = .ok (.iload_n 1, 1) := by decide +kernel
theorem dX6_nextStroke_2 : decode cX6_nextStroke 2 = .ok (.invokevirtual 103, 3) := by decide +kernel
theorem dX6_nextStroke_5 : decode cX6_nextStroke 5 = .ok (.ifCond .eq 14, 3) := by decide +kernel
theorem dX6_nextStroke_8 : decode cX6_nextStroke 8 = .ok (.aload_n 0, 1) := by decide +kernel
theorem dX6_nextStroke_9 : decode cX6_nextStroke 9 = .ok (.getfield 30, 3) := by decide +kernel
theorem dX6_nextStroke_12 : decode cX6_nextStroke 12 = .ok (.iload_n 1, 1) := by decide +kernel
theorem dX6_nextStroke_13 : decode cX6_nextStroke 13 = .ok (.invokevirtual 155, 3) := by decide +kernel
theorem dX6_nextStroke_16 : decode cX6_nextStroke 16 = .ok (.goto 5, 3) := by decide +kernel
theorem dX6_nextStroke_19 : decode cX6_nextStroke 19 = .ok (.bipush (-2), 2) := by decide +kernel
theorem dX6_nextStroke_21 : decode cX6_nextStroke 21 = .ok (.ireturn, 1) := by decide +kernel
theorem dX6_commandTime_0 : decode cX6_commandTime 0 = .ok (.iload_n 1, 1) := by decide +kernel
theorem dX6_commandTime_1 : decode cX6_commandTime 1 = .ok (.ifCond .ge 6, 3) := by decide +kernel
theorem dX6_commandTime_4 : decode cX6_commandTime 4 = .ok (.bipush (-3), 2) := by decide +kernel
theorem dX6_commandTime_6 : decode cX6_commandTime 6 = .ok (.ireturn, 1) := by decide +kernel
theorem dX6_commandTime_7 : decode cX6_commandTime 7 = .ok (.iload_n 1, 1) := by decide +kernel
theorem dX6_commandTime_8 : decode cX6_commandTime 8 = .ok (.aload_n 0, 1) := by decide +kernel
theorem dX6_commandTime_9 : decode cX6_commandTime 9 = .ok (.getfield 30, 3) := by decide +kernel
theorem dX6_commandTime_12 : decode cX6_commandTime 12 = .ok (.getfield 152, 3) := by decide +kernel
theorem dX6_commandTime_15 : decode cX6_commandTime 15 = .ok (.if_icmp .ge 15, 3) := by decide +kernel
theorem dX6_commandTime_18 : decode cX6_commandTime 18 = .ok (.aload_n 0, 1) := by decide +kernel
theorem dX6_commandTime_19 : decode cX6_commandTime 19 = .ok (.getfield 30, 3) := by decide +kernel
theorem dX6_commandTime_22 : decode cX6_commandTime 22 = .ok (.getfield 145, 3) := by decide +kernel
theorem dX6_commandTime_25 : decode cX6_commandTime 25 = .ok (.iload_n 1, 1) := by decide +kernel
theorem dX6_commandTime_26 : decode cX6_commandTime 26 = .ok (.iaload, 1) := by decide +kernel
theorem dX6_commandTime_27 : decode cX6_commandTime 27 = .ok (.goto 4, 3) := by decide +kernel
theorem dX6_commandTime_30 : decode cX6_commandTime 30 = .ok (.iconst (-1), 1) := by decide +kernel
theorem dX6_commandTime_31 : decode cX6_commandTime 31 = .ok (.ireturn, 1) := by decide +kernel
theorem dX6_commandBell_0 : decode cX6_commandBell 0 = .ok (.iload_n 1, 1) := by decide +kernel
theorem dX6_commandBell_1 : decode cX6_commandBell 1 = .ok (.ifCond .ge 6, 3) := by decide +kernel
theorem dX6_commandBell_4 : decode cX6_commandBell 4 = .ok (.bipush (-3), 2) := by decide +kernel
theorem dX6_commandBell_6 : decode cX6_commandBell 6 = .ok (.ireturn, 1) := by decide +kernel
theorem dX6_commandBell_7 : decode cX6_commandBell 7 = .ok (.iload_n 1, 1) := by decide +kernel
theorem dX6_commandBell_8 : decode cX6_commandBell 8 = .ok (.aload_n 0, 1) := by decide +kernel
theorem dX6_commandBell_9 : decode cX6_commandBell 9 = .ok (.getfield 30, 3) := by decide +kernel
theorem dX6_commandBell_12 : decode cX6_commandBell 12 = .ok (.getfield 152, 3) := by decide +kernel
theorem dX6_commandBell_15 : decode cX6_commandBell 15 = .ok (.if_icmp .ge 15, 3) := by decide +kernel
theorem dX6_commandBell_18 : decode cX6_commandBell 18 = .ok (.aload_n 0, 1) := by decide +kernel
theorem dX6_commandBell_19 : decode cX6_commandBell 19 = .ok (.getfield 30, 3) := by decide +kernel
theorem dX6_commandBell_22 : decode cX6_commandBell 22 = .ok (.getfield 158, 3) := by decide +kernel
theorem dX6_commandBell_25 : decode cX6_commandBell 25 = .ok (.iload_n 1, 1) := by decide +kernel
theorem dX6_commandBell_26 : decode cX6_commandBell 26 = .ok (.iaload, 1) := by decide +kernel
theorem dX6_commandBell_27 : decode cX6_commandBell 27 = .ok (.goto 4, 3) := by decide +kernel
theorem dX6_commandBell_30 : decode cX6_commandBell 30 = .ok (.iconst (-1), 1) := by decide +kernel
theorem dX6_commandBell_31 : decode cX6_commandBell 31 = .ok (.ireturn, 1) := by decide +kernel
theorem dX6_movingHammers_0 : decode cX6_movingHammers 0 = .ok (.iload_n 1, 1) := by decide +kernel
theorem dX6_movingHammers_1 : decode cX6_movingHammers 1 = .ok (.aload_n 0, 1) := by decide +kernel
theorem dX6_movingHammers_2 : decode cX6_movingHammers 2 = .ok (.getfield 73, 3) := by decide +kernel
theorem dX6_movingHammers_5 : decode cX6_movingHammers 5 = .ok (.ldc 107, 2) := by decide +kernel
theorem dX6_movingHammers_7 : decode cX6_movingHammers 7 = .ok (.invokestatic 87, 3) := by decide +kernel
theorem dX6_movingHammers_10 : decode cX6_movingHammers 10 = .ok (.ifCond .eq 8, 3) := by decide +kernel
theorem dX6_movingHammers_13 : decode cX6_movingHammers 13 = .ok (.bipush (-3), 2) := by decide +kernel
theorem dX6_movingHammers_15 : decode cX6_movingHammers 15 = .ok (.goto 11, 3) := by decide +kernel
theorem dX6_movingHammers_18 : decode cX6_movingHammers 18 = .ok (.aload_n 0, 1) := by decide +kernel
theorem dX6_movingHammers_19 : decode cX6_movingHammers 19 = .ok (.getfield 30, 3) := by decide +kernel
theorem dX6_movingHammers_22 : decode cX6_movingHammers 22 = .ok (.iload_n 1, 1) := by decide +kernel
theorem dX6_movingHammers_23 : decode cX6_movingHammers 23 = .ok (.invokevirtual 159, 3) := by decide +kernel
theorem dX6_movingHammers_26 : decode cX6_movingHammers 26 = .ok (.ireturn, 1) := by decide +kernel
theorem dX6_earliestStroke_0 : decode cX6_earliestStroke 0 = .ok (.aload_n 0, 1) := by decide +kernel
theorem dX6_earliestStroke_1 : decode cX6_earliestStroke 1 = .ok (.iload_n 1, 1) := by decide +kernel
theorem dX6_earliestStroke_2 : decode cX6_earliestStroke 2 = .ok (.invokevirtual 103, 3) := by decide +kernel
theorem dX6_earliestStroke_5 : decode cX6_earliestStroke 5 = .ok (.ifCond .ne 6, 3) := by decide +kernel
theorem dX6_earliestStroke_8 : decode cX6_earliestStroke 8 = .ok (.bipush (-2), 2) := by decide +kernel
theorem dX6_earliestStroke_10 : decode cX6_earliestStroke 10 = .ok (.ireturn, 1) := by decide +kernel
theorem dX6_earliestStroke_11 : decode cX6_earliestStroke 11 = .ok (.iload_n 2, 1) := by decide +kernel
theorem dX6_earliestStroke_12 : decode cX6_earliestStroke 12 = .ok (.iconst 0, 1) := by decide +kernel
theorem dX6_earliestStroke_13 : decode cX6_earliestStroke 13 = .ok (.ldc 107, 2) := by decide +kernel
theorem dX6_earliestStroke_15 : decode cX6_earliestStroke 15 = .ok (.invokestatic 87, 3) := by decide +kernel
theorem dX6_earliestStroke_18 : decode cX6_earliestStroke 18 = .ok (.ifCond .eq 6, 3) := by decide +kernel
theorem dX6_earliestStroke_21 : decode cX6_earliestStroke 21 = .ok (.bipush (-3), 2) := by decide +kernel
theorem dX6_earliestStroke_23 : decode cX6_earliestStroke 23 = .ok (.ireturn, 1) := by decide +kernel
theorem dX6_earliestStroke_24 : decode cX6_earliestStroke 24 = .ok (.aload_n 0, 1) := by decide +kernel
theorem dX6_earliestStroke_25 : decode cX6_earliestStroke 25 = .ok (.getfield 11, 3) := by decide +kernel
theorem dX6_earliestStroke_28 : decode cX6_earliestStroke 28 = .ok (.iload_n 1, 1) := by decide +kernel
theorem dX6_earliestStroke_29 : decode cX6_earliestStroke 29 = .ok (.aaload, 1) := by decide +kernel
theorem dX6_earliestStroke_30 : decode cX6_earliestStroke 30 = .ok (.getfield 162, 3) := by decide +kernel
theorem dX6_earliestStroke_33 : decode cX6_earliestStroke 33 = .ok (.ifCond .eq 6, 3) := by decide +kernel
theorem dX6_earliestStroke_36 : decode cX6_earliestStroke 36 = .ok (.bipush (-6), 2) := by decide +kernel
theorem dX6_earliestStroke_38 : decode cX6_earliestStroke 38 = .ok (.ireturn, 1) := by decide +kernel
theorem dX6_earliestStroke_39 : decode cX6_earliestStroke 39 = .ok (.aload_n 0, 1) := by decide +kernel
theorem dX6_earliestStroke_40 : decode cX6_earliestStroke 40 = .ok (.getfield 30, 3) := by decide +kernel
theorem dX6_earliestStroke_43 : decode cX6_earliestStroke 43 = .ok (.invokevirtual 166, 3) := by decide +kernel
theorem dX6_earliestStroke_46 : decode cX6_earliestStroke 46 = .ok (.ifCond .eq 6, 3) := by decide +kernel
theorem dX6_earliestStroke_49 : decode cX6_earliestStroke 49 = .ok (.bipush (-4), 2) := by decide +kernel
theorem dX6_earliestStroke_51 : decode cX6_earliestStroke 51 = .ok (.ireturn, 1) := by decide +kernel
theorem dX6_earliestStroke_52 : decode cX6_earliestStroke 52 = .ok (.iload_n 2, 1) := by decide +kernel
theorem dX6_earliestStroke_53 : decode cX6_earliestStroke 53 = .ok (.sipush 2000, 3) := by decide +kernel
theorem dX6_earliestStroke_56 : decode cX6_earliestStroke 56 = .ok (.iadd, 1) := by decide +kernel
theorem dX6_earliestStroke_57 : decode cX6_earliestStroke 57 = .ok (.ldc 107, 2) := by decide +kernel
theorem dX6_earliestStroke_59 : decode cX6_earliestStroke 59 = .ok (.invokestatic 170, 3) := by decide +kernel
theorem dX6_earliestStroke_62 : decode cX6_earliestStroke 62 = .ok (.istore_n 3, 1) := by decide +kernel
theorem dX6_earliestStroke_63 : decode cX6_earliestStroke 63 = .ok (.iload_n 2, 1) := by decide +kernel
theorem dX6_earliestStroke_64 : decode cX6_earliestStroke 64 = .ok (.istore 4, 2) := by decide +kernel
theorem dX6_earliestStroke_66 : decode cX6_earliestStroke 66 = .ok (.iload 4, 2) := by decide +kernel
theorem dX6_earliestStroke_68 : decode cX6_earliestStroke 68 = .ok (.iload_n 3, 1) := by decide +kernel
theorem dX6_earliestStroke_69 : decode cX6_earliestStroke 69 = .ok (.if_icmp .gt 26, 3) := by decide +kernel
theorem dX6_earliestStroke_72 : decode cX6_earliestStroke 72 = .ok (.aload_n 0, 1) := by decide +kernel
theorem dX6_earliestStroke_73 : decode cX6_earliestStroke 73 = .ok (.aload_n 0, 1) := by decide +kernel
theorem dX6_earliestStroke_74 : decode cX6_earliestStroke 74 = .ok (.getfield 30, 3) := by decide +kernel
theorem dX6_earliestStroke_77 : decode cX6_earliestStroke 77 = .ok (.iload_n 1, 1) := by decide +kernel
theorem dX6_earliestStroke_78 : decode cX6_earliestStroke 78 = .ok (.iload 4, 2) := by decide +kernel
theorem dX6_earliestStroke_80 : decode cX6_earliestStroke 80 = .ok (.invokevirtual 133, 3) := by decide +kernel
theorem dX6_earliestStroke_83 : decode cX6_earliestStroke 83 = .ok (.ifCond .ne 6, 3) := by decide +kernel
theorem dX6_earliestStroke_86 : decode cX6_earliestStroke 86 = .ok (.iload 4, 2) := by decide +kernel
theorem dX6_earliestStroke_88 : decode cX6_earliestStroke 88 = .ok (.ireturn, 1) := by decide +kernel
theorem dX6_earliestStroke_89 : decode cX6_earliestStroke 89 = .ok (.iinc 4 1, 3) := by decide +kernel
theorem dX6_earliestStroke_92 : decode cX6_earliestStroke 92 = .ok (.goto (-26), 3) := by decide +kernel
theorem dX6_earliestStroke_95 : decode cX6_earliestStroke 95 = .ok (.iconst (-1), 1) := by decide +kernel
theorem dX6_earliestStroke_96 : decode cX6_earliestStroke 96 = .ok (.ireturn, 1) := by decide +kernel
theorem dX6_appendBytes_0 : decode cX6_appendBytes 0 = .ok (.aload_n 0, 1) := by decide +kernel
theorem dX6_appendBytes_1 : decode cX6_appendBytes 1 = .ok (.getfield 40, 3) := by decide +kernel
theorem dX6_appendBytes_4 : decode cX6_appendBytes 4 = .ok (.getfield 175, 3) := by decide +kernel
theorem dX6_appendBytes_7 : decode cX6_appendBytes 7 = .ok (.bipush 20, 2) := by decide +kernel
theorem dX6_appendBytes_9 : decode cX6_appendBytes 9 = .ok (.iadd, 1) := by decide +kernel
theorem dX6_appendBytes_10 : decode cX6_appendBytes 10 = .ok (.sipush 300, 3) := by decide +kernel
theorem dX6_appendBytes_13 : decode cX6_appendBytes 13 = .ok (.if_icmp .le 6, 3) := by decide +kernel
theorem dX6_appendBytes_16 : decode cX6_appendBytes 16 = .ok (.bipush (-4), 2) := by decide +kernel
theorem dX6_appendBytes_18 : decode cX6_appendBytes 18 = .ok (.ireturn, 1) := by decide +kernel
theorem dX6_appendBytes_19 : decode cX6_appendBytes 19 = .ok (.aload_n 0, 1) := by decide +kernel
theorem dX6_appendBytes_20 : decode cX6_appendBytes 20 = .ok (.getfield 40, 3) := by decide +kernel
theorem dX6_appendBytes_23 : decode cX6_appendBytes 23 = .ok (.iload_n 1, 1) := by decide +kernel
theorem dX6_appendBytes_24 : decode cX6_appendBytes 24 = .ok (.invokevirtual 178, 3) := by decide +kernel
theorem dX6_appendBytes_27 : decode cX6_appendBytes 27 = .ok (.aload_n 0, 1) := by decide +kernel
theorem dX6_appendBytes_28 : decode cX6_appendBytes 28 = .ok (.getfield 40, 3) := by decide +kernel
theorem dX6_appendBytes_31 : decode cX6_appendBytes 31 = .ok (.iload_n 2, 1) := by decide +kernel
theorem dX6_appendBytes_32 : decode cX6_appendBytes 32 = .ok (.invokevirtual 178, 3) := by decide +kernel
theorem dX6_appendBytes_35 : decode cX6_appendBytes 35 = .ok (.aload_n 0, 1) := by decide +kernel
theorem dX6_appendBytes_36 : decode cX6_appendBytes 36 = .ok (.getfield 40, 3) := by decide +kernel
theorem dX6_appendBytes_39 : decode cX6_appendBytes 39 = .ok (.iload_n 3, 1) := by decide +kernel
theorem dX6_appendBytes_40 : decode cX6_appendBytes 40 = .ok (.invokevirtual 178, 3) := by decide +kernel
theorem dX6_appendBytes_43 : decode cX6_appendBytes 43 = .ok (.aload_n 0, 1) := by decide +kernel
theorem dX6_appendBytes_44 : decode cX6_appendBytes 44 = .ok (.getfield 40, 3) := by decide +kernel
theorem dX6_appendBytes_47 : decode cX6_appendBytes 47 = .ok (.iload 4, 2) := by decide +kernel
theorem dX6_appendBytes_49 : decode cX6_appendBytes 49 = .ok (.invokevirtual 178, 3) := by decide +kernel
theorem dX6_appendBytes_52 : decode cX6_appendBytes 52 = .ok (.aload_n 0, 1) := by decide +kernel
theorem dX6_appendBytes_53 : decode cX6_appendBytes 53 = .ok (.getfield 40, 3) := by decide +kernel
theorem dX6_appendBytes_56 : decode cX6_appendBytes 56 = .ok (.iload 5, 2) := by decide +kernel
theorem dX6_appendBytes_58 : decode cX6_appendBytes 58 = .ok (.invokevirtual 178, 3) := by decide +kernel
theorem dX6_appendBytes_61 : decode cX6_appendBytes 61 = .ok (.aload_n 0, 1) := by decide +kernel
theorem dX6_appendBytes_62 : decode cX6_appendBytes 62 = .ok (.getfield 40, 3) := by decide +kernel
theorem dX6_appendBytes_65 : decode cX6_appendBytes 65 = .ok (.getfield 175, 3) := by decide +kernel
theorem dX6_appendBytes_68 : decode cX6_appendBytes 68 = .ok (.ireturn, 1) := by decide +kernel
theorem dX6_loadPattern_0 : decode cX6_loadPattern 0 = .ok (.iload_n 1, 1) := by decide +kernel
theorem dX6_loadPattern_1 : decode cX6_loadPattern 1 = .ok (.invokestatic 181, 3) := by decide +kernel
theorem dX6_loadPattern_4 : decode cX6_loadPattern 4 = .ok (.ifCond .ne 6, 3) := by decide +kernel
theorem dX6_loadPattern_7 : decode cX6_loadPattern 7 = .ok (.bipush (-2), 2) := by decide +kernel
theorem dX6_loadPattern_9 : decode cX6_loadPattern 9 = .ok (.ireturn, 1) := by decide +kernel
theorem dX6_loadPattern_10 : decode cX6_loadPattern 10 = .ok (.iload_n 2, 1) := by decide +kernel
theorem dX6_loadPattern_11 : decode cX6_loadPattern 11 = .ok (.iconst 0, 1) := by decide +kernel
theorem dX6_loadPattern_12 : decode cX6_loadPattern 12 = .ok (.aload_n 0, 1) := by decide +kernel
theorem dX6_loadPattern_13 : decode cX6_loadPattern 13 = .ok (.getfield 40, 3) := by decide +kernel
theorem dX6_loadPattern_16 : decode cX6_loadPattern 16 = .ok (.getfield 175, 3) := by decide +kernel
theorem dX6_loadPattern_19 : decode cX6_loadPattern 19 = .ok (.invokestatic 87, 3) := by decide +kernel
theorem dX6_loadPattern_22 : decode cX6_loadPattern 22 = .ok (.ifCond .eq 6, 3) := by decide +kernel
theorem dX6_loadPattern_25 : decode cX6_loadPattern 25 = .ok (.bipush (-3), 2) := by decide +kernel
theorem dX6_loadPattern_27 : decode cX6_loadPattern 27 = .ok (.ireturn, 1) := by decide +kernel
theorem dX6_loadPattern_28 : decode cX6_loadPattern 28 = .ok (.aload_n 0, 1) := by decide +kernel
theorem dX6_loadPattern_29 : decode cX6_loadPattern 29 = .ok (.getfield 40, 3) := by decide +kernel
theorem dX6_loadPattern_32 : decode cX6_loadPattern 32 = .ok (.iload_n 2, 1) := by decide +kernel
theorem dX6_loadPattern_33 : decode cX6_loadPattern 33 = .ok (.invokevirtual 184, 3) := by decide +kernel
theorem dX6_loadPattern_36 : decode cX6_loadPattern 36 = .ok (.aload_n 0, 1) := by decide +kernel
theorem dX6_loadPattern_37 : decode cX6_loadPattern 37 = .ok (.getfield 40, 3) := by decide +kernel
theorem dX6_loadPattern_40 : decode cX6_loadPattern 40 = .ok (.iconst 0, 1) := by decide +kernel
theorem dX6_loadPattern_41 : decode cX6_loadPattern 41 = .ok (.putfield 175, 3) := by decide +kernel
theorem dX6_loadPattern_44 : decode cX6_loadPattern 44 = .ok (.aload_n 0, 1) := by decide +kernel
theorem dX6_loadPattern_45 : decode cX6_loadPattern 45 = .ok (.getfield 40, 3) := by decide +kernel
theorem dX6_loadPattern_48 : decode cX6_loadPattern 48 = .ok (.getfield 187, 3) := by decide +kernel
theorem dX6_loadPattern_51 : decode cX6_loadPattern 51 = .ok (.ifCond .eq 14, 3) := by decide +kernel
theorem dX6_loadPattern_54 : decode cX6_loadPattern 54 = .ok (.bipush (-30), 2) := by decide +kernel
theorem dX6_loadPattern_56 : decode cX6_loadPattern 56 = .ok (.aload_n 0, 1) := by decide +kernel
theorem dX6_loadPattern_57 : decode cX6_loadPattern 57 = .ok (.getfield 40, 3) := by decide +kernel
theorem dX6_loadPattern_60 : decode cX6_loadPattern 60 = .ok (.getfield 187, 3) := by decide +kernel
theorem dX6_loadPattern_63 : decode cX6_loadPattern 63 = .ok (.isub, 1) := by decide +kernel
theorem dX6_loadPattern_64 : decode cX6_loadPattern 64 = .ok (.ireturn, 1) := by decide +kernel
theorem dX6_loadPattern_65 : decode cX6_loadPattern 65 = .ok (.aload_n 0, 1) := by decide +kernel
theorem dX6_loadPattern_66 : decode cX6_loadPattern 66 = .ok (.getfield 46, 3) := by decide +kernel
theorem dX6_loadPattern_69 : decode cX6_loadPattern 69 = .ok (.iload_n 1, 1) := by decide +kernel
theorem dX6_loadPattern_70 : decode cX6_loadPattern 70 = .ok (.aaload, 1) := by decide +kernel
theorem dX6_loadPattern_71 : decode cX6_loadPattern 71 = .ok (.astore_n 3, 1) := by decide +kernel
theorem dX6_loadPattern_72 : decode cX6_loadPattern 72 = .ok (.aload_n 0, 1) := by decide +kernel
theorem dX6_loadPattern_73 : decode cX6_loadPattern 73 = .ok (.getfield 40, 3) := by decide +kernel
theorem dX6_loadPattern_76 : decode cX6_loadPattern 76 = .ok (.getfield 190, 3) := by decide +kernel
theorem dX6_loadPattern_79 : decode cX6_loadPattern 79 = .ok (.iconst 0, 1) := by decide +kernel
theorem dX6_loadPattern_80 : decode cX6_loadPattern 80 = .ok (.aload_n 3, 1) := by decide +kernel
theorem dX6_loadPattern_81 : decode cX6_loadPattern 81 = .ok (.getfield 193, 3) := by decide +kernel
theorem dX6_loadPattern_84 : decode cX6_loadPattern 84 = .ok (.iconst 0, 1) := by decide +kernel
theorem dX6_loadPattern_85 : decode cX6_loadPattern 85 = .ok (.aload_n 0, 1) := by decide +kernel
theorem dX6_loadPattern_86 : decode cX6_loadPattern 86 = .ok (.getfield 40, 3) := by decide +kernel
theorem dX6_loadPattern_89 : decode cX6_loadPattern 89 = .ok (.getfield 194, 3) := by decide +kernel
theorem dX6_loadPattern_92 : decode cX6_loadPattern 92 = .ok (.invokestatic 195, 3) := by decide +kernel
theorem dX6_loadPattern_95 : decode cX6_loadPattern 95 = .ok (.aload_n 3, 1) := by decide +kernel
theorem dX6_loadPattern_96 : decode cX6_loadPattern 96 = .ok (.aload_n 0, 1) := by decide +kernel
theorem dX6_loadPattern_97 : decode cX6_loadPattern 97 = .ok (.getfield 40, 3) := by decide +kernel
theorem dX6_loadPattern_100 : decode cX6_loadPattern 100 = .ok (.getfield 194, 3) := by decide +kernel
theorem dX6_loadPattern_103 : decode cX6_loadPattern 103 = .ok (.putfield 201, 3) := by decide +kernel
theorem dX6_loadPattern_106 : decode cX6_loadPattern 106 = .ok (.aload_n 3, 1) := by decide +kernel
theorem dX6_loadPattern_107 : decode cX6_loadPattern 107 = .ok (.getfield 201, 3) := by decide +kernel
theorem dX6_loadPattern_110 : decode cX6_loadPattern 110 = .ok (.ireturn, 1) := by decide +kernel
theorem dX6_patternError_0 : decode cX6_patternError 0 = .ok (.aload_n 0, 1) := by decide +kernel
theorem dX6_patternError_1 : decode cX6_patternError 1 = .ok (.getfield 40, 3) := by decide +kernel
theorem dX6_patternError_4 : decode cX6_patternError 4 = .ok (.getfield 187, 3) := by decide +kernel
theorem dX6_patternError_7 : decode cX6_patternError 7 = .ok (.ireturn, 1) := by decide +kernel
theorem dX6_patternErrorPosition_0 : decode cX6_patternErrorPosition 0 = .ok (.aload_n 0, 1) := by decide +kernel
theorem dX6_patternErrorPosition_1 : decode cX6_patternErrorPosition 1 = .ok (.getfield 40, 3) := by decide +kernel
theorem dX6_patternErrorPosition_4 : decode cX6_patternErrorPosition 4 = .ok (.getfield 202, 3) := by decide +kernel
theorem dX6_patternErrorPosition_7 : decode cX6_patternErrorPosition 7 = .ok (.ireturn, 1) := by decide +kernel
theorem dX6_stepBells_0 : decode cX6_stepBells 0 = .ok (.iload_n 1, 1) := by decide +kernel
theorem dX6_stepBells_1 : decode cX6_stepBells 1 = .ok (.invokestatic 181, 3) := by decide +kernel
theorem dX6_stepBells_4 : decode cX6_stepBells 4 = .ok (.ifCond .ne 6, 3) := by decide +kernel
theorem dX6_stepBells_7 : decode cX6_stepBells 7 = .ok (.bipush (-2), 2) := by decide +kernel
theorem dX6_stepBells_9 : decode cX6_stepBells 9 = .ok (.ireturn, 1) := by decide +kernel
theorem dX6_stepBells_10 : decode cX6_stepBells 10 = .ok (.aload_n 0, 1) := by decide +kernel
theorem dX6_stepBells_11 : decode cX6_stepBells 11 = .ok (.getfield 46, 3) := by decide +kernel
theorem dX6_stepBells_14 : decode cX6_stepBells 14 = .ok (.iload_n 1, 1) := by decide +kernel
theorem dX6_stepBells_15 : decode cX6_stepBells 15 = .ok (.aaload, 1) := by decide +kernel
theorem dX6_stepBells_16 : decode cX6_stepBells 16 = .ok (.astore_n 3, 1) := by decide +kernel
theorem dX6_stepBells_17 : decode cX6_stepBells 17 = .ok (.aload_n 3, 1) := by decide +kernel
theorem dX6_stepBells_18 : decode cX6_stepBells 18 = .ok (.invokevirtual 205, 3) := by decide +kernel
theorem dX6_stepBells_21 : decode cX6_stepBells 21 = .ok (.ifCond .eq 6, 3) := by decide +kernel
theorem dX6_stepBells_24 : decode cX6_stepBells 24 = .ok (.bipush (-9), 2) := by decide +kernel
theorem dX6_stepBells_26 : decode cX6_stepBells 26 = .ok (.ireturn, 1) := by decide +kernel
theorem dX6_stepBells_27 : decode cX6_stepBells 27 = .ok (.iload_n 2, 1) := by decide +kernel
theorem dX6_stepBells_28 : decode cX6_stepBells 28 = .ok (.ifCond .lt 11, 3) := by decide +kernel
theorem dX6_stepBells_31 : decode cX6_stepBells 31 = .ok (.iload_n 2, 1) := by decide +kernel
theorem dX6_stepBells_32 : decode cX6_stepBells 32 = .ok (.aload_n 3, 1) := by decide +kernel
theorem dX6_stepBells_33 : decode cX6_stepBells 33 = .ok (.getfield 201, 3) := by decide +kernel
theorem dX6_stepBells_36 : decode cX6_stepBells 36 = .ok (.if_icmp .lt 7, 3) := by decide +kernel
theorem dX6_stepBells_39 : decode cX6_stepBells 39 = .ok (.iconst (-1), 1) := by decide +kernel
theorem dX6_stepBells_40 : decode cX6_stepBells 40 = .ok (.goto 9, 3) := by decide +kernel
theorem dX6_stepBells_43 : decode cX6_stepBells 43 = .ok (.aload_n 3, 1) := by decide +kernel
theorem dX6_stepBells_44 : decode cX6_stepBells 44 = .ok (.getfield 193, 3) := by decide +kernel
theorem dX6_stepBells_47 : decode cX6_stepBells 47 = .ok (.iload_n 2, 1) := by decide +kernel
theorem dX6_stepBells_48 : decode cX6_stepBells 48 = .ok (.iaload, 1) := by decide +kernel
theorem dX6_stepBells_49 : decode cX6_stepBells 49 = .ok (.ireturn, 1) := by decide +kernel
theorem dX6_patternStrokes_0 : decode cX6_patternStrokes 0 = .ok (.iload_n 1, 1) := by decide +kernel
theorem dX6_patternStrokes_1 : decode cX6_patternStrokes 1 = .ok (.invokestatic 181, 3) := by decide +kernel
theorem dX6_patternStrokes_4 : decode cX6_patternStrokes 4 = .ok (.ifCond .ne 6, 3) := by decide +kernel
theorem dX6_patternStrokes_7 : decode cX6_patternStrokes 7 = .ok (.bipush (-2), 2) := by decide +kernel
theorem dX6_patternStrokes_9 : decode cX6_patternStrokes 9 = .ok (.ireturn, 1) := by decide +kernel
theorem dX6_patternStrokes_10 : decode cX6_patternStrokes 10 = .ok (.aload_n 0, 1) := by decide +kernel
theorem dX6_patternStrokes_11 : decode cX6_patternStrokes 11 = .ok (.getfield 46, 3) := by decide +kernel
theorem dX6_patternStrokes_14 : decode cX6_patternStrokes 14 = .ok (.iload_n 1, 1) := by decide +kernel
theorem dX6_patternStrokes_15 : decode cX6_patternStrokes 15 = .ok (.aaload, 1) := by decide +kernel
theorem dX6_patternStrokes_16 : decode cX6_patternStrokes 16 = .ok (.astore_n 2, 1) := by decide +kernel
theorem dX6_patternStrokes_17 : decode cX6_patternStrokes 17 = .ok (.aload_n 2, 1) := by decide +kernel
theorem dX6_patternStrokes_18 : decode cX6_patternStrokes 18 = .ok (.invokevirtual 205, 3) := by decide +kernel
theorem dX6_patternStrokes_21 : decode cX6_patternStrokes 21 = .ok (.ifCond .eq 8, 3) := by decide +kernel
theorem dX6_patternStrokes_24 : decode cX6_patternStrokes 24 = .ok (.bipush (-9), 2) := by decide +kernel
theorem dX6_patternStrokes_26 : decode cX6_patternStrokes 26 = .ok (.goto 11, 3) := by decide +kernel
theorem dX6_patternStrokes_29 : decode cX6_patternStrokes 29 = .ok (.aload_n 2, 1) := by decide +kernel
theorem dX6_patternStrokes_30 : decode cX6_patternStrokes 30 = .ok (.aload_n 0, 1) := by decide +kernel
theorem dX6_patternStrokes_31 : decode cX6_patternStrokes 31 = .ok (.invokevirtual 208, 3) := by decide +kernel
theorem dX6_patternStrokes_34 : decode cX6_patternStrokes 34 = .ok (.invokevirtual 211, 3) := by decide +kernel
theorem dX6_patternStrokes_37 : decode cX6_patternStrokes 37 = .ok (.ireturn, 1) := by decide +kernel
theorem dX6_play_0 : decode cX6_play 0 = .ok (.iload_n 1, 1) := by decide +kernel
theorem dX6_play_1 : decode cX6_play 1 = .ok (.invokestatic 181, 3) := by decide +kernel
theorem dX6_play_4 : decode cX6_play 4 = .ok (.ifCond .ne 6, 3) := by decide +kernel
theorem dX6_play_7 : decode cX6_play 7 = .ok (.bipush (-2), 2) := by decide +kernel
theorem dX6_play_9 : decode cX6_play 9 = .ok (.ireturn, 1) := by decide +kernel
theorem dX6_play_10 : decode cX6_play 10 = .ok (.aload_n 0, 1) := by decide +kernel
theorem dX6_play_11 : decode cX6_play 11 = .ok (.getfield 46, 3) := by decide +kernel
theorem dX6_play_14 : decode cX6_play 14 = .ok (.iload_n 1, 1) := by decide +kernel
theorem dX6_play_15 : decode cX6_play 15 = .ok (.aaload, 1) := by decide +kernel
theorem dX6_play_16 : decode cX6_play 16 = .ok (.invokevirtual 205, 3) := by decide +kernel
theorem dX6_play_19 : decode cX6_play 19 = .ok (.ifCond .eq 6, 3) := by decide +kernel
theorem dX6_play_22 : decode cX6_play 22 = .ok (.bipush (-9), 2) := by decide +kernel
theorem dX6_play_24 : decode cX6_play 24 = .ok (.ireturn, 1) := by decide +kernel
theorem dX6_play_25 : decode cX6_play 25 = .ok (.iload_n 2, 1) := by decide +kernel
theorem dX6_play_26 : decode cX6_play 26 = .ok (.iconst 0, 1) := by decide +kernel
theorem dX6_play_27 : decode cX6_play 27 = .ok (.ldc 107, 2) := by decide +kernel
theorem dX6_play_29 : decode cX6_play 29 = .ok (.invokestatic 87, 3) := by decide +kernel
theorem dX6_play_32 : decode cX6_play 32 = .ok (.ifCond .ne 14, 3) := by decide +kernel
theorem dX6_play_35 : decode cX6_play 35 = .ok (.iload_n 3, 1) := by decide +kernel
theorem dX6_play_36 : decode cX6_play 36 = .ok (.iconst 1, 1) := by decide +kernel
theorem dX6_play_37 : decode cX6_play 37 = .ok (.sipush 200, 3) := by decide +kernel
theorem dX6_play_40 : decode cX6_play 40 = .ok (.invokestatic 87, 3) := by decide +kernel
theorem dX6_play_43 : decode cX6_play 43 = .ok (.ifCond .eq 6, 3) := by decide +kernel
theorem dX6_play_46 : decode cX6_play 46 = .ok (.bipush (-3), 2) := by decide +kernel
theorem dX6_play_48 : decode cX6_play 48 = .ok (.ireturn, 1) := by decide +kernel
theorem dX6_play_49 : decode cX6_play 49 = .ok (.aload_n 0, 1) := by decide +kernel
theorem dX6_play_50 : decode cX6_play 50 = .ok (.aload_n 0, 1) := by decide +kernel
theorem dX6_play_51 : decode cX6_play 51 = .ok (.getfield 46, 3) := by decide +kernel
theorem dX6_play_54 : decode cX6_play 54 = .ok (.iload_n 1, 1) := by decide +kernel
theorem dX6_play_55 : decode cX6_play 55 = .ok (.aaload, 1) := by decide +kernel
theorem dX6_play_56 : decode cX6_play 56 = .ok (.iload_n 2, 1) := by decide +kernel
theorem dX6_play_57 : decode cX6_play 57 = .ok (.iload_n 3, 1) := by decide +kernel
theorem dX6_play_58 : decode cX6_play 58 = .ok (.invokevirtual 214, 3) := by decide +kernel
theorem dX6_play_61 : decode cX6_play 61 = .ok (.istore 4, 2) := by decide +kernel
theorem dX6_play_63 : decode cX6_play 63 = .ok (.iload 4, 2) := by decide +kernel
theorem dX6_play_65 : decode cX6_play 65 = .ok (.ifCond .lt 14, 3) := by decide +kernel
theorem dX6_play_68 : decode cX6_play 68 = .ok (.aload_n 0, 1) := by decide +kernel
theorem dX6_play_69 : decode cX6_play 69 = .ok (.getfield 30, 3) := by decide +kernel
theorem dX6_play_72 : decode cX6_play 72 = .ok (.aload_n 0, 1) := by decide +kernel
theorem dX6_play_73 : decode cX6_play 73 = .ok (.getfield 34, 3) := by decide +kernel
theorem dX6_play_76 : decode cX6_play 76 = .ok (.invokevirtual 218, 3) := by decide +kernel
theorem dX6_play_79 : decode cX6_play 79 = .ok (.iload 4, 2) := by decide +kernel
theorem dX6_play_81 : decode cX6_play 81 = .ok (.ireturn, 1) := by decide +kernel
theorem dX6_weave_0 : decode cX6_weave 0 = .ok (.iload_n 1, 1) := by decide +kernel
theorem dX6_weave_1 : decode cX6_weave 1 = .ok (.invokestatic 181, 3) := by decide +kernel
theorem dX6_weave_4 : decode cX6_weave 4 = .ok (.ifCond .ne 6, 3) := by decide +kernel
theorem dX6_weave_7 : decode cX6_weave 7 = .ok (.bipush (-2), 2) := by decide +kernel
theorem dX6_weave_9 : decode cX6_weave 9 = .ok (.ireturn, 1) := by decide +kernel
theorem dX6_weave_10 : decode cX6_weave 10 = .ok (.aload_n 0, 1) := by decide +kernel
theorem dX6_weave_11 : decode cX6_weave 11 = .ok (.getfield 46, 3) := by decide +kernel
theorem dX6_weave_14 : decode cX6_weave 14 = .ok (.iload_n 1, 1) := by decide +kernel
theorem dX6_weave_15 : decode cX6_weave 15 = .ok (.aaload, 1) := by decide +kernel
theorem dX6_weave_16 : decode cX6_weave 16 = .ok (.invokevirtual 205, 3) := by decide +kernel
theorem dX6_weave_19 : decode cX6_weave 19 = .ok (.ifCond .eq 6, 3) := by decide +kernel
theorem dX6_weave_22 : decode cX6_weave 22 = .ok (.bipush (-9), 2) := by decide +kernel
theorem dX6_weave_24 : decode cX6_weave 24 = .ok (.ireturn, 1) := by decide +kernel
theorem dX6_weave_25 : decode cX6_weave 25 = .ok (.iload_n 2, 1) := by decide +kernel
theorem dX6_weave_26 : decode cX6_weave 26 = .ok (.iconst 0, 1) := by decide +kernel
theorem dX6_weave_27 : decode cX6_weave 27 = .ok (.ldc 107, 2) := by decide +kernel
theorem dX6_weave_29 : decode cX6_weave 29 = .ok (.invokestatic 87, 3) := by decide +kernel
theorem dX6_weave_32 : decode cX6_weave 32 = .ok (.ifCond .ne 26, 3) := by decide +kernel
theorem dX6_weave_35 : decode cX6_weave 35 = .ok (.iload_n 3, 1) := by decide +kernel
theorem dX6_weave_36 : decode cX6_weave 36 = .ok (.iconst 1, 1) := by decide +kernel
theorem dX6_weave_37 : decode cX6_weave 37 = .ok (.sipush 200, 3) := by decide +kernel
theorem dX6_weave_40 : decode cX6_weave 40 = .ok (.invokestatic 87, 3) := by decide +kernel
theorem dX6_weave_43 : decode cX6_weave 43 = .ok (.ifCond .ne 15, 3) := by decide +kernel
theorem dX6_weave_46 : decode cX6_weave 46 = .ok (.iload 4, 2) := by decide +kernel
theorem dX6_weave_48 : decode cX6_weave 48 = .ok (.iconst 0, 1) := by decide +kernel
theorem dX6_weave_49 : decode cX6_weave 49 = .ok (.sipush 500, 3) := by decide +kernel
theorem dX6_weave_52 : decode cX6_weave 52 = .ok (.invokestatic 87, 3) := by decide +kernel
theorem dX6_weave_55 : decode cX6_weave 55 = .ok (.ifCond .eq 6, 3) := by decide +kernel
theorem dX6_weave_58 : decode cX6_weave 58 = .ok (.bipush (-3), 2) := by decide +kernel
theorem dX6_weave_60 : decode cX6_weave 60 = .ok (.ireturn, 1) := by decide +kernel
theorem dX6_weave_61 : decode cX6_weave 61 = .ok (.aload_n 0, 1) := by decide +kernel
theorem dX6_weave_62 : decode cX6_weave 62 = .ok (.aload_n 0, 1) := by decide +kernel
theorem dX6_weave_63 : decode cX6_weave 63 = .ok (.getfield 46, 3) := by decide +kernel
theorem dX6_weave_66 : decode cX6_weave 66 = .ok (.iload_n 1, 1) := by decide +kernel
theorem dX6_weave_67 : decode cX6_weave 67 = .ok (.aaload, 1) := by decide +kernel
theorem dX6_weave_68 : decode cX6_weave 68 = .ok (.iload_n 2, 1) := by decide +kernel
theorem dX6_weave_69 : decode cX6_weave 69 = .ok (.iload_n 3, 1) := by decide +kernel
theorem dX6_weave_70 : decode cX6_weave 70 = .ok (.iload 4, 2) := by decide +kernel
theorem dX6_weave_72 : decode cX6_weave 72 = .ok (.invokevirtual 222, 3) := by decide +kernel
theorem dX6_weave_75 : decode cX6_weave 75 = .ok (.ireturn, 1) := by decide +kernel
theorem dX6_fastestTicks_0 : decode cX6_fastestTicks 0 = .ok (.iload_n 1, 1) := by decide +kernel
theorem dX6_fastestTicks_1 : decode cX6_fastestTicks 1 = .ok (.invokestatic 181, 3) := by decide +kernel
theorem dX6_fastestTicks_4 : decode cX6_fastestTicks 4 = .ok (.ifCond .ne 6, 3) := by decide +kernel
theorem dX6_fastestTicks_7 : decode cX6_fastestTicks 7 = .ok (.bipush (-2), 2) := by decide +kernel
theorem dX6_fastestTicks_9 : decode cX6_fastestTicks 9 = .ok (.ireturn, 1) := by decide +kernel
theorem dX6_fastestTicks_10 : decode cX6_fastestTicks 10 = .ok (.aload_n 0, 1) := by decide +kernel
theorem dX6_fastestTicks_11 : decode cX6_fastestTicks 11 = .ok (.getfield 46, 3) := by decide +kernel
theorem dX6_fastestTicks_14 : decode cX6_fastestTicks 14 = .ok (.iload_n 1, 1) := by decide +kernel
theorem dX6_fastestTicks_15 : decode cX6_fastestTicks 15 = .ok (.aaload, 1) := by decide +kernel
theorem dX6_fastestTicks_16 : decode cX6_fastestTicks 16 = .ok (.invokevirtual 205, 3) := by decide +kernel
theorem dX6_fastestTicks_19 : decode cX6_fastestTicks 19 = .ok (.ifCond .eq 6, 3) := by decide +kernel
theorem dX6_fastestTicks_22 : decode cX6_fastestTicks 22 = .ok (.bipush (-9), 2) := by decide +kernel
theorem dX6_fastestTicks_24 : decode cX6_fastestTicks 24 = .ok (.ireturn, 1) := by decide +kernel
theorem dX6_fastestTicks_25 : decode cX6_fastestTicks 25 = .ok (.iconst 1, 1) := by decide +kernel
theorem dX6_fastestTicks_26 : decode cX6_fastestTicks 26 = .ok (.istore_n 2, 1) := by decide +kernel
theorem dX6_fastestTicks_27 : decode cX6_fastestTicks 27 = .ok (.iload_n 2, 1) := by decide +kernel
theorem dX6_fastestTicks_28 : decode cX6_fastestTicks 28 = .ok (.sipush 200, 3) := by decide +kernel
theorem dX6_fastestTicks_31 : decode cX6_fastestTicks 31 = .ok (.if_icmp .gt 25, 3) := by decide +kernel
theorem dX6_fastestTicks_34 : decode cX6_fastestTicks 34 = .ok (.aload_n 0, 1) := by decide +kernel
theorem dX6_fastestTicks_35 : decode cX6_fastestTicks 35 = .ok (.aload_n 0, 1) := by decide +kernel
theorem dX6_fastestTicks_36 : decode cX6_fastestTicks 36 = .ok (.getfield 46, 3) := by decide +kernel
theorem dX6_fastestTicks_39 : decode cX6_fastestTicks 39 = .ok (.iload_n 1, 1) := by decide +kernel
theorem dX6_fastestTicks_40 : decode cX6_fastestTicks 40 = .ok (.aaload, 1) := by decide +kernel
theorem dX6_fastestTicks_41 : decode cX6_fastestTicks 41 = .ok (.iload_n 2, 1) := by decide +kernel
theorem dX6_fastestTicks_42 : decode cX6_fastestTicks 42 = .ok (.invokevirtual 226, 3) := by decide +kernel
theorem dX6_fastestTicks_45 : decode cX6_fastestTicks 45 = .ok (.ifCond .eq 5, 3) := by decide +kernel
theorem dX6_fastestTicks_48 : decode cX6_fastestTicks 48 = .ok (.iload_n 2, 1) := by decide +kernel
theorem dX6_fastestTicks_49 : decode cX6_fastestTicks 49 = .ok (.ireturn, 1) := by decide +kernel
theorem dX6_fastestTicks_50 : decode cX6_fastestTicks 50 = .ok (.iinc 2 1, 3) := by decide +kernel
theorem dX6_fastestTicks_53 : decode cX6_fastestTicks 53 = .ok (.goto (-26), 3) := by decide +kernel
theorem dX6_fastestTicks_56 : decode cX6_fastestTicks 56 = .ok (.iconst (-1), 1) := by decide +kernel
theorem dX6_fastestTicks_57 : decode cX6_fastestTicks 57 = .ok (.ireturn, 1) := by decide +kernel
theorem dX6_powerNeeded_0 : decode cX6_powerNeeded 0 = .ok (.iload_n 1, 1) := by decide +kernel
theorem dX6_powerNeeded_1 : decode cX6_powerNeeded 1 = .ok (.invokestatic 181, 3) := by decide +kernel
theorem dX6_powerNeeded_4 : decode cX6_powerNeeded 4 = .ok (.ifCond .ne 6, 3) := by decide +kernel
theorem dX6_powerNeeded_7 : decode cX6_powerNeeded 7 = .ok (.bipush (-2), 2) := by decide +kernel
theorem dX6_powerNeeded_9 : decode cX6_powerNeeded 9 = .ok (.ireturn, 1) := by decide +kernel
theorem dX6_powerNeeded_10 : decode cX6_powerNeeded 10 = .ok (.aload_n 0, 1) := by decide +kernel
theorem dX6_powerNeeded_11 : decode cX6_powerNeeded 11 = .ok (.getfield 46, 3) := by decide +kernel
theorem dX6_powerNeeded_14 : decode cX6_powerNeeded 14 = .ok (.iload_n 1, 1) := by decide +kernel
theorem dX6_powerNeeded_15 : decode cX6_powerNeeded 15 = .ok (.aaload, 1) := by decide +kernel
theorem dX6_powerNeeded_16 : decode cX6_powerNeeded 16 = .ok (.astore_n 3, 1) := by decide +kernel
theorem dX6_powerNeeded_17 : decode cX6_powerNeeded 17 = .ok (.aload_n 3, 1) := by decide +kernel
theorem dX6_powerNeeded_18 : decode cX6_powerNeeded 18 = .ok (.invokevirtual 205, 3) := by decide +kernel
theorem dX6_powerNeeded_21 : decode cX6_powerNeeded 21 = .ok (.ifCond .eq 6, 3) := by decide +kernel
theorem dX6_powerNeeded_24 : decode cX6_powerNeeded 24 = .ok (.bipush (-9), 2) := by decide +kernel
theorem dX6_powerNeeded_26 : decode cX6_powerNeeded 26 = .ok (.ireturn, 1) := by decide +kernel
theorem dX6_powerNeeded_27 : decode cX6_powerNeeded 27 = .ok (.iload_n 2, 1) := by decide +kernel
theorem dX6_powerNeeded_28 : decode cX6_powerNeeded 28 = .ok (.iconst 1, 1) := by decide +kernel
theorem dX6_powerNeeded_29 : decode cX6_powerNeeded 29 = .ok (.sipush 200, 3) := by decide +kernel
theorem dX6_powerNeeded_32 : decode cX6_powerNeeded 32 = .ok (.invokestatic 87, 3) := by decide +kernel
theorem dX6_powerNeeded_35 : decode cX6_powerNeeded 35 = .ok (.ifCond .eq 6, 3) := by decide +kernel
theorem dX6_powerNeeded_38 : decode cX6_powerNeeded 38 = .ok (.bipush (-3), 2) := by decide +kernel
theorem dX6_powerNeeded_40 : decode cX6_powerNeeded 40 = .ok (.ireturn, 1) := by decide +kernel
theorem dX6_powerNeeded_41 : decode cX6_powerNeeded 41 = .ok (.aload_n 0, 1) := by decide +kernel
theorem dX6_powerNeeded_42 : decode cX6_powerNeeded 42 = .ok (.invokevirtual 230, 3) := by decide +kernel
theorem dX6_powerNeeded_45 : decode cX6_powerNeeded 45 = .ok (.iconst 0, 1) := by decide +kernel
theorem dX6_powerNeeded_46 : decode cX6_powerNeeded 46 = .ok (.istore 4, 2) := by decide +kernel
theorem dX6_powerNeeded_48 : decode cX6_powerNeeded 48 = .ok (.iconst 0, 1) := by decide +kernel
theorem dX6_powerNeeded_49 : decode cX6_powerNeeded 49 = .ok (.istore 5, 2) := by decide +kernel
theorem dX6_powerNeeded_51 : decode cX6_powerNeeded 51 = .ok (.iload 5, 2) := by decide +kernel
theorem dX6_powerNeeded_53 : decode cX6_powerNeeded 53 = .ok (.aload_n 3, 1) := by decide +kernel
theorem dX6_powerNeeded_54 : decode cX6_powerNeeded 54 = .ok (.getfield 201, 3) := by decide +kernel
theorem dX6_powerNeeded_57 : decode cX6_powerNeeded 57 = .ok (.if_icmp .ge 24, 3) := by decide +kernel
theorem dX6_powerNeeded_60 : decode cX6_powerNeeded 60 = .ok (.iload 4, 2) := by decide +kernel
theorem dX6_powerNeeded_62 : decode cX6_powerNeeded 62 = .ok (.aload_n 0, 1) := by decide +kernel
theorem dX6_powerNeeded_63 : decode cX6_powerNeeded 63 = .ok (.aload_n 3, 1) := by decide +kernel
theorem dX6_powerNeeded_64 : decode cX6_powerNeeded 64 = .ok (.iload_n 2, 1) := by decide +kernel
theorem dX6_powerNeeded_65 : decode cX6_powerNeeded 65 = .ok (.iload 5, 2) := by decide +kernel
theorem dX6_powerNeeded_67 : decode cX6_powerNeeded 67 = .ok (.invokevirtual 233, 3) := by decide +kernel
theorem dX6_powerNeeded_70 : decode cX6_powerNeeded 70 = .ok (.invokestatic 236, 3) := by decide +kernel
theorem dX6_powerNeeded_73 : decode cX6_powerNeeded 73 = .ok (.istore 4, 2) := by decide +kernel
theorem dX6_powerNeeded_75 : decode cX6_powerNeeded 75 = .ok (.iinc 5 1, 3) := by decide +kernel
theorem dX6_powerNeeded_78 : decode cX6_powerNeeded 78 = .ok (.goto (-27), 3) := by decide +kernel
theorem dX6_powerNeeded_81 : decode cX6_powerNeeded 81 = .ok (.iload 4, 2) := by decide +kernel
theorem dX6_powerNeeded_83 : decode cX6_powerNeeded 83 = .ok (.ireturn, 1) := by decide +kernel
theorem dX6_addEntry_0 : decode cX6_addEntry 0 = .ok (.iload_n 1, 1) := by decide +kernel
theorem dX6_addEntry_1 : decode cX6_addEntry 1 = .ok (.invokestatic 181, 3) := by decide +kernel
theorem dX6_addEntry_4 : decode cX6_addEntry 4 = .ok (.ifCond .ne 6, 3) := by decide +kernel
theorem dX6_addEntry_7 : decode cX6_addEntry 7 = .ok (.bipush (-2), 2) := by decide +kernel
theorem dX6_addEntry_9 : decode cX6_addEntry 9 = .ok (.ireturn, 1) := by decide +kernel
theorem dX6_addEntry_10 : decode cX6_addEntry 10 = .ok (.iload_n 2, 1) := by decide +kernel
theorem dX6_addEntry_11 : decode cX6_addEntry 11 = .ok (.iconst 0, 1) := by decide +kernel
theorem dX6_addEntry_12 : decode cX6_addEntry 12 = .ok (.ldc 107, 2) := by decide +kernel
theorem dX6_addEntry_14 : decode cX6_addEntry 14 = .ok (.invokestatic 87, 3) := by decide +kernel
theorem dX6_addEntry_17 : decode cX6_addEntry 17 = .ok (.ifCond .ne 43, 3) := by decide +kernel
theorem dX6_addEntry_20 : decode cX6_addEntry 20 = .ok (.iload_n 3, 1) := by decide +kernel
theorem dX6_addEntry_21 : decode cX6_addEntry 21 = .ok (.ifCond .eq 15, 3) := by decide +kernel
theorem dX6_addEntry_24 : decode cX6_addEntry 24 = .ok (.iload_n 3, 1) := by decide +kernel
theorem dX6_addEntry_25 : decode cX6_addEntry 25 = .ok (.sipush 200, 3) := by decide +kernel
theorem dX6_addEntry_28 : decode cX6_addEntry 28 = .ok (.ldc 239, 2) := by decide +kernel
theorem dX6_addEntry_30 : decode cX6_addEntry 30 = .ok (.invokestatic 87, 3) := by decide +kernel
theorem dX6_addEntry_33 : decode cX6_addEntry 33 = .ok (.ifCond .ne 27, 3) := by decide +kernel
theorem dX6_addEntry_36 : decode cX6_addEntry 36 = .ok (.iload 4, 2) := by decide +kernel
theorem dX6_addEntry_38 : decode cX6_addEntry 38 = .ok (.iconst 1, 1) := by decide +kernel
theorem dX6_addEntry_39 : decode cX6_addEntry 39 = .ok (.sipush 200, 3) := by decide +kernel
theorem dX6_addEntry_42 : decode cX6_addEntry 42 = .ok (.invokestatic 87, 3) := by decide +kernel
theorem dX6_addEntry_45 : decode cX6_addEntry 45 = .ok (.ifCond .ne 15, 3) := by decide +kernel
theorem dX6_addEntry_48 : decode cX6_addEntry 48 = .ok (.iload 5, 2) := by decide +kernel
theorem dX6_addEntry_50 : decode cX6_addEntry 50 = .ok (.iconst 0, 1) := by decide +kernel
theorem dX6_addEntry_51 : decode cX6_addEntry 51 = .ok (.sipush 500, 3) := by decide +kernel
theorem dX6_addEntry_54 : decode cX6_addEntry 54 = .ok (.invokestatic 87, 3) := by decide +kernel
theorem dX6_addEntry_57 : decode cX6_addEntry 57 = .ok (.ifCond .eq 6, 3) := by decide +kernel
theorem dX6_addEntry_60 : decode cX6_addEntry 60 = .ok (.bipush (-3), 2) := by decide +kernel
theorem dX6_addEntry_62 : decode cX6_addEntry 62 = .ok (.ireturn, 1) := by decide +kernel
theorem dX6_addEntry_63 : decode cX6_addEntry 63 = .ok (.aload_n 0, 1) := by decide +kernel
theorem dX6_addEntry_64 : decode cX6_addEntry 64 = .ok (.getfield 70, 3) := by decide +kernel
theorem dX6_addEntry_67 : decode cX6_addEntry 67 = .ok (.bipush 8, 2) := by decide +kernel
theorem dX6_addEntry_69 : decode cX6_addEntry 69 = .ok (.if_icmp .lt 6, 3) := by decide +kernel
theorem dX6_addEntry_72 : decode cX6_addEntry 72 = .ok (.bipush (-4), 2) := by decide +kernel
theorem dX6_addEntry_74 : decode cX6_addEntry 74 = .ok (.ireturn, 1) := by decide +kernel
theorem dX6_addEntry_75 : decode cX6_addEntry 75 = .ok (.aload_n 0, 1) := by decide +kernel
theorem dX6_addEntry_76 : decode cX6_addEntry 76 = .ok (.getfield 52, 3) := by decide +kernel
theorem dX6_addEntry_79 : decode cX6_addEntry 79 = .ok (.aload_n 0, 1) := by decide +kernel
theorem dX6_addEntry_80 : decode cX6_addEntry 80 = .ok (.getfield 70, 3) := by decide +kernel
theorem dX6_addEntry_83 : decode cX6_addEntry 83 = .ok (.aaload, 1) := by decide +kernel
theorem dX6_addEntry_84 : decode cX6_addEntry 84 = .ok (.astore 6, 2) := by decide +kernel
theorem dX6_addEntry_86 : decode cX6_addEntry 86 = .ok (.aload 6, 2) := by decide +kernel
theorem dX6_addEntry_88 : decode cX6_addEntry 88 = .ok (.iload_n 1, 1) := by decide +kernel
theorem dX6_addEntry_89 : decode cX6_addEntry 89 = .ok (.putfield 240, 3) := by decide +kernel
theorem dX6_addEntry_92 : decode cX6_addEntry 92 = .ok (.aload 6, 2) := by decide +kernel
theorem dX6_addEntry_94 : decode cX6_addEntry 94 = .ok (.iload_n 2, 1) := by decide +kernel
theorem dX6_addEntry_95 : decode cX6_addEntry 95 = .ok (.putfield 243, 3) := by decide +kernel
theorem dX6_addEntry_98 : decode cX6_addEntry 98 = .ok (.aload 6, 2) := by decide +kernel
theorem dX6_addEntry_100 : decode cX6_addEntry 100 = .ok (.iload_n 3, 1) := by decide +kernel
theorem dX6_addEntry_101 : decode cX6_addEntry 101 = .ok (.putfield 246, 3) := by decide +kernel
theorem dX6_addEntry_104 : decode cX6_addEntry 104 = .ok (.aload 6, 2) := by decide +kernel
theorem dX6_addEntry_106 : decode cX6_addEntry 106 = .ok (.iload 4, 2) := by decide +kernel
theorem dX6_addEntry_108 : decode cX6_addEntry 108 = .ok (.putfield 249, 3) := by decide +kernel
theorem dX6_addEntry_111 : decode cX6_addEntry 111 = .ok (.aload 6, 2) := by decide +kernel
theorem dX6_addEntry_113 : decode cX6_addEntry 113 = .ok (.iload 5, 2) := by decide +kernel
theorem dX6_addEntry_115 : decode cX6_addEntry 115 = .ok (.putfield 252, 3) := by decide +kernel
theorem dX6_addEntry_118 : decode cX6_addEntry 118 = .ok (.aload 6, 2) := by decide +kernel
theorem dX6_addEntry_120 : decode cX6_addEntry 120 = .ok (.iconst (-1), 1) := by decide +kernel
theorem dX6_addEntry_121 : decode cX6_addEntry 121 = .ok (.putfield 255, 3) := by decide +kernel
theorem dX6_addEntry_124 : decode cX6_addEntry 124 = .ok (.aload_n 0, 1) := by decide +kernel
theorem dX6_addEntry_125 : decode cX6_addEntry 125 = .ok (.dup, 1) := by decide +kernel
theorem dX6_addEntry_126 : decode cX6_addEntry 126 = .ok (.getfield 70, 3) := by decide +kernel
theorem dX6_addEntry_129 : decode cX6_addEntry 129 = .ok (.iconst 1, 1) := by decide +kernel
theorem dX6_addEntry_130 : decode cX6_addEntry 130 = .ok (.iadd, 1) := by decide +kernel
theorem dX6_addEntry_131 : decode cX6_addEntry 131 = .ok (.putfield 70, 3) := by decide +kernel
theorem dX6_addEntry_134 : decode cX6_addEntry 134 = .ok (.aload_n 0, 1) := by decide +kernel
theorem dX6_addEntry_135 : decode cX6_addEntry 135 = .ok (.getfield 70, 3) := by decide +kernel
theorem dX6_addEntry_138 : decode cX6_addEntry 138 = .ok (.iconst 1, 1) := by decide +kernel
theorem dX6_addEntry_139 : decode cX6_addEntry 139 = .ok (.isub, 1) := by decide +kernel
theorem dX6_addEntry_140 : decode cX6_addEntry 140 = .ok (.ireturn, 1) := by decide +kernel
theorem dX6_removeEntry_0 : decode cX6_removeEntry 0 = .ok (.aload_n 0, 1) := by decide +kernel
theorem dX6_removeEntry_1 : decode cX6_removeEntry 1 = .ok (.iload_n 1, 1) := by decide +kernel
theorem dX6_removeEntry_2 : decode cX6_removeEntry 2 = .ok (.invokevirtual 258, 3) := by decide +kernel
theorem dX6_removeEntry_5 : decode cX6_removeEntry 5 = .ok (.ifCond .ne 6, 3) := by decide +kernel
theorem dX6_removeEntry_8 : decode cX6_removeEntry 8 = .ok (.bipush (-2), 2) := by decide +kernel
theorem dX6_removeEntry_10 : decode cX6_removeEntry 10 = .ok (.ireturn, 1) := by decide +kernel
theorem dX6_removeEntry_11 : decode cX6_removeEntry 11 = .ok (.aload_n 0, 1) := by decide +kernel
theorem dX6_removeEntry_12 : decode cX6_removeEntry 12 = .ok (.iload_n 1, 1) := by decide +kernel
theorem dX6_removeEntry_13 : decode cX6_removeEntry 13 = .ok (.invokevirtual 261, 3) := by decide +kernel
theorem dX6_removeEntry_16 : decode cX6_removeEntry 16 = .ok (.aload_n 0, 1) := by decide +kernel
theorem dX6_removeEntry_17 : decode cX6_removeEntry 17 = .ok (.getfield 70, 3) := by decide +kernel
theorem dX6_removeEntry_20 : decode cX6_removeEntry 20 = .ok (.ireturn, 1) := by decide +kernel
theorem dX6_entryCount_0 : decode cX6_entryCount 0 = .ok (.aload_n 0, 1) := by decide +kernel
theorem dX6_entryCount_1 : decode cX6_entryCount 1 = .ok (.getfield 70, 3) := by decide +kernel
theorem dX6_entryCount_4 : decode cX6_entryCount 4 = .ok (.ireturn, 1) := by decide +kernel
theorem dX6_dueTime_0 : decode cX6_dueTime 0 = .ok (.aload_n 0, 1) := by decide +kernel
theorem dX6_dueTime_1 : decode cX6_dueTime 1 = .ok (.iload_n 1, 1) := by decide +kernel
theorem dX6_dueTime_2 : decode cX6_dueTime 2 = .ok (.invokevirtual 258, 3) := by decide +kernel
theorem dX6_dueTime_5 : decode cX6_dueTime 5 = .ok (.ifCond .eq 15, 3) := by decide +kernel
theorem dX6_dueTime_8 : decode cX6_dueTime 8 = .ok (.aload_n 0, 1) := by decide +kernel
theorem dX6_dueTime_9 : decode cX6_dueTime 9 = .ok (.getfield 52, 3) := by decide +kernel
theorem dX6_dueTime_12 : decode cX6_dueTime 12 = .ok (.iload_n 1, 1) := by decide +kernel
theorem dX6_dueTime_13 : decode cX6_dueTime 13 = .ok (.aaload, 1) := by decide +kernel
theorem dX6_dueTime_14 : decode cX6_dueTime 14 = .ok (.getfield 243, 3) := by decide +kernel
theorem dX6_dueTime_17 : decode cX6_dueTime 17 = .ok (.goto 5, 3) := by decide +kernel
theorem dX6_dueTime_20 : decode cX6_dueTime 20 = .ok (.bipush (-2), 2) := by decide +kernel
theorem dX6_dueTime_22 : decode cX6_dueTime 22 = .ok (.ireturn, 1) := by decide +kernel
theorem dX6_lastShift_0 : decode cX6_lastShift 0 = .ok (.aload_n 0, 1) := by decide +kernel
theorem dX6_lastShift_1 : decode cX6_lastShift 1 = .ok (.iload_n 1, 1) := by decide +kernel
theorem dX6_lastShift_2 : decode cX6_lastShift 2 = .ok (.invokevirtual 258, 3) := by decide +kernel
theorem dX6_lastShift_5 : decode cX6_lastShift 5 = .ok (.ifCond .eq 15, 3) := by decide +kernel
theorem dX6_lastShift_8 : decode cX6_lastShift 8 = .ok (.aload_n 0, 1) := by decide +kernel
theorem dX6_lastShift_9 : decode cX6_lastShift 9 = .ok (.getfield 52, 3) := by decide +kernel
theorem dX6_lastShift_12 : decode cX6_lastShift 12 = .ok (.iload_n 1, 1) := by decide +kernel
theorem dX6_lastShift_13 : decode cX6_lastShift 13 = .ok (.aaload, 1) := by decide +kernel
theorem dX6_lastShift_14 : decode cX6_lastShift 14 = .ok (.getfield 255, 3) := by decide +kernel
theorem dX6_lastShift_17 : decode cX6_lastShift 17 = .ok (.goto 5, 3) := by decide +kernel
theorem dX6_lastShift_20 : decode cX6_lastShift 20 = .ok (.bipush (-2), 2) := by decide +kernel
theorem dX6_lastShift_22 : decode cX6_lastShift 22 = .ok (.ireturn, 1) := by decide +kernel
theorem dX6_failureCount_0 : decode cX6_failureCount 0 = .ok (.aload_n 0, 1) := by decide +kernel
theorem dX6_failureCount_1 : decode cX6_failureCount 1 = .ok (.getfield 82, 3) := by decide +kernel
theorem dX6_failureCount_4 : decode cX6_failureCount 4 = .ok (.ireturn, 1) := by decide +kernel
theorem dX6_startSwing_0 : decode cX6_startSwing 0 = .ok (.aload_n 0, 1) := by decide +kernel
theorem dX6_startSwing_1 : decode cX6_startSwing 1 = .ok (.iload_n 1, 1) := by decide +kernel
theorem dX6_startSwing_2 : decode cX6_startSwing 2 = .ok (.invokevirtual 103, 3) := by decide +kernel
theorem dX6_startSwing_5 : decode cX6_startSwing 5 = .ok (.ifCond .ne 6, 3) := by decide +kernel
theorem dX6_startSwing_8 : decode cX6_startSwing 8 = .ok (.bipush (-2), 2) := by decide +kernel
theorem dX6_startSwing_10 : decode cX6_startSwing 10 = .ok (.ireturn, 1) := by decide +kernel
theorem dX6_startSwing_11 : decode cX6_startSwing 11 = .ok (.iload_n 2, 1) := by decide +kernel
theorem dX6_startSwing_12 : decode cX6_startSwing 12 = .ok (.iconst 1, 1) := by decide +kernel
theorem dX6_startSwing_13 : decode cX6_startSwing 13 = .ok (.sipush 1000, 3) := by decide +kernel
theorem dX6_startSwing_16 : decode cX6_startSwing 16 = .ok (.invokestatic 87, 3) := by decide +kernel
theorem dX6_startSwing_19 : decode cX6_startSwing 19 = .ok (.ifCond .eq 6, 3) := by decide +kernel
theorem dX6_startSwing_22 : decode cX6_startSwing 22 = .ok (.bipush (-3), 2) := by decide +kernel
theorem dX6_startSwing_24 : decode cX6_startSwing 24 = .ok (.ireturn, 1) := by decide +kernel
theorem dX6_startSwing_25 : decode cX6_startSwing 25 = .ok (.aload_n 0, 1) := by decide +kernel
theorem dX6_startSwing_26 : decode cX6_startSwing 26 = .ok (.getfield 11, 3) := by decide +kernel
theorem dX6_startSwing_29 : decode cX6_startSwing 29 = .ok (.iload_n 1, 1) := by decide +kernel
theorem dX6_startSwing_30 : decode cX6_startSwing 30 = .ok (.aaload, 1) := by decide +kernel
theorem dX6_startSwing_31 : decode cX6_startSwing 31 = .ok (.getfield 162, 3) := by decide +kernel
theorem dX6_startSwing_34 : decode cX6_startSwing 34 = .ok (.ifCond .eq 6, 3) := by decide +kernel
theorem dX6_startSwing_37 : decode cX6_startSwing 37 = .ok (.bipush (-6), 2) := by decide +kernel
theorem dX6_startSwing_39 : decode cX6_startSwing 39 = .ok (.ireturn, 1) := by decide +kernel
theorem dX6_startSwing_40 : decode cX6_startSwing 40 = .ok (.aload_n 0, 1) := by decide +kernel
theorem dX6_startSwing_41 : decode cX6_startSwing 41 = .ok (.getfield 30, 3) := by decide +kernel
theorem dX6_startSwing_44 : decode cX6_startSwing 44 = .ok (.iload_n 1, 1) := by decide +kernel
theorem dX6_startSwing_45 : decode cX6_startSwing 45 = .ok (.invokevirtual 155, 3) := by decide +kernel
theorem dX6_startSwing_48 : decode cX6_startSwing 48 = .ok (.iconst (-1), 1) := by decide +kernel
theorem dX6_startSwing_49 : decode cX6_startSwing 49 = .ok (.if_icmp .eq 6, 3) := by decide +kernel
theorem dX6_startSwing_52 : decode cX6_startSwing 52 = .ok (.bipush (-10), 2) := by decide +kernel
theorem dX6_startSwing_54 : decode cX6_startSwing 54 = .ok (.ireturn, 1) := by decide +kernel
theorem dX6_startSwing_55 : decode cX6_startSwing 55 = .ok (.aload_n 0, 1) := by decide +kernel
theorem dX6_startSwing_56 : decode cX6_startSwing 56 = .ok (.sipush 600, 3) := by decide +kernel
theorem dX6_startSwing_59 : decode cX6_startSwing 59 = .ok (.invokevirtual 264, 3) := by decide +kernel
theorem dX6_startSwing_62 : decode cX6_startSwing 62 = .ok (.aload_n 0, 1) := by decide +kernel
theorem dX6_startSwing_63 : decode cX6_startSwing 63 = .ok (.getfield 16, 3) := by decide +kernel
theorem dX6_startSwing_66 : decode cX6_startSwing 66 = .ok (.aload_n 0, 1) := by decide +kernel
theorem dX6_startSwing_67 : decode cX6_startSwing 67 = .ok (.getfield 11, 3) := by decide +kernel
theorem dX6_startSwing_70 : decode cX6_startSwing 70 = .ok (.iload_n 1, 1) := by decide +kernel
theorem dX6_startSwing_71 : decode cX6_startSwing 71 = .ok (.aaload, 1) := by decide +kernel
theorem dX6_startSwing_72 : decode cX6_startSwing 72 = .ok (.invokevirtual 267, 3) := by decide +kernel
theorem dX6_startSwing_75 : decode cX6_startSwing 75 = .ok (.aload_n 0, 1) := by decide +kernel
theorem dX6_startSwing_76 : decode cX6_startSwing 76 = .ok (.getfield 16, 3) := by decide +kernel
theorem dX6_startSwing_79 : decode cX6_startSwing 79 = .ok (.aload_n 0, 1) := by decide +kernel
theorem dX6_startSwing_80 : decode cX6_startSwing 80 = .ok (.getfield 73, 3) := by decide +kernel
theorem dX6_startSwing_83 : decode cX6_startSwing 83 = .ok (.iload_n 2, 1) := by decide +kernel
theorem dX6_startSwing_84 : decode cX6_startSwing 84 = .ok (.invokevirtual 270, 3) := by decide +kernel
theorem dX6_startSwing_87 : decode cX6_startSwing 87 = .ok (.aload_n 0, 1) := by decide +kernel
theorem dX6_startSwing_88 : decode cX6_startSwing 88 = .ok (.getfield 16, 3) := by decide +kernel
theorem dX6_startSwing_91 : decode cX6_startSwing 91 = .ok (.aload_n 0, 1) := by decide +kernel
theorem dX6_startSwing_92 : decode cX6_startSwing 92 = .ok (.getfield 56, 3) := by decide +kernel
theorem dX6_startSwing_95 : decode cX6_startSwing 95 = .ok (.aload_n 0, 1) := by decide +kernel
theorem dX6_startSwing_96 : decode cX6_startSwing 96 = .ok (.getfield 73, 3) := by decide +kernel
theorem dX6_startSwing_99 : decode cX6_startSwing 99 = .ok (.sipush 600, 3) := by decide +kernel
theorem dX6_startSwing_102 : decode cX6_startSwing 102 = .ok (.invokevirtual 274, 3) := by decide +kernel
theorem dX6_startSwing_105 : decode cX6_startSwing 105 = .ok (.aload_n 0, 1) := by decide +kernel
theorem dX6_startSwing_106 : decode cX6_startSwing 106 = .ok (.sipush 600, 3) := by decide +kernel
theorem dX6_startSwing_109 : decode cX6_startSwing 109 = .ok (.invokevirtual 278, 3) := by decide +kernel
theorem dX6_startSwing_112 : decode cX6_startSwing 112 = .ok (.aload_n 0, 1) := by decide +kernel
theorem dX6_startSwing_113 : decode cX6_startSwing 113 = .ok (.getfield 79, 3) := by decide +kernel
theorem dX6_startSwing_116 : decode cX6_startSwing 116 = .ok (.if_icmp .le 6, 3) := by decide +kernel
theorem dX6_startSwing_119 : decode cX6_startSwing 119 = .ok (.bipush (-11), 2) := by decide +kernel
theorem dX6_startSwing_121 : decode cX6_startSwing 121 = .ok (.ireturn, 1) := by decide +kernel
theorem dX6_startSwing_122 : decode cX6_startSwing 122 = .ok (.aload_n 0, 1) := by decide +kernel
theorem dX6_startSwing_123 : decode cX6_startSwing 123 = .ok (.getfield 11, 3) := by decide +kernel
theorem dX6_startSwing_126 : decode cX6_startSwing 126 = .ok (.iload_n 1, 1) := by decide +kernel
theorem dX6_startSwing_127 : decode cX6_startSwing 127 = .ok (.aaload, 1) := by decide +kernel
theorem dX6_startSwing_128 : decode cX6_startSwing 128 = .ok (.aload_n 0, 1) := by decide +kernel
theorem dX6_startSwing_129 : decode cX6_startSwing 129 = .ok (.getfield 73, 3) := by decide +kernel
theorem dX6_startSwing_132 : decode cX6_startSwing 132 = .ok (.iload_n 2, 1) := by decide +kernel
theorem dX6_startSwing_133 : decode cX6_startSwing 133 = .ok (.invokevirtual 270, 3) := by decide +kernel
theorem dX6_startSwing_136 : decode cX6_startSwing 136 = .ok (.aload_n 0, 1) := by decide +kernel
theorem dX6_startSwing_137 : decode cX6_startSwing 137 = .ok (.getfield 11, 3) := by decide +kernel
theorem dX6_startSwing_140 : decode cX6_startSwing 140 = .ok (.iload_n 1, 1) := by decide +kernel
theorem dX6_startSwing_141 : decode cX6_startSwing 141 = .ok (.aaload, 1) := by decide +kernel
theorem dX6_startSwing_142 : decode cX6_startSwing 142 = .ok (.invokevirtual 281, 3) := by decide +kernel
theorem dX6_startSwing_145 : decode cX6_startSwing 145 = .ok (.ireturn, 1) := by decide +kernel
theorem dX6_stopMotor_0 : decode cX6_stopMotor 0 = .ok (.aload_n 0, 1) := by decide +kernel
theorem dX6_stopMotor_1 : decode cX6_stopMotor 1 = .ok (.iload_n 1, 1) := by decide +kernel
theorem dX6_stopMotor_2 : decode cX6_stopMotor 2 = .ok (.invokevirtual 103, 3) := by decide +kernel
theorem dX6_stopMotor_5 : decode cX6_stopMotor 5 = .ok (.ifCond .ne 6, 3) := by decide +kernel
theorem dX6_stopMotor_8 : decode cX6_stopMotor 8 = .ok (.bipush (-2), 2) := by decide +kernel
theorem dX6_stopMotor_10 : decode cX6_stopMotor 10 = .ok (.ireturn, 1) := by decide +kernel
theorem dX6_stopMotor_11 : decode cX6_stopMotor 11 = .ok (.aload_n 0, 1) := by decide +kernel
theorem dX6_stopMotor_12 : decode cX6_stopMotor 12 = .ok (.getfield 11, 3) := by decide +kernel
theorem dX6_stopMotor_15 : decode cX6_stopMotor 15 = .ok (.iload_n 1, 1) := by decide +kernel
theorem dX6_stopMotor_16 : decode cX6_stopMotor 16 = .ok (.aaload, 1) := by decide +kernel
theorem dX6_stopMotor_17 : decode cX6_stopMotor 17 = .ok (.getfield 162, 3) := by decide +kernel
theorem dX6_stopMotor_20 : decode cX6_stopMotor 20 = .ok (.ifCond .ne 5, 3) := by decide +kernel
theorem dX6_stopMotor_23 : decode cX6_stopMotor 23 = .ok (.iconst (-1), 1) := by decide +kernel
theorem dX6_stopMotor_24 : decode cX6_stopMotor 24 = .ok (.ireturn, 1) := by decide +kernel
theorem dX6_stopMotor_25 : decode cX6_stopMotor 25 = .ok (.aload_n 0, 1) := by decide +kernel
theorem dX6_stopMotor_26 : decode cX6_stopMotor 26 = .ok (.getfield 11, 3) := by decide +kernel
theorem dX6_stopMotor_29 : decode cX6_stopMotor 29 = .ok (.iload_n 1, 1) := by decide +kernel
theorem dX6_stopMotor_30 : decode cX6_stopMotor 30 = .ok (.aaload, 1) := by decide +kernel
theorem dX6_stopMotor_31 : decode cX6_stopMotor 31 = .ok (.iconst 0, 1) := by decide +kernel
theorem dX6_stopMotor_32 : decode cX6_stopMotor 32 = .ok (.putfield 284, 3) := by decide +kernel
theorem dX6_stopMotor_35 : decode cX6_stopMotor 35 = .ok (.aload_n 0, 1) := by decide +kernel
theorem dX6_stopMotor_36 : decode cX6_stopMotor 36 = .ok (.getfield 11, 3) := by decide +kernel
theorem dX6_stopMotor_39 : decode cX6_stopMotor 39 = .ok (.iload_n 1, 1) := by decide +kernel
theorem dX6_stopMotor_40 : decode cX6_stopMotor 40 = .ok (.aaload, 1) := by decide +kernel
theorem dX6_stopMotor_41 : decode cX6_stopMotor 41 = .ok (.getfield 287, 3) := by decide +kernel
theorem dX6_stopMotor_44 : decode cX6_stopMotor 44 = .ok (.ireturn, 1) := by decide +kernel
theorem dX6_holdClapper_0 : decode cX6_holdClapper 0 = .ok (.aload_n 0, 1) := by decide +kernel
theorem dX6_holdClapper_1 : decode cX6_holdClapper 1 = .ok (.iload_n 1, 1) := by decide +kernel
theorem dX6_holdClapper_2 : decode cX6_holdClapper 2 = .ok (.invokevirtual 103, 3) := by decide +kernel
theorem dX6_holdClapper_5 : decode cX6_holdClapper 5 = .ok (.ifCond .ne 6, 3) := by decide +kernel
theorem dX6_holdClapper_8 : decode cX6_holdClapper 8 = .ok (.bipush (-2), 2) := by decide +kernel
theorem dX6_holdClapper_10 : decode cX6_holdClapper 10 = .ok (.ireturn, 1) := by decide +kernel
theorem dX6_holdClapper_11 : decode cX6_holdClapper 11 = .ok (.aload_n 0, 1) := by decide +kernel
theorem dX6_holdClapper_12 : decode cX6_holdClapper 12 = .ok (.getfield 11, 3) := by decide +kernel
theorem dX6_holdClapper_15 : decode cX6_holdClapper 15 = .ok (.iload_n 1, 1) := by decide +kernel
theorem dX6_holdClapper_16 : decode cX6_holdClapper 16 = .ok (.aaload, 1) := by decide +kernel
theorem dX6_holdClapper_17 : decode cX6_holdClapper 17 = .ok (.getfield 290, 3) := by decide +kernel
theorem dX6_holdClapper_20 : decode cX6_holdClapper 20 = .ok (.ifCond .eq 7, 3) := by decide +kernel
theorem dX6_holdClapper_23 : decode cX6_holdClapper 23 = .ok (.iconst 1, 1) := by decide +kernel
theorem dX6_holdClapper_24 : decode cX6_holdClapper 24 = .ok (.goto 4, 3) := by decide +kernel
theorem dX6_holdClapper_27 : decode cX6_holdClapper 27 = .ok (.iconst 0, 1) := by decide +kernel
theorem dX6_holdClapper_28 : decode cX6_holdClapper 28 = .ok (.istore_n 3, 1) := by decide +kernel
theorem dX6_holdClapper_29 : decode cX6_holdClapper 29 = .ok (.aload_n 0, 1) := by decide +kernel
theorem dX6_holdClapper_30 : decode cX6_holdClapper 30 = .ok (.getfield 11, 3) := by decide +kernel
theorem dX6_holdClapper_33 : decode cX6_holdClapper 33 = .ok (.iload_n 1, 1) := by decide +kernel
theorem dX6_holdClapper_34 : decode cX6_holdClapper 34 = .ok (.aaload, 1) := by decide +kernel
theorem dX6_holdClapper_35 : decode cX6_holdClapper 35 = .ok (.iload_n 2, 1) := by decide +kernel
theorem dX6_holdClapper_36 : decode cX6_holdClapper 36 = .ok (.putfield 290, 3) := by decide +kernel
theorem dX6_holdClapper_39 : decode cX6_holdClapper 39 = .ok (.iload_n 3, 1) := by decide +kernel
theorem dX6_holdClapper_40 : decode cX6_holdClapper 40 = .ok (.ireturn, 1) := by decide +kernel
theorem dX6_amplitude_0 : decode cX6_amplitude 0 = .ok (.aload_n 0, 1) := by decide +kernel
theorem dX6_amplitude_1 : decode cX6_amplitude 1 = .ok (.iload_n 1, 1) := by decide +kernel
theorem dX6_amplitude_2 : decode cX6_amplitude 2 = .ok (.invokevirtual 103, 3) := by decide +kernel
theorem dX6_amplitude_5 : decode cX6_amplitude 5 = .ok (.ifCond .ne 6, 3) := by decide +kernel
theorem dX6_amplitude_8 : decode cX6_amplitude 8 = .ok (.bipush (-2), 2) := by decide +kernel
theorem dX6_amplitude_10 : decode cX6_amplitude 10 = .ok (.ireturn, 1) := by decide +kernel
theorem dX6_amplitude_11 : decode cX6_amplitude 11 = .ok (.aload_n 0, 1) := by decide +kernel
theorem dX6_amplitude_12 : decode cX6_amplitude 12 = .ok (.getfield 11, 3) := by decide +kernel
theorem dX6_amplitude_15 : decode cX6_amplitude 15 = .ok (.iload_n 1, 1) := by decide +kernel
theorem dX6_amplitude_16 : decode cX6_amplitude 16 = .ok (.aaload, 1) := by decide +kernel
theorem dX6_amplitude_17 : decode cX6_amplitude 17 = .ok (.getfield 162, 3) := by decide +kernel
theorem dX6_amplitude_20 : decode cX6_amplitude 20 = .ok (.ifCond .eq 15, 3) := by decide +kernel
theorem dX6_amplitude_23 : decode cX6_amplitude 23 = .ok (.aload_n 0, 1) := by decide +kernel
theorem dX6_amplitude_24 : decode cX6_amplitude 24 = .ok (.getfield 11, 3) := by decide +kernel
theorem dX6_amplitude_27 : decode cX6_amplitude 27 = .ok (.iload_n 1, 1) := by decide +kernel
theorem dX6_amplitude_28 : decode cX6_amplitude 28 = .ok (.aaload, 1) := by decide +kernel
theorem dX6_amplitude_29 : decode cX6_amplitude 29 = .ok (.getfield 287, 3) := by decide +kernel
theorem dX6_amplitude_32 : decode cX6_amplitude 32 = .ok (.goto 4, 3) := by decide +kernel
theorem dX6_amplitude_35 : decode cX6_amplitude 35 = .ok (.iconst (-1), 1) := by decide +kernel
theorem dX6_amplitude_36 : decode cX6_amplitude 36 = .ok (.ireturn, 1) := by decide +kernel
theorem dX6_nextTurn_0 : decode cX6_nextTurn 0 = .ok (.aload_n 0, 1) := by decide +kernel
theorem dX6_nextTurn_1 : decode cX6_nextTurn 1 = .ok (.iload_n 1, 1) := by decide +kernel
theorem dX6_nextTurn_2 : decode cX6_nextTurn 2 = .ok (.invokevirtual 103, 3) := by decide +kernel
theorem dX6_nextTurn_5 : decode cX6_nextTurn 5 = .ok (.ifCond .ne 6, 3) := by decide +kernel
theorem dX6_nextTurn_8 : decode cX6_nextTurn 8 = .ok (.bipush (-2), 2) := by decide +kernel
theorem dX6_nextTurn_10 : decode cX6_nextTurn 10 = .ok (.ireturn, 1) := by decide +kernel
theorem dX6_nextTurn_11 : decode cX6_nextTurn 11 = .ok (.aload_n 0, 1) := by decide +kernel
theorem dX6_nextTurn_12 : decode cX6_nextTurn 12 = .ok (.getfield 11, 3) := by decide +kernel
theorem dX6_nextTurn_15 : decode cX6_nextTurn 15 = .ok (.iload_n 1, 1) := by decide +kernel
theorem dX6_nextTurn_16 : decode cX6_nextTurn 16 = .ok (.aaload, 1) := by decide +kernel
theorem dX6_nextTurn_17 : decode cX6_nextTurn 17 = .ok (.getfield 162, 3) := by decide +kernel
theorem dX6_nextTurn_20 : decode cX6_nextTurn 20 = .ok (.ifCond .eq 15, 3) := by decide +kernel
theorem dX6_nextTurn_23 : decode cX6_nextTurn 23 = .ok (.aload_n 0, 1) := by decide +kernel
theorem dX6_nextTurn_24 : decode cX6_nextTurn 24 = .ok (.getfield 11, 3) := by decide +kernel
theorem dX6_nextTurn_27 : decode cX6_nextTurn 27 = .ok (.iload_n 1, 1) := by decide +kernel
theorem dX6_nextTurn_28 : decode cX6_nextTurn 28 = .ok (.aaload, 1) := by decide +kernel
theorem dX6_nextTurn_29 : decode cX6_nextTurn 29 = .ok (.invokevirtual 281, 3) := by decide +kernel
theorem dX6_nextTurn_32 : decode cX6_nextTurn 32 = .ok (.goto 4, 3) := by decide +kernel
theorem dX6_nextTurn_35 : decode cX6_nextTurn 35 = .ok (.iconst (-1), 1) := by decide +kernel
theorem dX6_nextTurn_36 : decode cX6_nextTurn 36 = .ok (.ireturn, 1) := by decide +kernel
theorem dX6_amplitudeAfter_0 : decode cX6_amplitudeAfter 0 = .ok (.aload_n 0, 1) := by decide +kernel
theorem dX6_amplitudeAfter_1 : decode cX6_amplitudeAfter 1 = .ok (.iload_n 1, 1) := by decide +kernel
theorem dX6_amplitudeAfter_2 : decode cX6_amplitudeAfter 2 = .ok (.invokevirtual 103, 3) := by decide +kernel
theorem dX6_amplitudeAfter_5 : decode cX6_amplitudeAfter 5 = .ok (.ifCond .ne 6, 3) := by decide +kernel
theorem dX6_amplitudeAfter_8 : decode cX6_amplitudeAfter 8 = .ok (.bipush (-2), 2) := by decide +kernel
theorem dX6_amplitudeAfter_10 : decode cX6_amplitudeAfter 10 = .ok (.ireturn, 1) := by decide +kernel
theorem dX6_amplitudeAfter_11 : decode cX6_amplitudeAfter 11 = .ok (.iload_n 2, 1) := by decide +kernel
theorem dX6_amplitudeAfter_12 : decode cX6_amplitudeAfter 12 = .ok (.iconst 0, 1) := by decide +kernel
theorem dX6_amplitudeAfter_13 : decode cX6_amplitudeAfter 13 = .ok (.sipush 200, 3) := by decide +kernel
theorem dX6_amplitudeAfter_16 : decode cX6_amplitudeAfter 16 = .ok (.invokestatic 87, 3) := by decide +kernel
theorem dX6_amplitudeAfter_19 : decode cX6_amplitudeAfter 19 = .ok (.ifCond .eq 6, 3) := by decide +kernel
theorem dX6_amplitudeAfter_22 : decode cX6_amplitudeAfter 22 = .ok (.bipush (-3), 2) := by decide +kernel
theorem dX6_amplitudeAfter_24 : decode cX6_amplitudeAfter 24 = .ok (.ireturn, 1) := by decide +kernel
theorem dX6_amplitudeAfter_25 : decode cX6_amplitudeAfter 25 = .ok (.aload_n 0, 1) := by decide +kernel
theorem dX6_amplitudeAfter_26 : decode cX6_amplitudeAfter 26 = .ok (.getfield 11, 3) := by decide +kernel
theorem dX6_amplitudeAfter_29 : decode cX6_amplitudeAfter 29 = .ok (.iload_n 1, 1) := by decide +kernel
theorem dX6_amplitudeAfter_30 : decode cX6_amplitudeAfter 30 = .ok (.aaload, 1) := by decide +kernel
theorem dX6_amplitudeAfter_31 : decode cX6_amplitudeAfter 31 = .ok (.getfield 162, 3) := by decide +kernel
theorem dX6_amplitudeAfter_34 : decode cX6_amplitudeAfter 34 = .ok (.ifCond .ne 5, 3) := by decide +kernel
theorem dX6_amplitudeAfter_37 : decode cX6_amplitudeAfter 37 = .ok (.iconst (-1), 1) := by decide +kernel
theorem dX6_amplitudeAfter_38 : decode cX6_amplitudeAfter 38 = .ok (.ireturn, 1) := by decide +kernel
theorem dX6_amplitudeAfter_39 : decode cX6_amplitudeAfter 39 = .ok (.aload_n 0, 1) := by decide +kernel
theorem dX6_amplitudeAfter_40 : decode cX6_amplitudeAfter 40 = .ok (.getfield 16, 3) := by decide +kernel
theorem dX6_amplitudeAfter_43 : decode cX6_amplitudeAfter 43 = .ok (.aload_n 0, 1) := by decide +kernel
theorem dX6_amplitudeAfter_44 : decode cX6_amplitudeAfter 44 = .ok (.getfield 11, 3) := by decide +kernel
theorem dX6_amplitudeAfter_47 : decode cX6_amplitudeAfter 47 = .ok (.iload_n 1, 1) := by decide +kernel
theorem dX6_amplitudeAfter_48 : decode cX6_amplitudeAfter 48 = .ok (.aaload, 1) := by decide +kernel
theorem dX6_amplitudeAfter_49 : decode cX6_amplitudeAfter 49 = .ok (.invokevirtual 267, 3) := by decide +kernel
theorem dX6_amplitudeAfter_52 : decode cX6_amplitudeAfter 52 = .ok (.iconst 1, 1) := by decide +kernel
theorem dX6_amplitudeAfter_53 : decode cX6_amplitudeAfter 53 = .ok (.istore_n 3, 1) := by decide +kernel
theorem dX6_amplitudeAfter_54 : decode cX6_amplitudeAfter 54 = .ok (.iload_n 3, 1) := by decide +kernel
theorem dX6_amplitudeAfter_55 : decode cX6_amplitudeAfter 55 = .ok (.iload_n 2, 1) := by decide +kernel
theorem dX6_amplitudeAfter_56 : decode cX6_amplitudeAfter 56 = .ok (.if_icmp .gt 16, 3) := by decide +kernel
theorem dX6_amplitudeAfter_59 : decode cX6_amplitudeAfter 59 = .ok (.aload_n 0, 1) := by decide +kernel
theorem dX6_amplitudeAfter_60 : decode cX6_amplitudeAfter 60 = .ok (.getfield 16, 3) := by decide +kernel
theorem dX6_amplitudeAfter_63 : decode cX6_amplitudeAfter 63 = .ok (.invokevirtual 293, 3) := by decide +kernel
theorem dX6_amplitudeAfter_66 : decode cX6_amplitudeAfter 66 = .ok (.iinc 3 1, 3) := by decide +kernel
theorem dX6_amplitudeAfter_69 : decode cX6_amplitudeAfter 69 = .ok (.goto (-15), 3) := by decide +kernel
theorem dX6_amplitudeAfter_72 : decode cX6_amplitudeAfter 72 = .ok (.aload_n 0, 1) := by decide +kernel
theorem dX6_amplitudeAfter_73 : decode cX6_amplitudeAfter 73 = .ok (.getfield 16, 3) := by decide +kernel
theorem dX6_amplitudeAfter_76 : decode cX6_amplitudeAfter 76 = .ok (.getfield 287, 3) := by decide +kernel
theorem dX6_amplitudeAfter_79 : decode cX6_amplitudeAfter 79 = .ok (.ireturn, 1) := by decide +kernel
theorem dX6_turnsUntilLoud_0 : decode cX6_turnsUntilLoud 0 = .ok (.aload_n 0, 1) := by decide +kernel
theorem dX6_turnsUntilLoud_1 : decode cX6_turnsUntilLoud 1 = .ok (.iload_n 1, 1) := by decide +kernel
theorem dX6_turnsUntilLoud_2 : decode cX6_turnsUntilLoud 2 = .ok (.invokevirtual 103, 3) := by decide +kernel
theorem dX6_turnsUntilLoud_5 : decode cX6_turnsUntilLoud 5 = .ok (.ifCond .ne 6, 3) := by decide +kernel
theorem dX6_turnsUntilLoud_8 : decode cX6_turnsUntilLoud 8 = .ok (.bipush (-2), 2) := by decide +kernel
theorem dX6_turnsUntilLoud_10 : decode cX6_turnsUntilLoud 10 = .ok (.ireturn, 1) := by decide +kernel
theorem dX6_turnsUntilLoud_11 : decode cX6_turnsUntilLoud 11 = .ok (.aload_n 0, 1) := by decide +kernel
theorem dX6_turnsUntilLoud_12 : decode cX6_turnsUntilLoud 12 = .ok (.getfield 11, 3) := by decide +kernel
theorem dX6_turnsUntilLoud_15 : decode cX6_turnsUntilLoud 15 = .ok (.iload_n 1, 1) := by decide +kernel
theorem dX6_turnsUntilLoud_16 : decode cX6_turnsUntilLoud 16 = .ok (.aaload, 1) := by decide +kernel
theorem dX6_turnsUntilLoud_17 : decode cX6_turnsUntilLoud 17 = .ok (.getfield 162, 3) := by decide +kernel
theorem dX6_turnsUntilLoud_20 : decode cX6_turnsUntilLoud 20 = .ok (.ifCond .ne 5, 3) := by decide +kernel
theorem dX6_turnsUntilLoud_23 : decode cX6_turnsUntilLoud 23 = .ok (.iconst (-1), 1) := by decide +kernel
theorem dX6_turnsUntilLoud_24 : decode cX6_turnsUntilLoud 24 = .ok (.ireturn, 1) := by decide +kernel
theorem dX6_turnsUntilLoud_25 : decode cX6_turnsUntilLoud 25 = .ok (.aload_n 0, 1) := by decide +kernel
theorem dX6_turnsUntilLoud_26 : decode cX6_turnsUntilLoud 26 = .ok (.getfield 16, 3) := by decide +kernel
theorem dX6_turnsUntilLoud_29 : decode cX6_turnsUntilLoud 29 = .ok (.aload_n 0, 1) := by decide +kernel
theorem dX6_turnsUntilLoud_30 : decode cX6_turnsUntilLoud 30 = .ok (.getfield 11, 3) := by decide +kernel
theorem dX6_turnsUntilLoud_33 : decode cX6_turnsUntilLoud 33 = .ok (.iload_n 1, 1) := by decide +kernel
theorem dX6_turnsUntilLoud_34 : decode cX6_turnsUntilLoud 34 = .ok (.aaload, 1) := by decide +kernel
theorem dX6_turnsUntilLoud_35 : decode cX6_turnsUntilLoud 35 = .ok (.invokevirtual 267, 3) := by decide +kernel
theorem dX6_turnsUntilLoud_38 : decode cX6_turnsUntilLoud 38 = .ok (.iconst 1, 1) := by decide +kernel
theorem dX6_turnsUntilLoud_39 : decode cX6_turnsUntilLoud 39 = .ok (.istore_n 2, 1) := by decide +kernel
theorem dX6_turnsUntilLoud_40 : decode cX6_turnsUntilLoud 40 = .ok (.iload_n 2, 1) := by decide +kernel
theorem dX6_turnsUntilLoud_41 : decode cX6_turnsUntilLoud 41 = .ok (.sipush 200, 3) := by decide +kernel
theorem dX6_turnsUntilLoud_44 : decode cX6_turnsUntilLoud 44 = .ok (.if_icmp .gt 31, 3) := by decide +kernel
theorem dX6_turnsUntilLoud_47 : decode cX6_turnsUntilLoud 47 = .ok (.aload_n 0, 1) := by decide +kernel
theorem dX6_turnsUntilLoud_48 : decode cX6_turnsUntilLoud 48 = .ok (.getfield 16, 3) := by decide +kernel
theorem dX6_turnsUntilLoud_51 : decode cX6_turnsUntilLoud 51 = .ok (.invokevirtual 293, 3) := by decide +kernel
theorem dX6_turnsUntilLoud_54 : decode cX6_turnsUntilLoud 54 = .ok (.aload_n 0, 1) := by decide +kernel
theorem dX6_turnsUntilLoud_55 : decode cX6_turnsUntilLoud 55 = .ok (.getfield 16, 3) := by decide +kernel
theorem dX6_turnsUntilLoud_58 : decode cX6_turnsUntilLoud 58 = .ok (.getfield 287, 3) := by decide +kernel
theorem dX6_turnsUntilLoud_61 : decode cX6_turnsUntilLoud 61 = .ok (.sipush 400, 3) := by decide +kernel
theorem dX6_turnsUntilLoud_64 : decode cX6_turnsUntilLoud 64 = .ok (.if_icmp .lt 5, 3) := by decide +kernel
theorem dX6_turnsUntilLoud_67 : decode cX6_turnsUntilLoud 67 = .ok (.iload_n 2, 1) := by decide +kernel
theorem dX6_turnsUntilLoud_68 : decode cX6_turnsUntilLoud 68 = .ok (.ireturn, 1) := by decide +kernel
theorem dX6_turnsUntilLoud_69 : decode cX6_turnsUntilLoud 69 = .ok (.iinc 2 1, 3) := by decide +kernel
theorem dX6_turnsUntilLoud_72 : decode cX6_turnsUntilLoud 72 = .ok (.goto (-32), 3) := by decide +kernel
theorem dX6_turnsUntilLoud_75 : decode cX6_turnsUntilLoud 75 = .ok (.iconst (-1), 1) := by decide +kernel
theorem dX6_turnsUntilLoud_76 : decode cX6_turnsUntilLoud 76 = .ok (.ireturn, 1) := by decide +kernel
theorem dX6_force_0 : decode cX6_force 0 = .ok (.aload_n 0, 1) := by decide +kernel
theorem dX6_force_1 : decode cX6_force 1 = .ok (.iload_n 1, 1) := by decide +kernel
theorem dX6_force_2 : decode cX6_force 2 = .ok (.invokevirtual 103, 3) := by decide +kernel
theorem dX6_force_5 : decode cX6_force 5 = .ok (.ifCond .eq 22, 3) := by decide +kernel
theorem dX6_force_8 : decode cX6_force 8 = .ok (.aload_n 0, 1) := by decide +kernel
theorem dX6_force_9 : decode cX6_force 9 = .ok (.getfield 11, 3) := by decide +kernel
theorem dX6_force_12 : decode cX6_force 12 = .ok (.iload_n 1, 1) := by decide +kernel
theorem dX6_force_13 : decode cX6_force 13 = .ok (.aaload, 1) := by decide +kernel
theorem dX6_force_14 : decode cX6_force 14 = .ok (.aload_n 0, 1) := by decide +kernel
theorem dX6_force_15 : decode cX6_force 15 = .ok (.getfield 73, 3) := by decide +kernel
theorem dX6_force_18 : decode cX6_force 18 = .ok (.invokevirtual 296, 3) := by decide +kernel
theorem dX6_force_21 : decode cX6_force 21 = .ok (.ldc 107, 2) := by decide +kernel
theorem dX6_force_23 : decode cX6_force 23 = .ok (.iadd, 1) := by decide +kernel
theorem dX6_force_24 : decode cX6_force 24 = .ok (.goto 5, 3) := by decide +kernel
theorem dX6_force_27 : decode cX6_force 27 = .ok (.bipush (-2), 2) := by decide +kernel
theorem dX6_force_29 : decode cX6_force 29 = .ok (.ireturn, 1) := by decide +kernel
theorem dX6_shake_0 : decode cX6_shake 0 = .ok (.iload_n 1, 1) := by decide +kernel
theorem dX6_shake_1 : decode cX6_shake 1 = .ok (.iconst 0, 1) := by decide +kernel
theorem dX6_shake_2 : decode cX6_shake 2 = .ok (.sipush 600, 3) := by decide +kernel
theorem dX6_shake_5 : decode cX6_shake 5 = .ok (.invokestatic 87, 3) := by decide +kernel
theorem dX6_shake_8 : decode cX6_shake 8 = .ok (.ifCond .eq 6, 3) := by decide +kernel
theorem dX6_shake_11 : decode cX6_shake 11 = .ok (.bipush (-3), 2) := by decide +kernel
theorem dX6_shake_13 : decode cX6_shake 13 = .ok (.ireturn, 1) := by decide +kernel
theorem dX6_shake_14 : decode cX6_shake 14 = .ok (.aload_n 0, 1) := by decide +kernel
theorem dX6_shake_15 : decode cX6_shake 15 = .ok (.iload_n 1, 1) := by decide +kernel
theorem dX6_shake_16 : decode cX6_shake 16 = .ok (.invokevirtual 264, 3) := by decide +kernel
theorem dX6_shake_19 : decode cX6_shake 19 = .ok (.aload_n 0, 1) := by decide +kernel
theorem dX6_shake_20 : decode cX6_shake 20 = .ok (.getfield 56, 3) := by decide +kernel
theorem dX6_shake_23 : decode cX6_shake 23 = .ok (.iload_n 1, 1) := by decide +kernel
theorem dX6_shake_24 : decode cX6_shake 24 = .ok (.iaload, 1) := by decide +kernel
theorem dX6_shake_25 : decode cX6_shake 25 = .ok (.ldc 107, 2) := by decide +kernel
theorem dX6_shake_27 : decode cX6_shake 27 = .ok (.iadd, 1) := by decide +kernel
theorem dX6_shake_28 : decode cX6_shake 28 = .ok (.ireturn, 1) := by decide +kernel
theorem dX6_greatestShake_0 : decode cX6_greatestShake 0 = .ok (.iload_n 1, 1) := by decide +kernel
theorem dX6_greatestShake_1 : decode cX6_greatestShake 1 = .ok (.iconst 0, 1) := by decide +kernel
theorem dX6_greatestShake_2 : decode cX6_greatestShake 2 = .ok (.sipush 600, 3) := by decide +kernel
theorem dX6_greatestShake_5 : decode cX6_greatestShake 5 = .ok (.invokestatic 87, 3) := by decide +kernel
theorem dX6_greatestShake_8 : decode cX6_greatestShake 8 = .ok (.ifCond .eq 6, 3) := by decide +kernel
theorem dX6_greatestShake_11 : decode cX6_greatestShake 11 = .ok (.bipush (-3), 2) := by decide +kernel
theorem dX6_greatestShake_13 : decode cX6_greatestShake 13 = .ok (.ireturn, 1) := by decide +kernel
theorem dX6_greatestShake_14 : decode cX6_greatestShake 14 = .ok (.aload_n 0, 1) := by decide +kernel
theorem dX6_greatestShake_15 : decode cX6_greatestShake 15 = .ok (.iload_n 1, 1) := by decide +kernel
theorem dX6_greatestShake_16 : decode cX6_greatestShake 16 = .ok (.invokevirtual 264, 3) := by decide +kernel
theorem dX6_greatestShake_19 : decode cX6_greatestShake 19 = .ok (.aload_n 0, 1) := by decide +kernel
theorem dX6_greatestShake_20 : decode cX6_greatestShake 20 = .ok (.iload_n 1, 1) := by decide +kernel
theorem dX6_greatestShake_21 : decode cX6_greatestShake 21 = .ok (.invokevirtual 278, 3) := by decide +kernel
theorem dX6_greatestShake_24 : decode cX6_greatestShake 24 = .ok (.ireturn, 1) := by decide +kernel
theorem dX6_setShakeLimit_0 : decode cX6_setShakeLimit 0 = .ok (.iload_n 1, 1) := by decide +kernel
theorem dX6_setShakeLimit_1 : decode cX6_setShakeLimit 1 = .ok (.iconst 0, 1) := by decide +kernel
theorem dX6_setShakeLimit_2 : decode cX6_setShakeLimit 2 = .ok (.ldc 107, 2) := by decide +kernel
theorem dX6_setShakeLimit_4 : decode cX6_setShakeLimit 4 = .ok (.invokestatic 87, 3) := by decide +kernel
theorem dX6_setShakeLimit_7 : decode cX6_setShakeLimit 7 = .ok (.ifCond .eq 6, 3) := by decide +kernel
theorem dX6_setShakeLimit_10 : decode cX6_setShakeLimit 10 = .ok (.bipush (-3), 2) := by decide +kernel
theorem dX6_setShakeLimit_12 : decode cX6_setShakeLimit 12 = .ok (.ireturn, 1) := by decide +kernel
theorem dX6_setShakeLimit_13 : decode cX6_setShakeLimit 13 = .ok (.aload_n 0, 1) := by decide +kernel
theorem dX6_setShakeLimit_14 : decode cX6_setShakeLimit 14 = .ok (.getfield 79, 3) := by decide +kernel
theorem dX6_setShakeLimit_17 : decode cX6_setShakeLimit 17 = .ok (.istore_n 2, 1) := by decide +kernel
theorem dX6_setShakeLimit_18 : decode cX6_setShakeLimit 18 = .ok (.aload_n 0, 1) := by decide +kernel
theorem dX6_setShakeLimit_19 : decode cX6_setShakeLimit 19 = .ok (.iload_n 1, 1) := by decide +kernel
theorem dX6_setShakeLimit_20 : decode cX6_setShakeLimit 20 = .ok (.putfield 79, 3) := by decide +kernel
theorem dX6_setShakeLimit_23 : decode cX6_setShakeLimit 23 = .ok (.iload_n 2, 1) := by decide +kernel
theorem dX6_setShakeLimit_24 : decode cX6_setShakeLimit 24 = .ok (.ireturn, 1) := by decide +kernel
theorem dX6_calmestWait_0 : decode cX6_calmestWait 0 = .ok (.aload_n 0, 1) := by decide +kernel
theorem dX6_calmestWait_1 : decode cX6_calmestWait 1 = .ok (.iload_n 1, 1) := by decide +kernel
theorem dX6_calmestWait_2 : decode cX6_calmestWait 2 = .ok (.invokevirtual 103, 3) := by decide +kernel
theorem dX6_calmestWait_5 : decode cX6_calmestWait 5 = .ok (.ifCond .ne 6, 3) := by decide +kernel
theorem dX6_calmestWait_8 : decode cX6_calmestWait 8 = .ok (.bipush (-2), 2) := by decide +kernel
theorem dX6_calmestWait_10 : decode cX6_calmestWait 10 = .ok (.ireturn, 1) := by decide +kernel
theorem dX6_calmestWait_11 : decode cX6_calmestWait 11 = .ok (.iload_n 2, 1) := by decide +kernel
theorem dX6_calmestWait_12 : decode cX6_calmestWait 12 = .ok (.iconst 1, 1) := by decide +kernel
theorem dX6_calmestWait_13 : decode cX6_calmestWait 13 = .ok (.sipush 1000, 3) := by decide +kernel
theorem dX6_calmestWait_16 : decode cX6_calmestWait 16 = .ok (.invokestatic 87, 3) := by decide +kernel
theorem dX6_calmestWait_19 : decode cX6_calmestWait 19 = .ok (.ifCond .eq 6, 3) := by decide +kernel
theorem dX6_calmestWait_22 : decode cX6_calmestWait 22 = .ok (.bipush (-3), 2) := by decide +kernel
theorem dX6_calmestWait_24 : decode cX6_calmestWait 24 = .ok (.ireturn, 1) := by decide +kernel
theorem dX6_calmestWait_25 : decode cX6_calmestWait 25 = .ok (.aload_n 0, 1) := by decide +kernel
theorem dX6_calmestWait_26 : decode cX6_calmestWait 26 = .ok (.getfield 11, 3) := by decide +kernel
theorem dX6_calmestWait_29 : decode cX6_calmestWait 29 = .ok (.iload_n 1, 1) := by decide +kernel
theorem dX6_calmestWait_30 : decode cX6_calmestWait 30 = .ok (.aaload, 1) := by decide +kernel
theorem dX6_calmestWait_31 : decode cX6_calmestWait 31 = .ok (.getfield 162, 3) := by decide +kernel
theorem dX6_calmestWait_34 : decode cX6_calmestWait 34 = .ok (.ifCond .eq 6, 3) := by decide +kernel
theorem dX6_calmestWait_37 : decode cX6_calmestWait 37 = .ok (.bipush (-6), 2) := by decide +kernel
theorem dX6_calmestWait_39 : decode cX6_calmestWait 39 = .ok (.ireturn, 1) := by decide +kernel
theorem dX6_calmestWait_40 : decode cX6_calmestWait 40 = .ok (.iconst 2, 1) := by decide +kernel
theorem dX6_calmestWait_41 : decode cX6_calmestWait 41 = .ok (.aload_n 0, 1) := by decide +kernel
theorem dX6_calmestWait_42 : decode cX6_calmestWait 42 = .ok (.getfield 11, 3) := by decide +kernel
theorem dX6_calmestWait_45 : decode cX6_calmestWait 45 = .ok (.iload_n 1, 1) := by decide +kernel
theorem dX6_calmestWait_46 : decode cX6_calmestWait 46 = .ok (.aaload, 1) := by decide +kernel
theorem dX6_calmestWait_47 : decode cX6_calmestWait 47 = .ok (.getfield 100, 3) := by decide +kernel
theorem dX6_calmestWait_50 : decode cX6_calmestWait 50 = .ok (.imul, 1) := by decide +kernel
theorem dX6_calmestWait_51 : decode cX6_calmestWait 51 = .ok (.iconst 1, 1) := by decide +kernel
theorem dX6_calmestWait_52 : decode cX6_calmestWait 52 = .ok (.isub, 1) := by decide +kernel
theorem dX6_calmestWait_53 : decode cX6_calmestWait 53 = .ok (.istore_n 3, 1) := by decide +kernel
theorem dX6_calmestWait_54 : decode cX6_calmestWait 54 = .ok (.aload_n 0, 1) := by decide +kernel
theorem dX6_calmestWait_55 : decode cX6_calmestWait 55 = .ok (.sipush 600, 3) := by decide +kernel
theorem dX6_calmestWait_58 : decode cX6_calmestWait 58 = .ok (.iload_n 3, 1) := by decide +kernel
theorem dX6_calmestWait_59 : decode cX6_calmestWait 59 = .ok (.iadd, 1) := by decide +kernel
theorem dX6_calmestWait_60 : decode cX6_calmestWait 60 = .ok (.invokevirtual 264, 3) := by decide +kernel
theorem dX6_calmestWait_63 : decode cX6_calmestWait 63 = .ok (.aload_n 0, 1) := by decide +kernel
theorem dX6_calmestWait_64 : decode cX6_calmestWait 64 = .ok (.getfield 16, 3) := by decide +kernel
theorem dX6_calmestWait_67 : decode cX6_calmestWait 67 = .ok (.aload_n 0, 1) := by decide +kernel
theorem dX6_calmestWait_68 : decode cX6_calmestWait 68 = .ok (.getfield 11, 3) := by decide +kernel
theorem dX6_calmestWait_71 : decode cX6_calmestWait 71 = .ok (.iload_n 1, 1) := by decide +kernel
theorem dX6_calmestWait_72 : decode cX6_calmestWait 72 = .ok (.aaload, 1) := by decide +kernel
theorem dX6_calmestWait_73 : decode cX6_calmestWait 73 = .ok (.invokevirtual 267, 3) := by decide +kernel
theorem dX6_calmestWait_76 : decode cX6_calmestWait 76 = .ok (.aload_n 0, 1) := by decide +kernel
theorem dX6_calmestWait_77 : decode cX6_calmestWait 77 = .ok (.getfield 16, 3) := by decide +kernel
theorem dX6_calmestWait_80 : decode cX6_calmestWait 80 = .ok (.aload_n 0, 1) := by decide +kernel
theorem dX6_calmestWait_81 : decode cX6_calmestWait 81 = .ok (.getfield 73, 3) := by decide +kernel
theorem dX6_calmestWait_84 : decode cX6_calmestWait 84 = .ok (.iload_n 2, 1) := by decide +kernel
theorem dX6_calmestWait_85 : decode cX6_calmestWait 85 = .ok (.invokevirtual 270, 3) := by decide +kernel
theorem dX6_calmestWait_88 : decode cX6_calmestWait 88 = .ok (.aload_n 0, 1) := by decide +kernel
theorem dX6_calmestWait_89 : decode cX6_calmestWait 89 = .ok (.getfield 60, 3) := by decide +kernel
theorem dX6_calmestWait_92 : decode cX6_calmestWait 92 = .ok (.invokestatic 299, 3) := by decide +kernel
theorem dX6_calmestWait_95 : decode cX6_calmestWait 95 = .ok (.aload_n 0, 1) := by decide +kernel
theorem dX6_calmestWait_96 : decode cX6_calmestWait 96 = .ok (.getfield 16, 3) := by decide +kernel
theorem dX6_calmestWait_99 : decode cX6_calmestWait 99 = .ok (.aload_n 0, 1) := by decide +kernel
theorem dX6_calmestWait_100 : decode cX6_calmestWait 100 = .ok (.getfield 60, 3) := by decide +kernel
theorem dX6_calmestWait_103 : decode cX6_calmestWait 103 = .ok (.aload_n 0, 1) := by decide +kernel
theorem dX6_calmestWait_104 : decode cX6_calmestWait 104 = .ok (.getfield 73, 3) := by decide +kernel
theorem dX6_calmestWait_107 : decode cX6_calmestWait 107 = .ok (.sipush 600, 3) := by decide +kernel
theorem dX6_calmestWait_110 : decode cX6_calmestWait 110 = .ok (.invokevirtual 274, 3) := by decide +kernel
theorem dX6_calmestWait_113 : decode cX6_calmestWait 113 = .ok (.iconst 0, 1) := by decide +kernel
theorem dX6_calmestWait_114 : decode cX6_calmestWait 114 = .ok (.istore 4, 2) := by decide +kernel
theorem dX6_calmestWait_116 : decode cX6_calmestWait 116 = .ok (.ldc_w 303, 3) := by decide +kernel
theorem dX6_calmestWait_119 : decode cX6_calmestWait 119 = .ok (.istore 5, 2) := by decide +kernel
theorem dX6_calmestWait_121 : decode cX6_calmestWait 121 = .ok (.iconst 0, 1) := by decide +kernel
theorem dX6_calmestWait_122 : decode cX6_calmestWait 122 = .ok (.istore 6, 2) := by decide +kernel
theorem dX6_calmestWait_124 : decode cX6_calmestWait 124 = .ok (.iload 6, 2) := by decide +kernel
theorem dX6_calmestWait_126 : decode cX6_calmestWait 126 = .ok (.iload_n 3, 1) := by decide +kernel
theorem dX6_calmestWait_127 : decode cX6_calmestWait 127 = .ok (.if_icmp .gt 34, 3) := by decide +kernel
theorem dX6_calmestWait_130 : decode cX6_calmestWait 130 = .ok (.aload_n 0, 1) := by decide +kernel
theorem dX6_calmestWait_131 : decode cX6_calmestWait 131 = .ok (.iload 6, 2) := by decide +kernel
theorem dX6_calmestWait_133 : decode cX6_calmestWait 133 = .ok (.iload 5, 2) := by decide +kernel
theorem dX6_calmestWait_135 : decode cX6_calmestWait 135 = .ok (.invokevirtual 304, 3) := by decide +kernel
theorem dX6_calmestWait_138 : decode cX6_calmestWait 138 = .ok (.istore 7, 2) := by decide +kernel
theorem dX6_calmestWait_140 : decode cX6_calmestWait 140 = .ok (.iload 7, 2) := by decide +kernel
theorem dX6_calmestWait_142 : decode cX6_calmestWait 142 = .ok (.iload 5, 2) := by decide +kernel
theorem dX6_calmestWait_144 : decode cX6_calmestWait 144 = .ok (.if_icmp .ge 11, 3) := by decide +kernel
theorem dX6_calmestWait_147 : decode cX6_calmestWait 147 = .ok (.iload 7, 2) := by decide +kernel
theorem dX6_calmestWait_149 : decode cX6_calmestWait 149 = .ok (.istore 5, 2) := by decide +kernel
theorem dX6_calmestWait_151 : decode cX6_calmestWait 151 = .ok (.iload 6, 2) := by decide +kernel
theorem dX6_calmestWait_153 : decode cX6_calmestWait 153 = .ok (.istore 4, 2) := by decide +kernel
theorem dX6_calmestWait_155 : decode cX6_calmestWait 155 = .ok (.iinc 6 1, 3) := by decide +kernel
theorem dX6_calmestWait_158 : decode cX6_calmestWait 158 = .ok (.goto (-34), 3) := by decide +kernel
theorem dX6_calmestWait_161 : decode cX6_calmestWait 161 = .ok (.iload 4, 2) := by decide +kernel
theorem dX6_calmestWait_163 : decode cX6_calmestWait 163 = .ok (.ireturn, 1) := by decide +kernel
theorem dX6_outside_0 : decode cX6_outside 0 = .ok (.iload_n 0, 1) := by decide +kernel
theorem dX6_outside_1 : decode cX6_outside 1 = .ok (.iload_n 1, 1) := by decide +kernel
theorem dX6_outside_2 : decode cX6_outside 2 = .ok (.if_icmp .lt 8, 3) := by decide +kernel
theorem dX6_outside_5 : decode cX6_outside 5 = .ok (.iload_n 0, 1) := by decide +kernel
theorem dX6_outside_6 : decode cX6_outside 6 = .ok (.iload_n 2, 1) := by decide +kernel
theorem dX6_outside_7 : decode cX6_outside 7 = .ok (.if_icmp .le 7, 3) := by decide +kernel
theorem dX6_outside_10 : decode cX6_outside 10 = .ok (.iconst 1, 1) := by decide +kernel
theorem dX6_outside_11 : decode cX6_outside 11 = .ok (.goto 4, 3) := by decide +kernel
theorem dX6_outside_14 : decode cX6_outside 14 = .ok (.iconst 0, 1) := by decide +kernel
theorem dX6_outside_15 : decode cX6_outside 15 = .ok (.ireturn, 1) := by decide +kernel
theorem dX6_clear_0 : decode cX6_clear 0 = .ok (.iconst 0, 1) := by decide +kernel
theorem dX6_clear_1 : decode cX6_clear 1 = .ok (.istore_n 1, 1) := by decide +kernel
theorem dX6_clear_2 : decode cX6_clear 2 = .ok (.iload_n 1, 1) := by decide +kernel
theorem dX6_clear_3 : decode cX6_clear 3 = .ok (.aload_n 0, 1) := by decide +kernel
theorem dX6_clear_4 : decode cX6_clear 4 = .ok (.arraylength, 1) := by decide +kernel
theorem dX6_clear_5 : decode cX6_clear 5 = .ok (.if_icmp .ge 13, 3) := by decide +kernel
theorem dX6_clear_8 : decode cX6_clear 8 = .ok (.aload_n 0, 1) := by decide +kernel
theorem dX6_clear_9 : decode cX6_clear 9 = .ok (.iload_n 1, 1) := by decide +kernel
theorem dX6_clear_10 : decode cX6_clear 10 = .ok (.iconst 0, 1) := by decide +kernel
theorem dX6_clear_11 : decode cX6_clear 11 = .ok (.iastore, 1) := by decide +kernel
theorem dX6_clear_12 : decode cX6_clear 12 = .ok (.iinc 1 1, 3) := by decide +kernel
theorem dX6_clear_15 : decode cX6_clear 15 = .ok (.goto (-13), 3) := by decide +kernel
theorem dX6_clear_18 : decode cX6_clear 18 = .ok (.return_, 1) := by decide +kernel
theorem dX6_isBell_0 : decode cX6_isBell 0 = .ok (.iload_n 1, 1) := by decide +kernel
theorem dX6_isBell_1 : decode cX6_isBell 1 = .ok (.ifCond .lt 15, 3) := by decide +kernel
theorem dX6_isBell_4 : decode cX6_isBell 4 = .ok (.iload_n 1, 1) := by decide +kernel
theorem dX6_isBell_5 : decode cX6_isBell 5 = .ok (.aload_n 0, 1) := by decide +kernel
theorem dX6_isBell_6 : decode cX6_isBell 6 = .ok (.getfield 66, 3) := by decide +kernel
theorem dX6_isBell_9 : decode cX6_isBell 9 = .ok (.if_icmp .ge 7, 3) := by decide +kernel
theorem dX6_isBell_12 : decode cX6_isBell 12 = .ok (.iconst 1, 1) := by decide +kernel
theorem dX6_isBell_13 : decode cX6_isBell 13 = .ok (.goto 4, 3) := by decide +kernel
theorem dX6_isBell_16 : decode cX6_isBell 16 = .ok (.iconst 0, 1) := by decide +kernel
theorem dX6_isBell_17 : decode cX6_isBell 17 = .ok (.ireturn, 1) := by decide +kernel
theorem dX6_isPattern_0 : decode cX6_isPattern 0 = .ok (.iload_n 0, 1) := by decide +kernel
theorem dX6_isPattern_1 : decode cX6_isPattern 1 = .ok (.ifCond .lt 12, 3) := by decide +kernel
theorem dX6_isPattern_4 : decode cX6_isPattern 4 = .ok (.iload_n 0, 1) := by decide +kernel
theorem dX6_isPattern_5 : decode cX6_isPattern 5 = .ok (.iconst 5, 1) := by decide +kernel
theorem dX6_isPattern_6 : decode cX6_isPattern 6 = .ok (.if_icmp .ge 7, 3) := by decide +kernel
theorem dX6_isPattern_9 : decode cX6_isPattern 9 = .ok (.iconst 1, 1) := by decide +kernel
theorem dX6_isPattern_10 : decode cX6_isPattern 10 = .ok (.goto 4, 3) := by decide +kernel
theorem dX6_isPattern_13 : decode cX6_isPattern 13 = .ok (.iconst 0, 1) := by decide +kernel
theorem dX6_isPattern_14 : decode cX6_isPattern 14 = .ok (.ireturn, 1) := by decide +kernel
theorem dX6_isEntry_0 : decode cX6_isEntry 0 = .ok (.iload_n 1, 1) := by decide +kernel
theorem dX6_isEntry_1 : decode cX6_isEntry 1 = .ok (.ifCond .lt 15, 3) := by decide +kernel
theorem dX6_isEntry_4 : decode cX6_isEntry 4 = .ok (.iload_n 1, 1) := by decide +kernel
theorem dX6_isEntry_5 : decode cX6_isEntry 5 = .ok (.aload_n 0, 1) := by decide +kernel
theorem dX6_isEntry_6 : decode cX6_isEntry 6 = .ok (.getfield 70, 3) := by decide +kernel
theorem dX6_isEntry_9 : decode cX6_isEntry 9 = .ok (.if_icmp .ge 7, 3) := by decide +kernel
theorem dX6_isEntry_12 : decode cX6_isEntry 12 = .ok (.iconst 1, 1) := by decide +kernel
theorem dX6_isEntry_13 : decode cX6_isEntry 13 = .ok (.goto 4, 3) := by decide +kernel
theorem dX6_isEntry_16 : decode cX6_isEntry 16 = .ok (.iconst 0, 1) := by decide +kernel
theorem dX6_isEntry_17 : decode cX6_isEntry 17 = .ok (.ireturn, 1) := by decide +kernel
theorem dX6_existingBells_0 : decode cX6_existingBells 0 = .ok (.iconst 1, 1) := by decide +kernel
theorem dX6_existingBells_1 : decode cX6_existingBells 1 = .ok (.aload_n 0, 1) := by decide +kernel
theorem dX6_existingBells_2 : decode cX6_existingBells 2 = .ok (.getfield 66, 3) := by decide +kernel
theorem dX6_existingBells_5 : decode cX6_existingBells 5 = .ok (.ishl, 1) := by decide +kernel
theorem dX6_existingBells_6 : decode cX6_existingBells 6 = .ok (.iconst 1, 1) := by decide +kernel
theorem dX6_existingBells_7 : decode cX6_existingBells 7 = .ok (.isub, 1) := by decide +kernel
theorem dX6_existingBells_8 : decode cX6_existingBells 8 = .ok (.ireturn, 1) := by decide +kernel
theorem dX6_soundHammers_0 : decode cX6_soundHammers 0 = .ok (.aload_n 0, 1) := by decide +kernel
theorem dX6_soundHammers_1 : decode cX6_soundHammers 1 = .ok (.getfield 30, 3) := by decide +kernel
theorem dX6_soundHammers_4 : decode cX6_soundHammers 4 = .ok (.aload_n 0, 1) := by decide +kernel
theorem dX6_soundHammers_5 : decode cX6_soundHammers 5 = .ok (.getfield 73, 3) := by decide +kernel
theorem dX6_soundHammers_8 : decode cX6_soundHammers 8 = .ok (.invokevirtual 307, 3) := by decide +kernel
theorem dX6_soundHammers_11 : decode cX6_soundHammers 11 = .ok (.istore_n 1, 1) := by decide +kernel
theorem dX6_soundHammers_12 : decode cX6_soundHammers 12 = .ok (.iconst 0, 1) := by decide +kernel
theorem dX6_soundHammers_13 : decode cX6_soundHammers 13 = .ok (.istore_n 2, 1) := by decide +kernel
theorem dX6_soundHammers_14 : decode cX6_soundHammers 14 = .ok (.iconst 0, 1) := by decide +kernel
theorem dX6_soundHammers_15 : decode cX6_soundHammers 15 = .ok (.istore_n 3, 1) := by decide +kernel
theorem dX6_soundHammers_16 : decode cX6_soundHammers 16 = .ok (.iload_n 3, 1) := by decide +kernel
theorem dX6_soundHammers_17 : decode cX6_soundHammers 17 = .ok (.aload_n 0, 1) := by decide +kernel
theorem dX6_soundHammers_18 : decode cX6_soundHammers 18 = .ok (.getfield 66, 3) := by decide +kernel
theorem dX6_soundHammers_21 : decode cX6_soundHammers 21 = .ok (.if_icmp .ge 60, 3) := by decide +kernel
theorem dX6_soundHammers_24 : decode cX6_soundHammers 24 = .ok (.iload_n 1, 1) := by decide +kernel
theorem dX6_soundHammers_25 : decode cX6_soundHammers 25 = .ok (.ifCond .eq 56, 3) := by decide +kernel
theorem dX6_soundHammers_28 : decode cX6_soundHammers 28 = .ok (.iload_n 1, 1) := by decide +kernel
theorem dX6_soundHammers_29 : decode cX6_soundHammers 29 = .ok (.iload_n 3, 1) := by decide +kernel
theorem dX6_soundHammers_30 : decode cX6_soundHammers 30 = .ok (.ishr, 1) := by decide +kernel
theorem dX6_soundHammers_31 : decode cX6_soundHammers 31 = .ok (.iconst 1, 1) := by decide +kernel
theorem dX6_soundHammers_32 : decode cX6_soundHammers 32 = .ok (.iand, 1) := by decide +kernel
theorem dX6_soundHammers_33 : decode cX6_soundHammers 33 = .ok (.ifCond .eq 42, 3) := by decide +kernel
theorem dX6_soundHammers_36 : decode cX6_soundHammers 36 = .ok (.aload_n 0, 1) := by decide +kernel
theorem dX6_soundHammers_37 : decode cX6_soundHammers 37 = .ok (.getfield 11, 3) := by decide +kernel
theorem dX6_soundHammers_40 : decode cX6_soundHammers 40 = .ok (.iload_n 3, 1) := by decide +kernel
theorem dX6_soundHammers_41 : decode cX6_soundHammers 41 = .ok (.aaload, 1) := by decide +kernel
theorem dX6_soundHammers_42 : decode cX6_soundHammers 42 = .ok (.aload_n 0, 1) := by decide +kernel
theorem dX6_soundHammers_43 : decode cX6_soundHammers 43 = .ok (.getfield 73, 3) := by decide +kernel
theorem dX6_soundHammers_46 : decode cX6_soundHammers 46 = .ok (.aload_n 0, 1) := by decide +kernel
theorem dX6_soundHammers_47 : decode cX6_soundHammers 47 = .ok (.getfield 11, 3) := by decide +kernel
theorem dX6_soundHammers_50 : decode cX6_soundHammers 50 = .ok (.iload_n 3, 1) := by decide +kernel
theorem dX6_soundHammers_51 : decode cX6_soundHammers 51 = .ok (.aaload, 1) := by decide +kernel
theorem dX6_soundHammers_52 : decode cX6_soundHammers 52 = .ok (.getfield 94, 3) := by decide +kernel
theorem dX6_soundHammers_55 : decode cX6_soundHammers 55 = .ok (.iadd, 1) := by decide +kernel
theorem dX6_soundHammers_56 : decode cX6_soundHammers 56 = .ok (.putfield 310, 3) := by decide +kernel
theorem dX6_soundHammers_59 : decode cX6_soundHammers 59 = .ok (.aload_n 0, 1) := by decide +kernel
theorem dX6_soundHammers_60 : decode cX6_soundHammers 60 = .ok (.getfield 23, 3) := by decide +kernel
theorem dX6_soundHammers_63 : decode cX6_soundHammers 63 = .ok (.iload_n 3, 1) := by decide +kernel
theorem dX6_soundHammers_64 : decode cX6_soundHammers 64 = .ok (.aload_n 0, 1) := by decide +kernel
theorem dX6_soundHammers_65 : decode cX6_soundHammers 65 = .ok (.getfield 73, 3) := by decide +kernel
theorem dX6_soundHammers_68 : decode cX6_soundHammers 68 = .ok (.iconst 0, 1) := by decide +kernel
theorem dX6_soundHammers_69 : decode cX6_soundHammers 69 = .ok (.invokevirtual 313, 3) := by decide +kernel
theorem dX6_soundHammers_72 : decode cX6_soundHammers 72 = .ok (.iinc 2 1, 3) := by decide +kernel
theorem dX6_soundHammers_75 : decode cX6_soundHammers 75 = .ok (.iinc 3 1, 3) := by decide +kernel
theorem dX6_soundHammers_78 : decode cX6_soundHammers 78 = .ok (.goto (-62), 3) := by decide +kernel
theorem dX6_soundHammers_81 : decode cX6_soundHammers 81 = .ok (.iload_n 2, 1) := by decide +kernel
theorem dX6_soundHammers_82 : decode cX6_soundHammers 82 = .ok (.ireturn, 1) := by decide +kernel
theorem dX6_turnBells_0 : decode cX6_turnBells 0 = .ok (.iconst 0, 1) := by decide +kernel
theorem dX6_turnBells_1 : decode cX6_turnBells 1 = .ok (.istore_n 1, 1) := by decide +kernel
theorem dX6_turnBells_2 : decode cX6_turnBells 2 = .ok (.iconst 0, 1) := by decide +kernel
theorem dX6_turnBells_3 : decode cX6_turnBells 3 = .ok (.istore_n 2, 1) := by decide +kernel
theorem dX6_turnBells_4 : decode cX6_turnBells 4 = .ok (.iload_n 2, 1) := by decide +kernel
theorem dX6_turnBells_5 : decode cX6_turnBells 5 = .ok (.aload_n 0, 1) := by decide +kernel
theorem dX6_turnBells_6 : decode cX6_turnBells 6 = .ok (.getfield 66, 3) := by decide +kernel
theorem dX6_turnBells_9 : decode cX6_turnBells 9 = .ok (.if_icmp .ge 64, 3) := by decide +kernel
theorem dX6_turnBells_12 : decode cX6_turnBells 12 = .ok (.aload_n 0, 1) := by decide +kernel
theorem dX6_turnBells_13 : decode cX6_turnBells 13 = .ok (.getfield 11, 3) := by decide +kernel
theorem dX6_turnBells_16 : decode cX6_turnBells 16 = .ok (.iload_n 2, 1) := by decide +kernel
theorem dX6_turnBells_17 : decode cX6_turnBells 17 = .ok (.aaload, 1) := by decide +kernel
theorem dX6_turnBells_18 : decode cX6_turnBells 18 = .ok (.astore_n 3, 1) := by decide +kernel
theorem dX6_turnBells_19 : decode cX6_turnBells 19 = .ok (.aload_n 3, 1) := by decide +kernel
theorem dX6_turnBells_20 : decode cX6_turnBells 20 = .ok (.aload_n 0, 1) := by decide +kernel
theorem dX6_turnBells_21 : decode cX6_turnBells 21 = .ok (.getfield 73, 3) := by decide +kernel
theorem dX6_turnBells_24 : decode cX6_turnBells 24 = .ok (.invokevirtual 316, 3) := by decide +kernel
theorem dX6_turnBells_27 : decode cX6_turnBells 27 = .ok (.ifCond .eq 40, 3) := by decide +kernel
theorem dX6_turnBells_30 : decode cX6_turnBells 30 = .ok (.aload_n 3, 1) := by decide +kernel
theorem dX6_turnBells_31 : decode cX6_turnBells 31 = .ok (.invokevirtual 293, 3) := by decide +kernel
theorem dX6_turnBells_34 : decode cX6_turnBells 34 = .ok (.aload_n 3, 1) := by decide +kernel
theorem dX6_turnBells_35 : decode cX6_turnBells 35 = .ok (.getfield 287, 3) := by decide +kernel
theorem dX6_turnBells_38 : decode cX6_turnBells 38 = .ok (.sipush 400, 3) := by decide +kernel
theorem dX6_turnBells_41 : decode cX6_turnBells 41 = .ok (.if_icmp .lt 26, 3) := by decide +kernel
theorem dX6_turnBells_44 : decode cX6_turnBells 44 = .ok (.aload_n 3, 1) := by decide +kernel
theorem dX6_turnBells_45 : decode cX6_turnBells 45 = .ok (.getfield 290, 3) := by decide +kernel
theorem dX6_turnBells_48 : decode cX6_turnBells 48 = .ok (.ifCond .ne 19, 3) := by decide +kernel
theorem dX6_turnBells_51 : decode cX6_turnBells 51 = .ok (.aload_n 0, 1) := by decide +kernel
theorem dX6_turnBells_52 : decode cX6_turnBells 52 = .ok (.getfield 23, 3) := by decide +kernel
theorem dX6_turnBells_55 : decode cX6_turnBells 55 = .ok (.iload_n 2, 1) := by decide +kernel
theorem dX6_turnBells_56 : decode cX6_turnBells 56 = .ok (.aload_n 0, 1) := by decide +kernel
theorem dX6_turnBells_57 : decode cX6_turnBells 57 = .ok (.getfield 73, 3) := by decide +kernel
theorem dX6_turnBells_60 : decode cX6_turnBells 60 = .ok (.iconst 1, 1) := by decide +kernel
theorem dX6_turnBells_61 : decode cX6_turnBells 61 = .ok (.invokevirtual 313, 3) := by decide +kernel
theorem dX6_turnBells_64 : decode cX6_turnBells 64 = .ok (.iinc 1 1, 3) := by decide +kernel
theorem dX6_turnBells_67 : decode cX6_turnBells 67 = .ok (.iinc 2 1, 3) := by decide +kernel
theorem dX6_turnBells_70 : decode cX6_turnBells 70 = .ok (.goto (-66), 3) := by decide +kernel
theorem dX6_turnBells_73 : decode cX6_turnBells 73 = .ok (.iload_n 1, 1) := by decide +kernel
theorem dX6_turnBells_74 : decode cX6_turnBells 74 = .ok (.ireturn, 1) := by decide +kernel
theorem dX6_runProgramme_0 : decode cX6_runProgramme 0 = .ok (.iconst 0, 1) := by decide +kernel
theorem dX6_runProgramme_1 : decode cX6_runProgramme 1 = .ok (.istore_n 1, 1) := by decide +kernel
theorem dX6_runProgramme_2 : decode cX6_runProgramme 2 = .ok (.aload_n 0, 1) := by decide +kernel
theorem dX6_runProgramme_3 : decode cX6_runProgramme 3 = .ok (.getfield 70, 3) := by decide +kernel
theorem dX6_runProgramme_6 : decode cX6_runProgramme 6 = .ok (.istore_n 2, 1) := by decide +kernel
theorem dX6_runProgramme_7 : decode cX6_runProgramme 7 = .ok (.iload_n 2, 1) := by decide +kernel
theorem dX6_runProgramme_8 : decode cX6_runProgramme 8 = .ok (.ifCond .le 52, 3) := by decide +kernel
theorem dX6_runProgramme_11 : decode cX6_runProgramme 11 = .ok (.aload_n 0, 1) := by decide +kernel
theorem dX6_runProgramme_12 : decode cX6_runProgramme 12 = .ok (.getfield 52, 3) := by decide +kernel
theorem dX6_runProgramme_15 : decode cX6_runProgramme 15 = .ok (.iload_n 1, 1) := by decide +kernel
theorem dX6_runProgramme_16 : decode cX6_runProgramme 16 = .ok (.aaload, 1) := by decide +kernel
theorem dX6_runProgramme_17 : decode cX6_runProgramme 17 = .ok (.getfield 243, 3) := by decide +kernel
theorem dX6_runProgramme_20 : decode cX6_runProgramme 20 = .ok (.aload_n 0, 1) := by decide +kernel
theorem dX6_runProgramme_21 : decode cX6_runProgramme 21 = .ok (.getfield 73, 3) := by decide +kernel
theorem dX6_runProgramme_24 : decode cX6_runProgramme 24 = .ok (.bipush 100, 2) := by decide +kernel
theorem dX6_runProgramme_26 : decode cX6_runProgramme 26 = .ok (.iadd, 1) := by decide +kernel
theorem dX6_runProgramme_27 : decode cX6_runProgramme 27 = .ok (.if_icmp .gt 16, 3) := by decide +kernel
theorem dX6_runProgramme_30 : decode cX6_runProgramme 30 = .ok (.aload_n 0, 1) := by decide +kernel
theorem dX6_runProgramme_31 : decode cX6_runProgramme 31 = .ok (.aload_n 0, 1) := by decide +kernel
theorem dX6_runProgramme_32 : decode cX6_runProgramme 32 = .ok (.getfield 52, 3) := by decide +kernel
theorem dX6_runProgramme_35 : decode cX6_runProgramme 35 = .ok (.iload_n 1, 1) := by decide +kernel
theorem dX6_runProgramme_36 : decode cX6_runProgramme 36 = .ok (.aaload, 1) := by decide +kernel
theorem dX6_runProgramme_37 : decode cX6_runProgramme 37 = .ok (.invokevirtual 319, 3) := by decide +kernel
theorem dX6_runProgramme_40 : decode cX6_runProgramme 40 = .ok (.ifCond .eq 9, 3) := by decide +kernel
theorem dX6_runProgramme_43 : decode cX6_runProgramme 43 = .ok (.iinc 1 1, 3) := by decide +kernel
theorem dX6_runProgramme_46 : decode cX6_runProgramme 46 = .ok (.goto 8, 3) := by decide +kernel
theorem dX6_runProgramme_49 : decode cX6_runProgramme 49 = .ok (.aload_n 0, 1) := by decide +kernel
theorem dX6_runProgramme_50 : decode cX6_runProgramme 50 = .ok (.iload_n 1, 1) := by decide +kernel
theorem dX6_runProgramme_51 : decode cX6_runProgramme 51 = .ok (.invokevirtual 261, 3) := by decide +kernel
theorem dX6_runProgramme_54 : decode cX6_runProgramme 54 = .ok (.iinc 2 (-1), 3) := by decide +kernel
theorem dX6_runProgramme_57 : decode cX6_runProgramme 57 = .ok (.goto (-50), 3) := by decide +kernel
theorem dX6_runProgramme_60 : decode cX6_runProgramme 60 = .ok (.return_, 1) := by decide +kernel
theorem dX6_carryOut_0 : decode cX6_carryOut 0 = .ok (.aload_n 0, 1) := by decide +kernel
theorem dX6_carryOut_1 : decode cX6_carryOut 1 = .ok (.getfield 46, 3) := by decide +kernel
theorem dX6_carryOut_4 : decode cX6_carryOut 4 = .ok (.aload_n 1, 1) := by decide +kernel
theorem dX6_carryOut_5 : decode cX6_carryOut 5 = .ok (.getfield 240, 3) := by decide +kernel
theorem dX6_carryOut_8 : decode cX6_carryOut 8 = .ok (.aaload, 1) := by decide +kernel
theorem dX6_carryOut_9 : decode cX6_carryOut 9 = .ok (.astore_n 2, 1) := by decide +kernel
theorem dX6_carryOut_10 : decode cX6_carryOut 10 = .ok (.aload_n 1, 1) := by decide +kernel
theorem dX6_carryOut_11 : decode cX6_carryOut 11 = .ok (.aload_n 2, 1) := by decide +kernel
theorem dX6_carryOut_12 : decode cX6_carryOut 12 = .ok (.invokevirtual 205, 3) := by decide +kernel
theorem dX6_carryOut_15 : decode cX6_carryOut 15 = .ok (.ifCond .eq 7, 3) := by decide +kernel
theorem dX6_carryOut_18 : decode cX6_carryOut 18 = .ok (.iconst (-1), 1) := by decide +kernel
theorem dX6_carryOut_19 : decode cX6_carryOut 19 = .ok (.goto 20, 3) := by decide +kernel
theorem dX6_carryOut_22 : decode cX6_carryOut 22 = .ok (.aload_n 0, 1) := by decide +kernel
theorem dX6_carryOut_23 : decode cX6_carryOut 23 = .ok (.aload_n 2, 1) := by decide +kernel
theorem dX6_carryOut_24 : decode cX6_carryOut 24 = .ok (.aload_n 1, 1) := by decide +kernel
theorem dX6_carryOut_25 : decode cX6_carryOut 25 = .ok (.getfield 243, 3) := by decide +kernel
theorem dX6_carryOut_28 : decode cX6_carryOut 28 = .ok (.aload_n 1, 1) := by decide +kernel
theorem dX6_carryOut_29 : decode cX6_carryOut 29 = .ok (.getfield 249, 3) := by decide +kernel
theorem dX6_carryOut_32 : decode cX6_carryOut 32 = .ok (.aload_n 1, 1) := by decide +kernel
theorem dX6_carryOut_33 : decode cX6_carryOut 33 = .ok (.getfield 252, 3) := by decide +kernel
theorem dX6_carryOut_36 : decode cX6_carryOut 36 = .ok (.invokevirtual 222, 3) := by decide +kernel
theorem dX6_carryOut_39 : decode cX6_carryOut 39 = .ok (.putfield 255, 3) := by decide +kernel
theorem dX6_carryOut_42 : decode cX6_carryOut 42 = .ok (.aload_n 1, 1) := by decide +kernel
theorem dX6_carryOut_43 : decode cX6_carryOut 43 = .ok (.getfield 255, 3) := by decide +kernel
theorem dX6_carryOut_46 : decode cX6_carryOut 46 = .ok (.iconst (-1), 1) := by decide +kernel
theorem dX6_carryOut_47 : decode cX6_carryOut 47 = .ok (.if_icmp .ne 13, 3) := by decide +kernel
theorem dX6_carryOut_50 : decode cX6_carryOut 50 = .ok (.aload_n 0, 1) := by decide +kernel
theorem dX6_carryOut_51 : decode cX6_carryOut 51 = .ok (.dup, 1) := by decide +kernel
theorem dX6_carryOut_52 : decode cX6_carryOut 52 = .ok (.getfield 82, 3) := by decide +kernel
theorem dX6_carryOut_55 : decode cX6_carryOut 55 = .ok (.iconst 1, 1) := by decide +kernel
theorem dX6_carryOut_56 : decode cX6_carryOut 56 = .ok (.iadd, 1) := by decide +kernel
theorem dX6_carryOut_57 : decode cX6_carryOut 57 = .ok (.putfield 82, 3) := by decide +kernel
theorem dX6_carryOut_60 : decode cX6_carryOut 60 = .ok (.aload_n 1, 1) := by decide +kernel
theorem dX6_carryOut_61 : decode cX6_carryOut 61 = .ok (.getfield 246, 3) := by decide +kernel
theorem dX6_carryOut_64 : decode cX6_carryOut 64 = .ok (.ifCond .eq 17, 3) := by decide +kernel
theorem dX6_carryOut_67 : decode cX6_carryOut 67 = .ok (.aload_n 1, 1) := by decide +kernel
theorem dX6_carryOut_68 : decode cX6_carryOut 68 = .ok (.getfield 243, 3) := by decide +kernel
theorem dX6_carryOut_71 : decode cX6_carryOut 71 = .ok (.aload_n 1, 1) := by decide +kernel
theorem dX6_carryOut_72 : decode cX6_carryOut 72 = .ok (.getfield 246, 3) := by decide +kernel
theorem dX6_carryOut_75 : decode cX6_carryOut 75 = .ok (.iadd, 1) := by decide +kernel
theorem dX6_carryOut_76 : decode cX6_carryOut 76 = .ok (.ldc 107, 2) := by decide +kernel
theorem dX6_carryOut_78 : decode cX6_carryOut 78 = .ok (.if_icmp .le 5, 3) := by decide +kernel
theorem dX6_carryOut_81 : decode cX6_carryOut 81 = .ok (.iconst 0, 1) := by decide +kernel
theorem dX6_carryOut_82 : decode cX6_carryOut 82 = .ok (.ireturn, 1) := by decide +kernel
theorem dX6_carryOut_83 : decode cX6_carryOut 83 = .ok (.aload_n 1, 1) := by decide +kernel
theorem dX6_carryOut_84 : decode cX6_carryOut 84 = .ok (.dup, 1) := by decide +kernel
theorem dX6_carryOut_85 : decode cX6_carryOut 85 = .ok (.getfield 243, 3) := by decide +kernel
theorem dX6_carryOut_88 : decode cX6_carryOut 88 = .ok (.aload_n 1, 1) := by decide +kernel
theorem dX6_carryOut_89 : decode cX6_carryOut 89 = .ok (.getfield 246, 3) := by decide +kernel
theorem dX6_carryOut_92 : decode cX6_carryOut 92 = .ok (.iadd, 1) := by decide +kernel
theorem dX6_carryOut_93 : decode cX6_carryOut 93 = .ok (.putfield 243, 3) := by decide +kernel
theorem dX6_carryOut_96 : decode cX6_carryOut 96 = .ok (.iconst 1, 1) := by decide +kernel
theorem dX6_carryOut_97 : decode cX6_carryOut 97 = .ok (.ireturn, 1) := by decide +kernel
theorem dX6_dropEntry_0 : decode cX6_dropEntry 0 = .ok (.aload_n 0, 1) := by decide +kernel
theorem dX6_dropEntry_1 : decode cX6_dropEntry 1 = .ok (.getfield 52, 3) := by decide +kernel
theorem dX6_dropEntry_4 : decode cX6_dropEntry 4 = .ok (.iload_n 1, 1) := by decide +kernel
theorem dX6_dropEntry_5 : decode cX6_dropEntry 5 = .ok (.aaload, 1) := by decide +kernel
theorem dX6_dropEntry_6 : decode cX6_dropEntry 6 = .ok (.astore_n 2, 1) := by decide +kernel
theorem dX6_dropEntry_7 : decode cX6_dropEntry 7 = .ok (.iload_n 1, 1) := by decide +kernel
theorem dX6_dropEntry_8 : decode cX6_dropEntry 8 = .ok (.iconst 1, 1) := by decide +kernel
theorem dX6_dropEntry_9 : decode cX6_dropEntry 9 = .ok (.iadd, 1) := by decide +kernel
theorem dX6_dropEntry_10 : decode cX6_dropEntry 10 = .ok (.istore_n 3, 1) := by decide +kernel
theorem dX6_dropEntry_11 : decode cX6_dropEntry 11 = .ok (.iload_n 3, 1) := by decide +kernel
theorem dX6_dropEntry_12 : decode cX6_dropEntry 12 = .ok (.aload_n 0, 1) := by decide +kernel
theorem dX6_dropEntry_13 : decode cX6_dropEntry 13 = .ok (.getfield 70, 3) := by decide +kernel
theorem dX6_dropEntry_16 : decode cX6_dropEntry 16 = .ok (.if_icmp .ge 23, 3) := by decide +kernel
theorem dX6_dropEntry_19 : decode cX6_dropEntry 19 = .ok (.aload_n 0, 1) := by decide +kernel
theorem dX6_dropEntry_20 : decode cX6_dropEntry 20 = .ok (.getfield 52, 3) := by decide +kernel
theorem dX6_dropEntry_23 : decode cX6_dropEntry 23 = .ok (.iload_n 3, 1) := by decide +kernel
theorem dX6_dropEntry_24 : decode cX6_dropEntry 24 = .ok (.iconst 1, 1) := by decide +kernel
theorem dX6_dropEntry_25 : decode cX6_dropEntry 25 = .ok (.isub, 1) := by decide +kernel
theorem dX6_dropEntry_26 : decode cX6_dropEntry 26 = .ok (.aload_n 0, 1) := by decide +kernel
theorem dX6_dropEntry_27 : decode cX6_dropEntry 27 = .ok (.getfield 52, 3) := by decide +kernel
theorem dX6_dropEntry_30 : decode cX6_dropEntry 30 = .ok (.iload_n 3, 1) := by decide +kernel
theorem dX6_dropEntry_31 : decode cX6_dropEntry 31 = .ok (.aaload, 1) := by decide +kernel
theorem dX6_dropEntry_32 : decode cX6_dropEntry 32 = .ok (.aastore, 1) := by decide +kernel
theorem dX6_dropEntry_33 : decode cX6_dropEntry 33 = .ok (.iinc 3 1, 3) := by decide +kernel
theorem dX6_dropEntry_36 : decode cX6_dropEntry 36 = .ok (.goto (-25), 3) := by decide +kernel
theorem dX6_dropEntry_39 : decode cX6_dropEntry 39 = .ok (.aload_n 0, 1) := by decide +kernel
theorem dX6_dropEntry_40 : decode cX6_dropEntry 40 = .ok (.dup, 1) := by decide +kernel
theorem dX6_dropEntry_41 : decode cX6_dropEntry 41 = .ok (.getfield 70, 3) := by decide +kernel
theorem dX6_dropEntry_44 : decode cX6_dropEntry 44 = .ok (.iconst 1, 1) := by decide +kernel
theorem dX6_dropEntry_45 : decode cX6_dropEntry 45 = .ok (.isub, 1) := by decide +kernel
theorem dX6_dropEntry_46 : decode cX6_dropEntry 46 = .ok (.putfield 70, 3) := by decide +kernel
theorem dX6_dropEntry_49 : decode cX6_dropEntry 49 = .ok (.aload_n 0, 1) := by decide +kernel
theorem dX6_dropEntry_50 : decode cX6_dropEntry 50 = .ok (.getfield 52, 3) := by decide +kernel
theorem dX6_dropEntry_53 : decode cX6_dropEntry 53 = .ok (.aload_n 0, 1) := by decide +kernel
theorem dX6_dropEntry_54 : decode cX6_dropEntry 54 = .ok (.getfield 70, 3) := by decide +kernel
theorem dX6_dropEntry_57 : decode cX6_dropEntry 57 = .ok (.aload_n 2, 1) := by decide +kernel
theorem dX6_dropEntry_58 : decode cX6_dropEntry 58 = .ok (.aastore, 1) := by decide +kernel
theorem dX6_dropEntry_59 : decode cX6_dropEntry 59 = .ok (.return_, 1) := by decide +kernel
theorem dX6_examine_0 : decode cX6_examine 0 = .ok (.aload_n 0, 1) := by decide +kernel
theorem dX6_examine_1 : decode cX6_examine 1 = .ok (.getfield 11, 3) := by decide +kernel
theorem dX6_examine_4 : decode cX6_examine 4 = .ok (.iload_n 2, 1) := by decide +kernel
theorem dX6_examine_5 : decode cX6_examine 5 = .ok (.aaload, 1) := by decide +kernel
theorem dX6_examine_6 : decode cX6_examine 6 = .ok (.astore 4, 2) := by decide +kernel
theorem dX6_examine_8 : decode cX6_examine 8 = .ok (.iload_n 3, 1) := by decide +kernel
theorem dX6_examine_9 : decode cX6_examine 9 = .ok (.aload 4, 2) := by decide +kernel
theorem dX6_examine_11 : decode cX6_examine 11 = .ok (.getfield 91, 3) := by decide +kernel
theorem dX6_examine_14 : decode cX6_examine 14 = .ok (.isub, 1) := by decide +kernel
theorem dX6_examine_15 : decode cX6_examine 15 = .ok (.istore 5, 2) := by decide +kernel
theorem dX6_examine_17 : decode cX6_examine 17 = .ok (.iload_n 3, 1) := by decide +kernel
theorem dX6_examine_18 : decode cX6_examine 18 = .ok (.ldc 107, 2) := by decide +kernel
theorem dX6_examine_20 : decode cX6_examine 20 = .ok (.if_icmp .le 6, 3) := by decide +kernel
theorem dX6_examine_23 : decode cX6_examine 23 = .ok (.bipush (-3), 2) := by decide +kernel
theorem dX6_examine_25 : decode cX6_examine 25 = .ok (.ireturn, 1) := by decide +kernel
theorem dX6_examine_26 : decode cX6_examine 26 = .ok (.aload 4, 2) := by decide +kernel
theorem dX6_examine_28 : decode cX6_examine 28 = .ok (.getfield 162, 3) := by decide +kernel
theorem dX6_examine_31 : decode cX6_examine 31 = .ok (.ifCond .eq 6, 3) := by decide +kernel
theorem dX6_examine_34 : decode cX6_examine 34 = .ok (.bipush (-6), 2) := by decide +kernel
theorem dX6_examine_36 : decode cX6_examine 36 = .ok (.ireturn, 1) := by decide +kernel
theorem dX6_examine_37 : decode cX6_examine 37 = .ok (.iload 5, 2) := by decide +kernel
theorem dX6_examine_39 : decode cX6_examine 39 = .ok (.aload_n 0, 1) := by decide +kernel
theorem dX6_examine_40 : decode cX6_examine 40 = .ok (.getfield 73, 3) := by decide +kernel
theorem dX6_examine_43 : decode cX6_examine 43 = .ok (.if_icmp .ge 6, 3) := by decide +kernel
theorem dX6_examine_46 : decode cX6_examine 46 = .ok (.bipush (-5), 2) := by decide +kernel
theorem dX6_examine_48 : decode cX6_examine 48 = .ok (.ireturn, 1) := by decide +kernel
theorem dX6_examine_49 : decode cX6_examine 49 = .ok (.aload_n 1, 1) := by decide +kernel
theorem dX6_examine_50 : decode cX6_examine 50 = .ok (.invokevirtual 166, 3) := by decide +kernel
theorem dX6_examine_53 : decode cX6_examine 53 = .ok (.ifCond .eq 6, 3) := by decide +kernel
theorem dX6_examine_56 : decode cX6_examine 56 = .ok (.bipush (-4), 2) := by decide +kernel
theorem dX6_examine_58 : decode cX6_examine 58 = .ok (.ireturn, 1) := by decide +kernel
theorem dX6_examine_59 : decode cX6_examine 59 = .ok (.aload_n 1, 1) := by decide +kernel
theorem dX6_examine_60 : decode cX6_examine 60 = .ok (.iload 5, 2) := by decide +kernel
theorem dX6_examine_62 : decode cX6_examine 62 = .ok (.sipush 150, 3) := by decide +kernel
theorem dX6_examine_65 : decode cX6_examine 65 = .ok (.isub, 1) := by decide +kernel
theorem dX6_examine_66 : decode cX6_examine 66 = .ok (.invokevirtual 323, 3) := by decide +kernel
theorem dX6_examine_69 : decode cX6_examine 69 = .ok (.istore 6, 2) := by decide +kernel
theorem dX6_examine_71 : decode cX6_examine 71 = .ok (.iload 5, 2) := by decide +kernel
theorem dX6_examine_73 : decode cX6_examine 73 = .ok (.aload 4, 2) := by decide +kernel
theorem dX6_examine_75 : decode cX6_examine 75 = .ok (.getfield 310, 3) := by decide +kernel
theorem dX6_examine_78 : decode cX6_examine 78 = .ok (.if_icmp .lt 21, 3) := by decide +kernel
theorem dX6_examine_81 : decode cX6_examine 81 = .ok (.aload_n 1, 1) := by decide +kernel
theorem dX6_examine_82 : decode cX6_examine 82 = .ok (.iload 6, 2) := by decide +kernel
theorem dX6_examine_84 : decode cX6_examine 84 = .ok (.iload_n 2, 1) := by decide +kernel
theorem dX6_examine_85 : decode cX6_examine 85 = .ok (.iload 5, 2) := by decide +kernel
theorem dX6_examine_87 : decode cX6_examine 87 = .ok (.iload_n 3, 1) := by decide +kernel
theorem dX6_examine_88 : decode cX6_examine 88 = .ok (.aload 4, 2) := by decide +kernel
theorem dX6_examine_90 : decode cX6_examine 90 = .ok (.getfield 94, 3) := by decide +kernel
theorem dX6_examine_93 : decode cX6_examine 93 = .ok (.invokevirtual 326, 3) := by decide +kernel
theorem dX6_examine_96 : decode cX6_examine 96 = .ok (.ifCond .eq 6, 3) := by decide +kernel
theorem dX6_examine_99 : decode cX6_examine 99 = .ok (.bipush (-7), 2) := by decide +kernel
theorem dX6_examine_101 : decode cX6_examine 101 = .ok (.ireturn, 1) := by decide +kernel
theorem dX6_examine_102 : decode cX6_examine 102 = .ok (.aload_n 1, 1) := by decide +kernel
theorem dX6_examine_103 : decode cX6_examine 103 = .ok (.iload 6, 2) := by decide +kernel
theorem dX6_examine_105 : decode cX6_examine 105 = .ok (.iload 5, 2) := by decide +kernel
theorem dX6_examine_107 : decode cX6_examine 107 = .ok (.iload_n 3, 1) := by decide +kernel
theorem dX6_examine_108 : decode cX6_examine 108 = .ok (.aload_n 0, 1) := by decide +kernel
theorem dX6_examine_109 : decode cX6_examine 109 = .ok (.getfield 76, 3) := by decide +kernel
theorem dX6_examine_112 : decode cX6_examine 112 = .ok (.invokevirtual 330, 3) := by decide +kernel
theorem dX6_examine_115 : decode cX6_examine 115 = .ok (.ifCond .eq 8, 3) := by decide +kernel
theorem dX6_examine_118 : decode cX6_examine 118 = .ok (.bipush (-8), 2) := by decide +kernel
theorem dX6_examine_120 : decode cX6_examine 120 = .ok (.goto 4, 3) := by decide +kernel
theorem dX6_examine_123 : decode cX6_examine 123 = .ok (.iconst 0, 1) := by decide +kernel
theorem dX6_examine_124 : decode cX6_examine 124 = .ok (.ireturn, 1) := by decide +kernel
theorem dX6_draftPattern_0 : decode cX6_draftPattern 0 = .ok (.aload_n 0, 1) := by decide +kernel
theorem dX6_draftPattern_1 : decode cX6_draftPattern 1 = .ok (.getfield 34, 3) := by decide +kernel
theorem dX6_draftPattern_4 : decode cX6_draftPattern 4 = .ok (.aload_n 0, 1) := by decide +kernel
theorem dX6_draftPattern_5 : decode cX6_draftPattern 5 = .ok (.getfield 30, 3) := by decide +kernel
theorem dX6_draftPattern_8 : decode cX6_draftPattern 8 = .ok (.invokevirtual 218, 3) := by decide +kernel
theorem dX6_draftPattern_11 : decode cX6_draftPattern 11 = .ok (.aload_n 0, 1) := by decide +kernel
theorem dX6_draftPattern_12 : decode cX6_draftPattern 12 = .ok (.invokevirtual 208, 3) := by decide +kernel
theorem dX6_draftPattern_15 : decode cX6_draftPattern 15 = .ok (.istore 4, 2) := by decide +kernel
theorem dX6_draftPattern_17 : decode cX6_draftPattern 17 = .ok (.iconst 0, 1) := by decide +kernel
theorem dX6_draftPattern_18 : decode cX6_draftPattern 18 = .ok (.istore 5, 2) := by decide +kernel
theorem dX6_draftPattern_20 : decode cX6_draftPattern 20 = .ok (.iconst 0, 1) := by decide +kernel
theorem dX6_draftPattern_21 : decode cX6_draftPattern 21 = .ok (.istore 6, 2) := by decide +kernel
theorem dX6_draftPattern_23 : decode cX6_draftPattern 23 = .ok (.iload 6, 2) := by decide +kernel
theorem dX6_draftPattern_25 : decode cX6_draftPattern 25 = .ok (.aload_n 1, 1) := by decide +kernel
theorem dX6_draftPattern_26 : decode cX6_draftPattern 26 = .ok (.getfield 201, 3) := by decide +kernel
theorem dX6_draftPattern_29 : decode cX6_draftPattern 29 = .ok (.if_icmp .ge 111, 3) := by decide +kernel
theorem dX6_draftPattern_32 : decode cX6_draftPattern 32 = .ok (.aload_n 1, 1) := by decide +kernel
theorem dX6_draftPattern_33 : decode cX6_draftPattern 33 = .ok (.getfield 193, 3) := by decide +kernel
theorem dX6_draftPattern_36 : decode cX6_draftPattern 36 = .ok (.iload 6, 2) := by decide +kernel
theorem dX6_draftPattern_38 : decode cX6_draftPattern 38 = .ok (.iaload, 1) := by decide +kernel
theorem dX6_draftPattern_39 : decode cX6_draftPattern 39 = .ok (.iload 4, 2) := by decide +kernel
theorem dX6_draftPattern_41 : decode cX6_draftPattern 41 = .ok (.iand, 1) := by decide +kernel
theorem dX6_draftPattern_42 : decode cX6_draftPattern 42 = .ok (.istore 7, 2) := by decide +kernel
theorem dX6_draftPattern_44 : decode cX6_draftPattern 44 = .ok (.iload_n 2, 1) := by decide +kernel
theorem dX6_draftPattern_45 : decode cX6_draftPattern 45 = .ok (.iload 6, 2) := by decide +kernel
theorem dX6_draftPattern_47 : decode cX6_draftPattern 47 = .ok (.iload_n 3, 1) := by decide +kernel
theorem dX6_draftPattern_48 : decode cX6_draftPattern 48 = .ok (.imul, 1) := by decide +kernel
theorem dX6_draftPattern_49 : decode cX6_draftPattern 49 = .ok (.iadd, 1) := by decide +kernel
theorem dX6_draftPattern_50 : decode cX6_draftPattern 50 = .ok (.istore 8, 2) := by decide +kernel
theorem dX6_draftPattern_52 : decode cX6_draftPattern 52 = .ok (.iconst 0, 1) := by decide +kernel
theorem dX6_draftPattern_53 : decode cX6_draftPattern 53 = .ok (.istore 9, 2) := by decide +kernel
theorem dX6_draftPattern_55 : decode cX6_draftPattern 55 = .ok (.iload 9, 2) := by decide +kernel
theorem dX6_draftPattern_57 : decode cX6_draftPattern 57 = .ok (.aload_n 0, 1) := by decide +kernel
theorem dX6_draftPattern_58 : decode cX6_draftPattern 58 = .ok (.getfield 66, 3) := by decide +kernel
theorem dX6_draftPattern_61 : decode cX6_draftPattern 61 = .ok (.if_icmp .ge 73, 3) := by decide +kernel
theorem dX6_draftPattern_64 : decode cX6_draftPattern 64 = .ok (.iload 7, 2) := by decide +kernel
theorem dX6_draftPattern_66 : decode cX6_draftPattern 66 = .ok (.ifCond .eq 68, 3) := by decide +kernel
theorem dX6_draftPattern_69 : decode cX6_draftPattern 69 = .ok (.iload 7, 2) := by decide +kernel
theorem dX6_draftPattern_71 : decode cX6_draftPattern 71 = .ok (.iload 9, 2) := by decide +kernel
theorem dX6_draftPattern_73 : decode cX6_draftPattern 73 = .ok (.ishr, 1) := by decide +kernel
theorem dX6_draftPattern_74 : decode cX6_draftPattern 74 = .ok (.iconst 1, 1) := by decide +kernel
theorem dX6_draftPattern_75 : decode cX6_draftPattern 75 = .ok (.iand, 1) := by decide +kernel
theorem dX6_draftPattern_76 : decode cX6_draftPattern 76 = .ok (.ifCond .eq 52, 3) := by decide +kernel
theorem dX6_draftPattern_79 : decode cX6_draftPattern 79 = .ok (.aload_n 0, 1) := by decide +kernel
theorem dX6_draftPattern_80 : decode cX6_draftPattern 80 = .ok (.aload_n 0, 1) := by decide +kernel
theorem dX6_draftPattern_81 : decode cX6_draftPattern 81 = .ok (.getfield 34, 3) := by decide +kernel
theorem dX6_draftPattern_84 : decode cX6_draftPattern 84 = .ok (.iload 9, 2) := by decide +kernel
theorem dX6_draftPattern_86 : decode cX6_draftPattern 86 = .ok (.iload 8, 2) := by decide +kernel
theorem dX6_draftPattern_88 : decode cX6_draftPattern 88 = .ok (.invokevirtual 133, 3) := by decide +kernel
theorem dX6_draftPattern_91 : decode cX6_draftPattern 91 = .ok (.istore 10, 2) := by decide +kernel
theorem dX6_draftPattern_93 : decode cX6_draftPattern 93 = .ok (.iload 10, 2) := by decide +kernel
theorem dX6_draftPattern_95 : decode cX6_draftPattern 95 = .ok (.ifCond .eq 6, 3) := by decide +kernel
theorem dX6_draftPattern_98 : decode cX6_draftPattern 98 = .ok (.iload 10, 2) := by decide +kernel
theorem dX6_draftPattern_100 : decode cX6_draftPattern 100 = .ok (.ireturn, 1) := by decide +kernel
theorem dX6_draftPattern_101 : decode cX6_draftPattern 101 = .ok (.aload_n 0, 1) := by decide +kernel
theorem dX6_draftPattern_102 : decode cX6_draftPattern 102 = .ok (.getfield 34, 3) := by decide +kernel
theorem dX6_draftPattern_105 : decode cX6_draftPattern 105 = .ok (.iload 9, 2) := by decide +kernel
theorem dX6_draftPattern_107 : decode cX6_draftPattern 107 = .ok (.iload 8, 2) := by decide +kernel
theorem dX6_draftPattern_109 : decode cX6_draftPattern 109 = .ok (.aload_n 0, 1) := by decide +kernel
theorem dX6_draftPattern_110 : decode cX6_draftPattern 110 = .ok (.getfield 11, 3) := by decide +kernel
theorem dX6_draftPattern_113 : decode cX6_draftPattern 113 = .ok (.iload 9, 2) := by decide +kernel
theorem dX6_draftPattern_115 : decode cX6_draftPattern 115 = .ok (.aaload, 1) := by decide +kernel
theorem dX6_draftPattern_116 : decode cX6_draftPattern 116 = .ok (.getfield 91, 3) := by decide +kernel
theorem dX6_draftPattern_119 : decode cX6_draftPattern 119 = .ok (.isub, 1) := by decide +kernel
theorem dX6_draftPattern_120 : decode cX6_draftPattern 120 = .ok (.iload 8, 2) := by decide +kernel
theorem dX6_draftPattern_122 : decode cX6_draftPattern 122 = .ok (.invokevirtual 137, 3) := by decide +kernel
theorem dX6_draftPattern_125 : decode cX6_draftPattern 125 = .ok (.iinc 5 1, 3) := by decide +kernel
theorem dX6_draftPattern_128 : decode cX6_draftPattern 128 = .ok (.iinc 9 1, 3) := by decide +kernel
theorem dX6_draftPattern_131 : decode cX6_draftPattern 131 = .ok (.goto (-76), 3) := by decide +kernel
theorem dX6_draftPattern_134 : decode cX6_draftPattern 134 = .ok (.iinc 6 1, 3) := by decide +kernel
theorem dX6_draftPattern_137 : decode cX6_draftPattern 137 = .ok (.goto (-114), 3) := by decide +kernel
theorem dX6_draftPattern_140 : decode cX6_draftPattern 140 = .ok (.iload 5, 2) := by decide +kernel
theorem dX6_draftPattern_142 : decode cX6_draftPattern 142 = .ok (.ireturn, 1) := by decide +kernel
theorem dX6_weaveFrom_0 : decode cX6_weaveFrom 0 = .ok (.iload_n 2, 1) := by decide +kernel
theorem dX6_weaveFrom_1 : decode cX6_weaveFrom 1 = .ok (.aload_n 0, 1) := by decide +kernel
theorem dX6_weaveFrom_2 : decode cX6_weaveFrom 2 = .ok (.aload_n 1, 1) := by decide +kernel
theorem dX6_weaveFrom_3 : decode cX6_weaveFrom 3 = .ok (.iload_n 3, 1) := by decide +kernel
theorem dX6_weaveFrom_4 : decode cX6_weaveFrom 4 = .ok (.invokevirtual 334, 3) := by decide +kernel
theorem dX6_weaveFrom_7 : decode cX6_weaveFrom 7 = .ok (.invokestatic 236, 3) := by decide +kernel
theorem dX6_weaveFrom_10 : decode cX6_weaveFrom 10 = .ok (.istore 5, 2) := by decide +kernel
theorem dX6_weaveFrom_12 : decode cX6_weaveFrom 12 = .ok (.aload_n 1, 1) := by decide +kernel
theorem dX6_weaveFrom_13 : decode cX6_weaveFrom 13 = .ok (.aload_n 0, 1) := by decide +kernel
theorem dX6_weaveFrom_14 : decode cX6_weaveFrom 14 = .ok (.invokevirtual 208, 3) := by decide +kernel
theorem dX6_weaveFrom_17 : decode cX6_weaveFrom 17 = .ok (.invokevirtual 211, 3) := by decide +kernel
theorem dX6_weaveFrom_20 : decode cX6_weaveFrom 20 = .ok (.istore 6, 2) := by decide +kernel
theorem dX6_weaveFrom_22 : decode cX6_weaveFrom 22 = .ok (.iload 5, 2) := by decide +kernel
theorem dX6_weaveFrom_24 : decode cX6_weaveFrom 24 = .ok (.iload_n 2, 1) := by decide +kernel
theorem dX6_weaveFrom_25 : decode cX6_weaveFrom 25 = .ok (.iload 4, 2) := by decide +kernel
theorem dX6_weaveFrom_27 : decode cX6_weaveFrom 27 = .ok (.iadd, 1) := by decide +kernel
theorem dX6_weaveFrom_28 : decode cX6_weaveFrom 28 = .ok (.if_icmp .gt 36, 3) := by decide +kernel
theorem dX6_weaveFrom_31 : decode cX6_weaveFrom 31 = .ok (.aload_n 0, 1) := by decide +kernel
theorem dX6_weaveFrom_32 : decode cX6_weaveFrom 32 = .ok (.getfield 30, 3) := by decide +kernel
theorem dX6_weaveFrom_35 : decode cX6_weaveFrom 35 = .ok (.getfield 152, 3) := by decide +kernel
theorem dX6_weaveFrom_38 : decode cX6_weaveFrom 38 = .ok (.iload 6, 2) := by decide +kernel
theorem dX6_weaveFrom_40 : decode cX6_weaveFrom 40 = .ok (.iadd, 1) := by decide +kernel
theorem dX6_weaveFrom_41 : decode cX6_weaveFrom 41 = .ok (.sipush 300, 3) := by decide +kernel
theorem dX6_weaveFrom_44 : decode cX6_weaveFrom 44 = .ok (.if_icmp .gt 20, 3) := by decide +kernel
theorem dX6_weaveFrom_47 : decode cX6_weaveFrom 47 = .ok (.aload_n 0, 1) := by decide +kernel
theorem dX6_weaveFrom_48 : decode cX6_weaveFrom 48 = .ok (.aload_n 1, 1) := by decide +kernel
theorem dX6_weaveFrom_49 : decode cX6_weaveFrom 49 = .ok (.invokevirtual 338, 3) := by decide +kernel
theorem dX6_weaveFrom_52 : decode cX6_weaveFrom 52 = .ok (.ifCond .ne 12, 3) := by decide +kernel
theorem dX6_weaveFrom_55 : decode cX6_weaveFrom 55 = .ok (.aload_n 0, 1) := by decide +kernel
theorem dX6_weaveFrom_56 : decode cX6_weaveFrom 56 = .ok (.aload_n 1, 1) := by decide +kernel
theorem dX6_weaveFrom_57 : decode cX6_weaveFrom 57 = .ok (.iload_n 3, 1) := by decide +kernel
theorem dX6_weaveFrom_58 : decode cX6_weaveFrom 58 = .ok (.invokevirtual 226, 3) := by decide +kernel
theorem dX6_weaveFrom_61 : decode cX6_weaveFrom 61 = .ok (.ifCond .ne 5, 3) := by decide +kernel
theorem dX6_weaveFrom_64 : decode cX6_weaveFrom 64 = .ok (.iconst (-1), 1) := by decide +kernel
theorem dX6_weaveFrom_65 : decode cX6_weaveFrom 65 = .ok (.ireturn, 1) := by decide +kernel
theorem dX6_weaveFrom_66 : decode cX6_weaveFrom 66 = .ok (.iload 5, 2) := by decide +kernel
theorem dX6_weaveFrom_68 : decode cX6_weaveFrom 68 = .ok (.istore 7, 2) := by decide +kernel
theorem dX6_weaveFrom_70 : decode cX6_weaveFrom 70 = .ok (.iload 7, 2) := by decide +kernel
theorem dX6_weaveFrom_72 : decode cX6_weaveFrom 72 = .ok (.iload_n 2, 1) := by decide +kernel
theorem dX6_weaveFrom_73 : decode cX6_weaveFrom 73 = .ok (.iload 4, 2) := by decide +kernel
theorem dX6_weaveFrom_75 : decode cX6_weaveFrom 75 = .ok (.iadd, 1) := by decide +kernel
theorem dX6_weaveFrom_76 : decode cX6_weaveFrom 76 = .ok (.if_icmp .gt 36, 3) := by decide +kernel
theorem dX6_weaveFrom_79 : decode cX6_weaveFrom 79 = .ok (.aload_n 0, 1) := by decide +kernel
theorem dX6_weaveFrom_80 : decode cX6_weaveFrom 80 = .ok (.aload_n 1, 1) := by decide +kernel
theorem dX6_weaveFrom_81 : decode cX6_weaveFrom 81 = .ok (.iload 7, 2) := by decide +kernel
theorem dX6_weaveFrom_83 : decode cX6_weaveFrom 83 = .ok (.iload_n 3, 1) := by decide +kernel
theorem dX6_weaveFrom_84 : decode cX6_weaveFrom 84 = .ok (.invokevirtual 214, 3) := by decide +kernel
theorem dX6_weaveFrom_87 : decode cX6_weaveFrom 87 = .ok (.ifCond .lt 19, 3) := by decide +kernel
theorem dX6_weaveFrom_90 : decode cX6_weaveFrom 90 = .ok (.aload_n 0, 1) := by decide +kernel
theorem dX6_weaveFrom_91 : decode cX6_weaveFrom 91 = .ok (.getfield 30, 3) := by decide +kernel
theorem dX6_weaveFrom_94 : decode cX6_weaveFrom 94 = .ok (.aload_n 0, 1) := by decide +kernel
theorem dX6_weaveFrom_95 : decode cX6_weaveFrom 95 = .ok (.getfield 34, 3) := by decide +kernel
theorem dX6_weaveFrom_98 : decode cX6_weaveFrom 98 = .ok (.invokevirtual 218, 3) := by decide +kernel
theorem dX6_weaveFrom_101 : decode cX6_weaveFrom 101 = .ok (.iload 7, 2) := by decide +kernel
theorem dX6_weaveFrom_103 : decode cX6_weaveFrom 103 = .ok (.iload_n 2, 1) := by decide +kernel
theorem dX6_weaveFrom_104 : decode cX6_weaveFrom 104 = .ok (.isub, 1) := by decide +kernel
theorem dX6_weaveFrom_105 : decode cX6_weaveFrom 105 = .ok (.ireturn, 1) := by decide +kernel
theorem dX6_weaveFrom_106 : decode cX6_weaveFrom 106 = .ok (.iinc 7 1, 3) := by decide +kernel
theorem dX6_weaveFrom_109 : decode cX6_weaveFrom 109 = .ok (.goto (-39), 3) := by decide +kernel
theorem dX6_weaveFrom_112 : decode cX6_weaveFrom 112 = .ok (.iconst (-1), 1) := by decide +kernel
theorem dX6_weaveFrom_113 : decode cX6_weaveFrom 113 = .ok (.ireturn, 1) := by decide +kernel
theorem dX6_readyTime_0 : decode cX6_readyTime 0 = .ok (.iconst 0, 1) := by decide +kernel
theorem dX6_readyTime_1 : decode cX6_readyTime 1 = .ok (.istore_n 3, 1) := by decide +kernel
theorem dX6_readyTime_2 : decode cX6_readyTime 2 = .ok (.iconst 0, 1) := by decide +kernel
theorem dX6_readyTime_3 : decode cX6_readyTime 3 = .ok (.istore 4, 2) := by decide +kernel
theorem dX6_readyTime_5 : decode cX6_readyTime 5 = .ok (.iload 4, 2) := by decide +kernel
theorem dX6_readyTime_7 : decode cX6_readyTime 7 = .ok (.aload_n 1, 1) := by decide +kernel
theorem dX6_readyTime_8 : decode cX6_readyTime 8 = .ok (.getfield 201, 3) := by decide +kernel
theorem dX6_readyTime_11 : decode cX6_readyTime 11 = .ok (.if_icmp .ge 97, 3) := by decide +kernel
theorem dX6_readyTime_14 : decode cX6_readyTime 14 = .ok (.aload_n 1, 1) := by decide +kernel
theorem dX6_readyTime_15 : decode cX6_readyTime 15 = .ok (.getfield 193, 3) := by decide +kernel
theorem dX6_readyTime_18 : decode cX6_readyTime 18 = .ok (.iload 4, 2) := by decide +kernel
theorem dX6_readyTime_20 : decode cX6_readyTime 20 = .ok (.iaload, 1) := by decide +kernel
theorem dX6_readyTime_21 : decode cX6_readyTime 21 = .ok (.aload_n 0, 1) := by decide +kernel
theorem dX6_readyTime_22 : decode cX6_readyTime 22 = .ok (.invokevirtual 208, 3) := by decide +kernel
theorem dX6_readyTime_25 : decode cX6_readyTime 25 = .ok (.iand, 1) := by decide +kernel
theorem dX6_readyTime_26 : decode cX6_readyTime 26 = .ok (.istore 5, 2) := by decide +kernel
theorem dX6_readyTime_28 : decode cX6_readyTime 28 = .ok (.iconst 0, 1) := by decide +kernel
theorem dX6_readyTime_29 : decode cX6_readyTime 29 = .ok (.istore 6, 2) := by decide +kernel
theorem dX6_readyTime_31 : decode cX6_readyTime 31 = .ok (.iload 6, 2) := by decide +kernel
theorem dX6_readyTime_33 : decode cX6_readyTime 33 = .ok (.aload_n 0, 1) := by decide +kernel
theorem dX6_readyTime_34 : decode cX6_readyTime 34 = .ok (.getfield 66, 3) := by decide +kernel
theorem dX6_readyTime_37 : decode cX6_readyTime 37 = .ok (.if_icmp .ge 65, 3) := by decide +kernel
theorem dX6_readyTime_40 : decode cX6_readyTime 40 = .ok (.iload 5, 2) := by decide +kernel
theorem dX6_readyTime_42 : decode cX6_readyTime 42 = .ok (.ifCond .eq 60, 3) := by decide +kernel
theorem dX6_readyTime_45 : decode cX6_readyTime 45 = .ok (.iload 5, 2) := by decide +kernel
theorem dX6_readyTime_47 : decode cX6_readyTime 47 = .ok (.iload 6, 2) := by decide +kernel
theorem dX6_readyTime_49 : decode cX6_readyTime 49 = .ok (.ishr, 1) := by decide +kernel
theorem dX6_readyTime_50 : decode cX6_readyTime 50 = .ok (.iconst 1, 1) := by decide +kernel
theorem dX6_readyTime_51 : decode cX6_readyTime 51 = .ok (.iand, 1) := by decide +kernel
theorem dX6_readyTime_52 : decode cX6_readyTime 52 = .ok (.ifCond .eq 44, 3) := by decide +kernel
theorem dX6_readyTime_55 : decode cX6_readyTime 55 = .ok (.aload_n 0, 1) := by decide +kernel
theorem dX6_readyTime_56 : decode cX6_readyTime 56 = .ok (.getfield 11, 3) := by decide +kernel
theorem dX6_readyTime_59 : decode cX6_readyTime 59 = .ok (.iload 6, 2) := by decide +kernel
theorem dX6_readyTime_61 : decode cX6_readyTime 61 = .ok (.aaload, 1) := by decide +kernel
theorem dX6_readyTime_62 : decode cX6_readyTime 62 = .ok (.astore 7, 2) := by decide +kernel
theorem dX6_readyTime_64 : decode cX6_readyTime 64 = .ok (.aload_n 0, 1) := by decide +kernel
theorem dX6_readyTime_65 : decode cX6_readyTime 65 = .ok (.getfield 73, 3) := by decide +kernel
theorem dX6_readyTime_68 : decode cX6_readyTime 68 = .ok (.aload 7, 2) := by decide +kernel
theorem dX6_readyTime_70 : decode cX6_readyTime 70 = .ok (.getfield 310, 3) := by decide +kernel
theorem dX6_readyTime_73 : decode cX6_readyTime 73 = .ok (.invokestatic 236, 3) := by decide +kernel
theorem dX6_readyTime_76 : decode cX6_readyTime 76 = .ok (.aload 7, 2) := by decide +kernel
theorem dX6_readyTime_78 : decode cX6_readyTime 78 = .ok (.getfield 91, 3) := by decide +kernel
theorem dX6_readyTime_81 : decode cX6_readyTime 81 = .ok (.iadd, 1) := by decide +kernel
theorem dX6_readyTime_82 : decode cX6_readyTime 82 = .ok (.istore 8, 2) := by decide +kernel
theorem dX6_readyTime_84 : decode cX6_readyTime 84 = .ok (.iload_n 3, 1) := by decide +kernel
theorem dX6_readyTime_85 : decode cX6_readyTime 85 = .ok (.iload 8, 2) := by decide +kernel
theorem dX6_readyTime_87 : decode cX6_readyTime 87 = .ok (.iload 4, 2) := by decide +kernel
theorem dX6_readyTime_89 : decode cX6_readyTime 89 = .ok (.iload_n 2, 1) := by decide +kernel
theorem dX6_readyTime_90 : decode cX6_readyTime 90 = .ok (.imul, 1) := by decide +kernel
theorem dX6_readyTime_91 : decode cX6_readyTime 91 = .ok (.isub, 1) := by decide +kernel
theorem dX6_readyTime_92 : decode cX6_readyTime 92 = .ok (.invokestatic 236, 3) := by decide +kernel
theorem dX6_readyTime_95 : decode cX6_readyTime 95 = .ok (.istore_n 3, 1) := by decide +kernel
theorem dX6_readyTime_96 : decode cX6_readyTime 96 = .ok (.iinc 6 1, 3) := by decide +kernel
theorem dX6_readyTime_99 : decode cX6_readyTime 99 = .ok (.goto (-68), 3) := by decide +kernel
theorem dX6_readyTime_102 : decode cX6_readyTime 102 = .ok (.iinc 4 1, 3) := by decide +kernel
theorem dX6_readyTime_105 : decode cX6_readyTime 105 = .ok (.goto (-100), 3) := by decide +kernel
theorem dX6_readyTime_108 : decode cX6_readyTime 108 = .ok (.iload_n 3, 1) := by decide +kernel
theorem dX6_readyTime_109 : decode cX6_readyTime 109 = .ok (.ireturn, 1) := by decide +kernel
theorem dX6_swingsIn_0 : decode cX6_swingsIn 0 = .ok (.iconst 0, 1) := by decide +kernel
theorem dX6_swingsIn_1 : decode cX6_swingsIn 1 = .ok (.istore_n 2, 1) := by decide +kernel
theorem dX6_swingsIn_2 : decode cX6_swingsIn 2 = .ok (.iload_n 2, 1) := by decide +kernel
theorem dX6_swingsIn_3 : decode cX6_swingsIn 3 = .ok (.aload_n 0, 1) := by decide +kernel
theorem dX6_swingsIn_4 : decode cX6_swingsIn 4 = .ok (.getfield 66, 3) := by decide +kernel
theorem dX6_swingsIn_7 : decode cX6_swingsIn 7 = .ok (.if_icmp .ge 33, 3) := by decide +kernel
theorem dX6_swingsIn_10 : decode cX6_swingsIn 10 = .ok (.aload_n 0, 1) := by decide +kernel
theorem dX6_swingsIn_11 : decode cX6_swingsIn 11 = .ok (.getfield 11, 3) := by decide +kernel
theorem dX6_swingsIn_14 : decode cX6_swingsIn 14 = .ok (.iload_n 2, 1) := by decide +kernel
theorem dX6_swingsIn_15 : decode cX6_swingsIn 15 = .ok (.aaload, 1) := by decide +kernel
theorem dX6_swingsIn_16 : decode cX6_swingsIn 16 = .ok (.getfield 162, 3) := by decide +kernel
theorem dX6_swingsIn_19 : decode cX6_swingsIn 19 = .ok (.ifCond .eq 15, 3) := by decide +kernel
theorem dX6_swingsIn_22 : decode cX6_swingsIn 22 = .ok (.aload_n 1, 1) := by decide +kernel
theorem dX6_swingsIn_23 : decode cX6_swingsIn 23 = .ok (.iconst 1, 1) := by decide +kernel
theorem dX6_swingsIn_24 : decode cX6_swingsIn 24 = .ok (.iload_n 2, 1) := by decide +kernel
theorem dX6_swingsIn_25 : decode cX6_swingsIn 25 = .ok (.ishl, 1) := by decide +kernel
theorem dX6_swingsIn_26 : decode cX6_swingsIn 26 = .ok (.invokevirtual 211, 3) := by decide +kernel
theorem dX6_swingsIn_29 : decode cX6_swingsIn 29 = .ok (.ifCond .le 5, 3) := by decide +kernel
theorem dX6_swingsIn_32 : decode cX6_swingsIn 32 = .ok (.iconst 1, 1) := by decide +kernel
theorem dX6_swingsIn_33 : decode cX6_swingsIn 33 = .ok (.ireturn, 1) := by decide +kernel
theorem dX6_swingsIn_34 : decode cX6_swingsIn 34 = .ok (.iinc 2 1, 3) := by decide +kernel
theorem dX6_swingsIn_37 : decode cX6_swingsIn 37 = .ok (.goto (-35), 3) := by decide +kernel
theorem dX6_swingsIn_40 : decode cX6_swingsIn 40 = .ok (.iconst 0, 1) := by decide +kernel
theorem dX6_swingsIn_41 : decode cX6_swingsIn 41 = .ok (.ireturn, 1) := by decide +kernel
theorem dX6_fitsAlone_0 : decode cX6_fitsAlone 0 = .ok (.aload_n 0, 1) := by decide +kernel
theorem dX6_fitsAlone_1 : decode cX6_fitsAlone 1 = .ok (.getfield 34, 3) := by decide +kernel
theorem dX6_fitsAlone_4 : decode cX6_fitsAlone 4 = .ok (.iconst 0, 1) := by decide +kernel
theorem dX6_fitsAlone_5 : decode cX6_fitsAlone 5 = .ok (.putfield 152, 3) := by decide +kernel
theorem dX6_fitsAlone_8 : decode cX6_fitsAlone 8 = .ok (.iconst 0, 1) := by decide +kernel
theorem dX6_fitsAlone_9 : decode cX6_fitsAlone 9 = .ok (.istore_n 3, 1) := by decide +kernel
theorem dX6_fitsAlone_10 : decode cX6_fitsAlone 10 = .ok (.iload_n 3, 1) := by decide +kernel
theorem dX6_fitsAlone_11 : decode cX6_fitsAlone 11 = .ok (.aload_n 1, 1) := by decide +kernel
theorem dX6_fitsAlone_12 : decode cX6_fitsAlone 12 = .ok (.getfield 201, 3) := by decide +kernel
theorem dX6_fitsAlone_15 : decode cX6_fitsAlone 15 = .ok (.if_icmp .ge 162, 3) := by decide +kernel
theorem dX6_fitsAlone_18 : decode cX6_fitsAlone 18 = .ok (.aload_n 1, 1) := by decide +kernel
theorem dX6_fitsAlone_19 : decode cX6_fitsAlone 19 = .ok (.getfield 193, 3) := by decide +kernel
theorem dX6_fitsAlone_22 : decode cX6_fitsAlone 22 = .ok (.iload_n 3, 1) := by decide +kernel
theorem dX6_fitsAlone_23 : decode cX6_fitsAlone 23 = .ok (.iaload, 1) := by decide +kernel
theorem dX6_fitsAlone_24 : decode cX6_fitsAlone 24 = .ok (.aload_n 0, 1) := by decide +kernel
theorem dX6_fitsAlone_25 : decode cX6_fitsAlone 25 = .ok (.invokevirtual 208, 3) := by decide +kernel
theorem dX6_fitsAlone_28 : decode cX6_fitsAlone 28 = .ok (.iand, 1) := by decide +kernel
theorem dX6_fitsAlone_29 : decode cX6_fitsAlone 29 = .ok (.istore 4, 2) := by decide +kernel
theorem dX6_fitsAlone_31 : decode cX6_fitsAlone 31 = .ok (.iload_n 3, 1) := by decide +kernel
theorem dX6_fitsAlone_32 : decode cX6_fitsAlone 32 = .ok (.iload_n 2, 1) := by decide +kernel
theorem dX6_fitsAlone_33 : decode cX6_fitsAlone 33 = .ok (.imul, 1) := by decide +kernel
theorem dX6_fitsAlone_34 : decode cX6_fitsAlone 34 = .ok (.istore 5, 2) := by decide +kernel
theorem dX6_fitsAlone_36 : decode cX6_fitsAlone 36 = .ok (.iconst 0, 1) := by decide +kernel
theorem dX6_fitsAlone_37 : decode cX6_fitsAlone 37 = .ok (.istore 6, 2) := by decide +kernel
theorem dX6_fitsAlone_39 : decode cX6_fitsAlone 39 = .ok (.iload 6, 2) := by decide +kernel
theorem dX6_fitsAlone_41 : decode cX6_fitsAlone 41 = .ok (.aload_n 0, 1) := by decide +kernel
theorem dX6_fitsAlone_42 : decode cX6_fitsAlone 42 = .ok (.getfield 66, 3) := by decide +kernel
theorem dX6_fitsAlone_45 : decode cX6_fitsAlone 45 = .ok (.if_icmp .ge 126, 3) := by decide +kernel
theorem dX6_fitsAlone_48 : decode cX6_fitsAlone 48 = .ok (.iload 4, 2) := by decide +kernel
theorem dX6_fitsAlone_50 : decode cX6_fitsAlone 50 = .ok (.ifCond .eq 121, 3) := by decide +kernel
theorem dX6_fitsAlone_53 : decode cX6_fitsAlone 53 = .ok (.iload 4, 2) := by decide +kernel
theorem dX6_fitsAlone_55 : decode cX6_fitsAlone 55 = .ok (.iload 6, 2) := by decide +kernel
theorem dX6_fitsAlone_57 : decode cX6_fitsAlone 57 = .ok (.ishr, 1) := by decide +kernel
theorem dX6_fitsAlone_58 : decode cX6_fitsAlone 58 = .ok (.iconst 1, 1) := by decide +kernel
theorem dX6_fitsAlone_59 : decode cX6_fitsAlone 59 = .ok (.iand, 1) := by decide +kernel
theorem dX6_fitsAlone_60 : decode cX6_fitsAlone 60 = .ok (.ifCond .eq 105, 3) := by decide +kernel
theorem dX6_fitsAlone_63 : decode cX6_fitsAlone 63 = .ok (.aload_n 0, 1) := by decide +kernel
theorem dX6_fitsAlone_64 : decode cX6_fitsAlone 64 = .ok (.getfield 11, 3) := by decide +kernel
theorem dX6_fitsAlone_67 : decode cX6_fitsAlone 67 = .ok (.iload 6, 2) := by decide +kernel
theorem dX6_fitsAlone_69 : decode cX6_fitsAlone 69 = .ok (.aaload, 1) := by decide +kernel
theorem dX6_fitsAlone_70 : decode cX6_fitsAlone 70 = .ok (.astore 7, 2) := by decide +kernel
theorem dX6_fitsAlone_72 : decode cX6_fitsAlone 72 = .ok (.iload 5, 2) := by decide +kernel
theorem dX6_fitsAlone_74 : decode cX6_fitsAlone 74 = .ok (.aload 7, 2) := by decide +kernel
theorem dX6_fitsAlone_76 : decode cX6_fitsAlone 76 = .ok (.getfield 91, 3) := by decide +kernel
theorem dX6_fitsAlone_79 : decode cX6_fitsAlone 79 = .ok (.isub, 1) := by decide +kernel
theorem dX6_fitsAlone_80 : decode cX6_fitsAlone 80 = .ok (.istore 8, 2) := by decide +kernel
theorem dX6_fitsAlone_82 : decode cX6_fitsAlone 82 = .ok (.aload_n 0, 1) := by decide +kernel
theorem dX6_fitsAlone_83 : decode cX6_fitsAlone 83 = .ok (.getfield 34, 3) := by decide +kernel
theorem dX6_fitsAlone_86 : decode cX6_fitsAlone 86 = .ok (.iload 8, 2) := by decide +kernel
theorem dX6_fitsAlone_88 : decode cX6_fitsAlone 88 = .ok (.sipush 150, 3) := by decide +kernel
theorem dX6_fitsAlone_91 : decode cX6_fitsAlone 91 = .ok (.isub, 1) := by decide +kernel
theorem dX6_fitsAlone_92 : decode cX6_fitsAlone 92 = .ok (.invokevirtual 323, 3) := by decide +kernel
theorem dX6_fitsAlone_95 : decode cX6_fitsAlone 95 = .ok (.istore 9, 2) := by decide +kernel
theorem dX6_fitsAlone_97 : decode cX6_fitsAlone 97 = .ok (.aload_n 0, 1) := by decide +kernel
theorem dX6_fitsAlone_98 : decode cX6_fitsAlone 98 = .ok (.getfield 34, 3) := by decide +kernel
theorem dX6_fitsAlone_101 : decode cX6_fitsAlone 101 = .ok (.invokevirtual 166, 3) := by decide +kernel
theorem dX6_fitsAlone_104 : decode cX6_fitsAlone 104 = .ok (.ifCond .ne 46, 3) := by decide +kernel
theorem dX6_fitsAlone_107 : decode cX6_fitsAlone 107 = .ok (.aload_n 0, 1) := by decide +kernel
theorem dX6_fitsAlone_108 : decode cX6_fitsAlone 108 = .ok (.getfield 34, 3) := by decide +kernel
theorem dX6_fitsAlone_111 : decode cX6_fitsAlone 111 = .ok (.iload 9, 2) := by decide +kernel
theorem dX6_fitsAlone_113 : decode cX6_fitsAlone 113 = .ok (.iload 6, 2) := by decide +kernel
theorem dX6_fitsAlone_115 : decode cX6_fitsAlone 115 = .ok (.iload 8, 2) := by decide +kernel
theorem dX6_fitsAlone_117 : decode cX6_fitsAlone 117 = .ok (.iload 5, 2) := by decide +kernel
theorem dX6_fitsAlone_119 : decode cX6_fitsAlone 119 = .ok (.aload 7, 2) := by decide +kernel
theorem dX6_fitsAlone_121 : decode cX6_fitsAlone 121 = .ok (.getfield 94, 3) := by decide +kernel
theorem dX6_fitsAlone_124 : decode cX6_fitsAlone 124 = .ok (.invokevirtual 326, 3) := by decide +kernel
theorem dX6_fitsAlone_127 : decode cX6_fitsAlone 127 = .ok (.ifCond .ne 23, 3) := by decide +kernel
theorem dX6_fitsAlone_130 : decode cX6_fitsAlone 130 = .ok (.aload_n 0, 1) := by decide +kernel
theorem dX6_fitsAlone_131 : decode cX6_fitsAlone 131 = .ok (.getfield 34, 3) := by decide +kernel
theorem dX6_fitsAlone_134 : decode cX6_fitsAlone 134 = .ok (.iload 9, 2) := by decide +kernel
theorem dX6_fitsAlone_136 : decode cX6_fitsAlone 136 = .ok (.iload 8, 2) := by decide +kernel
theorem dX6_fitsAlone_138 : decode cX6_fitsAlone 138 = .ok (.iload 5, 2) := by decide +kernel
theorem dX6_fitsAlone_140 : decode cX6_fitsAlone 140 = .ok (.aload_n 0, 1) := by decide +kernel
theorem dX6_fitsAlone_141 : decode cX6_fitsAlone 141 = .ok (.getfield 76, 3) := by decide +kernel
theorem dX6_fitsAlone_144 : decode cX6_fitsAlone 144 = .ok (.invokevirtual 330, 3) := by decide +kernel
theorem dX6_fitsAlone_147 : decode cX6_fitsAlone 147 = .ok (.ifCond .eq 5, 3) := by decide +kernel
theorem dX6_fitsAlone_150 : decode cX6_fitsAlone 150 = .ok (.iconst 0, 1) := by decide +kernel
theorem dX6_fitsAlone_151 : decode cX6_fitsAlone 151 = .ok (.ireturn, 1) := by decide +kernel
theorem dX6_fitsAlone_152 : decode cX6_fitsAlone 152 = .ok (.aload_n 0, 1) := by decide +kernel
theorem dX6_fitsAlone_153 : decode cX6_fitsAlone 153 = .ok (.getfield 34, 3) := by decide +kernel
theorem dX6_fitsAlone_156 : decode cX6_fitsAlone 156 = .ok (.iload 6, 2) := by decide +kernel
theorem dX6_fitsAlone_158 : decode cX6_fitsAlone 158 = .ok (.iload 8, 2) := by decide +kernel
theorem dX6_fitsAlone_160 : decode cX6_fitsAlone 160 = .ok (.iload 5, 2) := by decide +kernel
theorem dX6_fitsAlone_162 : decode cX6_fitsAlone 162 = .ok (.invokevirtual 137, 3) := by decide +kernel
theorem dX6_fitsAlone_165 : decode cX6_fitsAlone 165 = .ok (.iinc 6 1, 3) := by decide +kernel
theorem dX6_fitsAlone_168 : decode cX6_fitsAlone 168 = .ok (.goto (-129), 3) := by decide +kernel
theorem dX6_fitsAlone_171 : decode cX6_fitsAlone 171 = .ok (.iinc 3 1, 3) := by decide +kernel
theorem dX6_fitsAlone_174 : decode cX6_fitsAlone 174 = .ok (.goto (-164), 3) := by decide +kernel
theorem dX6_fitsAlone_177 : decode cX6_fitsAlone 177 = .ok (.iconst 1, 1) := by decide +kernel
theorem dX6_fitsAlone_178 : decode cX6_fitsAlone 178 = .ok (.ireturn, 1) := by decide +kernel
theorem dX6_listMovingBells_0 : decode cX6_listMovingBells 0 = .ok (.iconst 1, 1) := by decide +kernel
theorem dX6_listMovingBells_1 : decode cX6_listMovingBells 1 = .ok (.istore_n 1, 1) := by decide +kernel
theorem dX6_listMovingBells_2 : decode cX6_listMovingBells 2 = .ok (.iload_n 1, 1) := by decide +kernel
theorem dX6_listMovingBells_3 : decode cX6_listMovingBells 3 = .ok (.bipush 50, 2) := by decide +kernel
theorem dX6_listMovingBells_5 : decode cX6_listMovingBells 5 = .ok (.if_icmp .gt 53, 3) := by decide +kernel
theorem dX6_listMovingBells_8 : decode cX6_listMovingBells 8 = .ok (.iconst 0, 1) := by decide +kernel
theorem dX6_listMovingBells_9 : decode cX6_listMovingBells 9 = .ok (.istore_n 2, 1) := by decide +kernel
theorem dX6_listMovingBells_10 : decode cX6_listMovingBells 10 = .ok (.iconst 0, 1) := by decide +kernel
theorem dX6_listMovingBells_11 : decode cX6_listMovingBells 11 = .ok (.istore_n 3, 1) := by decide +kernel
theorem dX6_listMovingBells_12 : decode cX6_listMovingBells 12 = .ok (.iload_n 3, 1) := by decide +kernel
theorem dX6_listMovingBells_13 : decode cX6_listMovingBells 13 = .ok (.aload_n 0, 1) := by decide +kernel
theorem dX6_listMovingBells_14 : decode cX6_listMovingBells 14 = .ok (.getfield 66, 3) := by decide +kernel
theorem dX6_listMovingBells_17 : decode cX6_listMovingBells 17 = .ok (.if_icmp .ge 28, 3) := by decide +kernel
theorem dX6_listMovingBells_20 : decode cX6_listMovingBells 20 = .ok (.aload_n 0, 1) := by decide +kernel
theorem dX6_listMovingBells_21 : decode cX6_listMovingBells 21 = .ok (.getfield 11, 3) := by decide +kernel
theorem dX6_listMovingBells_24 : decode cX6_listMovingBells 24 = .ok (.iload_n 3, 1) := by decide +kernel
theorem dX6_listMovingBells_25 : decode cX6_listMovingBells 25 = .ok (.aaload, 1) := by decide +kernel
theorem dX6_listMovingBells_26 : decode cX6_listMovingBells 26 = .ok (.getfield 91, 3) := by decide +kernel
theorem dX6_listMovingBells_29 : decode cX6_listMovingBells 29 = .ok (.iload_n 1, 1) := by decide +kernel
theorem dX6_listMovingBells_30 : decode cX6_listMovingBells 30 = .ok (.if_icmp .lt 9, 3) := by decide +kernel
theorem dX6_listMovingBells_33 : decode cX6_listMovingBells 33 = .ok (.iload_n 2, 1) := by decide +kernel
theorem dX6_listMovingBells_34 : decode cX6_listMovingBells 34 = .ok (.iconst 1, 1) := by decide +kernel
theorem dX6_listMovingBells_35 : decode cX6_listMovingBells 35 = .ok (.iload_n 3, 1) := by decide +kernel
theorem dX6_listMovingBells_36 : decode cX6_listMovingBells 36 = .ok (.ishl, 1) := by decide +kernel
theorem dX6_listMovingBells_37 : decode cX6_listMovingBells 37 = .ok (.ior, 1) := by decide +kernel
theorem dX6_listMovingBells_38 : decode cX6_listMovingBells 38 = .ok (.istore_n 2, 1) := by decide +kernel
theorem dX6_listMovingBells_39 : decode cX6_listMovingBells 39 = .ok (.iinc 3 1, 3) := by decide +kernel
theorem dX6_listMovingBells_42 : decode cX6_listMovingBells 42 = .ok (.goto (-30), 3) := by decide +kernel
theorem dX6_listMovingBells_45 : decode cX6_listMovingBells 45 = .ok (.aload_n 0, 1) := by decide +kernel
theorem dX6_listMovingBells_46 : decode cX6_listMovingBells 46 = .ok (.getfield 63, 3) := by decide +kernel
theorem dX6_listMovingBells_49 : decode cX6_listMovingBells 49 = .ok (.iload_n 1, 1) := by decide +kernel
theorem dX6_listMovingBells_50 : decode cX6_listMovingBells 50 = .ok (.iload_n 2, 1) := by decide +kernel
theorem dX6_listMovingBells_51 : decode cX6_listMovingBells 51 = .ok (.iastore, 1) := by decide +kernel
theorem dX6_listMovingBells_52 : decode cX6_listMovingBells 52 = .ok (.iinc 1 1, 3) := by decide +kernel
theorem dX6_listMovingBells_55 : decode cX6_listMovingBells 55 = .ok (.goto (-53), 3) := by decide +kernel
theorem dX6_listMovingBells_58 : decode cX6_listMovingBells 58 = .ok (.return_, 1) := by decide +kernel
theorem dX6_movingBefore_0 : decode cX6_movingBefore 0 = .ok (.iconst 0, 1) := by decide +kernel
theorem dX6_movingBefore_1 : decode cX6_movingBefore 1 = .ok (.istore 4, 2) := by decide +kernel
theorem dX6_movingBefore_3 : decode cX6_movingBefore 3 = .ok (.iload_n 3, 1) := by decide +kernel
theorem dX6_movingBefore_4 : decode cX6_movingBefore 4 = .ok (.istore 5, 2) := by decide +kernel
theorem dX6_movingBefore_6 : decode cX6_movingBefore 6 = .ok (.iload 5, 2) := by decide +kernel
theorem dX6_movingBefore_8 : decode cX6_movingBefore 8 = .ok (.aload_n 1, 1) := by decide +kernel
theorem dX6_movingBefore_9 : decode cX6_movingBefore 9 = .ok (.getfield 201, 3) := by decide +kernel
theorem dX6_movingBefore_12 : decode cX6_movingBefore 12 = .ok (.if_icmp .ge 52, 3) := by decide +kernel
theorem dX6_movingBefore_15 : decode cX6_movingBefore 15 = .ok (.iload 5, 2) := by decide +kernel
theorem dX6_movingBefore_17 : decode cX6_movingBefore 17 = .ok (.iload_n 3, 1) := by decide +kernel
theorem dX6_movingBefore_18 : decode cX6_movingBefore 18 = .ok (.isub, 1) := by decide +kernel
theorem dX6_movingBefore_19 : decode cX6_movingBefore 19 = .ok (.iload_n 2, 1) := by decide +kernel
theorem dX6_movingBefore_20 : decode cX6_movingBefore 20 = .ok (.imul, 1) := by decide +kernel
theorem dX6_movingBefore_21 : decode cX6_movingBefore 21 = .ok (.iconst 1, 1) := by decide +kernel
theorem dX6_movingBefore_22 : decode cX6_movingBefore 22 = .ok (.iadd, 1) := by decide +kernel
theorem dX6_movingBefore_23 : decode cX6_movingBefore 23 = .ok (.istore 6, 2) := by decide +kernel
theorem dX6_movingBefore_25 : decode cX6_movingBefore 25 = .ok (.iload 6, 2) := by decide +kernel
theorem dX6_movingBefore_27 : decode cX6_movingBefore 27 = .ok (.bipush 50, 2) := by decide +kernel
theorem dX6_movingBefore_29 : decode cX6_movingBefore 29 = .ok (.if_icmp .le 6, 3) := by decide +kernel
theorem dX6_movingBefore_32 : decode cX6_movingBefore 32 = .ok (.iload 4, 2) := by decide +kernel
theorem dX6_movingBefore_34 : decode cX6_movingBefore 34 = .ok (.ireturn, 1) := by decide +kernel
theorem dX6_movingBefore_35 : decode cX6_movingBefore 35 = .ok (.iload 4, 2) := by decide +kernel
theorem dX6_movingBefore_37 : decode cX6_movingBefore 37 = .ok (.aload_n 1, 1) := by decide +kernel
theorem dX6_movingBefore_38 : decode cX6_movingBefore 38 = .ok (.getfield 193, 3) := by decide +kernel
theorem dX6_movingBefore_41 : decode cX6_movingBefore 41 = .ok (.iload 5, 2) := by decide +kernel
theorem dX6_movingBefore_43 : decode cX6_movingBefore 43 = .ok (.iaload, 1) := by decide +kernel
theorem dX6_movingBefore_44 : decode cX6_movingBefore 44 = .ok (.aload_n 0, 1) := by decide +kernel
theorem dX6_movingBefore_45 : decode cX6_movingBefore 45 = .ok (.getfield 63, 3) := by decide +kernel
theorem dX6_movingBefore_48 : decode cX6_movingBefore 48 = .ok (.iload 6, 2) := by decide +kernel
theorem dX6_movingBefore_50 : decode cX6_movingBefore 50 = .ok (.iaload, 1) := by decide +kernel
theorem dX6_movingBefore_51 : decode cX6_movingBefore 51 = .ok (.iand, 1) := by decide +kernel
theorem dX6_movingBefore_52 : decode cX6_movingBefore 52 = .ok (.invokestatic 342, 3) := by decide +kernel
theorem dX6_movingBefore_55 : decode cX6_movingBefore 55 = .ok (.iadd, 1) := by decide +kernel
theorem dX6_movingBefore_56 : decode cX6_movingBefore 56 = .ok (.istore 4, 2) := by decide +kernel
theorem dX6_movingBefore_58 : decode cX6_movingBefore 58 = .ok (.iinc 5 1, 3) := by decide +kernel
theorem dX6_movingBefore_61 : decode cX6_movingBefore 61 = .ok (.goto (-55), 3) := by decide +kernel
theorem dX6_movingBefore_64 : decode cX6_movingBefore 64 = .ok (.iload 4, 2) := by decide +kernel
theorem dX6_movingBefore_66 : decode cX6_movingBefore 66 = .ok (.ireturn, 1) := by decide +kernel
theorem dX6_foreseeShakes_0 : decode cX6_foreseeShakes 0 = .ok (.aload_n 0, 1) := by decide +kernel
theorem dX6_foreseeShakes_1 : decode cX6_foreseeShakes 1 = .ok (.getfield 56, 3) := by decide +kernel
theorem dX6_foreseeShakes_4 : decode cX6_foreseeShakes 4 = .ok (.invokestatic 299, 3) := by decide +kernel
theorem dX6_foreseeShakes_7 : decode cX6_foreseeShakes 7 = .ok (.iconst 0, 1) := by decide +kernel
theorem dX6_foreseeShakes_8 : decode cX6_foreseeShakes 8 = .ok (.istore_n 2, 1) := by decide +kernel
theorem dX6_foreseeShakes_9 : decode cX6_foreseeShakes 9 = .ok (.iload_n 2, 1) := by decide +kernel
theorem dX6_foreseeShakes_10 : decode cX6_foreseeShakes 10 = .ok (.aload_n 0, 1) := by decide +kernel
theorem dX6_foreseeShakes_11 : decode cX6_foreseeShakes 11 = .ok (.getfield 66, 3) := by decide +kernel
theorem dX6_foreseeShakes_14 : decode cX6_foreseeShakes 14 = .ok (.if_icmp .ge 50, 3) := by decide +kernel
theorem dX6_foreseeShakes_17 : decode cX6_foreseeShakes 17 = .ok (.aload_n 0, 1) := by decide +kernel
theorem dX6_foreseeShakes_18 : decode cX6_foreseeShakes 18 = .ok (.getfield 11, 3) := by decide +kernel
theorem dX6_foreseeShakes_21 : decode cX6_foreseeShakes 21 = .ok (.iload_n 2, 1) := by decide +kernel
theorem dX6_foreseeShakes_22 : decode cX6_foreseeShakes 22 = .ok (.aaload, 1) := by decide +kernel
theorem dX6_foreseeShakes_23 : decode cX6_foreseeShakes 23 = .ok (.getfield 162, 3) := by decide +kernel
theorem dX6_foreseeShakes_26 : decode cX6_foreseeShakes 26 = .ok (.ifCond .eq 32, 3) := by decide +kernel
theorem dX6_foreseeShakes_29 : decode cX6_foreseeShakes 29 = .ok (.aload_n 0, 1) := by decide +kernel
theorem dX6_foreseeShakes_30 : decode cX6_foreseeShakes 30 = .ok (.getfield 16, 3) := by decide +kernel
theorem dX6_foreseeShakes_33 : decode cX6_foreseeShakes 33 = .ok (.aload_n 0, 1) := by decide +kernel
theorem dX6_foreseeShakes_34 : decode cX6_foreseeShakes 34 = .ok (.getfield 11, 3) := by decide +kernel
theorem dX6_foreseeShakes_37 : decode cX6_foreseeShakes 37 = .ok (.iload_n 2, 1) := by decide +kernel
theorem dX6_foreseeShakes_38 : decode cX6_foreseeShakes 38 = .ok (.aaload, 1) := by decide +kernel
theorem dX6_foreseeShakes_39 : decode cX6_foreseeShakes 39 = .ok (.invokevirtual 267, 3) := by decide +kernel
theorem dX6_foreseeShakes_42 : decode cX6_foreseeShakes 42 = .ok (.aload_n 0, 1) := by decide +kernel
theorem dX6_foreseeShakes_43 : decode cX6_foreseeShakes 43 = .ok (.getfield 16, 3) := by decide +kernel
theorem dX6_foreseeShakes_46 : decode cX6_foreseeShakes 46 = .ok (.aload_n 0, 1) := by decide +kernel
theorem dX6_foreseeShakes_47 : decode cX6_foreseeShakes 47 = .ok (.getfield 56, 3) := by decide +kernel
theorem dX6_foreseeShakes_50 : decode cX6_foreseeShakes 50 = .ok (.aload_n 0, 1) := by decide +kernel
theorem dX6_foreseeShakes_51 : decode cX6_foreseeShakes 51 = .ok (.getfield 73, 3) := by decide +kernel
theorem dX6_foreseeShakes_54 : decode cX6_foreseeShakes 54 = .ok (.iload_n 1, 1) := by decide +kernel
theorem dX6_foreseeShakes_55 : decode cX6_foreseeShakes 55 = .ok (.invokevirtual 274, 3) := by decide +kernel
theorem dX6_foreseeShakes_58 : decode cX6_foreseeShakes 58 = .ok (.iinc 2 1, 3) := by decide +kernel
theorem dX6_foreseeShakes_61 : decode cX6_foreseeShakes 61 = .ok (.goto (-52), 3) := by decide +kernel
theorem dX6_foreseeShakes_64 : decode cX6_foreseeShakes 64 = .ok (.return_, 1) := by decide +kernel
theorem dX6_greatestUpTo_0 : decode cX6_greatestUpTo 0 = .ok (.iconst 0, 1) := by decide +kernel
theorem dX6_greatestUpTo_1 : decode cX6_greatestUpTo 1 = .ok (.istore_n 2, 1) := by decide +kernel
theorem dX6_greatestUpTo_2 : decode cX6_greatestUpTo 2 = .ok (.iconst 0, 1) := by decide +kernel
theorem dX6_greatestUpTo_3 : decode cX6_greatestUpTo 3 = .ok (.istore_n 3, 1) := by decide +kernel
theorem dX6_greatestUpTo_4 : decode cX6_greatestUpTo 4 = .ok (.iload_n 3, 1) := by decide +kernel
theorem dX6_greatestUpTo_5 : decode cX6_greatestUpTo 5 = .ok (.iload_n 1, 1) := by decide +kernel
theorem dX6_greatestUpTo_6 : decode cX6_greatestUpTo 6 = .ok (.if_icmp .gt 32, 3) := by decide +kernel
theorem dX6_greatestUpTo_9 : decode cX6_greatestUpTo 9 = .ok (.iload_n 3, 1) := by decide +kernel
theorem dX6_greatestUpTo_10 : decode cX6_greatestUpTo 10 = .ok (.aload_n 0, 1) := by decide +kernel
theorem dX6_greatestUpTo_11 : decode cX6_greatestUpTo 11 = .ok (.getfield 56, 3) := by decide +kernel
theorem dX6_greatestUpTo_14 : decode cX6_greatestUpTo 14 = .ok (.arraylength, 1) := by decide +kernel
theorem dX6_greatestUpTo_15 : decode cX6_greatestUpTo 15 = .ok (.if_icmp .ge 23, 3) := by decide +kernel
theorem dX6_greatestUpTo_18 : decode cX6_greatestUpTo 18 = .ok (.iload_n 2, 1) := by decide +kernel
theorem dX6_greatestUpTo_19 : decode cX6_greatestUpTo 19 = .ok (.aload_n 0, 1) := by decide +kernel
theorem dX6_greatestUpTo_20 : decode cX6_greatestUpTo 20 = .ok (.getfield 56, 3) := by decide +kernel
theorem dX6_greatestUpTo_23 : decode cX6_greatestUpTo 23 = .ok (.iload_n 3, 1) := by decide +kernel
theorem dX6_greatestUpTo_24 : decode cX6_greatestUpTo 24 = .ok (.iaload, 1) := by decide +kernel
theorem dX6_greatestUpTo_25 : decode cX6_greatestUpTo 25 = .ok (.invokestatic 347, 3) := by decide +kernel
theorem dX6_greatestUpTo_28 : decode cX6_greatestUpTo 28 = .ok (.invokestatic 236, 3) := by decide +kernel
theorem dX6_greatestUpTo_31 : decode cX6_greatestUpTo 31 = .ok (.istore_n 2, 1) := by decide +kernel
theorem dX6_greatestUpTo_32 : decode cX6_greatestUpTo 32 = .ok (.iinc 3 1, 3) := by decide +kernel
theorem dX6_greatestUpTo_35 : decode cX6_greatestUpTo 35 = .ok (.goto (-31), 3) := by decide +kernel
theorem dX6_greatestUpTo_38 : decode cX6_greatestUpTo 38 = .ok (.iload_n 2, 1) := by decide +kernel
theorem dX6_greatestUpTo_39 : decode cX6_greatestUpTo 39 = .ok (.ireturn, 1) := by decide +kernel
theorem dX6_greatestIfStartedAfter_0 : decode cX6_greatestIfStartedAfter 0 = .ok (.iconst 0, 1) := by decide +kernel
theorem dX6_greatestIfStartedAfter_1 : decode cX6_greatestIfStartedAfter 1 = .ok (.istore_n 3, 1) := by decide +kernel
theorem dX6_greatestIfStartedAfter_2 : decode cX6_greatestIfStartedAfter 2 = .ok (.aload_n 0, 1) := by decide +kernel
theorem dX6_greatestIfStartedAfter_3 : decode cX6_greatestIfStartedAfter 3 = .ok (.getfield 60, 3) := by decide +kernel
theorem dX6_greatestIfStartedAfter_6 : decode cX6_greatestIfStartedAfter 6 = .ok (.arraylength, 1) := by decide +kernel
theorem dX6_greatestIfStartedAfter_7 : decode cX6_greatestIfStartedAfter 7 = .ok (.aload_n 0, 1) := by decide +kernel
theorem dX6_greatestIfStartedAfter_8 : decode cX6_greatestIfStartedAfter 8 = .ok (.getfield 56, 3) := by decide +kernel
theorem dX6_greatestIfStartedAfter_11 : decode cX6_greatestIfStartedAfter 11 = .ok (.arraylength, 1) := by decide +kernel
theorem dX6_greatestIfStartedAfter_12 : decode cX6_greatestIfStartedAfter 12 = .ok (.iload_n 1, 1) := by decide +kernel
theorem dX6_greatestIfStartedAfter_13 : decode cX6_greatestIfStartedAfter 13 = .ok (.isub, 1) := by decide +kernel
theorem dX6_greatestIfStartedAfter_14 : decode cX6_greatestIfStartedAfter 14 = .ok (.invokestatic 170, 3) := by decide +kernel
theorem dX6_greatestIfStartedAfter_17 : decode cX6_greatestIfStartedAfter 17 = .ok (.istore 4, 2) := by decide +kernel
theorem dX6_greatestIfStartedAfter_19 : decode cX6_greatestIfStartedAfter 19 = .ok (.iconst 0, 1) := by decide +kernel
theorem dX6_greatestIfStartedAfter_20 : decode cX6_greatestIfStartedAfter 20 = .ok (.istore 5, 2) := by decide +kernel
theorem dX6_greatestIfStartedAfter_22 : decode cX6_greatestIfStartedAfter 22 = .ok (.iload 5, 2) := by decide +kernel
theorem dX6_greatestIfStartedAfter_24 : decode cX6_greatestIfStartedAfter 24 = .ok (.iload 4, 2) := by decide +kernel
theorem dX6_greatestIfStartedAfter_26 : decode cX6_greatestIfStartedAfter 26 = .ok (.if_icmp .ge 39, 3) := by decide +kernel
theorem dX6_greatestIfStartedAfter_29 : decode cX6_greatestIfStartedAfter 29 = .ok (.iload_n 3, 1) := by decide +kernel
theorem dX6_greatestIfStartedAfter_30 : decode cX6_greatestIfStartedAfter 30 = .ok (.iload_n 2, 1) := by decide +kernel
theorem dX6_greatestIfStartedAfter_31 : decode cX6_greatestIfStartedAfter 31 = .ok (.if_icmp .ge 34, 3) := by decide +kernel
theorem dX6_greatestIfStartedAfter_34 : decode cX6_greatestIfStartedAfter 34 = .ok (.iload_n 3, 1) := by decide +kernel
theorem dX6_greatestIfStartedAfter_35 : decode cX6_greatestIfStartedAfter 35 = .ok (.aload_n 0, 1) := by decide +kernel
theorem dX6_greatestIfStartedAfter_36 : decode cX6_greatestIfStartedAfter 36 = .ok (.getfield 56, 3) := by decide +kernel
theorem dX6_greatestIfStartedAfter_39 : decode cX6_greatestIfStartedAfter 39 = .ok (.iload_n 1, 1) := by decide +kernel
theorem dX6_greatestIfStartedAfter_40 : decode cX6_greatestIfStartedAfter 40 = .ok (.iload 5, 2) := by decide +kernel
theorem dX6_greatestIfStartedAfter_42 : decode cX6_greatestIfStartedAfter 42 = .ok (.iadd, 1) := by decide +kernel
theorem dX6_greatestIfStartedAfter_43 : decode cX6_greatestIfStartedAfter 43 = .ok (.iaload, 1) := by decide +kernel
theorem dX6_greatestIfStartedAfter_44 : decode cX6_greatestIfStartedAfter 44 = .ok (.aload_n 0, 1) := by decide +kernel
theorem dX6_greatestIfStartedAfter_45 : decode cX6_greatestIfStartedAfter 45 = .ok (.getfield 60, 3) := by decide +kernel
theorem dX6_greatestIfStartedAfter_48 : decode cX6_greatestIfStartedAfter 48 = .ok (.iload 5, 2) := by decide +kernel
theorem dX6_greatestIfStartedAfter_50 : decode cX6_greatestIfStartedAfter 50 = .ok (.iaload, 1) := by decide +kernel
theorem dX6_greatestIfStartedAfter_51 : decode cX6_greatestIfStartedAfter 51 = .ok (.iadd, 1) := by decide +kernel
theorem dX6_greatestIfStartedAfter_52 : decode cX6_greatestIfStartedAfter 52 = .ok (.invokestatic 347, 3) := by decide +kernel
theorem dX6_greatestIfStartedAfter_55 : decode cX6_greatestIfStartedAfter 55 = .ok (.invokestatic 236, 3) := by decide +kernel
theorem dX6_greatestIfStartedAfter_58 : decode cX6_greatestIfStartedAfter 58 = .ok (.istore_n 3, 1) := by decide +kernel
theorem dX6_greatestIfStartedAfter_59 : decode cX6_greatestIfStartedAfter 59 = .ok (.iinc 5 1, 3) := by decide +kernel
theorem dX6_greatestIfStartedAfter_62 : decode cX6_greatestIfStartedAfter 62 = .ok (.goto (-40), 3) := by decide +kernel
theorem dX6_greatestIfStartedAfter_65 : decode cX6_greatestIfStartedAfter 65 = .ok (.iload_n 3, 1) := by decide +kernel
theorem dX6_greatestIfStartedAfter_66 : decode cX6_greatestIfStartedAfter 66 = .ok (.ireturn, 1) := by decide +kernel
theorem dJ6_bitCount_0f7a4_0 : decode cJ6_bitCount_0f7a4 0 = .ok (.iload_n 0, 1) := by decide +kernel
theorem dJ6_bitCount_0f7a4_1 : decode cJ6_bitCount_0f7a4 1 = .ok (.iload_n 0, 1) := by decide +kernel
theorem dJ6_bitCount_0f7a4_2 : decode cJ6_bitCount_0f7a4 2 = .ok (.iconst 1, 1) := by decide +kernel
theorem dJ6_bitCount_0f7a4_3 : decode cJ6_bitCount_0f7a4 3 = .ok (.iushr, 1) := by decide +kernel
theorem dJ6_bitCount_0f7a4_4 : decode cJ6_bitCount_0f7a4 4 = .ok (.ldc_w 265, 3) := by decide +kernel
theorem dJ6_bitCount_0f7a4_7 : decode cJ6_bitCount_0f7a4 7 = .ok (.iand, 1) := by decide +kernel
theorem dJ6_bitCount_0f7a4_8 : decode cJ6_bitCount_0f7a4 8 = .ok (.isub, 1) := by decide +kernel
theorem dJ6_bitCount_0f7a4_9 : decode cJ6_bitCount_0f7a4 9 = .ok (.istore_n 0, 1) := by decide +kernel
theorem dJ6_bitCount_0f7a4_10 : decode cJ6_bitCount_0f7a4 10 = .ok (.iload_n 0, 1) := by decide +kernel
theorem dJ6_bitCount_0f7a4_11 : decode cJ6_bitCount_0f7a4 11 = .ok (.ldc_w 266, 3) := by decide +kernel
theorem dJ6_bitCount_0f7a4_14 : decode cJ6_bitCount_0f7a4 14 = .ok (.iand, 1) := by decide +kernel
theorem dJ6_bitCount_0f7a4_15 : decode cJ6_bitCount_0f7a4 15 = .ok (.iload_n 0, 1) := by decide +kernel
theorem dJ6_bitCount_0f7a4_16 : decode cJ6_bitCount_0f7a4 16 = .ok (.iconst 2, 1) := by decide +kernel
theorem dJ6_bitCount_0f7a4_17 : decode cJ6_bitCount_0f7a4 17 = .ok (.iushr, 1) := by decide +kernel
theorem dJ6_bitCount_0f7a4_18 : decode cJ6_bitCount_0f7a4 18 = .ok (.ldc_w 266, 3) := by decide +kernel
theorem dJ6_bitCount_0f7a4_21 : decode cJ6_bitCount_0f7a4 21 = .ok (.iand, 1) := by decide +kernel
theorem dJ6_bitCount_0f7a4_22 : decode cJ6_bitCount_0f7a4 22 = .ok (.iadd, 1) := by decide +kernel
theorem dJ6_bitCount_0f7a4_23 : decode cJ6_bitCount_0f7a4 23 = .ok (.istore_n 0, 1) := by decide +kernel
theorem dJ6_bitCount_0f7a4_24 : decode cJ6_bitCount_0f7a4 24 = .ok (.iload_n 0, 1) := by decide +kernel
theorem dJ6_bitCount_0f7a4_25 : decode cJ6_bitCount_0f7a4 25 = .ok (.iload_n 0, 1) := by decide +kernel
theorem dJ6_bitCount_0f7a4_26 : decode cJ6_bitCount_0f7a4 26 = .ok (.iconst 4, 1) := by decide +kernel
theorem dJ6_bitCount_0f7a4_27 : decode cJ6_bitCount_0f7a4 27 = .ok (.iushr, 1) := by decide +kernel
theorem dJ6_bitCount_0f7a4_28 : decode cJ6_bitCount_0f7a4 28 = .ok (.iadd, 1) := by decide +kernel
theorem dJ6_bitCount_0f7a4_29 : decode cJ6_bitCount_0f7a4 29 = .ok (.ldc_w 267, 3) := by decide +kernel
theorem dJ6_bitCount_0f7a4_32 : decode cJ6_bitCount_0f7a4 32 = .ok (.iand, 1) := by decide +kernel
theorem dJ6_bitCount_0f7a4_33 : decode cJ6_bitCount_0f7a4 33 = .ok (.istore_n 0, 1) := by decide +kernel
theorem dJ6_bitCount_0f7a4_34 : decode cJ6_bitCount_0f7a4 34 = .ok (.iload_n 0, 1) := by decide +kernel
theorem dJ6_bitCount_0f7a4_35 : decode cJ6_bitCount_0f7a4 35 = .ok (.iload_n 0, 1) := by decide +kernel
theorem dJ6_bitCount_0f7a4_36 : decode cJ6_bitCount_0f7a4 36 = .ok (.bipush 8, 2) := by decide +kernel
theorem dJ6_bitCount_0f7a4_38 : decode cJ6_bitCount_0f7a4 38 = .ok (.iushr, 1) := by decide +kernel
theorem dJ6_bitCount_0f7a4_39 : decode cJ6_bitCount_0f7a4 39 = .ok (.iadd, 1) := by decide +kernel
theorem dJ6_bitCount_0f7a4_40 : decode cJ6_bitCount_0f7a4 40 = .ok (.istore_n 0, 1) := by decide +kernel
theorem dJ6_bitCount_0f7a4_41 : decode cJ6_bitCount_0f7a4 41 = .ok (.iload_n 0, 1) := by decide +kernel
theorem dJ6_bitCount_0f7a4_42 : decode cJ6_bitCount_0f7a4 42 = .ok (.iload_n 0, 1) := by decide +kernel
theorem dJ6_bitCount_0f7a4_43 : decode cJ6_bitCount_0f7a4 43 = .ok (.bipush 16, 2) := by decide +kernel
theorem dJ6_bitCount_0f7a4_45 : decode cJ6_bitCount_0f7a4 45 = .ok (.iushr, 1) := by decide +kernel
theorem dJ6_bitCount_0f7a4_46 : decode cJ6_bitCount_0f7a4 46 = .ok (.iadd, 1) := by decide +kernel
theorem dJ6_bitCount_0f7a4_47 : decode cJ6_bitCount_0f7a4 47 = .ok (.istore_n 0, 1) := by decide +kernel
theorem dJ6_bitCount_0f7a4_48 : decode cJ6_bitCount_0f7a4 48 = .ok (.iload_n 0, 1) := by decide +kernel
theorem dJ6_bitCount_0f7a4_49 : decode cJ6_bitCount_0f7a4 49 = .ok (.bipush 63, 2) := by decide +kernel
theorem dJ6_bitCount_0f7a4_51 : decode cJ6_bitCount_0f7a4 51 = .ok (.iand, 1) := by decide +kernel
theorem dJ6_bitCount_0f7a4_52 : decode cJ6_bitCount_0f7a4 52 = .ok (.ireturn, 1) := by decide +kernel
theorem dJ9_abs_0f7a4_0 : decode cJ9_abs_0f7a4 0 = .ok (.iload_n 0, 1) := by decide +kernel
theorem dJ9_abs_0f7a4_1 : decode cJ9_abs_0f7a4 1 = .ok (.ifCond .ge 8, 3) := by decide +kernel
theorem dJ9_abs_0f7a4_4 : decode cJ9_abs_0f7a4 4 = .ok (.iload_n 0, 1) := by decide +kernel
theorem dJ9_abs_0f7a4_5 : decode cJ9_abs_0f7a4 5 = .ok (.ineg, 1) := by decide +kernel
theorem dJ9_abs_0f7a4_6 : decode cJ9_abs_0f7a4 6 = .ok (.goto 4, 3) := by decide +kernel
theorem dJ9_abs_0f7a4_9 : decode cJ9_abs_0f7a4 9 = .ok (.iload_n 0, 1) := by decide +kernel
theorem dJ9_abs_0f7a4_10 : decode cJ9_abs_0f7a4 10 = .ok (.ireturn, 1) := by decide +kernel
theorem dJ9_max_7cf53_0 : decode cJ9_max_7cf53 0 = .ok (.iload_n 0, 1) := by decide +kernel
theorem dJ9_max_7cf53_1 : decode cJ9_max_7cf53 1 = .ok (.iload_n 1, 1) := by decide +kernel
theorem dJ9_max_7cf53_2 : decode cJ9_max_7cf53 2 = .ok (.if_icmp .lt 7, 3) := by decide +kernel
theorem dJ9_max_7cf53_5 : decode cJ9_max_7cf53 5 = .ok (.iload_n 0, 1) := by decide +kernel
theorem dJ9_max_7cf53_6 : decode cJ9_max_7cf53 6 = .ok (.goto 4, 3) := by decide +kernel
theorem dJ9_max_7cf53_9 : decode cJ9_max_7cf53 9 = .ok (.iload_n 1, 1) := by decide +kernel
theorem dJ9_max_7cf53_10 : decode cJ9_max_7cf53 10 = .ok (.ireturn, 1) := by decide +kernel
theorem dJ9_min_7cf53_0 : decode cJ9_min_7cf53 0 = .ok (.iload_n 0, 1) := by decide +kernel
theorem dJ9_min_7cf53_1 : decode cJ9_min_7cf53 1 = .ok (.iload_n 1, 1) := by decide +kernel
theorem dJ9_min_7cf53_2 : decode cJ9_min_7cf53 2 = .ok (.if_icmp .gt 7, 3) := by decide +kernel
theorem dJ9_min_7cf53_5 : decode cJ9_min_7cf53 5 = .ok (.iload_n 0, 1) := by decide +kernel
theorem dJ9_min_7cf53_6 : decode cJ9_min_7cf53 6 = .ok (.goto 4, 3) := by decide +kernel
theorem dJ9_min_7cf53_9 : decode cJ9_min_7cf53 9 = .ok (.iload_n 1, 1) := by decide +kernel
theorem dJ9_min_7cf53_10 : decode cJ9_min_7cf53 10 = .ok (.ireturn, 1) := by decide +kernel
end
section
theorem dX7_isIn_0 : decode cX7_isIn 0 = .ok (.lload_n 0, 1) := by decide +kernel
theorem dX7_isIn_1 : decode cX7_isIn 1 = .ok (.lload_n 2, 1) := by decide +kernel
theorem dX7_isIn_2 : decode cX7_isIn 2 = .ok (.lcmp, 1) := by decide +kernel
theorem dX7_isIn_3 : decode cX7_isIn 3 = .ok (.ifCond .lt 14, 3) := by decide +kernel
theorem dX7_isIn_6 : decode cX7_isIn 6 = .ok (.lload_n 0, 1) := by decide +kernel
theorem dX7_isIn_7 : decode cX7_isIn 7 = .ok (.lload 4, 2) := by decide +kernel
theorem dX7_isIn_9 : decode cX7_isIn 9 = .ok (.lcmp, 1) := by decide +kernel
theorem dX7_isIn_10 : decode cX7_isIn 10 = .ok (.ifCond .gt 7, 3) := by decide +kernel
theorem dX7_isIn_13 : decode cX7_isIn 13 = .ok (.iconst 1, 1) := by decide +kernel
theorem dX7_isIn_14 : decode cX7_isIn 14 = .ok (.goto 4, 3) := by decide +kernel
theorem dX7_isIn_17 : decode cX7_isIn 17 = .ok (.iconst 0, 1) := by decide +kernel
theorem dX7_isIn_18 : decode cX7_isIn 18 = .ok (.ireturn, 1) := by decide +kernel
theorem dX7_init_0 : decode cX7_init 0 = .ok (.aload_n 0, 1) := by decide +kernel
theorem dX7_init_1 : decode cX7_init 1 = .ok (.invokespecial 7, 3) := by decide +kernel
theorem dX7_init_4 : decode cX7_init 4 = .ok (.aload_n 0, 1) := by decide +kernel
theorem dX7_init_5 : decode cX7_init 5 = .ok (.bipush 12, 2) := by decide +kernel
theorem dX7_init_7 : decode cX7_init 7 = .ok (.newarray .int, 2) := by decide +kernel
theorem dX7_init_9 : decode cX7_init 9 = .ok (.putfield 13, 3) := by decide +kernel
theorem dX7_init_12 : decode cX7_init 12 = .ok (.aload_n 0, 1) := by decide +kernel
theorem dX7_init_13 : decode cX7_init 13 = .ok (.bipush 12, 2) := by decide +kernel
theorem dX7_init_15 : decode cX7_init 15 = .ok (.newarray .int, 2) := by decide +kernel
theorem dX7_init_17 : decode cX7_init 17 = .ok (.putfield 17, 3) := by decide +kernel
theorem dX7_init_20 : decode cX7_init 20 = .ok (.aload_n 0, 1) := by decide +kernel
theorem dX7_init_21 : decode cX7_init 21 = .ok (.bipush 12, 2) := by decide +kernel
theorem dX7_init_23 : decode cX7_init 23 = .ok (.newarray .int, 2) := by decide +kernel
theorem dX7_init_25 : decode cX7_init 25 = .ok (.putfield 20, 3) := by decide +kernel
theorem dX7_init_28 : decode cX7_init 28 = .ok (.aload_n 0, 1) := by decide +kernel
theorem dX7_init_29 : decode cX7_init 29 = .ok (.bipush 12, 2) := by decide +kernel
theorem dX7_init_31 : decode cX7_init 31 = .ok (.newarray .int, 2) := by decide +kernel
theorem dX7_init_33 : decode cX7_init 33 = .ok (.putfield 23, 3) := by decide +kernel
theorem dX7_init_36 : decode cX7_init 36 = .ok (.aload_n 0, 1) := by decide +kernel
theorem dX7_init_37 : decode cX7_init 37 = .ok (.bipush 12, 2) := by decide +kernel
theorem dX7_init_39 : decode cX7_init 39 = .ok (.newarray .int, 2) := by decide +kernel
theorem dX7_init_41 : decode cX7_init 41 = .ok (.putfield 26, 3) := by decide +kernel
theorem dX7_init_44 : decode cX7_init 44 = .ok (.aload_n 0, 1) := by decide +kernel
theorem dX7_init_45 : decode cX7_init 45 = .ok (.sipush 200, 3) := by decide +kernel
theorem dX7_init_48 : decode cX7_init 48 = .ok (.newarray .int, 2) := by decide +kernel
theorem dX7_init_50 : decode cX7_init 50 = .ok (.putfield 29, 3) := by decide +kernel
theorem dX7_init_53 : decode cX7_init 53 = .ok (.aload_n 0, 1) := by decide +kernel
theorem dX7_init_54 : decode cX7_init 54 = .ok (.sipush 200, 3) := by decide +kernel
theorem dX7_init_57 : decode cX7_init 57 = .ok (.newarray .int, 2) := by decide +kernel
theorem dX7_init_59 : decode cX7_init 59 = .ok (.putfield 32, 3) := by decide +kernel
theorem dX7_init_62 : decode cX7_init 62 = .ok (.aload_n 0, 1) := by decide +kernel
theorem dX7_init_63 : decode cX7_init 63 = .ok (.sipush 200, 3) := by decide +kernel
theorem dX7_init_66 : decode cX7_init 66 = .ok (.newarray .boolean, 2) := by decide +kernel
theorem dX7_init_68 : decode cX7_init 68 = .ok (.putfield 35, 3) := by decide +kernel
theorem dX7_init_71 : decode cX7_init 71 = .ok (.aload_n 0, 1) := by decide +kernel
theorem dX7_init_72 : decode cX7_init 72 = .ok (.sipush 300, 3) := by decide +kernel
theorem dX7_init_75 : decode cX7_init 75 = .ok (.newarray .int, 2) := by decide +kernel
theorem dX7_init_77 : decode cX7_init 77 = .ok (.putfield 39, 3) := by decide +kernel
theorem dX7_init_80 : decode cX7_init 80 = .ok (.aload_n 0, 1) := by decide +kernel
theorem dX7_init_81 : decode cX7_init 81 = .ok (.sipush 300, 3) := by decide +kernel
theorem dX7_init_84 : decode cX7_init 84 = .ok (.newarray .int, 2) := by decide +kernel
theorem dX7_init_86 : decode cX7_init 86 = .ok (.putfield 42, 3) := by decide +kernel
theorem dX7_init_89 : decode cX7_init 89 = .ok (.aload_n 0, 1) := by decide +kernel
theorem dX7_init_90 : decode cX7_init 90 = .ok (.sipush 300, 3) := by decide +kernel
theorem dX7_init_93 : decode cX7_init 93 = .ok (.newarray .int, 2) := by decide +kernel
theorem dX7_init_95 : decode cX7_init 95 = .ok (.putfield 45, 3) := by decide +kernel
theorem dX7_init_98 : decode cX7_init 98 = .ok (.aload_n 0, 1) := by decide +kernel
theorem dX7_init_99 : decode cX7_init 99 = .ok (.bipush 52, 2) := by decide +kernel
theorem dX7_init_101 : decode cX7_init 101 = .ok (.newarray .int, 2) := by decide +kernel
theorem dX7_init_103 : decode cX7_init 103 = .ok (.putfield 48, 3) := by decide +kernel
theorem dX7_init_106 : decode cX7_init 106 = .ok (.aload_n 0, 1) := by decide +kernel
theorem dX7_init_107 : decode cX7_init 107 = .ok (.sipush 300, 3) := by decide +kernel
theorem dX7_init_110 : decode cX7_init 110 = .ok (.newarray .int, 2) := by decide +kernel
theorem dX7_init_112 : decode cX7_init 112 = .ok (.putfield 51, 3) := by decide +kernel
theorem dX7_init_115 : decode cX7_init 115 = .ok (.aload_n 0, 1) := by decide +kernel
theorem dX7_init_116 : decode cX7_init 116 = .ok (.sipush 500, 3) := by decide +kernel
theorem dX7_init_119 : decode cX7_init 119 = .ok (.newarray .int, 2) := by decide +kernel
theorem dX7_init_121 : decode cX7_init 121 = .ok (.putfield 54, 3) := by decide +kernel
theorem dX7_init_124 : decode cX7_init 124 = .ok (.aload_n 0, 1) := by decide +kernel
theorem dX7_init_125 : decode cX7_init 125 = .ok (.iconst 5, 1) := by decide +kernel
theorem dX7_init_126 : decode cX7_init 126 = .ok (.newarray .int, 2) := by decide +kernel
theorem dX7_init_128 : decode cX7_init 128 = .ok (.putfield 57, 3) := by decide +kernel
theorem dX7_init_131 : decode cX7_init 131 = .ok (.aload_n 0, 1) := by decide +kernel
theorem dX7_init_132 : decode cX7_init 132 = .ok (.bipush 100, 2) := by decide +kernel
theorem dX7_init_134 : decode cX7_init 134 = .ok (.newarray .int, 2) := by decide +kernel
theorem dX7_init_136 : decode cX7_init 136 = .ok (.putfield 60, 3) := by decide +kernel
theorem dX7_init_139 : decode cX7_init 139 = .ok (.aload_n 0, 1) := by decide +kernel
theorem dX7_init_140 : decode cX7_init 140 = .ok (.iconst (-1), 1) := by decide +kernel
theorem dX7_init_141 : decode cX7_init 141 = .ok (.putfield 63, 3) := by decide +kernel
theorem dX7_init_144 : decode cX7_init 144 = .ok (.aload_n 0, 1) := by decide +kernel
theorem dX7_init_145 : decode cX7_init 145 = .ok (.sipush 300, 3) := by decide +kernel
theorem dX7_init_148 : decode cX7_init 148 = .ok (.newarray .int, 2) := by decide +kernel
theorem dX7_init_150 : decode cX7_init 150 = .ok (.putfield 66, 3) := by decide +kernel
theorem dX7_init_153 : decode cX7_init 153 = .ok (.aload_n 0, 1) := by decide +kernel
theorem dX7_init_154 : decode cX7_init 154 = .ok (.sipush 300, 3) := by decide +kernel
theorem dX7_init_157 : decode cX7_init 157 = .ok (.newarray .int, 2) := by decide +kernel
theorem dX7_init_159 : decode cX7_init 159 = .ok (.putfield 69, 3) := by decide +kernel
theorem dX7_init_162 : decode cX7_init 162 = .ok (.aload_n 0, 1) := by decide +kernel
theorem dX7_init_163 : decode cX7_init 163 = .ok (.sipush 300, 3) := by decide +kernel
theorem dX7_init_166 : decode cX7_init 166 = .ok (.newarray .int, 2) := by decide +kernel
theorem dX7_init_168 : decode cX7_init 168 = .ok (.putfield 72, 3) := by decide +kernel
theorem dX7_init_171 : decode cX7_init 171 = .ok (.aload_n 0, 1) := by decide +kernel
theorem dX7_init_172 : decode cX7_init 172 = .ok (.bipush 12, 2) := by decide +kernel
theorem dX7_init_174 : decode cX7_init 174 = .ok (.newarray .int, 2) := by decide +kernel
theorem dX7_init_176 : decode cX7_init 176 = .ok (.putfield 75, 3) := by decide +kernel
theorem dX7_init_179 : decode cX7_init 179 = .ok (.aload_n 0, 1) := by decide +kernel
theorem dX7_init_180 : decode cX7_init 180 = .ok (.bipush 12, 2) := by decide +kernel
theorem dX7_init_182 : decode cX7_init 182 = .ok (.newarray .boolean, 2) := by decide +kernel
theorem dX7_init_184 : decode cX7_init 184 = .ok (.putfield 78, 3) := by decide +kernel
theorem dX7_init_187 : decode cX7_init 187 = .ok (.aload_n 0, 1) := by decide +kernel
theorem dX7_init_188 : decode cX7_init 188 = .ok (.bipush 8, 2) := by decide +kernel
theorem dX7_init_190 : decode cX7_init 190 = .ok (.newarray .int, 2) := by decide +kernel
theorem dX7_init_192 : decode cX7_init 192 = .ok (.putfield 81, 3) := by decide +kernel
theorem dX7_init_195 : decode cX7_init 195 = .ok (.aload_n 0, 1) := by decide +kernel
theorem dX7_init_196 : decode cX7_init 196 = .ok (.bipush 8, 2) := by decide +kernel
theorem dX7_init_198 : decode cX7_init 198 = .ok (.newarray .int, 2) := by decide +kernel
theorem dX7_init_200 : decode cX7_init 200 = .ok (.putfield 84, 3) := by decide +kernel
theorem dX7_init_203 : decode cX7_init 203 = .ok (.aload_n 0, 1) := by decide +kernel
theorem dX7_init_204 : decode cX7_init 204 = .ok (.bipush 8, 2) := by decide +kernel
theorem dX7_init_206 : decode cX7_init 206 = .ok (.newarray .int, 2) := by decide +kernel
theorem dX7_init_208 : decode cX7_init 208 = .ok (.putfield 87, 3) := by decide +kernel
theorem dX7_init_211 : decode cX7_init 211 = .ok (.aload_n 0, 1) := by decide +kernel
theorem dX7_init_212 : decode cX7_init 212 = .ok (.bipush 8, 2) := by decide +kernel
theorem dX7_init_214 : decode cX7_init 214 = .ok (.newarray .int, 2) := by decide +kernel
theorem dX7_init_216 : decode cX7_init 216 = .ok (.putfield 90, 3) := by decide +kernel
theorem dX7_init_219 : decode cX7_init 219 = .ok (.aload_n 0, 1) := by decide +kernel
theorem dX7_init_220 : decode cX7_init 220 = .ok (.bipush 8, 2) := by decide +kernel
theorem dX7_init_222 : decode cX7_init 222 = .ok (.newarray .int, 2) := by decide +kernel
theorem dX7_init_224 : decode cX7_init 224 = .ok (.putfield 93, 3) := by decide +kernel
theorem dX7_init_227 : decode cX7_init 227 = .ok (.aload_n 0, 1) := by decide +kernel
theorem dX7_init_228 : decode cX7_init 228 = .ok (.bipush 8, 2) := by decide +kernel
theorem dX7_init_230 : decode cX7_init 230 = .ok (.newarray .int, 2) := by decide +kernel
theorem dX7_init_232 : decode cX7_init 232 = .ok (.putfield 96, 3) := by decide +kernel
theorem dX7_init_235 : decode cX7_init 235 = .ok (.aload_n 0, 1) := by decide +kernel
theorem dX7_init_236 : decode cX7_init 236 = .ok (.bipush 12, 2) := by decide +kernel
theorem dX7_init_238 : decode cX7_init 238 = .ok (.newarray .boolean, 2) := by decide +kernel
theorem dX7_init_240 : decode cX7_init 240 = .ok (.putfield 99, 3) := by decide +kernel
theorem dX7_init_243 : decode cX7_init 243 = .ok (.aload_n 0, 1) := by decide +kernel
theorem dX7_init_244 : decode cX7_init 244 = .ok (.bipush 12, 2) := by decide +kernel
theorem dX7_init_246 : decode cX7_init 246 = .ok (.newarray .boolean, 2) := by decide +kernel
theorem dX7_init_248 : decode cX7_init 248 = .ok (.putfield 102, 3) := by decide +kernel
theorem dX7_init_251 : decode cX7_init 251 = .ok (.aload_n 0, 1) := by decide +kernel
theorem dX7_init_252 : decode cX7_init 252 = .ok (.bipush 12, 2) := by decide +kernel
theorem dX7_init_254 : decode cX7_init 254 = .ok (.newarray .boolean, 2) := by decide +kernel
theorem dX7_init_256 : decode cX7_init 256 = .ok (.putfield 105, 3) := by decide +kernel
theorem dX7_init_259 : decode cX7_init 259 = .ok (.aload_n 0, 1) := by decide +kernel
theorem dX7_init_260 : decode cX7_init 260 = .ok (.bipush 12, 2) := by decide +kernel
theorem dX7_init_262 : decode cX7_init 262 = .ok (.newarray .int, 2) := by decide +kernel
theorem dX7_init_264 : decode cX7_init 264 = .ok (.putfield 108, 3) := by decide +kernel
theorem dX7_init_267 : decode cX7_init 267 = .ok (.aload_n 0, 1) := by decide +kernel
theorem dX7_init_268 : decode cX7_init 268 = .ok (.bipush 12, 2) := by decide +kernel
theorem dX7_init_270 : decode cX7_init 270 = .ok (.newarray .int, 2) := by decide +kernel
theorem dX7_init_272 : decode cX7_init 272 = .ok (.putfield 111, 3) := by decide +kernel
theorem dX7_init_275 : decode cX7_init 275 = .ok (.aload_n 0, 1) := by decide +kernel
theorem dX7_init_276 : decode cX7_init 276 = .ok (.bipush 12, 2) := by decide +kernel
theorem dX7_init_278 : decode cX7_init 278 = .ok (.newarray .int, 2) := by decide +kernel
theorem dX7_init_280 : decode cX7_init 280 = .ok (.putfield 114, 3) := by decide +kernel
theorem dX7_init_283 : decode cX7_init 283 = .ok (.aload_n 0, 1) := by decide +kernel
theorem dX7_init_284 : decode cX7_init 284 = .ok (.bipush 12, 2) := by decide +kernel
theorem dX7_init_286 : decode cX7_init 286 = .ok (.newarray .int, 2) := by decide +kernel
theorem dX7_init_288 : decode cX7_init 288 = .ok (.putfield 117, 3) := by decide +kernel
theorem dX7_init_291 : decode cX7_init 291 = .ok (.aload_n 0, 1) := by decide +kernel
theorem dX7_init_292 : decode cX7_init 292 = .ok (.sipush 720, 3) := by decide +kernel
theorem dX7_init_295 : decode cX7_init 295 = .ok (.newarray .int, 2) := by decide +kernel
theorem dX7_init_297 : decode cX7_init 297 = .ok (.putfield 120, 3) := by decide +kernel
theorem dX7_init_300 : decode cX7_init 300 = .ok (.aload_n 0, 1) := by decide +kernel
theorem dX7_init_301 : decode cX7_init 301 = .ok (.sipush 601, 3) := by decide +kernel
theorem dX7_init_304 : decode cX7_init 304 = .ok (.newarray .int, 2) := by decide +kernel
theorem dX7_init_306 : decode cX7_init 306 = .ok (.putfield 123, 3) := by decide +kernel
theorem dX7_init_309 : decode cX7_init 309 = .ok (.aload_n 0, 1) := by decide +kernel
theorem dX7_init_310 : decode cX7_init 310 = .ok (.iconst 3, 1) := by decide +kernel
theorem dX7_init_311 : decode cX7_init 311 = .ok (.putfield 126, 3) := by decide +kernel
theorem dX7_init_314 : decode cX7_init 314 = .ok (.aload_n 0, 1) := by decide +kernel
theorem dX7_init_315 : decode cX7_init 315 = .ok (.sipush 2000, 3) := by decide +kernel
theorem dX7_init_318 : decode cX7_init 318 = .ok (.putfield 129, 3) := by decide +kernel
theorem dX7_init_321 : decode cX7_init 321 = .ok (.return_, 1) := by decide +kernel
theorem dX7_isBell_0 : decode cX7_isBell 0 = .ok (.iload_n 1, 1) := by decide +kernel
theorem dX7_isBell_1 : decode cX7_isBell 1 = .ok (.i2l, 1) := by decide +kernel
theorem dX7_isBell_2 : decode cX7_isBell 2 = .ok (.lconst 0, 1) := by decide +kernel
theorem dX7_isBell_3 : decode cX7_isBell 3 = .ok (.aload_n 0, 1) := by decide +kernel
theorem dX7_isBell_4 : decode cX7_isBell 4 = .ok (.getfield 132, 3) := by decide +kernel
theorem dX7_isBell_7 : decode cX7_isBell 7 = .ok (.iconst 1, 1) := by decide +kernel
theorem dX7_isBell_8 : decode cX7_isBell 8 = .ok (.isub, 1) := by decide +kernel
theorem dX7_isBell_9 : decode cX7_isBell 9 = .ok (.i2l, 1) := by decide +kernel
theorem dX7_isBell_10 : decode cX7_isBell 10 = .ok (.invokestatic 135, 3) := by decide +kernel
theorem dX7_isBell_13 : decode cX7_isBell 13 = .ok (.ireturn, 1) := by decide +kernel
theorem dX7_addBell_0 : decode cX7_addBell 0 = .ok (.aload_n 0, 1) := by decide +kernel
theorem dX7_addBell_1 : decode cX7_addBell 1 = .ok (.iconst 0, 1) := by decide +kernel
theorem dX7_addBell_2 : decode cX7_addBell 2 = .ok (.putfield 1, 3) := by decide +kernel
theorem dX7_addBell_5 : decode cX7_addBell 5 = .ok (.iload_n 1, 1) := by decide +kernel
theorem dX7_addBell_6 : decode cX7_addBell 6 = .ok (.i2l, 1) := by decide +kernel
theorem dX7_addBell_7 : decode cX7_addBell 7 = .ok (.lconst 1, 1) := by decide +kernel
theorem dX7_addBell_8 : decode cX7_addBell 8 = .ok (.ldc2_w 139, 3) := by decide +kernel
theorem dX7_addBell_11 : decode cX7_addBell 11 = .ok (.invokestatic 135, 3) := by decide +kernel
theorem dX7_addBell_14 : decode cX7_addBell 14 = .ok (.ifCond .eq 42, 3) := by decide +kernel
theorem dX7_addBell_17 : decode cX7_addBell 17 = .ok (.iload_n 2, 1) := by decide +kernel
theorem dX7_addBell_18 : decode cX7_addBell 18 = .ok (.i2l, 1) := by decide +kernel
theorem dX7_addBell_19 : decode cX7_addBell 19 = .ok (.lconst 0, 1) := by decide +kernel
theorem dX7_addBell_20 : decode cX7_addBell 20 = .ok (.ldc2_w 141, 3) := by decide +kernel
theorem dX7_addBell_23 : decode cX7_addBell 23 = .ok (.invokestatic 135, 3) := by decide +kernel
theorem dX7_addBell_26 : decode cX7_addBell 26 = .ok (.ifCond .eq 30, 3) := by decide +kernel
theorem dX7_addBell_29 : decode cX7_addBell 29 = .ok (.iload_n 3, 1) := by decide +kernel
theorem dX7_addBell_30 : decode cX7_addBell 30 = .ok (.i2l, 1) := by decide +kernel
theorem dX7_addBell_31 : decode cX7_addBell 31 = .ok (.lconst 1, 1) := by decide +kernel
theorem dX7_addBell_32 : decode cX7_addBell 32 = .ok (.ldc2_w 143, 3) := by decide +kernel
theorem dX7_addBell_35 : decode cX7_addBell 35 = .ok (.invokestatic 135, 3) := by decide +kernel
theorem dX7_addBell_38 : decode cX7_addBell 38 = .ok (.ifCond .eq 18, 3) := by decide +kernel
theorem dX7_addBell_41 : decode cX7_addBell 41 = .ok (.iload 4, 2) := by decide +kernel
theorem dX7_addBell_43 : decode cX7_addBell 43 = .ok (.i2l, 1) := by decide +kernel
theorem dX7_addBell_44 : decode cX7_addBell 44 = .ok (.ldc2_w 145, 3) := by decide +kernel
theorem dX7_addBell_47 : decode cX7_addBell 47 = .ok (.ldc2_w 147, 3) := by decide +kernel
theorem dX7_addBell_50 : decode cX7_addBell 50 = .ok (.invokestatic 135, 3) := by decide +kernel
theorem dX7_addBell_53 : decode cX7_addBell 53 = .ok (.ifCond .ne 6, 3) := by decide +kernel
theorem dX7_addBell_56 : decode cX7_addBell 56 = .ok (.bipush (-3), 2) := by decide +kernel
theorem dX7_addBell_58 : decode cX7_addBell 58 = .ok (.ireturn, 1) := by decide +kernel
theorem dX7_addBell_59 : decode cX7_addBell 59 = .ok (.aload_n 0, 1) := by decide +kernel
theorem dX7_addBell_60 : decode cX7_addBell 60 = .ok (.getfield 132, 3) := by decide +kernel
theorem dX7_addBell_63 : decode cX7_addBell 63 = .ok (.bipush 12, 2) := by decide +kernel
theorem dX7_addBell_65 : decode cX7_addBell 65 = .ok (.if_icmp .ne 6, 3) := by decide +kernel
theorem dX7_addBell_68 : decode cX7_addBell 68 = .ok (.bipush (-4), 2) := by decide +kernel
theorem dX7_addBell_70 : decode cX7_addBell 70 = .ok (.ireturn, 1) := by decide +kernel
theorem dX7_addBell_71 : decode cX7_addBell 71 = .ok (.aload_n 0, 1) := by decide +kernel
theorem dX7_addBell_72 : decode cX7_addBell 72 = .ok (.getfield 13, 3) := by decide +kernel
theorem dX7_addBell_75 : decode cX7_addBell 75 = .ok (.aload_n 0, 1) := by decide +kernel
theorem dX7_addBell_76 : decode cX7_addBell 76 = .ok (.getfield 132, 3) := by decide +kernel
theorem dX7_addBell_79 : decode cX7_addBell 79 = .ok (.iload_n 1, 1) := by decide +kernel
theorem dX7_addBell_80 : decode cX7_addBell 80 = .ok (.iastore, 1) := by decide +kernel
theorem dX7_addBell_81 : decode cX7_addBell 81 = .ok (.aload_n 0, 1) := by decide +kernel
theorem dX7_addBell_82 : decode cX7_addBell 82 = .ok (.getfield 17, 3) := by decide +kernel
theorem dX7_addBell_85 : decode cX7_addBell 85 = .ok (.aload_n 0, 1) := by decide +kernel
theorem dX7_addBell_86 : decode cX7_addBell 86 = .ok (.getfield 132, 3) := by decide +kernel
theorem dX7_addBell_89 : decode cX7_addBell 89 = .ok (.iload_n 2, 1) := by decide +kernel
theorem dX7_addBell_90 : decode cX7_addBell 90 = .ok (.iastore, 1) := by decide +kernel
theorem dX7_addBell_91 : decode cX7_addBell 91 = .ok (.aload_n 0, 1) := by decide +kernel
theorem dX7_addBell_92 : decode cX7_addBell 92 = .ok (.getfield 20, 3) := by decide +kernel
theorem dX7_addBell_95 : decode cX7_addBell 95 = .ok (.aload_n 0, 1) := by decide +kernel
theorem dX7_addBell_96 : decode cX7_addBell 96 = .ok (.getfield 132, 3) := by decide +kernel
theorem dX7_addBell_99 : decode cX7_addBell 99 = .ok (.iload_n 3, 1) := by decide +kernel
theorem dX7_addBell_100 : decode cX7_addBell 100 = .ok (.iastore, 1) := by decide +kernel
theorem dX7_addBell_101 : decode cX7_addBell 101 = .ok (.aload_n 0, 1) := by decide +kernel
theorem dX7_addBell_102 : decode cX7_addBell 102 = .ok (.getfield 23, 3) := by decide +kernel
theorem dX7_addBell_105 : decode cX7_addBell 105 = .ok (.aload_n 0, 1) := by decide +kernel
theorem dX7_addBell_106 : decode cX7_addBell 106 = .ok (.getfield 132, 3) := by decide +kernel
theorem dX7_addBell_109 : decode cX7_addBell 109 = .ok (.iload 4, 2) := by decide +kernel
theorem dX7_addBell_111 : decode cX7_addBell 111 = .ok (.iastore, 1) := by decide +kernel
theorem dX7_addBell_112 : decode cX7_addBell 112 = .ok (.aload_n 0, 1) := by decide +kernel
theorem dX7_addBell_113 : decode cX7_addBell 113 = .ok (.dup, 1) := by decide +kernel
theorem dX7_addBell_114 : decode cX7_addBell 114 = .ok (.getfield 132, 3) := by decide +kernel
theorem dX7_addBell_117 : decode cX7_addBell 117 = .ok (.iconst 1, 1) := by decide +kernel
theorem dX7_addBell_118 : decode cX7_addBell 118 = .ok (.iadd, 1) := by decide +kernel
theorem dX7_addBell_119 : decode cX7_addBell 119 = .ok (.putfield 132, 3) := by decide +kernel
theorem dX7_addBell_122 : decode cX7_addBell 122 = .ok (.aload_n 0, 1) := by decide +kernel
theorem dX7_addBell_123 : decode cX7_addBell 123 = .ok (.getfield 132, 3) := by decide +kernel
theorem dX7_addBell_126 : decode cX7_addBell 126 = .ok (.iconst 1, 1) := by decide +kernel
theorem dX7_addBell_127 : decode cX7_addBell 127 = .ok (.isub, 1) := by decide +kernel
theorem dX7_addBell_128 : decode cX7_addBell 128 = .ok (.ireturn, 1) := by decide +kernel
theorem dX7_bellCount_0 : decode cX7_bellCount 0 = .ok (.aload_n 0, 1) := by decide +kernel
theorem dX7_bellCount_1 : decode cX7_bellCount 1 = .ok (.iconst 0, 1) := by decide +kernel
theorem dX7_bellCount_2 : decode cX7_bellCount 2 = .ok (.putfield 1, 3) := by decide +kernel
theorem dX7_bellCount_5 : decode cX7_bellCount 5 = .ok (.aload_n 0, 1) := by decide +kernel
theorem dX7_bellCount_6 : decode cX7_bellCount 6 = .ok (.getfield 132, 3) := by decide +kernel
theorem dX7_bellCount_9 : decode cX7_bellCount 9 = .ok (.ireturn, 1) := by decide +kernel
theorem dX7_delay_0 : decode cX7_delay 0 = .ok (.aload_n 0, 1) := by decide +kernel
theorem dX7_delay_1 : decode cX7_delay 1 = .ok (.iconst 0, 1) := by decide +kernel
theorem dX7_delay_2 : decode cX7_delay 2 = .ok (.putfield 1, 3) := by decide +kernel
theorem dX7_delay_5 : decode cX7_delay 5 = .ok (.aload_n 0, 1) := by decide +kernel
theorem dX7_delay_6 : decode cX7_delay 6 = .ok (.iload_n 1, 1) := by decide +kernel
theorem dX7_delay_7 : decode cX7_delay 7 = .ok (.invokevirtual 149, 3) := by decide +kernel
theorem dX7_delay_10 : decode cX7_delay 10 = .ok (.ifCond .eq 12, 3) := by decide +kernel
theorem dX7_delay_13 : decode cX7_delay 13 = .ok (.aload_n 0, 1) := by decide +kernel
theorem dX7_delay_14 : decode cX7_delay 14 = .ok (.getfield 13, 3) := by decide +kernel
theorem dX7_delay_17 : decode cX7_delay 17 = .ok (.iload_n 1, 1) := by decide +kernel
theorem dX7_delay_18 : decode cX7_delay 18 = .ok (.iaload, 1) := by decide +kernel
theorem dX7_delay_19 : decode cX7_delay 19 = .ok (.goto 5, 3) := by decide +kernel
theorem dX7_delay_22 : decode cX7_delay 22 = .ok (.bipush (-2), 2) := by decide +kernel
theorem dX7_delay_24 : decode cX7_delay 24 = .ok (.ireturn, 1) := by decide +kernel
theorem dX7_calibrate_0 : decode cX7_calibrate 0 = .ok (.aload_n 0, 1) := by decide +kernel
theorem dX7_calibrate_1 : decode cX7_calibrate 1 = .ok (.iconst 0, 1) := by decide +kernel
theorem dX7_calibrate_2 : decode cX7_calibrate 2 = .ok (.putfield 1, 3) := by decide +kernel
theorem dX7_calibrate_5 : decode cX7_calibrate 5 = .ok (.aload_n 0, 1) := by decide +kernel
theorem dX7_calibrate_6 : decode cX7_calibrate 6 = .ok (.iload_n 1, 1) := by decide +kernel
theorem dX7_calibrate_7 : decode cX7_calibrate 7 = .ok (.invokevirtual 149, 3) := by decide +kernel
theorem dX7_calibrate_10 : decode cX7_calibrate 10 = .ok (.ifCond .ne 6, 3) := by decide +kernel
theorem dX7_calibrate_13 : decode cX7_calibrate 13 = .ok (.bipush (-2), 2) := by decide +kernel
theorem dX7_calibrate_15 : decode cX7_calibrate 15 = .ok (.ireturn, 1) := by decide +kernel
theorem dX7_calibrate_16 : decode cX7_calibrate 16 = .ok (.iload_n 2, 1) := by decide +kernel
theorem dX7_calibrate_17 : decode cX7_calibrate 17 = .ok (.i2l, 1) := by decide +kernel
theorem dX7_calibrate_18 : decode cX7_calibrate 18 = .ok (.lconst 1, 1) := by decide +kernel
theorem dX7_calibrate_19 : decode cX7_calibrate 19 = .ok (.ldc2_w 139, 3) := by decide +kernel
theorem dX7_calibrate_22 : decode cX7_calibrate 22 = .ok (.invokestatic 135, 3) := by decide +kernel
theorem dX7_calibrate_25 : decode cX7_calibrate 25 = .ok (.ifCond .ne 6, 3) := by decide +kernel
theorem dX7_calibrate_28 : decode cX7_calibrate 28 = .ok (.bipush (-3), 2) := by decide +kernel
theorem dX7_calibrate_30 : decode cX7_calibrate 30 = .ok (.ireturn, 1) := by decide +kernel
theorem dX7_calibrate_31 : decode cX7_calibrate 31 = .ok (.aload_n 0, 1) := by decide +kernel
theorem dX7_calibrate_32 : decode cX7_calibrate 32 = .ok (.getfield 13, 3) := by decide +kernel
theorem dX7_calibrate_35 : decode cX7_calibrate 35 = .ok (.iload_n 1, 1) := by decide +kernel
theorem dX7_calibrate_36 : decode cX7_calibrate 36 = .ok (.iconst 3, 1) := by decide +kernel
theorem dX7_calibrate_37 : decode cX7_calibrate 37 = .ok (.aload_n 0, 1) := by decide +kernel
theorem dX7_calibrate_38 : decode cX7_calibrate 38 = .ok (.getfield 13, 3) := by decide +kernel
theorem dX7_calibrate_41 : decode cX7_calibrate 41 = .ok (.iload_n 1, 1) := by decide +kernel
theorem dX7_calibrate_42 : decode cX7_calibrate 42 = .ok (.iaload, 1) := by decide +kernel
theorem dX7_calibrate_43 : decode cX7_calibrate 43 = .ok (.imul, 1) := by decide +kernel
theorem dX7_calibrate_44 : decode cX7_calibrate 44 = .ok (.iload_n 2, 1) := by decide +kernel
theorem dX7_calibrate_45 : decode cX7_calibrate 45 = .ok (.iadd, 1) := by decide +kernel
theorem dX7_calibrate_46 : decode cX7_calibrate 46 = .ok (.iconst 2, 1) := by decide +kernel
theorem dX7_calibrate_47 : decode cX7_calibrate 47 = .ok (.iadd, 1) := by decide +kernel
theorem dX7_calibrate_48 : decode cX7_calibrate 48 = .ok (.iconst 4, 1) := by decide +kernel
theorem dX7_calibrate_49 : decode cX7_calibrate 49 = .ok (.idiv, 1) := by decide +kernel
theorem dX7_calibrate_50 : decode cX7_calibrate 50 = .ok (.iastore, 1) := by decide +kernel
theorem dX7_calibrate_51 : decode cX7_calibrate 51 = .ok (.aload_n 0, 1) := by decide +kernel
theorem dX7_calibrate_52 : decode cX7_calibrate 52 = .ok (.getfield 13, 3) := by decide +kernel
theorem dX7_calibrate_55 : decode cX7_calibrate 55 = .ok (.iload_n 1, 1) := by decide +kernel
theorem dX7_calibrate_56 : decode cX7_calibrate 56 = .ok (.iaload, 1) := by decide +kernel
theorem dX7_calibrate_57 : decode cX7_calibrate 57 = .ok (.ireturn, 1) := by decide +kernel
theorem dX7_setPowerLimit_0 : decode cX7_setPowerLimit 0 = .ok (.aload_n 0, 1) := by decide +kernel
theorem dX7_setPowerLimit_1 : decode cX7_setPowerLimit 1 = .ok (.iconst 0, 1) := by decide +kernel
theorem dX7_setPowerLimit_2 : decode cX7_setPowerLimit 2 = .ok (.putfield 1, 3) := by decide +kernel
theorem dX7_setPowerLimit_5 : decode cX7_setPowerLimit 5 = .ok (.iload_n 1, 1) := by decide +kernel
theorem dX7_setPowerLimit_6 : decode cX7_setPowerLimit 6 = .ok (.i2l, 1) := by decide +kernel
theorem dX7_setPowerLimit_7 : decode cX7_setPowerLimit 7 = .ok (.lconst 1, 1) := by decide +kernel
theorem dX7_setPowerLimit_8 : decode cX7_setPowerLimit 8 = .ok (.ldc2_w 153, 3) := by decide +kernel
theorem dX7_setPowerLimit_11 : decode cX7_setPowerLimit 11 = .ok (.invokestatic 135, 3) := by decide +kernel
theorem dX7_setPowerLimit_14 : decode cX7_setPowerLimit 14 = .ok (.ifCond .ne 6, 3) := by decide +kernel
theorem dX7_setPowerLimit_17 : decode cX7_setPowerLimit 17 = .ok (.bipush (-3), 2) := by decide +kernel
theorem dX7_setPowerLimit_19 : decode cX7_setPowerLimit 19 = .ok (.ireturn, 1) := by decide +kernel
theorem dX7_setPowerLimit_20 : decode cX7_setPowerLimit 20 = .ok (.aload_n 0, 1) := by decide +kernel
theorem dX7_setPowerLimit_21 : decode cX7_setPowerLimit 21 = .ok (.getfield 126, 3) := by decide +kernel
theorem dX7_setPowerLimit_24 : decode cX7_setPowerLimit 24 = .ok (.istore_n 2, 1) := by decide +kernel
theorem dX7_setPowerLimit_25 : decode cX7_setPowerLimit 25 = .ok (.aload_n 0, 1) := by decide +kernel
theorem dX7_setPowerLimit_26 : decode cX7_setPowerLimit 26 = .ok (.iload_n 1, 1) := by decide +kernel
theorem dX7_setPowerLimit_27 : decode cX7_setPowerLimit 27 = .ok (.putfield 126, 3) := by decide +kernel
theorem dX7_setPowerLimit_30 : decode cX7_setPowerLimit 30 = .ok (.iload_n 2, 1) := by decide +kernel
theorem dX7_setPowerLimit_31 : decode cX7_setPowerLimit 31 = .ok (.ireturn, 1) := by decide +kernel
theorem dX7_records_0 : decode cX7_records 0 = .ok (.aload_n 0, 1) := by decide +kernel
theorem dX7_records_1 : decode cX7_records 1 = .ok (.getfield 29, 3) := by decide +kernel
theorem dX7_records_4 : decode cX7_records 4 = .ok (.aload_n 0, 1) := by decide +kernel
theorem dX7_records_5 : decode cX7_records 5 = .ok (.getfield 155, 3) := by decide +kernel
theorem dX7_records_8 : decode cX7_records 8 = .ok (.sipush 200, 3) := by decide +kernel
theorem dX7_records_11 : decode cX7_records 11 = .ok (.irem, 1) := by decide +kernel
theorem dX7_records_12 : decode cX7_records 12 = .ok (.iload_n 1, 1) := by decide +kernel
theorem dX7_records_13 : decode cX7_records 13 = .ok (.iastore, 1) := by decide +kernel
theorem dX7_records_14 : decode cX7_records 14 = .ok (.aload_n 0, 1) := by decide +kernel
theorem dX7_records_15 : decode cX7_records 15 = .ok (.getfield 32, 3) := by decide +kernel
theorem dX7_records_18 : decode cX7_records 18 = .ok (.aload_n 0, 1) := by decide +kernel
theorem dX7_records_19 : decode cX7_records 19 = .ok (.getfield 155, 3) := by decide +kernel
theorem dX7_records_22 : decode cX7_records 22 = .ok (.sipush 200, 3) := by decide +kernel
theorem dX7_records_25 : decode cX7_records 25 = .ok (.irem, 1) := by decide +kernel
theorem dX7_records_26 : decode cX7_records 26 = .ok (.aload_n 0, 1) := by decide +kernel
theorem dX7_records_27 : decode cX7_records 27 = .ok (.getfield 158, 3) := by decide +kernel
theorem dX7_records_30 : decode cX7_records 30 = .ok (.iastore, 1) := by decide +kernel
theorem dX7_records_31 : decode cX7_records 31 = .ok (.aload_n 0, 1) := by decide +kernel
theorem dX7_records_32 : decode cX7_records 32 = .ok (.getfield 35, 3) := by decide +kernel
theorem dX7_records_35 : decode cX7_records 35 = .ok (.aload_n 0, 1) := by decide +kernel
theorem dX7_records_36 : decode cX7_records 36 = .ok (.getfield 155, 3) := by decide +kernel
theorem dX7_records_39 : decode cX7_records 39 = .ok (.sipush 200, 3) := by decide +kernel
theorem dX7_records_42 : decode cX7_records 42 = .ok (.irem, 1) := by decide +kernel
theorem dX7_records_43 : decode cX7_records 43 = .ok (.iload_n 2, 1) := by decide +kernel
theorem dX7_records_44 : decode cX7_records 44 = .ok (.bastore, 1) := by decide +kernel
theorem dX7_records_45 : decode cX7_records 45 = .ok (.aload_n 0, 1) := by decide +kernel
theorem dX7_records_46 : decode cX7_records 46 = .ok (.dup, 1) := by decide +kernel
theorem dX7_records_47 : decode cX7_records 47 = .ok (.getfield 155, 3) := by decide +kernel
theorem dX7_records_50 : decode cX7_records 50 = .ok (.iconst 1, 1) := by decide +kernel
theorem dX7_records_51 : decode cX7_records 51 = .ok (.iadd, 1) := by decide +kernel
theorem dX7_records_52 : decode cX7_records 52 = .ok (.putfield 155, 3) := by decide +kernel
theorem dX7_records_55 : decode cX7_records 55 = .ok (.return_, 1) := by decide +kernel
theorem dX7_recordMany_0 : decode cX7_recordMany 0 = .ok (.aload_n 0, 1) := by decide +kernel
theorem dX7_recordMany_1 : decode cX7_recordMany 1 = .ok (.getfield 155, 3) := by decide +kernel
theorem dX7_recordMany_4 : decode cX7_recordMany 4 = .ok (.sipush 200, 3) := by decide +kernel
theorem dX7_recordMany_7 : decode cX7_recordMany 7 = .ok (.if_icmp .ge 10, 3) := by decide +kernel
theorem dX7_recordMany_10 : decode cX7_recordMany 10 = .ok (.aload_n 0, 1) := by decide +kernel
theorem dX7_recordMany_11 : decode cX7_recordMany 11 = .ok (.getfield 155, 3) := by decide +kernel
theorem dX7_recordMany_14 : decode cX7_recordMany 14 = .ok (.goto 6, 3) := by decide +kernel
theorem dX7_recordMany_17 : decode cX7_recordMany 17 = .ok (.sipush 200, 3) := by decide +kernel
theorem dX7_recordMany_20 : decode cX7_recordMany 20 = .ok (.ireturn, 1) := by decide +kernel
theorem dX7_recordAt_0 : decode cX7_recordAt 0 = .ok (.iload_n 1, 1) := by decide +kernel
theorem dX7_recordAt_1 : decode cX7_recordAt 1 = .ok (.ifCond .ge 6, 3) := by decide +kernel
theorem dX7_recordAt_4 : decode cX7_recordAt 4 = .ok (.bipush (-3), 2) := by decide +kernel
theorem dX7_recordAt_6 : decode cX7_recordAt 6 = .ok (.ireturn, 1) := by decide +kernel
theorem dX7_recordAt_7 : decode cX7_recordAt 7 = .ok (.iload_n 1, 1) := by decide +kernel
theorem dX7_recordAt_8 : decode cX7_recordAt 8 = .ok (.aload_n 0, 1) := by decide +kernel
theorem dX7_recordAt_9 : decode cX7_recordAt 9 = .ok (.invokevirtual 161, 3) := by decide +kernel
theorem dX7_recordAt_12 : decode cX7_recordAt 12 = .ok (.if_icmp .ge 18, 3) := by decide +kernel
theorem dX7_recordAt_15 : decode cX7_recordAt 15 = .ok (.aload_n 0, 1) := by decide +kernel
theorem dX7_recordAt_16 : decode cX7_recordAt 16 = .ok (.getfield 155, 3) := by decide +kernel
theorem dX7_recordAt_19 : decode cX7_recordAt 19 = .ok (.iconst 1, 1) := by decide +kernel
theorem dX7_recordAt_20 : decode cX7_recordAt 20 = .ok (.isub, 1) := by decide +kernel
theorem dX7_recordAt_21 : decode cX7_recordAt 21 = .ok (.iload_n 1, 1) := by decide +kernel
theorem dX7_recordAt_22 : decode cX7_recordAt 22 = .ok (.isub, 1) := by decide +kernel
theorem dX7_recordAt_23 : decode cX7_recordAt 23 = .ok (.sipush 200, 3) := by decide +kernel
theorem dX7_recordAt_26 : decode cX7_recordAt 26 = .ok (.irem, 1) := by decide +kernel
theorem dX7_recordAt_27 : decode cX7_recordAt 27 = .ok (.goto 4, 3) := by decide +kernel
theorem dX7_recordAt_30 : decode cX7_recordAt 30 = .ok (.iconst (-1), 1) := by decide +kernel
theorem dX7_recordAt_31 : decode cX7_recordAt 31 = .ok (.ireturn, 1) := by decide +kernel
theorem dX7_currentTime_0 : decode cX7_currentTime 0 = .ok (.aload_n 0, 1) := by decide +kernel
theorem dX7_currentTime_1 : decode cX7_currentTime 1 = .ok (.iconst 0, 1) := by decide +kernel
theorem dX7_currentTime_2 : decode cX7_currentTime 2 = .ok (.putfield 1, 3) := by decide +kernel
theorem dX7_currentTime_5 : decode cX7_currentTime 5 = .ok (.aload_n 0, 1) := by decide +kernel
theorem dX7_currentTime_6 : decode cX7_currentTime 6 = .ok (.getfield 158, 3) := by decide +kernel
theorem dX7_currentTime_9 : decode cX7_currentTime 9 = .ok (.ireturn, 1) := by decide +kernel
theorem dX7_recordLength_0 : decode cX7_recordLength 0 = .ok (.aload_n 0, 1) := by decide +kernel
theorem dX7_recordLength_1 : decode cX7_recordLength 1 = .ok (.iconst 0, 1) := by decide +kernel
theorem dX7_recordLength_2 : decode cX7_recordLength 2 = .ok (.putfield 1, 3) := by decide +kernel
theorem dX7_recordLength_5 : decode cX7_recordLength 5 = .ok (.aload_n 0, 1) := by decide +kernel
theorem dX7_recordLength_6 : decode cX7_recordLength 6 = .ok (.invokevirtual 161, 3) := by decide +kernel
theorem dX7_recordLength_9 : decode cX7_recordLength 9 = .ok (.ireturn, 1) := by decide +kernel
theorem dX7_recordBell_0 : decode cX7_recordBell 0 = .ok (.aload_n 0, 1) := by decide +kernel
theorem dX7_recordBell_1 : decode cX7_recordBell 1 = .ok (.iconst 0, 1) := by decide +kernel
theorem dX7_recordBell_2 : decode cX7_recordBell 2 = .ok (.putfield 1, 3) := by decide +kernel
theorem dX7_recordBell_5 : decode cX7_recordBell 5 = .ok (.aload_n 0, 1) := by decide +kernel
theorem dX7_recordBell_6 : decode cX7_recordBell 6 = .ok (.iload_n 1, 1) := by decide +kernel
theorem dX7_recordBell_7 : decode cX7_recordBell 7 = .ok (.invokevirtual 165, 3) := by decide +kernel
theorem dX7_recordBell_10 : decode cX7_recordBell 10 = .ok (.istore_n 2, 1) := by decide +kernel
theorem dX7_recordBell_11 : decode cX7_recordBell 11 = .ok (.iload_n 2, 1) := by decide +kernel
theorem dX7_recordBell_12 : decode cX7_recordBell 12 = .ok (.ifCond .ge 7, 3) := by decide +kernel
theorem dX7_recordBell_15 : decode cX7_recordBell 15 = .ok (.iload_n 2, 1) := by decide +kernel
theorem dX7_recordBell_16 : decode cX7_recordBell 16 = .ok (.goto 9, 3) := by decide +kernel
theorem dX7_recordBell_19 : decode cX7_recordBell 19 = .ok (.aload_n 0, 1) := by decide +kernel
theorem dX7_recordBell_20 : decode cX7_recordBell 20 = .ok (.getfield 29, 3) := by decide +kernel
theorem dX7_recordBell_23 : decode cX7_recordBell 23 = .ok (.iload_n 2, 1) := by decide +kernel
theorem dX7_recordBell_24 : decode cX7_recordBell 24 = .ok (.iaload, 1) := by decide +kernel
theorem dX7_recordBell_25 : decode cX7_recordBell 25 = .ok (.ireturn, 1) := by decide +kernel
theorem dX7_recordTime_0 : decode cX7_recordTime 0 = .ok (.aload_n 0, 1) := by decide +kernel
theorem dX7_recordTime_1 : decode cX7_recordTime 1 = .ok (.iconst 0, 1) := by decide +kernel
theorem dX7_recordTime_2 : decode cX7_recordTime 2 = .ok (.putfield 1, 3) := by decide +kernel
theorem dX7_recordTime_5 : decode cX7_recordTime 5 = .ok (.aload_n 0, 1) := by decide +kernel
theorem dX7_recordTime_6 : decode cX7_recordTime 6 = .ok (.iload_n 1, 1) := by decide +kernel
theorem dX7_recordTime_7 : decode cX7_recordTime 7 = .ok (.invokevirtual 165, 3) := by decide +kernel
theorem dX7_recordTime_10 : decode cX7_recordTime 10 = .ok (.istore_n 2, 1) := by decide +kernel
theorem dX7_recordTime_11 : decode cX7_recordTime 11 = .ok (.iload_n 2, 1) := by decide +kernel
theorem dX7_recordTime_12 : decode cX7_recordTime 12 = .ok (.ifCond .ge 7, 3) := by decide +kernel
theorem dX7_recordTime_15 : decode cX7_recordTime 15 = .ok (.iload_n 2, 1) := by decide +kernel
theorem dX7_recordTime_16 : decode cX7_recordTime 16 = .ok (.goto 9, 3) := by decide +kernel
theorem dX7_recordTime_19 : decode cX7_recordTime 19 = .ok (.aload_n 0, 1) := by decide +kernel
theorem dX7_recordTime_20 : decode cX7_recordTime 20 = .ok (.getfield 32, 3) := by decide +kernel
theorem dX7_recordTime_23 : decode cX7_recordTime 23 = .ok (.iload_n 2, 1) := by decide +kernel
theorem dX7_recordTime_24 : decode cX7_recordTime 24 = .ok (.iaload, 1) := by decide +kernel
theorem dX7_recordTime_25 : decode cX7_recordTime 25 = .ok (.ireturn, 1) := by decide +kernel
theorem dX7_recordClapper_0 : decode cX7_recordClapper 0 = .ok (.aload_n 0, 1) := by decide +kernel
theorem dX7_recordClapper_1 : decode cX7_recordClapper 1 = .ok (.iconst 0, 1) := by decide +kernel
theorem dX7_recordClapper_2 : decode cX7_recordClapper 2 = .ok (.putfield 1, 3) := by decide +kernel
theorem dX7_recordClapper_5 : decode cX7_recordClapper 5 = .ok (.aload_n 0, 1) := by decide +kernel
theorem dX7_recordClapper_6 : decode cX7_recordClapper 6 = .ok (.iload_n 1, 1) := by decide +kernel
theorem dX7_recordClapper_7 : decode cX7_recordClapper 7 = .ok (.invokevirtual 165, 3) := by decide +kernel
theorem dX7_recordClapper_10 : decode cX7_recordClapper 10 = .ok (.istore_n 2, 1) := by decide +kernel
theorem dX7_recordClapper_11 : decode cX7_recordClapper 11 = .ok (.iload_n 2, 1) := by decide +kernel
theorem dX7_recordClapper_12 : decode cX7_recordClapper 12 = .ok (.ifCond .ge 7, 3) := by decide +kernel
theorem dX7_recordClapper_15 : decode cX7_recordClapper 15 = .ok (.iload_n 2, 1) := by decide +kernel
theorem dX7_recordClapper_16 : decode cX7_recordClapper 16 = .ok (.goto 17, 3) := by decide +kernel
theorem dX7_recordClapper_19 : decode cX7_recordClapper 19 = .ok (.aload_n 0, 1) := by decide +kernel
theorem dX7_recordClapper_20 : decode cX7_recordClapper 20 = .ok (.getfield 35, 3) := by decide +kernel
theorem dX7_recordClapper_23 : decode cX7_recordClapper 23 = .ok (.iload_n 2, 1) := by decide +kernel
theorem dX7_recordClapper_24 : decode cX7_recordClapper 24 = .ok (.baload, 1) := by decide +kernel
theorem dX7_recordClapper_25 : decode cX7_recordClapper 25 = .ok (.ifCond .eq 7, 3) := by decide +kernel
theorem dX7_recordClapper_28 : decode cX7_recordClapper 28 = .ok (.iconst 1, 1) := by decide +kernel
theorem dX7_recordClapper_29 : decode cX7_recordClapper 29 = .ok (.goto 4, 3) := by decide +kernel
theorem dX7_recordClapper_32 : decode cX7_recordClapper 32 = .ok (.iconst 0, 1) := by decide +kernel
theorem dX7_recordClapper_33 : decode cX7_recordClapper 33 = .ok (.ireturn, 1) := by decide +kernel
theorem dX7_refuses_0 : decode cX7_refuses 0 = .ok (.lload_n 2, 1) := by decide +kernel
theorem dX7_refuses_1 : decode cX7_refuses 1 = .ok (.lconst 0, 1) := by decide +kernel
theorem dX7_refuses_2 : decode cX7_refuses 2 = .ok (.ldc2_w 169, 3) := by decide +kernel
theorem dX7_refuses_5 : decode cX7_refuses 5 = .ok (.invokestatic 135, 3) := by decide +kernel
theorem dX7_refuses_8 : decode cX7_refuses 8 = .ok (.ifCond .ne 6, 3) := by decide +kernel
theorem dX7_refuses_11 : decode cX7_refuses 11 = .ok (.bipush (-3), 2) := by decide +kernel
theorem dX7_refuses_13 : decode cX7_refuses 13 = .ok (.ireturn, 1) := by decide +kernel
theorem dX7_refuses_14 : decode cX7_refuses 14 = .ok (.aload_n 0, 1) := by decide +kernel
theorem dX7_refuses_15 : decode cX7_refuses 15 = .ok (.getfield 99, 3) := by decide +kernel
theorem dX7_refuses_18 : decode cX7_refuses 18 = .ok (.iload_n 1, 1) := by decide +kernel
theorem dX7_refuses_19 : decode cX7_refuses 19 = .ok (.baload, 1) := by decide +kernel
theorem dX7_refuses_20 : decode cX7_refuses 20 = .ok (.ifCond .eq 6, 3) := by decide +kernel
theorem dX7_refuses_23 : decode cX7_refuses 23 = .ok (.bipush (-6), 2) := by decide +kernel
theorem dX7_refuses_25 : decode cX7_refuses 25 = .ok (.ireturn, 1) := by decide +kernel
theorem dX7_refuses_26 : decode cX7_refuses 26 = .ok (.lload_n 2, 1) := by decide +kernel
theorem dX7_refuses_27 : decode cX7_refuses 27 = .ok (.l2i, 1) := by decide +kernel
theorem dX7_refuses_28 : decode cX7_refuses 28 = .ok (.istore 4, 2) := by decide +kernel
theorem dX7_refuses_30 : decode cX7_refuses 30 = .ok (.iload 4, 2) := by decide +kernel
theorem dX7_refuses_32 : decode cX7_refuses 32 = .ok (.aload_n 0, 1) := by decide +kernel
theorem dX7_refuses_33 : decode cX7_refuses 33 = .ok (.getfield 13, 3) := by decide +kernel
theorem dX7_refuses_36 : decode cX7_refuses 36 = .ok (.iload_n 1, 1) := by decide +kernel
theorem dX7_refuses_37 : decode cX7_refuses 37 = .ok (.iaload, 1) := by decide +kernel
theorem dX7_refuses_38 : decode cX7_refuses 38 = .ok (.isub, 1) := by decide +kernel
theorem dX7_refuses_39 : decode cX7_refuses 39 = .ok (.istore 5, 2) := by decide +kernel
theorem dX7_refuses_41 : decode cX7_refuses 41 = .ok (.iload 5, 2) := by decide +kernel
theorem dX7_refuses_43 : decode cX7_refuses 43 = .ok (.aload_n 0, 1) := by decide +kernel
theorem dX7_refuses_44 : decode cX7_refuses 44 = .ok (.getfield 158, 3) := by decide +kernel
theorem dX7_refuses_47 : decode cX7_refuses 47 = .ok (.if_icmp .ge 6, 3) := by decide +kernel
theorem dX7_refuses_50 : decode cX7_refuses 50 = .ok (.bipush (-5), 2) := by decide +kernel
theorem dX7_refuses_52 : decode cX7_refuses 52 = .ok (.ireturn, 1) := by decide +kernel
theorem dX7_refuses_53 : decode cX7_refuses 53 = .ok (.aload_n 0, 1) := by decide +kernel
theorem dX7_refuses_54 : decode cX7_refuses 54 = .ok (.getfield 171, 3) := by decide +kernel
theorem dX7_refuses_57 : decode cX7_refuses 57 = .ok (.sipush 300, 3) := by decide +kernel
theorem dX7_refuses_60 : decode cX7_refuses 60 = .ok (.if_icmp .ne 6, 3) := by decide +kernel
theorem dX7_refuses_63 : decode cX7_refuses 63 = .ok (.bipush (-4), 2) := by decide +kernel
theorem dX7_refuses_65 : decode cX7_refuses 65 = .ok (.ireturn, 1) := by decide +kernel
theorem dX7_refuses_66 : decode cX7_refuses 66 = .ok (.iload 5, 2) := by decide +kernel
theorem dX7_refuses_68 : decode cX7_refuses 68 = .ok (.aload_n 0, 1) := by decide +kernel
theorem dX7_refuses_69 : decode cX7_refuses 69 = .ok (.getfield 26, 3) := by decide +kernel
theorem dX7_refuses_72 : decode cX7_refuses 72 = .ok (.iload_n 1, 1) := by decide +kernel
theorem dX7_refuses_73 : decode cX7_refuses 73 = .ok (.iaload, 1) := by decide +kernel
theorem dX7_refuses_74 : decode cX7_refuses 74 = .ok (.if_icmp .ge 6, 3) := by decide +kernel
theorem dX7_refuses_77 : decode cX7_refuses 77 = .ok (.bipush (-7), 2) := by decide +kernel
theorem dX7_refuses_79 : decode cX7_refuses 79 = .ok (.ireturn, 1) := by decide +kernel
theorem dX7_refuses_80 : decode cX7_refuses 80 = .ok (.iconst 0, 1) := by decide +kernel
theorem dX7_refuses_81 : decode cX7_refuses 81 = .ok (.istore 6, 2) := by decide +kernel
theorem dX7_refuses_83 : decode cX7_refuses 83 = .ok (.iload 6, 2) := by decide +kernel
theorem dX7_refuses_85 : decode cX7_refuses 85 = .ok (.bipush 52, 2) := by decide +kernel
theorem dX7_refuses_87 : decode cX7_refuses 87 = .ok (.if_icmp .ge 17, 3) := by decide +kernel
theorem dX7_refuses_90 : decode cX7_refuses 90 = .ok (.aload_n 0, 1) := by decide +kernel
theorem dX7_refuses_91 : decode cX7_refuses 91 = .ok (.getfield 48, 3) := by decide +kernel
theorem dX7_refuses_94 : decode cX7_refuses 94 = .ok (.iload 6, 2) := by decide +kernel
theorem dX7_refuses_96 : decode cX7_refuses 96 = .ok (.iconst 0, 1) := by decide +kernel
theorem dX7_refuses_97 : decode cX7_refuses 97 = .ok (.iastore, 1) := by decide +kernel
theorem dX7_refuses_98 : decode cX7_refuses 98 = .ok (.iinc 6 1, 3) := by decide +kernel
theorem dX7_refuses_101 : decode cX7_refuses 101 = .ok (.goto (-18), 3) := by decide +kernel
theorem dX7_refuses_104 : decode cX7_refuses 104 = .ok (.iconst 0, 1) := by decide +kernel
theorem dX7_refuses_105 : decode cX7_refuses 105 = .ok (.istore 6, 2) := by decide +kernel
theorem dX7_refuses_107 : decode cX7_refuses 107 = .ok (.iload 6, 2) := by decide +kernel
theorem dX7_refuses_109 : decode cX7_refuses 109 = .ok (.aload_n 0, 1) := by decide +kernel
theorem dX7_refuses_110 : decode cX7_refuses 110 = .ok (.getfield 171, 3) := by decide +kernel
theorem dX7_refuses_113 : decode cX7_refuses 113 = .ok (.if_icmp .ge 151, 3) := by decide +kernel
theorem dX7_refuses_116 : decode cX7_refuses 116 = .ok (.aload_n 0, 1) := by decide +kernel
theorem dX7_refuses_117 : decode cX7_refuses 117 = .ok (.getfield 39, 3) := by decide +kernel
theorem dX7_refuses_120 : decode cX7_refuses 120 = .ok (.iload 6, 2) := by decide +kernel
theorem dX7_refuses_122 : decode cX7_refuses 122 = .ok (.iaload, 1) := by decide +kernel
theorem dX7_refuses_123 : decode cX7_refuses 123 = .ok (.iload_n 1, 1) := by decide +kernel
theorem dX7_refuses_124 : decode cX7_refuses 124 = .ok (.if_icmp .ne 44, 3) := by decide +kernel
theorem dX7_refuses_127 : decode cX7_refuses 127 = .ok (.iload 5, 2) := by decide +kernel
theorem dX7_refuses_129 : decode cX7_refuses 129 = .ok (.aload_n 0, 1) := by decide +kernel
theorem dX7_refuses_130 : decode cX7_refuses 130 = .ok (.getfield 42, 3) := by decide +kernel
theorem dX7_refuses_133 : decode cX7_refuses 133 = .ok (.iload 6, 2) := by decide +kernel
theorem dX7_refuses_135 : decode cX7_refuses 135 = .ok (.iaload, 1) := by decide +kernel
theorem dX7_refuses_136 : decode cX7_refuses 136 = .ok (.aload_n 0, 1) := by decide +kernel
theorem dX7_refuses_137 : decode cX7_refuses 137 = .ok (.getfield 17, 3) := by decide +kernel
theorem dX7_refuses_140 : decode cX7_refuses 140 = .ok (.iload_n 1, 1) := by decide +kernel
theorem dX7_refuses_141 : decode cX7_refuses 141 = .ok (.iaload, 1) := by decide +kernel
theorem dX7_refuses_142 : decode cX7_refuses 142 = .ok (.iadd, 1) := by decide +kernel
theorem dX7_refuses_143 : decode cX7_refuses 143 = .ok (.if_icmp .ge 25, 3) := by decide +kernel
theorem dX7_refuses_146 : decode cX7_refuses 146 = .ok (.aload_n 0, 1) := by decide +kernel
theorem dX7_refuses_147 : decode cX7_refuses 147 = .ok (.getfield 45, 3) := by decide +kernel
theorem dX7_refuses_150 : decode cX7_refuses 150 = .ok (.iload 6, 2) := by decide +kernel
theorem dX7_refuses_152 : decode cX7_refuses 152 = .ok (.iaload, 1) := by decide +kernel
theorem dX7_refuses_153 : decode cX7_refuses 153 = .ok (.iload 4, 2) := by decide +kernel
theorem dX7_refuses_155 : decode cX7_refuses 155 = .ok (.aload_n 0, 1) := by decide +kernel
theorem dX7_refuses_156 : decode cX7_refuses 156 = .ok (.getfield 17, 3) := by decide +kernel
theorem dX7_refuses_159 : decode cX7_refuses 159 = .ok (.iload_n 1, 1) := by decide +kernel
theorem dX7_refuses_160 : decode cX7_refuses 160 = .ok (.iaload, 1) := by decide +kernel
theorem dX7_refuses_161 : decode cX7_refuses 161 = .ok (.iadd, 1) := by decide +kernel
theorem dX7_refuses_162 : decode cX7_refuses 162 = .ok (.if_icmp .ge 6, 3) := by decide +kernel
theorem dX7_refuses_165 : decode cX7_refuses 165 = .ok (.bipush (-7), 2) := by decide +kernel
theorem dX7_refuses_167 : decode cX7_refuses 167 = .ok (.ireturn, 1) := by decide +kernel
theorem dX7_refuses_168 : decode cX7_refuses 168 = .ok (.aload_n 0, 1) := by decide +kernel
theorem dX7_refuses_169 : decode cX7_refuses 169 = .ok (.getfield 45, 3) := by decide +kernel
theorem dX7_refuses_172 : decode cX7_refuses 172 = .ok (.iload 6, 2) := by decide +kernel
theorem dX7_refuses_174 : decode cX7_refuses 174 = .ok (.iaload, 1) := by decide +kernel
theorem dX7_refuses_175 : decode cX7_refuses 175 = .ok (.iload 5, 2) := by decide +kernel
theorem dX7_refuses_177 : decode cX7_refuses 177 = .ok (.if_icmp .le 13, 3) := by decide +kernel
theorem dX7_refuses_180 : decode cX7_refuses 180 = .ok (.aload_n 0, 1) := by decide +kernel
theorem dX7_refuses_181 : decode cX7_refuses 181 = .ok (.getfield 45, 3) := by decide +kernel
theorem dX7_refuses_184 : decode cX7_refuses 184 = .ok (.iload 6, 2) := by decide +kernel
theorem dX7_refuses_186 : decode cX7_refuses 186 = .ok (.iaload, 1) := by decide +kernel
theorem dX7_refuses_187 : decode cX7_refuses 187 = .ok (.goto 5, 3) := by decide +kernel
theorem dX7_refuses_190 : decode cX7_refuses 190 = .ok (.iload 5, 2) := by decide +kernel
theorem dX7_refuses_192 : decode cX7_refuses 192 = .ok (.istore 7, 2) := by decide +kernel
theorem dX7_refuses_194 : decode cX7_refuses 194 = .ok (.aload_n 0, 1) := by decide +kernel
theorem dX7_refuses_195 : decode cX7_refuses 195 = .ok (.getfield 42, 3) := by decide +kernel
theorem dX7_refuses_198 : decode cX7_refuses 198 = .ok (.iload 6, 2) := by decide +kernel
theorem dX7_refuses_200 : decode cX7_refuses 200 = .ok (.iaload, 1) := by decide +kernel
theorem dX7_refuses_201 : decode cX7_refuses 201 = .ok (.iload 4, 2) := by decide +kernel
theorem dX7_refuses_203 : decode cX7_refuses 203 = .ok (.if_icmp .ge 13, 3) := by decide +kernel
theorem dX7_refuses_206 : decode cX7_refuses 206 = .ok (.aload_n 0, 1) := by decide +kernel
theorem dX7_refuses_207 : decode cX7_refuses 207 = .ok (.getfield 42, 3) := by decide +kernel
theorem dX7_refuses_210 : decode cX7_refuses 210 = .ok (.iload 6, 2) := by decide +kernel
theorem dX7_refuses_212 : decode cX7_refuses 212 = .ok (.iaload, 1) := by decide +kernel
theorem dX7_refuses_213 : decode cX7_refuses 213 = .ok (.goto 5, 3) := by decide +kernel
theorem dX7_refuses_216 : decode cX7_refuses 216 = .ok (.iload 4, 2) := by decide +kernel
theorem dX7_refuses_218 : decode cX7_refuses 218 = .ok (.istore 8, 2) := by decide +kernel
theorem dX7_refuses_220 : decode cX7_refuses 220 = .ok (.iload 7, 2) := by decide +kernel
theorem dX7_refuses_222 : decode cX7_refuses 222 = .ok (.iload 8, 2) := by decide +kernel
theorem dX7_refuses_224 : decode cX7_refuses 224 = .ok (.if_icmp .lt 6, 3) := by decide +kernel
theorem dX7_refuses_227 : decode cX7_refuses 227 = .ok (.goto 31, 3) := by decide +kernel
theorem dX7_refuses_230 : decode cX7_refuses 230 = .ok (.aload_n 0, 1) := by decide +kernel
theorem dX7_refuses_231 : decode cX7_refuses 231 = .ok (.getfield 48, 3) := by decide +kernel
theorem dX7_refuses_234 : decode cX7_refuses 234 = .ok (.iload 7, 2) := by decide +kernel
theorem dX7_refuses_236 : decode cX7_refuses 236 = .ok (.iload 5, 2) := by decide +kernel
theorem dX7_refuses_238 : decode cX7_refuses 238 = .ok (.isub, 1) := by decide +kernel
theorem dX7_refuses_239 : decode cX7_refuses 239 = .ok (.dup2, 1) := by decide +kernel
theorem dX7_refuses_240 : decode cX7_refuses 240 = .ok (.iaload, 1) := by decide +kernel
theorem dX7_refuses_241 : decode cX7_refuses 241 = .ok (.iconst 1, 1) := by decide +kernel
theorem dX7_refuses_242 : decode cX7_refuses 242 = .ok (.iadd, 1) := by decide +kernel
theorem dX7_refuses_243 : decode cX7_refuses 243 = .ok (.iastore, 1) := by decide +kernel
theorem dX7_refuses_244 : decode cX7_refuses 244 = .ok (.aload_n 0, 1) := by decide +kernel
theorem dX7_refuses_245 : decode cX7_refuses 245 = .ok (.getfield 48, 3) := by decide +kernel
theorem dX7_refuses_248 : decode cX7_refuses 248 = .ok (.iload 8, 2) := by decide +kernel
theorem dX7_refuses_250 : decode cX7_refuses 250 = .ok (.iload 5, 2) := by decide +kernel
theorem dX7_refuses_252 : decode cX7_refuses 252 = .ok (.isub, 1) := by decide +kernel
theorem dX7_refuses_253 : decode cX7_refuses 253 = .ok (.dup2, 1) := by decide +kernel
theorem dX7_refuses_254 : decode cX7_refuses 254 = .ok (.iaload, 1) := by decide +kernel
theorem dX7_refuses_255 : decode cX7_refuses 255 = .ok (.iconst 1, 1) := by decide +kernel
theorem dX7_refuses_256 : decode cX7_refuses 256 = .ok (.isub, 1) := by decide +kernel
theorem dX7_refuses_257 : decode cX7_refuses 257 = .ok (.iastore, 1) := by decide +kernel
theorem dX7_refuses_258 : decode cX7_refuses 258 = .ok (.iinc 6 1, 3) := by decide +kernel
theorem dX7_refuses_261 : decode cX7_refuses 261 = .ok (.goto (-154), 3) := by decide +kernel
theorem dX7_refuses_264 : decode cX7_refuses 264 = .ok (.iconst 1, 1) := by decide +kernel
theorem dX7_refuses_265 : decode cX7_refuses 265 = .ok (.istore 6, 2) := by decide +kernel
theorem dX7_refuses_267 : decode cX7_refuses 267 = .ok (.iconst 0, 1) := by decide +kernel
theorem dX7_refuses_268 : decode cX7_refuses 268 = .ok (.istore 7, 2) := by decide +kernel
theorem dX7_refuses_270 : decode cX7_refuses 270 = .ok (.iload 7, 2) := by decide +kernel
theorem dX7_refuses_272 : decode cX7_refuses 272 = .ok (.iload 4, 2) := by decide +kernel
theorem dX7_refuses_274 : decode cX7_refuses 274 = .ok (.iload 5, 2) := by decide +kernel
theorem dX7_refuses_276 : decode cX7_refuses 276 = .ok (.isub, 1) := by decide +kernel
theorem dX7_refuses_277 : decode cX7_refuses 277 = .ok (.if_icmp .ge 33, 3) := by decide +kernel
theorem dX7_refuses_280 : decode cX7_refuses 280 = .ok (.iload 6, 2) := by decide +kernel
theorem dX7_refuses_282 : decode cX7_refuses 282 = .ok (.aload_n 0, 1) := by decide +kernel
theorem dX7_refuses_283 : decode cX7_refuses 283 = .ok (.getfield 48, 3) := by decide +kernel
theorem dX7_refuses_286 : decode cX7_refuses 286 = .ok (.iload 7, 2) := by decide +kernel
theorem dX7_refuses_288 : decode cX7_refuses 288 = .ok (.iaload, 1) := by decide +kernel
theorem dX7_refuses_289 : decode cX7_refuses 289 = .ok (.iadd, 1) := by decide +kernel
theorem dX7_refuses_290 : decode cX7_refuses 290 = .ok (.istore 6, 2) := by decide +kernel
theorem dX7_refuses_292 : decode cX7_refuses 292 = .ok (.iload 6, 2) := by decide +kernel
theorem dX7_refuses_294 : decode cX7_refuses 294 = .ok (.aload_n 0, 1) := by decide +kernel
theorem dX7_refuses_295 : decode cX7_refuses 295 = .ok (.getfield 126, 3) := by decide +kernel
theorem dX7_refuses_298 : decode cX7_refuses 298 = .ok (.if_icmp .le 6, 3) := by decide +kernel
theorem dX7_refuses_301 : decode cX7_refuses 301 = .ok (.bipush (-8), 2) := by decide +kernel
theorem dX7_refuses_303 : decode cX7_refuses 303 = .ok (.ireturn, 1) := by decide +kernel
theorem dX7_refuses_304 : decode cX7_refuses 304 = .ok (.iinc 7 1, 3) := by decide +kernel
theorem dX7_refuses_307 : decode cX7_refuses 307 = .ok (.goto (-37), 3) := by decide +kernel
theorem dX7_refuses_310 : decode cX7_refuses 310 = .ok (.iconst 0, 1) := by decide +kernel
theorem dX7_refuses_311 : decode cX7_refuses 311 = .ok (.ireturn, 1) := by decide +kernel
theorem dX7_schedules_0 : decode cX7_schedules 0 = .ok (.aload_n 0, 1) := by decide +kernel
theorem dX7_schedules_1 : decode cX7_schedules 1 = .ok (.getfield 39, 3) := by decide +kernel
theorem dX7_schedules_4 : decode cX7_schedules 4 = .ok (.aload_n 0, 1) := by decide +kernel
theorem dX7_schedules_5 : decode cX7_schedules 5 = .ok (.getfield 171, 3) := by decide +kernel
theorem dX7_schedules_8 : decode cX7_schedules 8 = .ok (.iload_n 1, 1) := by decide +kernel
theorem dX7_schedules_9 : decode cX7_schedules 9 = .ok (.iastore, 1) := by decide +kernel
theorem dX7_schedules_10 : decode cX7_schedules 10 = .ok (.aload_n 0, 1) := by decide +kernel
theorem dX7_schedules_11 : decode cX7_schedules 11 = .ok (.getfield 42, 3) := by decide +kernel
theorem dX7_schedules_14 : decode cX7_schedules 14 = .ok (.aload_n 0, 1) := by decide +kernel
theorem dX7_schedules_15 : decode cX7_schedules 15 = .ok (.getfield 171, 3) := by decide +kernel
theorem dX7_schedules_18 : decode cX7_schedules 18 = .ok (.iload_n 2, 1) := by decide +kernel
theorem dX7_schedules_19 : decode cX7_schedules 19 = .ok (.iastore, 1) := by decide +kernel
theorem dX7_schedules_20 : decode cX7_schedules 20 = .ok (.aload_n 0, 1) := by decide +kernel
theorem dX7_schedules_21 : decode cX7_schedules 21 = .ok (.getfield 45, 3) := by decide +kernel
theorem dX7_schedules_24 : decode cX7_schedules 24 = .ok (.aload_n 0, 1) := by decide +kernel
theorem dX7_schedules_25 : decode cX7_schedules 25 = .ok (.getfield 171, 3) := by decide +kernel
theorem dX7_schedules_28 : decode cX7_schedules 28 = .ok (.iload_n 2, 1) := by decide +kernel
theorem dX7_schedules_29 : decode cX7_schedules 29 = .ok (.aload_n 0, 1) := by decide +kernel
theorem dX7_schedules_30 : decode cX7_schedules 30 = .ok (.getfield 13, 3) := by decide +kernel
theorem dX7_schedules_33 : decode cX7_schedules 33 = .ok (.iload_n 1, 1) := by decide +kernel
theorem dX7_schedules_34 : decode cX7_schedules 34 = .ok (.iaload, 1) := by decide +kernel
theorem dX7_schedules_35 : decode cX7_schedules 35 = .ok (.isub, 1) := by decide +kernel
theorem dX7_schedules_36 : decode cX7_schedules 36 = .ok (.iastore, 1) := by decide +kernel
theorem dX7_schedules_37 : decode cX7_schedules 37 = .ok (.aload_n 0, 1) := by decide +kernel
theorem dX7_schedules_38 : decode cX7_schedules 38 = .ok (.dup, 1) := by decide +kernel
theorem dX7_schedules_39 : decode cX7_schedules 39 = .ok (.getfield 171, 3) := by decide +kernel
theorem dX7_schedules_42 : decode cX7_schedules 42 = .ok (.iconst 1, 1) := by decide +kernel
theorem dX7_schedules_43 : decode cX7_schedules 43 = .ok (.iadd, 1) := by decide +kernel
theorem dX7_schedules_44 : decode cX7_schedules 44 = .ok (.putfield 171, 3) := by decide +kernel
theorem dX7_schedules_47 : decode cX7_schedules 47 = .ok (.return_, 1) := by decide +kernel
theorem dX7_removes_0 : decode cX7_removes 0 = .ok (.aload_n 0, 1) := by decide +kernel
theorem dX7_removes_1 : decode cX7_removes 1 = .ok (.dup, 1) := by decide +kernel
theorem dX7_removes_2 : decode cX7_removes 2 = .ok (.getfield 171, 3) := by decide +kernel
theorem dX7_removes_5 : decode cX7_removes 5 = .ok (.iconst 1, 1) := by decide +kernel
theorem dX7_removes_6 : decode cX7_removes 6 = .ok (.isub, 1) := by decide +kernel
theorem dX7_removes_7 : decode cX7_removes 7 = .ok (.putfield 171, 3) := by decide +kernel
theorem dX7_removes_10 : decode cX7_removes 10 = .ok (.aload_n 0, 1) := by decide +kernel
theorem dX7_removes_11 : decode cX7_removes 11 = .ok (.getfield 39, 3) := by decide +kernel
theorem dX7_removes_14 : decode cX7_removes 14 = .ok (.iload_n 1, 1) := by decide +kernel
theorem dX7_removes_15 : decode cX7_removes 15 = .ok (.aload_n 0, 1) := by decide +kernel
theorem dX7_removes_16 : decode cX7_removes 16 = .ok (.getfield 39, 3) := by decide +kernel
theorem dX7_removes_19 : decode cX7_removes 19 = .ok (.aload_n 0, 1) := by decide +kernel
theorem dX7_removes_20 : decode cX7_removes 20 = .ok (.getfield 171, 3) := by decide +kernel
theorem dX7_removes_23 : decode cX7_removes 23 = .ok (.iaload, 1) := by decide +kernel
theorem dX7_removes_24 : decode cX7_removes 24 = .ok (.iastore, 1) := by decide +kernel
theorem dX7_removes_25 : decode cX7_removes 25 = .ok (.aload_n 0, 1) := by decide +kernel
theorem dX7_removes_26 : decode cX7_removes 26 = .ok (.getfield 42, 3) := by decide +kernel
theorem dX7_removes_29 : decode cX7_removes 29 = .ok (.iload_n 1, 1) := by decide +kernel
theorem dX7_removes_30 : decode cX7_removes 30 = .ok (.aload_n 0, 1) := by decide +kernel
theorem dX7_removes_31 : decode cX7_removes 31 = .ok (.getfield 42, 3) := by decide +kernel
theorem dX7_removes_34 : decode cX7_removes 34 = .ok (.aload_n 0, 1) := by decide +kernel
theorem dX7_removes_35 : decode cX7_removes 35 = .ok (.getfield 171, 3) := by decide +kernel
theorem dX7_removes_38 : decode cX7_removes 38 = .ok (.iaload, 1) := by decide +kernel
theorem dX7_removes_39 : decode cX7_removes 39 = .ok (.iastore, 1) := by decide +kernel
theorem dX7_removes_40 : decode cX7_removes 40 = .ok (.aload_n 0, 1) := by decide +kernel
theorem dX7_removes_41 : decode cX7_removes 41 = .ok (.getfield 45, 3) := by decide +kernel
theorem dX7_removes_44 : decode cX7_removes 44 = .ok (.iload_n 1, 1) := by decide +kernel
theorem dX7_removes_45 : decode cX7_removes 45 = .ok (.aload_n 0, 1) := by decide +kernel
theorem dX7_removes_46 : decode cX7_removes 46 = .ok (.getfield 45, 3) := by decide +kernel
theorem dX7_removes_49 : decode cX7_removes 49 = .ok (.aload_n 0, 1) := by decide +kernel
theorem dX7_removes_50 : decode cX7_removes 50 = .ok (.getfield 171, 3) := by decide +kernel
theorem dX7_removes_53 : decode cX7_removes 53 = .ok (.iaload, 1) := by decide +kernel
theorem dX7_removes_54 : decode cX7_removes 54 = .ok (.iastore, 1) := by decide +kernel
theorem dX7_removes_55 : decode cX7_removes 55 = .ok (.return_, 1) := by decide +kernel
theorem dX7_strokeOf_0 : decode cX7_strokeOf 0 = .ok (.iconst 0, 1) := by decide +kernel
theorem dX7_strokeOf_1 : decode cX7_strokeOf 1 = .ok (.istore_n 3, 1) := by decide +kernel
theorem dX7_strokeOf_2 : decode cX7_strokeOf 2 = .ok (.iload_n 3, 1) := by decide +kernel
theorem dX7_strokeOf_3 : decode cX7_strokeOf 3 = .ok (.aload_n 0, 1) := by decide +kernel
theorem dX7_strokeOf_4 : decode cX7_strokeOf 4 = .ok (.getfield 171, 3) := by decide +kernel
theorem dX7_strokeOf_7 : decode cX7_strokeOf 7 = .ok (.if_icmp .ge 31, 3) := by decide +kernel
theorem dX7_strokeOf_10 : decode cX7_strokeOf 10 = .ok (.aload_n 0, 1) := by decide +kernel
theorem dX7_strokeOf_11 : decode cX7_strokeOf 11 = .ok (.getfield 39, 3) := by decide +kernel
theorem dX7_strokeOf_14 : decode cX7_strokeOf 14 = .ok (.iload_n 3, 1) := by decide +kernel
theorem dX7_strokeOf_15 : decode cX7_strokeOf 15 = .ok (.iaload, 1) := by decide +kernel
theorem dX7_strokeOf_16 : decode cX7_strokeOf 16 = .ok (.iload_n 1, 1) := by decide +kernel
theorem dX7_strokeOf_17 : decode cX7_strokeOf 17 = .ok (.if_icmp .ne 15, 3) := by decide +kernel
theorem dX7_strokeOf_20 : decode cX7_strokeOf 20 = .ok (.aload_n 0, 1) := by decide +kernel
theorem dX7_strokeOf_21 : decode cX7_strokeOf 21 = .ok (.getfield 42, 3) := by decide +kernel
theorem dX7_strokeOf_24 : decode cX7_strokeOf 24 = .ok (.iload_n 3, 1) := by decide +kernel
theorem dX7_strokeOf_25 : decode cX7_strokeOf 25 = .ok (.iaload, 1) := by decide +kernel
theorem dX7_strokeOf_26 : decode cX7_strokeOf 26 = .ok (.iload_n 2, 1) := by decide +kernel
theorem dX7_strokeOf_27 : decode cX7_strokeOf 27 = .ok (.if_icmp .ne 5, 3) := by decide +kernel
theorem dX7_strokeOf_30 : decode cX7_strokeOf 30 = .ok (.iload_n 3, 1) := by decide +kernel
theorem dX7_strokeOf_31 : decode cX7_strokeOf 31 = .ok (.ireturn, 1) := by decide +kernel
theorem dX7_strokeOf_32 : decode cX7_strokeOf 32 = .ok (.iinc 3 1, 3) := by decide +kernel
theorem dX7_strokeOf_35 : decode cX7_strokeOf 35 = .ok (.goto (-33), 3) := by decide +kernel
theorem dX7_strokeOf_38 : decode cX7_strokeOf 38 = .ok (.iconst (-1), 1) := by decide +kernel
theorem dX7_strokeOf_39 : decode cX7_strokeOf 39 = .ok (.ireturn, 1) := by decide +kernel
theorem dX7_scheduleStroke_0 : decode cX7_scheduleStroke 0 = .ok (.aload_n 0, 1) := by decide +kernel
theorem dX7_scheduleStroke_1 : decode cX7_scheduleStroke 1 = .ok (.iconst 0, 1) := by decide +kernel
theorem dX7_scheduleStroke_2 : decode cX7_scheduleStroke 2 = .ok (.putfield 1, 3) := by decide +kernel
theorem dX7_scheduleStroke_5 : decode cX7_scheduleStroke 5 = .ok (.aload_n 0, 1) := by decide +kernel
theorem dX7_scheduleStroke_6 : decode cX7_scheduleStroke 6 = .ok (.iload_n 1, 1) := by decide +kernel
theorem dX7_scheduleStroke_7 : decode cX7_scheduleStroke 7 = .ok (.invokevirtual 149, 3) := by decide +kernel
theorem dX7_scheduleStroke_10 : decode cX7_scheduleStroke 10 = .ok (.ifCond .ne 6, 3) := by decide +kernel
theorem dX7_scheduleStroke_13 : decode cX7_scheduleStroke 13 = .ok (.bipush (-2), 2) := by decide +kernel
theorem dX7_scheduleStroke_15 : decode cX7_scheduleStroke 15 = .ok (.ireturn, 1) := by decide +kernel
theorem dX7_scheduleStroke_16 : decode cX7_scheduleStroke 16 = .ok (.aload_n 0, 1) := by decide +kernel
theorem dX7_scheduleStroke_17 : decode cX7_scheduleStroke 17 = .ok (.iload_n 1, 1) := by decide +kernel
theorem dX7_scheduleStroke_18 : decode cX7_scheduleStroke 18 = .ok (.iload_n 2, 1) := by decide +kernel
theorem dX7_scheduleStroke_19 : decode cX7_scheduleStroke 19 = .ok (.i2l, 1) := by decide +kernel
theorem dX7_scheduleStroke_20 : decode cX7_scheduleStroke 20 = .ok (.invokevirtual 174, 3) := by decide +kernel
theorem dX7_scheduleStroke_23 : decode cX7_scheduleStroke 23 = .ok (.istore_n 3, 1) := by decide +kernel
theorem dX7_scheduleStroke_24 : decode cX7_scheduleStroke 24 = .ok (.iload_n 3, 1) := by decide +kernel
theorem dX7_scheduleStroke_25 : decode cX7_scheduleStroke 25 = .ok (.ifCond .eq 5, 3) := by decide +kernel
theorem dX7_scheduleStroke_28 : decode cX7_scheduleStroke 28 = .ok (.iload_n 3, 1) := by decide +kernel
theorem dX7_scheduleStroke_29 : decode cX7_scheduleStroke 29 = .ok (.ireturn, 1) := by decide +kernel
theorem dX7_scheduleStroke_30 : decode cX7_scheduleStroke 30 = .ok (.aload_n 0, 1) := by decide +kernel
theorem dX7_scheduleStroke_31 : decode cX7_scheduleStroke 31 = .ok (.iload_n 1, 1) := by decide +kernel
theorem dX7_scheduleStroke_32 : decode cX7_scheduleStroke 32 = .ok (.iload_n 2, 1) := by decide +kernel
theorem dX7_scheduleStroke_33 : decode cX7_scheduleStroke 33 = .ok (.invokevirtual 178, 3) := by decide +kernel
theorem dX7_scheduleStroke_36 : decode cX7_scheduleStroke 36 = .ok (.iload_n 2, 1) := by decide +kernel
theorem dX7_scheduleStroke_37 : decode cX7_scheduleStroke 37 = .ok (.aload_n 0, 1) := by decide +kernel
theorem dX7_scheduleStroke_38 : decode cX7_scheduleStroke 38 = .ok (.getfield 13, 3) := by decide +kernel
theorem dX7_scheduleStroke_41 : decode cX7_scheduleStroke 41 = .ok (.iload_n 1, 1) := by decide +kernel
theorem dX7_scheduleStroke_42 : decode cX7_scheduleStroke 42 = .ok (.iaload, 1) := by decide +kernel
theorem dX7_scheduleStroke_43 : decode cX7_scheduleStroke 43 = .ok (.isub, 1) := by decide +kernel
theorem dX7_scheduleStroke_44 : decode cX7_scheduleStroke 44 = .ok (.ireturn, 1) := by decide +kernel
theorem dX7_cancelStroke_0 : decode cX7_cancelStroke 0 = .ok (.aload_n 0, 1) := by decide +kernel
theorem dX7_cancelStroke_1 : decode cX7_cancelStroke 1 = .ok (.iconst 0, 1) := by decide +kernel
theorem dX7_cancelStroke_2 : decode cX7_cancelStroke 2 = .ok (.putfield 1, 3) := by decide +kernel
theorem dX7_cancelStroke_5 : decode cX7_cancelStroke 5 = .ok (.aload_n 0, 1) := by decide +kernel
theorem dX7_cancelStroke_6 : decode cX7_cancelStroke 6 = .ok (.iload_n 1, 1) := by decide +kernel
theorem dX7_cancelStroke_7 : decode cX7_cancelStroke 7 = .ok (.invokevirtual 149, 3) := by decide +kernel
theorem dX7_cancelStroke_10 : decode cX7_cancelStroke 10 = .ok (.ifCond .eq 12, 3) := by decide +kernel
theorem dX7_cancelStroke_13 : decode cX7_cancelStroke 13 = .ok (.aload_n 0, 1) := by decide +kernel
theorem dX7_cancelStroke_14 : decode cX7_cancelStroke 14 = .ok (.iload_n 1, 1) := by decide +kernel
theorem dX7_cancelStroke_15 : decode cX7_cancelStroke 15 = .ok (.iload_n 2, 1) := by decide +kernel
theorem dX7_cancelStroke_16 : decode cX7_cancelStroke 16 = .ok (.invokevirtual 182, 3) := by decide +kernel
theorem dX7_cancelStroke_19 : decode cX7_cancelStroke 19 = .ok (.goto 4, 3) := by decide +kernel
theorem dX7_cancelStroke_22 : decode cX7_cancelStroke 22 = .ok (.iconst (-1), 1) := by decide +kernel
theorem dX7_cancelStroke_23 : decode cX7_cancelStroke 23 = .ok (.istore_n 3, 1) := by decide +kernel
theorem dX7_cancelStroke_24 : decode cX7_cancelStroke 24 = .ok (.iload_n 3, 1) := by decide +kernel
theorem dX7_cancelStroke_25 : decode cX7_cancelStroke 25 = .ok (.iconst (-1), 1) := by decide +kernel
theorem dX7_cancelStroke_26 : decode cX7_cancelStroke 26 = .ok (.if_icmp .ne 6, 3) := by decide +kernel
theorem dX7_cancelStroke_29 : decode cX7_cancelStroke 29 = .ok (.bipush (-2), 2) := by decide +kernel
theorem dX7_cancelStroke_31 : decode cX7_cancelStroke 31 = .ok (.ireturn, 1) := by decide +kernel
theorem dX7_cancelStroke_32 : decode cX7_cancelStroke 32 = .ok (.aload_n 0, 1) := by decide +kernel
theorem dX7_cancelStroke_33 : decode cX7_cancelStroke 33 = .ok (.getfield 45, 3) := by decide +kernel
theorem dX7_cancelStroke_36 : decode cX7_cancelStroke 36 = .ok (.iload_n 3, 1) := by decide +kernel
theorem dX7_cancelStroke_37 : decode cX7_cancelStroke 37 = .ok (.iaload, 1) := by decide +kernel
theorem dX7_cancelStroke_38 : decode cX7_cancelStroke 38 = .ok (.aload_n 0, 1) := by decide +kernel
theorem dX7_cancelStroke_39 : decode cX7_cancelStroke 39 = .ok (.getfield 158, 3) := by decide +kernel
theorem dX7_cancelStroke_42 : decode cX7_cancelStroke 42 = .ok (.if_icmp .gt 6, 3) := by decide +kernel
theorem dX7_cancelStroke_45 : decode cX7_cancelStroke 45 = .ok (.bipush (-5), 2) := by decide +kernel
theorem dX7_cancelStroke_47 : decode cX7_cancelStroke 47 = .ok (.ireturn, 1) := by decide +kernel
theorem dX7_cancelStroke_48 : decode cX7_cancelStroke 48 = .ok (.aload_n 0, 1) := by decide +kernel
theorem dX7_cancelStroke_49 : decode cX7_cancelStroke 49 = .ok (.iload_n 3, 1) := by decide +kernel
theorem dX7_cancelStroke_50 : decode cX7_cancelStroke 50 = .ok (.invokevirtual 186, 3) := by decide +kernel
theorem dX7_cancelStroke_53 : decode cX7_cancelStroke 53 = .ok (.aload_n 0, 1) := by decide +kernel
theorem dX7_cancelStroke_54 : decode cX7_cancelStroke 54 = .ok (.getfield 171, 3) := by decide +kernel
theorem dX7_cancelStroke_57 : decode cX7_cancelStroke 57 = .ok (.ireturn, 1) := by decide +kernel
theorem dX7_scheduledCount_0 : decode cX7_scheduledCount 0 = .ok (.aload_n 0, 1) := by decide +kernel
theorem dX7_scheduledCount_1 : decode cX7_scheduledCount 1 = .ok (.iconst 0, 1) := by decide +kernel
theorem dX7_scheduledCount_2 : decode cX7_scheduledCount 2 = .ok (.putfield 1, 3) := by decide +kernel
theorem dX7_scheduledCount_5 : decode cX7_scheduledCount 5 = .ok (.aload_n 0, 1) := by decide +kernel
theorem dX7_scheduledCount_6 : decode cX7_scheduledCount 6 = .ok (.getfield 171, 3) := by decide +kernel
theorem dX7_scheduledCount_9 : decode cX7_scheduledCount 9 = .ok (.ireturn, 1) := by decide +kernel
theorem dX7_nextOf_0 : decode cX7_nextOf 0 = .ok (.iconst (-1), 1) := by decide +kernel
theorem dX7_nextOf_1 : decode cX7_nextOf 1 = .ok (.istore_n 2, 1) := by decide +kernel
theorem dX7_nextOf_2 : decode cX7_nextOf 2 = .ok (.iconst 0, 1) := by decide +kernel
theorem dX7_nextOf_3 : decode cX7_nextOf 3 = .ok (.istore_n 3, 1) := by decide +kernel
theorem dX7_nextOf_4 : decode cX7_nextOf 4 = .ok (.iload_n 3, 1) := by decide +kernel
theorem dX7_nextOf_5 : decode cX7_nextOf 5 = .ok (.aload_n 0, 1) := by decide +kernel
theorem dX7_nextOf_6 : decode cX7_nextOf 6 = .ok (.getfield 171, 3) := by decide +kernel
theorem dX7_nextOf_9 : decode cX7_nextOf 9 = .ok (.if_icmp .ge 41, 3) := by decide +kernel
theorem dX7_nextOf_12 : decode cX7_nextOf 12 = .ok (.aload_n 0, 1) := by decide +kernel
theorem dX7_nextOf_13 : decode cX7_nextOf 13 = .ok (.getfield 39, 3) := by decide +kernel
theorem dX7_nextOf_16 : decode cX7_nextOf 16 = .ok (.iload_n 3, 1) := by decide +kernel
theorem dX7_nextOf_17 : decode cX7_nextOf 17 = .ok (.iaload, 1) := by decide +kernel
theorem dX7_nextOf_18 : decode cX7_nextOf 18 = .ok (.iload_n 1, 1) := by decide +kernel
theorem dX7_nextOf_19 : decode cX7_nextOf 19 = .ok (.if_icmp .ne 25, 3) := by decide +kernel
theorem dX7_nextOf_22 : decode cX7_nextOf 22 = .ok (.iload_n 2, 1) := by decide +kernel
theorem dX7_nextOf_23 : decode cX7_nextOf 23 = .ok (.iconst (-1), 1) := by decide +kernel
theorem dX7_nextOf_24 : decode cX7_nextOf 24 = .ok (.if_icmp .eq 13, 3) := by decide +kernel
theorem dX7_nextOf_27 : decode cX7_nextOf 27 = .ok (.aload_n 0, 1) := by decide +kernel
theorem dX7_nextOf_28 : decode cX7_nextOf 28 = .ok (.getfield 42, 3) := by decide +kernel
theorem dX7_nextOf_31 : decode cX7_nextOf 31 = .ok (.iload_n 3, 1) := by decide +kernel
theorem dX7_nextOf_32 : decode cX7_nextOf 32 = .ok (.iaload, 1) := by decide +kernel
theorem dX7_nextOf_33 : decode cX7_nextOf 33 = .ok (.iload_n 2, 1) := by decide +kernel
theorem dX7_nextOf_34 : decode cX7_nextOf 34 = .ok (.if_icmp .ge 10, 3) := by decide +kernel
theorem dX7_nextOf_37 : decode cX7_nextOf 37 = .ok (.aload_n 0, 1) := by decide +kernel
theorem dX7_nextOf_38 : decode cX7_nextOf 38 = .ok (.getfield 42, 3) := by decide +kernel
theorem dX7_nextOf_41 : decode cX7_nextOf 41 = .ok (.iload_n 3, 1) := by decide +kernel
theorem dX7_nextOf_42 : decode cX7_nextOf 42 = .ok (.iaload, 1) := by decide +kernel
theorem dX7_nextOf_43 : decode cX7_nextOf 43 = .ok (.istore_n 2, 1) := by decide +kernel
theorem dX7_nextOf_44 : decode cX7_nextOf 44 = .ok (.iinc 3 1, 3) := by decide +kernel
theorem dX7_nextOf_47 : decode cX7_nextOf 47 = .ok (.goto (-43), 3) := by decide +kernel
theorem dX7_nextOf_50 : decode cX7_nextOf 50 = .ok (.iload_n 2, 1) := by decide +kernel
theorem dX7_nextOf_51 : decode cX7_nextOf 51 = .ok (.ireturn, 1) := by decide +kernel
theorem dX7_nextStroke_0 : decode cX7_nextStroke 0 = .ok (.aload_n 0, 1) := by decide +kernel
theorem dX7_nextStroke_1 : decode cX7_nextStroke 1 = .ok (.iconst 0, 1) := by decide +kernel
theorem dX7_nextStroke_2 : decode cX7_nextStroke 2 = .ok (.putfield 1, 3) := by decide +kernel
theorem dX7_nextStroke_5 : decode cX7_nextStroke 5 = .ok (.aload_n 0, 1) := by decide +kernel
theorem dX7_nextStroke_6 : decode cX7_nextStroke 6 = .ok (.iload_n 1, 1) := by decide +kernel
theorem dX7_nextStroke_7 : decode cX7_nextStroke 7 = .ok (.invokevirtual 149, 3) := by decide +kernel
theorem dX7_nextStroke_10 : decode cX7_nextStroke 10 = .ok (.ifCond .eq 11, 3) := by decide +kernel
theorem dX7_nextStroke_13 : decode cX7_nextStroke 13 = .ok (.aload_n 0, 1) := by decide +kernel
theorem dX7_nextStroke_14 : decode cX7_nextStroke 14 = .ok (.iload_n 1, 1) := by decide +kernel
theorem dX7_nextStroke_15 : decode cX7_nextStroke 15 = .ok (.invokevirtual 190, 3) := by decide +kernel
theorem dX7_nextStroke_18 : decode cX7_nextStroke 18 = .ok (.goto 5, 3) := by decide +kernel
theorem dX7_nextStroke_21 : decode cX7_nextStroke 21 = .ok (.bipush (-2), 2) := by decide +kernel
theorem dX7_nextStroke_23 : decode cX7_nextStroke 23 = .ok (.ireturn, 1) := by decide +kernel
theorem dX7_ranked_0 : decode cX7_ranked 0 = .ok (.iload_n 1, 1) := by decide +kernel
theorem dX7_ranked_1 : decode cX7_ranked 1 = .ok (.ifCond .ge 6, 3) := by decide +kernel
theorem dX7_ranked_4 : decode cX7_ranked 4 = .ok (.bipush (-3), 2) := by decide +kernel
theorem dX7_ranked_6 : decode cX7_ranked 6 = .ok (.ireturn, 1) := by decide +kernel
theorem dX7_ranked_7 : decode cX7_ranked 7 = .ok (.iconst 0, 1) := by decide +kernel
theorem dX7_ranked_8 : decode cX7_ranked 8 = .ok (.istore_n 2, 1) := by decide +kernel
theorem dX7_ranked_9 : decode cX7_ranked 9 = .ok (.iload_n 2, 1) := by decide +kernel
theorem dX7_ranked_10 : decode cX7_ranked 10 = .ok (.aload_n 0, 1) := by decide +kernel
theorem dX7_ranked_11 : decode cX7_ranked 11 = .ok (.getfield 171, 3) := by decide +kernel
theorem dX7_ranked_14 : decode cX7_ranked 14 = .ok (.if_icmp .ge 92, 3) := by decide +kernel
theorem dX7_ranked_17 : decode cX7_ranked 17 = .ok (.iconst 0, 1) := by decide +kernel
theorem dX7_ranked_18 : decode cX7_ranked 18 = .ok (.istore_n 3, 1) := by decide +kernel
theorem dX7_ranked_19 : decode cX7_ranked 19 = .ok (.iconst 0, 1) := by decide +kernel
theorem dX7_ranked_20 : decode cX7_ranked 20 = .ok (.istore 4, 2) := by decide +kernel
theorem dX7_ranked_22 : decode cX7_ranked 22 = .ok (.iload 4, 2) := by decide +kernel
theorem dX7_ranked_24 : decode cX7_ranked 24 = .ok (.aload_n 0, 1) := by decide +kernel
theorem dX7_ranked_25 : decode cX7_ranked 25 = .ok (.getfield 171, 3) := by decide +kernel
theorem dX7_ranked_28 : decode cX7_ranked 28 = .ok (.if_icmp .ge 65, 3) := by decide +kernel
theorem dX7_ranked_31 : decode cX7_ranked 31 = .ok (.iload_n 3, 1) := by decide +kernel
theorem dX7_ranked_32 : decode cX7_ranked 32 = .ok (.aload_n 0, 1) := by decide +kernel
theorem dX7_ranked_33 : decode cX7_ranked 33 = .ok (.getfield 45, 3) := by decide +kernel
theorem dX7_ranked_36 : decode cX7_ranked 36 = .ok (.iload 4, 2) := by decide +kernel
theorem dX7_ranked_38 : decode cX7_ranked 38 = .ok (.iaload, 1) := by decide +kernel
theorem dX7_ranked_39 : decode cX7_ranked 39 = .ok (.aload_n 0, 1) := by decide +kernel
theorem dX7_ranked_40 : decode cX7_ranked 40 = .ok (.getfield 45, 3) := by decide +kernel
theorem dX7_ranked_43 : decode cX7_ranked 43 = .ok (.iload_n 2, 1) := by decide +kernel
theorem dX7_ranked_44 : decode cX7_ranked 44 = .ok (.iaload, 1) := by decide +kernel
theorem dX7_ranked_45 : decode cX7_ranked 45 = .ok (.if_icmp .lt 35, 3) := by decide +kernel
theorem dX7_ranked_48 : decode cX7_ranked 48 = .ok (.aload_n 0, 1) := by decide +kernel
theorem dX7_ranked_49 : decode cX7_ranked 49 = .ok (.getfield 45, 3) := by decide +kernel
theorem dX7_ranked_52 : decode cX7_ranked 52 = .ok (.iload 4, 2) := by decide +kernel
theorem dX7_ranked_54 : decode cX7_ranked 54 = .ok (.iaload, 1) := by decide +kernel
theorem dX7_ranked_55 : decode cX7_ranked 55 = .ok (.aload_n 0, 1) := by decide +kernel
theorem dX7_ranked_56 : decode cX7_ranked 56 = .ok (.getfield 45, 3) := by decide +kernel
theorem dX7_ranked_59 : decode cX7_ranked 59 = .ok (.iload_n 2, 1) := by decide +kernel
theorem dX7_ranked_60 : decode cX7_ranked 60 = .ok (.iaload, 1) := by decide +kernel
theorem dX7_ranked_61 : decode cX7_ranked 61 = .ok (.if_icmp .ne 23, 3) := by decide +kernel
theorem dX7_ranked_64 : decode cX7_ranked 64 = .ok (.aload_n 0, 1) := by decide +kernel
theorem dX7_ranked_65 : decode cX7_ranked 65 = .ok (.getfield 39, 3) := by decide +kernel
theorem dX7_ranked_68 : decode cX7_ranked 68 = .ok (.iload 4, 2) := by decide +kernel
theorem dX7_ranked_70 : decode cX7_ranked 70 = .ok (.iaload, 1) := by decide +kernel
theorem dX7_ranked_71 : decode cX7_ranked 71 = .ok (.aload_n 0, 1) := by decide +kernel
theorem dX7_ranked_72 : decode cX7_ranked 72 = .ok (.getfield 39, 3) := by decide +kernel
theorem dX7_ranked_75 : decode cX7_ranked 75 = .ok (.iload_n 2, 1) := by decide +kernel
theorem dX7_ranked_76 : decode cX7_ranked 76 = .ok (.iaload, 1) := by decide +kernel
theorem dX7_ranked_77 : decode cX7_ranked 77 = .ok (.if_icmp .ge 7, 3) := by decide +kernel
theorem dX7_ranked_80 : decode cX7_ranked 80 = .ok (.iconst 1, 1) := by decide +kernel
theorem dX7_ranked_81 : decode cX7_ranked 81 = .ok (.goto 4, 3) := by decide +kernel
theorem dX7_ranked_84 : decode cX7_ranked 84 = .ok (.iconst 0, 1) := by decide +kernel
theorem dX7_ranked_85 : decode cX7_ranked 85 = .ok (.iadd, 1) := by decide +kernel
theorem dX7_ranked_86 : decode cX7_ranked 86 = .ok (.istore_n 3, 1) := by decide +kernel
theorem dX7_ranked_87 : decode cX7_ranked 87 = .ok (.iinc 4 1, 3) := by decide +kernel
theorem dX7_ranked_90 : decode cX7_ranked 90 = .ok (.goto (-68), 3) := by decide +kernel
theorem dX7_ranked_93 : decode cX7_ranked 93 = .ok (.iload_n 3, 1) := by decide +kernel
theorem dX7_ranked_94 : decode cX7_ranked 94 = .ok (.iload_n 1, 1) := by decide +kernel
theorem dX7_ranked_95 : decode cX7_ranked 95 = .ok (.if_icmp .ne 5, 3) := by decide +kernel
theorem dX7_ranked_98 : decode cX7_ranked 98 = .ok (.iload_n 2, 1) := by decide +kernel
theorem dX7_ranked_99 : decode cX7_ranked 99 = .ok (.ireturn, 1) := by decide +kernel
theorem dX7_ranked_100 : decode cX7_ranked 100 = .ok (.iinc 2 1, 3) := by decide +kernel
theorem dX7_ranked_103 : decode cX7_ranked 103 = .ok (.goto (-94), 3) := by decide +kernel
theorem dX7_ranked_106 : decode cX7_ranked 106 = .ok (.iconst (-1), 1) := by decide +kernel
theorem dX7_ranked_107 : decode cX7_ranked 107 = .ok (.ireturn, 1) := by decide +kernel
theorem dX7_commandTime_0 : decode cX7_commandTime 0 = .ok (.aload_n 0, 1) := by decide +kernel
theorem dX7_commandTime_1 : decode cX7_commandTime 1 = .ok (.iconst 0, 1) := by decide +kernel
theorem dX7_commandTime_2 : decode cX7_commandTime 2 = .ok (.putfield 1, 3) := by decide +kernel
theorem dX7_commandTime_5 : decode cX7_commandTime 5 = .ok (.aload_n 0, 1) := by decide +kernel
theorem dX7_commandTime_6 : decode cX7_commandTime 6 = .ok (.iload_n 1, 1) := by decide +kernel
theorem dX7_commandTime_7 : decode cX7_commandTime 7 = .ok (.invokevirtual 193, 3) := by decide +kernel
theorem dX7_commandTime_10 : decode cX7_commandTime 10 = .ok (.istore_n 2, 1) := by decide +kernel
theorem dX7_commandTime_11 : decode cX7_commandTime 11 = .ok (.iload_n 2, 1) := by decide +kernel
theorem dX7_commandTime_12 : decode cX7_commandTime 12 = .ok (.ifCond .ge 7, 3) := by decide +kernel
theorem dX7_commandTime_15 : decode cX7_commandTime 15 = .ok (.iload_n 2, 1) := by decide +kernel
theorem dX7_commandTime_16 : decode cX7_commandTime 16 = .ok (.goto 9, 3) := by decide +kernel
theorem dX7_commandTime_19 : decode cX7_commandTime 19 = .ok (.aload_n 0, 1) := by decide +kernel
theorem dX7_commandTime_20 : decode cX7_commandTime 20 = .ok (.getfield 45, 3) := by decide +kernel
theorem dX7_commandTime_23 : decode cX7_commandTime 23 = .ok (.iload_n 2, 1) := by decide +kernel
theorem dX7_commandTime_24 : decode cX7_commandTime 24 = .ok (.iaload, 1) := by decide +kernel
theorem dX7_commandTime_25 : decode cX7_commandTime 25 = .ok (.ireturn, 1) := by decide +kernel
theorem dX7_commandBell_0 : decode cX7_commandBell 0 = .ok (.aload_n 0, 1) := by decide +kernel
theorem dX7_commandBell_1 : decode cX7_commandBell 1 = .ok (.iconst 0, 1) := by decide +kernel
theorem dX7_commandBell_2 : decode cX7_commandBell 2 = .ok (.putfield 1, 3) := by decide +kernel
theorem dX7_commandBell_5 : decode cX7_commandBell 5 = .ok (.aload_n 0, 1) := by decide +kernel
theorem dX7_commandBell_6 : decode cX7_commandBell 6 = .ok (.iload_n 1, 1) := by decide +kernel
theorem dX7_commandBell_7 : decode cX7_commandBell 7 = .ok (.invokevirtual 193, 3) := by decide +kernel
theorem dX7_commandBell_10 : decode cX7_commandBell 10 = .ok (.istore_n 2, 1) := by decide +kernel
theorem dX7_commandBell_11 : decode cX7_commandBell 11 = .ok (.iload_n 2, 1) := by decide +kernel
theorem dX7_commandBell_12 : decode cX7_commandBell 12 = .ok (.ifCond .ge 7, 3) := by decide +kernel
theorem dX7_commandBell_15 : decode cX7_commandBell 15 = .ok (.iload_n 2, 1) := by decide +kernel
theorem dX7_commandBell_16 : decode cX7_commandBell 16 = .ok (.goto 9, 3) := by decide +kernel
theorem dX7_commandBell_19 : decode cX7_commandBell 19 = .ok (.aload_n 0, 1) := by decide +kernel
theorem dX7_commandBell_20 : decode cX7_commandBell 20 = .ok (.getfield 39, 3) := by decide +kernel
theorem dX7_commandBell_23 : decode cX7_commandBell 23 = .ok (.iload_n 2, 1) := by decide +kernel
theorem dX7_commandBell_24 : decode cX7_commandBell 24 = .ok (.iaload, 1) := by decide +kernel
theorem dX7_commandBell_25 : decode cX7_commandBell 25 = .ok (.ireturn, 1) := by decide +kernel
theorem dX7_movingHammers_0 : decode cX7_movingHammers 0 = .ok (.aload_n 0, 1) := by decide +kernel
theorem dX7_movingHammers_1 : decode cX7_movingHammers 1 = .ok (.iconst 0, 1) := by decide +kernel
theorem dX7_movingHammers_2 : decode cX7_movingHammers 2 = .ok (.putfield 1, 3) := by decide +kernel
theorem dX7_movingHammers_5 : decode cX7_movingHammers 5 = .ok (.iload_n 1, 1) := by decide +kernel
theorem dX7_movingHammers_6 : decode cX7_movingHammers 6 = .ok (.i2l, 1) := by decide +kernel
theorem dX7_movingHammers_7 : decode cX7_movingHammers 7 = .ok (.aload_n 0, 1) := by decide +kernel
theorem dX7_movingHammers_8 : decode cX7_movingHammers 8 = .ok (.getfield 158, 3) := by decide +kernel
theorem dX7_movingHammers_11 : decode cX7_movingHammers 11 = .ok (.i2l, 1) := by decide +kernel
theorem dX7_movingHammers_12 : decode cX7_movingHammers 12 = .ok (.ldc2_w 169, 3) := by decide +kernel
theorem dX7_movingHammers_15 : decode cX7_movingHammers 15 = .ok (.invokestatic 135, 3) := by decide +kernel
theorem dX7_movingHammers_18 : decode cX7_movingHammers 18 = .ok (.ifCond .ne 6, 3) := by decide +kernel
theorem dX7_movingHammers_21 : decode cX7_movingHammers 21 = .ok (.bipush (-3), 2) := by decide +kernel
theorem dX7_movingHammers_23 : decode cX7_movingHammers 23 = .ok (.ireturn, 1) := by decide +kernel
theorem dX7_movingHammers_24 : decode cX7_movingHammers 24 = .ok (.iconst 0, 1) := by decide +kernel
theorem dX7_movingHammers_25 : decode cX7_movingHammers 25 = .ok (.istore_n 2, 1) := by decide +kernel
theorem dX7_movingHammers_26 : decode cX7_movingHammers 26 = .ok (.iconst 0, 1) := by decide +kernel
theorem dX7_movingHammers_27 : decode cX7_movingHammers 27 = .ok (.istore_n 3, 1) := by decide +kernel
theorem dX7_movingHammers_28 : decode cX7_movingHammers 28 = .ok (.iload_n 3, 1) := by decide +kernel
theorem dX7_movingHammers_29 : decode cX7_movingHammers 29 = .ok (.aload_n 0, 1) := by decide +kernel
theorem dX7_movingHammers_30 : decode cX7_movingHammers 30 = .ok (.getfield 171, 3) := by decide +kernel
theorem dX7_movingHammers_33 : decode cX7_movingHammers 33 = .ok (.if_icmp .ge 41, 3) := by decide +kernel
theorem dX7_movingHammers_36 : decode cX7_movingHammers 36 = .ok (.iload_n 2, 1) := by decide +kernel
theorem dX7_movingHammers_37 : decode cX7_movingHammers 37 = .ok (.iload_n 1, 1) := by decide +kernel
theorem dX7_movingHammers_38 : decode cX7_movingHammers 38 = .ok (.i2l, 1) := by decide +kernel
theorem dX7_movingHammers_39 : decode cX7_movingHammers 39 = .ok (.aload_n 0, 1) := by decide +kernel
theorem dX7_movingHammers_40 : decode cX7_movingHammers 40 = .ok (.getfield 45, 3) := by decide +kernel
theorem dX7_movingHammers_43 : decode cX7_movingHammers 43 = .ok (.iload_n 3, 1) := by decide +kernel
theorem dX7_movingHammers_44 : decode cX7_movingHammers 44 = .ok (.iaload, 1) := by decide +kernel
theorem dX7_movingHammers_45 : decode cX7_movingHammers 45 = .ok (.i2l, 1) := by decide +kernel
theorem dX7_movingHammers_46 : decode cX7_movingHammers 46 = .ok (.aload_n 0, 1) := by decide +kernel
theorem dX7_movingHammers_47 : decode cX7_movingHammers 47 = .ok (.getfield 42, 3) := by decide +kernel
theorem dX7_movingHammers_50 : decode cX7_movingHammers 50 = .ok (.iload_n 3, 1) := by decide +kernel
theorem dX7_movingHammers_51 : decode cX7_movingHammers 51 = .ok (.iaload, 1) := by decide +kernel
theorem dX7_movingHammers_52 : decode cX7_movingHammers 52 = .ok (.iconst 1, 1) := by decide +kernel
theorem dX7_movingHammers_53 : decode cX7_movingHammers 53 = .ok (.isub, 1) := by decide +kernel
theorem dX7_movingHammers_54 : decode cX7_movingHammers 54 = .ok (.i2l, 1) := by decide +kernel
theorem dX7_movingHammers_55 : decode cX7_movingHammers 55 = .ok (.invokestatic 135, 3) := by decide +kernel
theorem dX7_movingHammers_58 : decode cX7_movingHammers 58 = .ok (.ifCond .eq 7, 3) := by decide +kernel
theorem dX7_movingHammers_61 : decode cX7_movingHammers 61 = .ok (.iconst 1, 1) := by decide +kernel
theorem dX7_movingHammers_62 : decode cX7_movingHammers 62 = .ok (.goto 4, 3) := by decide +kernel
theorem dX7_movingHammers_65 : decode cX7_movingHammers 65 = .ok (.iconst 0, 1) := by decide +kernel
theorem dX7_movingHammers_66 : decode cX7_movingHammers 66 = .ok (.iadd, 1) := by decide +kernel
theorem dX7_movingHammers_67 : decode cX7_movingHammers 67 = .ok (.istore_n 2, 1) := by decide +kernel
theorem dX7_movingHammers_68 : decode cX7_movingHammers 68 = .ok (.iinc 3 1, 3) := by decide +kernel
theorem dX7_movingHammers_71 : decode cX7_movingHammers 71 = .ok (.goto (-43), 3) := by decide +kernel
theorem dX7_movingHammers_74 : decode cX7_movingHammers 74 = .ok (.iload_n 2, 1) := by decide +kernel
theorem dX7_movingHammers_75 : decode cX7_movingHammers 75 = .ok (.ireturn, 1) := by decide +kernel
theorem dX7_earliestStroke_0 : decode cX7_earliestStroke 0 = .ok (.aload_n 0, 1) := by decide +kernel
theorem dX7_earliestStroke_1 : decode cX7_earliestStroke 1 = .ok (.iconst 0, 1) := by decide +kernel
theorem dX7_earliestStroke_2 : decode cX7_earliestStroke 2 = .ok (.putfield 1, 3) := by decide +kernel
theorem dX7_earliestStroke_5 : decode cX7_earliestStroke 5 = .ok (.aload_n 0, 1) := by decide +kernel
theorem dX7_earliestStroke_6 : decode cX7_earliestStroke 6 = .ok (.iload_n 1, 1) := by decide +kernel
theorem dX7_earliestStroke_7 : decode cX7_earliestStroke 7 = .ok (.invokevirtual 149, 3) := by decide +kernel
theorem dX7_earliestStroke_10 : decode cX7_earliestStroke 10 = .ok (.ifCond .ne 6, 3) := by decide +kernel
theorem dX7_earliestStroke_13 : decode cX7_earliestStroke 13 = .ok (.bipush (-2), 2) := by decide +kernel
theorem dX7_earliestStroke_15 : decode cX7_earliestStroke 15 = .ok (.ireturn, 1) := by decide +kernel
theorem dX7_earliestStroke_16 : decode cX7_earliestStroke 16 = .ok (.iload_n 2, 1) := by decide +kernel
theorem dX7_earliestStroke_17 : decode cX7_earliestStroke 17 = .ok (.i2l, 1) := by decide +kernel
theorem dX7_earliestStroke_18 : decode cX7_earliestStroke 18 = .ok (.lconst 0, 1) := by decide +kernel
theorem dX7_earliestStroke_19 : decode cX7_earliestStroke 19 = .ok (.ldc2_w 169, 3) := by decide +kernel
theorem dX7_earliestStroke_22 : decode cX7_earliestStroke 22 = .ok (.invokestatic 135, 3) := by decide +kernel
theorem dX7_earliestStroke_25 : decode cX7_earliestStroke 25 = .ok (.ifCond .ne 6, 3) := by decide +kernel
theorem dX7_earliestStroke_28 : decode cX7_earliestStroke 28 = .ok (.bipush (-3), 2) := by decide +kernel
theorem dX7_earliestStroke_30 : decode cX7_earliestStroke 30 = .ok (.ireturn, 1) := by decide +kernel
theorem dX7_earliestStroke_31 : decode cX7_earliestStroke 31 = .ok (.aload_n 0, 1) := by decide +kernel
theorem dX7_earliestStroke_32 : decode cX7_earliestStroke 32 = .ok (.getfield 99, 3) := by decide +kernel
theorem dX7_earliestStroke_35 : decode cX7_earliestStroke 35 = .ok (.iload_n 1, 1) := by decide +kernel
theorem dX7_earliestStroke_36 : decode cX7_earliestStroke 36 = .ok (.baload, 1) := by decide +kernel
theorem dX7_earliestStroke_37 : decode cX7_earliestStroke 37 = .ok (.ifCond .eq 6, 3) := by decide +kernel
theorem dX7_earliestStroke_40 : decode cX7_earliestStroke 40 = .ok (.bipush (-6), 2) := by decide +kernel
theorem dX7_earliestStroke_42 : decode cX7_earliestStroke 42 = .ok (.ireturn, 1) := by decide +kernel
theorem dX7_earliestStroke_43 : decode cX7_earliestStroke 43 = .ok (.aload_n 0, 1) := by decide +kernel
theorem dX7_earliestStroke_44 : decode cX7_earliestStroke 44 = .ok (.getfield 171, 3) := by decide +kernel
theorem dX7_earliestStroke_47 : decode cX7_earliestStroke 47 = .ok (.sipush 300, 3) := by decide +kernel
theorem dX7_earliestStroke_50 : decode cX7_earliestStroke 50 = .ok (.if_icmp .ne 6, 3) := by decide +kernel
theorem dX7_earliestStroke_53 : decode cX7_earliestStroke 53 = .ok (.bipush (-4), 2) := by decide +kernel
theorem dX7_earliestStroke_55 : decode cX7_earliestStroke 55 = .ok (.ireturn, 1) := by decide +kernel
theorem dX7_earliestStroke_56 : decode cX7_earliestStroke 56 = .ok (.iload_n 2, 1) := by decide +kernel
theorem dX7_earliestStroke_57 : decode cX7_earliestStroke 57 = .ok (.istore_n 3, 1) := by decide +kernel
theorem dX7_earliestStroke_58 : decode cX7_earliestStroke 58 = .ok (.iload_n 3, 1) := by decide +kernel
theorem dX7_earliestStroke_59 : decode cX7_earliestStroke 59 = .ok (.iload_n 2, 1) := by decide +kernel
theorem dX7_earliestStroke_60 : decode cX7_earliestStroke 60 = .ok (.sipush 2000, 3) := by decide +kernel
theorem dX7_earliestStroke_63 : decode cX7_earliestStroke 63 = .ok (.iadd, 1) := by decide +kernel
theorem dX7_earliestStroke_64 : decode cX7_earliestStroke 64 = .ok (.if_icmp .gt 27, 3) := by decide +kernel
theorem dX7_earliestStroke_67 : decode cX7_earliestStroke 67 = .ok (.iload_n 3, 1) := by decide +kernel
theorem dX7_earliestStroke_68 : decode cX7_earliestStroke 68 = .ok (.ldc 196, 2) := by decide +kernel
theorem dX7_earliestStroke_70 : decode cX7_earliestStroke 70 = .ok (.if_icmp .gt 21, 3) := by decide +kernel
theorem dX7_earliestStroke_73 : decode cX7_earliestStroke 73 = .ok (.aload_n 0, 1) := by decide +kernel
theorem dX7_earliestStroke_74 : decode cX7_earliestStroke 74 = .ok (.iload_n 1, 1) := by decide +kernel
theorem dX7_earliestStroke_75 : decode cX7_earliestStroke 75 = .ok (.iload_n 3, 1) := by decide +kernel
theorem dX7_earliestStroke_76 : decode cX7_earliestStroke 76 = .ok (.i2l, 1) := by decide +kernel
theorem dX7_earliestStroke_77 : decode cX7_earliestStroke 77 = .ok (.invokevirtual 174, 3) := by decide +kernel
theorem dX7_earliestStroke_80 : decode cX7_earliestStroke 80 = .ok (.ifCond .ne 5, 3) := by decide +kernel
theorem dX7_earliestStroke_83 : decode cX7_earliestStroke 83 = .ok (.iload_n 3, 1) := by decide +kernel
theorem dX7_earliestStroke_84 : decode cX7_earliestStroke 84 = .ok (.ireturn, 1) := by decide +kernel
theorem dX7_earliestStroke_85 : decode cX7_earliestStroke 85 = .ok (.iinc 3 1, 3) := by decide +kernel
theorem dX7_earliestStroke_88 : decode cX7_earliestStroke 88 = .ok (.goto (-30), 3) := by decide +kernel
theorem dX7_earliestStroke_91 : decode cX7_earliestStroke 91 = .ok (.iconst (-1), 1) := by decide +kernel
theorem dX7_earliestStroke_92 : decode cX7_earliestStroke 92 = .ok (.ireturn, 1) := by decide +kernel
theorem dX7_appendBytes_0 : decode cX7_appendBytes 0 = .ok (.aload_n 0, 1) := by decide +kernel
theorem dX7_appendBytes_1 : decode cX7_appendBytes 1 = .ok (.iconst 0, 1) := by decide +kernel
theorem dX7_appendBytes_2 : decode cX7_appendBytes 2 = .ok (.putfield 1, 3) := by decide +kernel
theorem dX7_appendBytes_5 : decode cX7_appendBytes 5 = .ok (.aload_n 0, 1) := by decide +kernel
theorem dX7_appendBytes_6 : decode cX7_appendBytes 6 = .ok (.getfield 197, 3) := by decide +kernel
theorem dX7_appendBytes_9 : decode cX7_appendBytes 9 = .ok (.bipush 20, 2) := by decide +kernel
theorem dX7_appendBytes_11 : decode cX7_appendBytes 11 = .ok (.iadd, 1) := by decide +kernel
theorem dX7_appendBytes_12 : decode cX7_appendBytes 12 = .ok (.sipush 300, 3) := by decide +kernel
theorem dX7_appendBytes_15 : decode cX7_appendBytes 15 = .ok (.if_icmp .le 6, 3) := by decide +kernel
theorem dX7_appendBytes_18 : decode cX7_appendBytes 18 = .ok (.bipush (-4), 2) := by decide +kernel
theorem dX7_appendBytes_20 : decode cX7_appendBytes 20 = .ok (.ireturn, 1) := by decide +kernel
theorem dX7_appendBytes_21 : decode cX7_appendBytes 21 = .ok (.iconst 0, 1) := by decide +kernel
theorem dX7_appendBytes_22 : decode cX7_appendBytes 22 = .ok (.istore 6, 2) := by decide +kernel
theorem dX7_appendBytes_24 : decode cX7_appendBytes 24 = .ok (.iload 6, 2) := by decide +kernel
theorem dX7_appendBytes_26 : decode cX7_appendBytes 26 = .ok (.bipush 20, 2) := by decide +kernel
theorem dX7_appendBytes_28 : decode cX7_appendBytes 28 = .ok (.if_icmp .ge 93, 3) := by decide +kernel
theorem dX7_appendBytes_31 : decode cX7_appendBytes 31 = .ok (.iload 6, 2) := by decide +kernel
theorem dX7_appendBytes_33 : decode cX7_appendBytes 33 = .ok (.iconst 4, 1) := by decide +kernel
theorem dX7_appendBytes_34 : decode cX7_appendBytes 34 = .ok (.if_icmp .ge 7, 3) := by decide +kernel
theorem dX7_appendBytes_37 : decode cX7_appendBytes 37 = .ok (.iload_n 1, 1) := by decide +kernel
theorem dX7_appendBytes_38 : decode cX7_appendBytes 38 = .ok (.goto 39, 3) := by decide +kernel
theorem dX7_appendBytes_41 : decode cX7_appendBytes 41 = .ok (.iload 6, 2) := by decide +kernel
theorem dX7_appendBytes_43 : decode cX7_appendBytes 43 = .ok (.bipush 8, 2) := by decide +kernel
theorem dX7_appendBytes_45 : decode cX7_appendBytes 45 = .ok (.if_icmp .ge 7, 3) := by decide +kernel
theorem dX7_appendBytes_48 : decode cX7_appendBytes 48 = .ok (.iload_n 2, 1) := by decide +kernel
theorem dX7_appendBytes_49 : decode cX7_appendBytes 49 = .ok (.goto 28, 3) := by decide +kernel
theorem dX7_appendBytes_52 : decode cX7_appendBytes 52 = .ok (.iload 6, 2) := by decide +kernel
theorem dX7_appendBytes_54 : decode cX7_appendBytes 54 = .ok (.bipush 12, 2) := by decide +kernel
theorem dX7_appendBytes_56 : decode cX7_appendBytes 56 = .ok (.if_icmp .ge 7, 3) := by decide +kernel
theorem dX7_appendBytes_59 : decode cX7_appendBytes 59 = .ok (.iload_n 3, 1) := by decide +kernel
theorem dX7_appendBytes_60 : decode cX7_appendBytes 60 = .ok (.goto 17, 3) := by decide +kernel
theorem dX7_appendBytes_63 : decode cX7_appendBytes 63 = .ok (.iload 6, 2) := by decide +kernel
theorem dX7_appendBytes_65 : decode cX7_appendBytes 65 = .ok (.bipush 16, 2) := by decide +kernel
theorem dX7_appendBytes_67 : decode cX7_appendBytes 67 = .ok (.if_icmp .ge 8, 3) := by decide +kernel
theorem dX7_appendBytes_70 : decode cX7_appendBytes 70 = .ok (.iload 4, 2) := by decide +kernel
theorem dX7_appendBytes_72 : decode cX7_appendBytes 72 = .ok (.goto 5, 3) := by decide +kernel
theorem dX7_appendBytes_75 : decode cX7_appendBytes 75 = .ok (.iload 5, 2) := by decide +kernel
theorem dX7_appendBytes_77 : decode cX7_appendBytes 77 = .ok (.istore 7, 2) := by decide +kernel
theorem dX7_appendBytes_79 : decode cX7_appendBytes 79 = .ok (.aload_n 0, 1) := by decide +kernel
theorem dX7_appendBytes_80 : decode cX7_appendBytes 80 = .ok (.getfield 51, 3) := by decide +kernel
theorem dX7_appendBytes_83 : decode cX7_appendBytes 83 = .ok (.aload_n 0, 1) := by decide +kernel
theorem dX7_appendBytes_84 : decode cX7_appendBytes 84 = .ok (.getfield 197, 3) := by decide +kernel
theorem dX7_appendBytes_87 : decode cX7_appendBytes 87 = .ok (.iload 7, 2) := by decide +kernel
theorem dX7_appendBytes_89 : decode cX7_appendBytes 89 = .ok (.bipush 24, 2) := by decide +kernel
theorem dX7_appendBytes_91 : decode cX7_appendBytes 91 = .ok (.bipush 8, 2) := by decide +kernel
theorem dX7_appendBytes_93 : decode cX7_appendBytes 93 = .ok (.iload 6, 2) := by decide +kernel
theorem dX7_appendBytes_95 : decode cX7_appendBytes 95 = .ok (.iconst 4, 1) := by decide +kernel
theorem dX7_appendBytes_96 : decode cX7_appendBytes 96 = .ok (.irem, 1) := by decide +kernel
theorem dX7_appendBytes_97 : decode cX7_appendBytes 97 = .ok (.imul, 1) := by decide +kernel
theorem dX7_appendBytes_98 : decode cX7_appendBytes 98 = .ok (.isub, 1) := by decide +kernel
theorem dX7_appendBytes_99 : decode cX7_appendBytes 99 = .ok (.ishr, 1) := by decide +kernel
theorem dX7_appendBytes_100 : decode cX7_appendBytes 100 = .ok (.sipush 255, 3) := by decide +kernel
theorem dX7_appendBytes_103 : decode cX7_appendBytes 103 = .ok (.iand, 1) := by decide +kernel
theorem dX7_appendBytes_104 : decode cX7_appendBytes 104 = .ok (.iastore, 1) := by decide +kernel
theorem dX7_appendBytes_105 : decode cX7_appendBytes 105 = .ok (.aload_n 0, 1) := by decide +kernel
theorem dX7_appendBytes_106 : decode cX7_appendBytes 106 = .ok (.dup, 1) := by decide +kernel
theorem dX7_appendBytes_107 : decode cX7_appendBytes 107 = .ok (.getfield 197, 3) := by decide +kernel
theorem dX7_appendBytes_110 : decode cX7_appendBytes 110 = .ok (.iconst 1, 1) := by decide +kernel
theorem dX7_appendBytes_111 : decode cX7_appendBytes 111 = .ok (.iadd, 1) := by decide +kernel
theorem dX7_appendBytes_112 : decode cX7_appendBytes 112 = .ok (.putfield 197, 3) := by decide +kernel
theorem dX7_appendBytes_115 : decode cX7_appendBytes 115 = .ok (.iinc 6 1, 3) := by decide +kernel
theorem dX7_appendBytes_118 : decode cX7_appendBytes 118 = .ok (.goto (-94), 3) := by decide +kernel
theorem dX7_appendBytes_121 : decode cX7_appendBytes 121 = .ok (.aload_n 0, 1) := by decide +kernel
theorem dX7_appendBytes_122 : decode cX7_appendBytes 122 = .ok (.getfield 197, 3) := by decide +kernel
theorem dX7_appendBytes_125 : decode cX7_appendBytes 125 = .ok (.ireturn, 1) := by decide +kernel
theorem dX7_fails_0 : decode cX7_fails 0 = .ok (.aload_n 0, 1) := by decide +kernel
theorem dX7_fails_1 : decode cX7_fails 1 = .ok (.getfield 200, 3) := by decide +kernel
theorem dX7_fails_4 : decode cX7_fails 4 = .ok (.ifCond .eq 4, 3) := by decide +kernel
theorem dX7_fails_7 : decode cX7_fails 7 = .ok (.return_, 1) := by decide +kernel
theorem dX7_fails_8 : decode cX7_fails 8 = .ok (.aload_n 0, 1) := by decide +kernel
theorem dX7_fails_9 : decode cX7_fails 9 = .ok (.iload_n 1, 1) := by decide +kernel
theorem dX7_fails_10 : decode cX7_fails 10 = .ok (.putfield 200, 3) := by decide +kernel
theorem dX7_fails_13 : decode cX7_fails 13 = .ok (.aload_n 0, 1) := by decide +kernel
theorem dX7_fails_14 : decode cX7_fails 14 = .ok (.iload_n 2, 1) := by decide +kernel
theorem dX7_fails_15 : decode cX7_fails 15 = .ok (.putfield 203, 3) := by decide +kernel
theorem dX7_fails_18 : decode cX7_fails 18 = .ok (.return_, 1) := by decide +kernel
theorem dX7_here_0 : decode cX7_here 0 = .ok (.aload_n 0, 1) := by decide +kernel
theorem dX7_here_1 : decode cX7_here 1 = .ok (.getfield 206, 3) := by decide +kernel
theorem dX7_here_4 : decode cX7_here 4 = .ok (.aload_n 0, 1) := by decide +kernel
theorem dX7_here_5 : decode cX7_here 5 = .ok (.getfield 209, 3) := by decide +kernel
theorem dX7_here_8 : decode cX7_here 8 = .ok (.if_icmp .ge 15, 3) := by decide +kernel
theorem dX7_here_11 : decode cX7_here 11 = .ok (.aload_n 0, 1) := by decide +kernel
theorem dX7_here_12 : decode cX7_here 12 = .ok (.getfield 51, 3) := by decide +kernel
theorem dX7_here_15 : decode cX7_here 15 = .ok (.aload_n 0, 1) := by decide +kernel
theorem dX7_here_16 : decode cX7_here 16 = .ok (.getfield 206, 3) := by decide +kernel
theorem dX7_here_19 : decode cX7_here 19 = .ok (.iaload, 1) := by decide +kernel
theorem dX7_here_20 : decode cX7_here 20 = .ok (.goto 4, 3) := by decide +kernel
theorem dX7_here_23 : decode cX7_here 23 = .ok (.iconst (-1), 1) := by decide +kernel
theorem dX7_here_24 : decode cX7_here 24 = .ok (.ireturn, 1) := by decide +kernel
theorem dX7_isDigit_0 : decode cX7_isDigit 0 = .ok (.aload_n 0, 1) := by decide +kernel
theorem dX7_isDigit_1 : decode cX7_isDigit 1 = .ok (.invokevirtual 212, 3) := by decide +kernel
theorem dX7_isDigit_4 : decode cX7_isDigit 4 = .ok (.i2l, 1) := by decide +kernel
theorem dX7_isDigit_5 : decode cX7_isDigit 5 = .ok (.ldc2_w 215, 3) := by decide +kernel
theorem dX7_isDigit_8 : decode cX7_isDigit 8 = .ok (.ldc2_w 217, 3) := by decide +kernel
theorem dX7_isDigit_11 : decode cX7_isDigit 11 = .ok (.invokestatic 135, 3) := by decide +kernel
theorem dX7_isDigit_14 : decode cX7_isDigit 14 = .ok (.ireturn, 1) := by decide +kernel
theorem dX7_isLetter_0 : decode cX7_isLetter 0 = .ok (.aload_n 0, 1) := by decide +kernel
theorem dX7_isLetter_1 : decode cX7_isLetter 1 = .ok (.invokevirtual 212, 3) := by decide +kernel
theorem dX7_isLetter_4 : decode cX7_isLetter 4 = .ok (.i2l, 1) := by decide +kernel
theorem dX7_isLetter_5 : decode cX7_isLetter 5 = .ok (.ldc2_w 219, 3) := by decide +kernel
theorem dX7_isLetter_8 : decode cX7_isLetter 8 = .ok (.ldc2_w 221, 3) := by decide +kernel
theorem dX7_isLetter_11 : decode cX7_isLetter 11 = .ok (.invokestatic 135, 3) := by decide +kernel
theorem dX7_isLetter_14 : decode cX7_isLetter 14 = .ok (.ireturn, 1) := by decide +kernel
theorem dX7_number_0 : decode cX7_number 0 = .ok (.aload_n 0, 1) := by decide +kernel
theorem dX7_number_1 : decode cX7_number 1 = .ok (.invokevirtual 223, 3) := by decide +kernel
theorem dX7_number_4 : decode cX7_number 4 = .ok (.ifCond .ne 14, 3) := by decide +kernel
theorem dX7_number_7 : decode cX7_number 7 = .ok (.aload_n 0, 1) := by decide +kernel
theorem dX7_number_8 : decode cX7_number 8 = .ok (.iconst 1, 1) := by decide +kernel
theorem dX7_number_9 : decode cX7_number 9 = .ok (.aload_n 0, 1) := by decide +kernel
theorem dX7_number_10 : decode cX7_number 10 = .ok (.getfield 206, 3) := by decide +kernel
theorem dX7_number_13 : decode cX7_number 13 = .ok (.invokevirtual 227, 3) := by decide +kernel
theorem dX7_number_16 : decode cX7_number 16 = .ok (.iconst 1, 1) := by decide +kernel
theorem dX7_number_17 : decode cX7_number 17 = .ok (.ireturn, 1) := by decide +kernel
theorem dX7_number_18 : decode cX7_number 18 = .ok (.aload_n 0, 1) := by decide +kernel
theorem dX7_number_19 : decode cX7_number 19 = .ok (.getfield 206, 3) := by decide +kernel
theorem dX7_number_22 : decode cX7_number 22 = .ok (.istore_n 1, 1) := by decide +kernel
theorem dX7_number_23 : decode cX7_number 23 = .ok (.iconst 0, 1) := by decide +kernel
theorem dX7_number_24 : decode cX7_number 24 = .ok (.istore_n 2, 1) := by decide +kernel
theorem dX7_number_25 : decode cX7_number 25 = .ok (.iconst 0, 1) := by decide +kernel
theorem dX7_number_26 : decode cX7_number 26 = .ok (.istore_n 3, 1) := by decide +kernel
theorem dX7_number_27 : decode cX7_number 27 = .ok (.iload_n 3, 1) := by decide +kernel
theorem dX7_number_28 : decode cX7_number 28 = .ok (.iconst 2, 1) := by decide +kernel
theorem dX7_number_29 : decode cX7_number 29 = .ok (.if_icmp .ge 39, 3) := by decide +kernel
theorem dX7_number_32 : decode cX7_number 32 = .ok (.aload_n 0, 1) := by decide +kernel
theorem dX7_number_33 : decode cX7_number 33 = .ok (.invokevirtual 223, 3) := by decide +kernel
theorem dX7_number_36 : decode cX7_number 36 = .ok (.ifCond .eq 32, 3) := by decide +kernel
theorem dX7_number_39 : decode cX7_number 39 = .ok (.bipush 10, 2) := by decide +kernel
theorem dX7_number_41 : decode cX7_number 41 = .ok (.iload_n 2, 1) := by decide +kernel
theorem dX7_number_42 : decode cX7_number 42 = .ok (.imul, 1) := by decide +kernel
theorem dX7_number_43 : decode cX7_number 43 = .ok (.aload_n 0, 1) := by decide +kernel
theorem dX7_number_44 : decode cX7_number 44 = .ok (.invokevirtual 212, 3) := by decide +kernel
theorem dX7_number_47 : decode cX7_number 47 = .ok (.iadd, 1) := by decide +kernel
theorem dX7_number_48 : decode cX7_number 48 = .ok (.bipush 48, 2) := by decide +kernel
theorem dX7_number_50 : decode cX7_number 50 = .ok (.isub, 1) := by decide +kernel
theorem dX7_number_51 : decode cX7_number 51 = .ok (.istore_n 2, 1) := by decide +kernel
theorem dX7_number_52 : decode cX7_number 52 = .ok (.aload_n 0, 1) := by decide +kernel
theorem dX7_number_53 : decode cX7_number 53 = .ok (.dup, 1) := by decide +kernel
theorem dX7_number_54 : decode cX7_number 54 = .ok (.getfield 206, 3) := by decide +kernel
theorem dX7_number_57 : decode cX7_number 57 = .ok (.iconst 1, 1) := by decide +kernel
theorem dX7_number_58 : decode cX7_number 58 = .ok (.iadd, 1) := by decide +kernel
theorem dX7_number_59 : decode cX7_number 59 = .ok (.putfield 206, 3) := by decide +kernel
theorem dX7_number_62 : decode cX7_number 62 = .ok (.iinc 3 1, 3) := by decide +kernel
theorem dX7_number_65 : decode cX7_number 65 = .ok (.goto (-38), 3) := by decide +kernel
theorem dX7_number_68 : decode cX7_number 68 = .ok (.iload_n 2, 1) := by decide +kernel
theorem dX7_number_69 : decode cX7_number 69 = .ok (.i2l, 1) := by decide +kernel
theorem dX7_number_70 : decode cX7_number 70 = .ok (.lconst 1, 1) := by decide +kernel
theorem dX7_number_71 : decode cX7_number 71 = .ok (.ldc2_w 230, 3) := by decide +kernel
theorem dX7_number_74 : decode cX7_number 74 = .ok (.invokestatic 135, 3) := by decide +kernel
theorem dX7_number_77 : decode cX7_number 77 = .ok (.ifCond .ne 9, 3) := by decide +kernel
theorem dX7_number_80 : decode cX7_number 80 = .ok (.aload_n 0, 1) := by decide +kernel
theorem dX7_number_81 : decode cX7_number 81 = .ok (.iconst 2, 1) := by decide +kernel
theorem dX7_number_82 : decode cX7_number 82 = .ok (.iload_n 1, 1) := by decide +kernel
theorem dX7_number_83 : decode cX7_number 83 = .ok (.invokevirtual 227, 3) := by decide +kernel
theorem dX7_number_86 : decode cX7_number 86 = .ok (.iload_n 2, 1) := by decide +kernel
theorem dX7_number_87 : decode cX7_number 87 = .ok (.ireturn, 1) := by decide +kernel
theorem dX7_readsItems_0 : decode cX7_readsItems 0 = .ok (.aload_n 0, 1) := by decide +kernel
theorem dX7_readsItems_1 : decode cX7_readsItems 1 = .ok (.getfield 200, 3) := by decide +kernel
theorem dX7_readsItems_4 : decode cX7_readsItems 4 = .ok (.ifCond .ne 72, 3) := by decide +kernel
theorem dX7_readsItems_7 : decode cX7_readsItems 7 = .ok (.aload_n 0, 1) := by decide +kernel
theorem dX7_readsItems_8 : decode cX7_readsItems 8 = .ok (.invokevirtual 212, 3) := by decide +kernel
theorem dX7_readsItems_11 : decode cX7_readsItems 11 = .ok (.bipush 32, 2) := by decide +kernel
theorem dX7_readsItems_13 : decode cX7_readsItems 13 = .ok (.if_icmp .ne 16, 3) := by decide +kernel
theorem dX7_readsItems_16 : decode cX7_readsItems 16 = .ok (.aload_n 0, 1) := by decide +kernel
theorem dX7_readsItems_17 : decode cX7_readsItems 17 = .ok (.dup, 1) := by decide +kernel
theorem dX7_readsItems_18 : decode cX7_readsItems 18 = .ok (.getfield 206, 3) := by decide +kernel
theorem dX7_readsItems_21 : decode cX7_readsItems 21 = .ok (.iconst 1, 1) := by decide +kernel
theorem dX7_readsItems_22 : decode cX7_readsItems 22 = .ok (.iadd, 1) := by decide +kernel
theorem dX7_readsItems_23 : decode cX7_readsItems 23 = .ok (.putfield 206, 3) := by decide +kernel
theorem dX7_readsItems_26 : decode cX7_readsItems 26 = .ok (.goto (-19), 3) := by decide +kernel
theorem dX7_readsItems_29 : decode cX7_readsItems 29 = .ok (.aload_n 0, 1) := by decide +kernel
theorem dX7_readsItems_30 : decode cX7_readsItems 30 = .ok (.getfield 206, 3) := by decide +kernel
theorem dX7_readsItems_33 : decode cX7_readsItems 33 = .ok (.aload_n 0, 1) := by decide +kernel
theorem dX7_readsItems_34 : decode cX7_readsItems 34 = .ok (.getfield 209, 3) := by decide +kernel
theorem dX7_readsItems_37 : decode cX7_readsItems 37 = .ok (.if_icmp .ne 17, 3) := by decide +kernel
theorem dX7_readsItems_40 : decode cX7_readsItems 40 = .ok (.iload_n 1, 1) := by decide +kernel
theorem dX7_readsItems_41 : decode cX7_readsItems 41 = .ok (.ifCond .le 12, 3) := by decide +kernel
theorem dX7_readsItems_44 : decode cX7_readsItems 44 = .ok (.aload_n 0, 1) := by decide +kernel
theorem dX7_readsItems_45 : decode cX7_readsItems 45 = .ok (.iconst 1, 1) := by decide +kernel
theorem dX7_readsItems_46 : decode cX7_readsItems 46 = .ok (.aload_n 0, 1) := by decide +kernel
theorem dX7_readsItems_47 : decode cX7_readsItems 47 = .ok (.getfield 206, 3) := by decide +kernel
theorem dX7_readsItems_50 : decode cX7_readsItems 50 = .ok (.invokevirtual 227, 3) := by decide +kernel
theorem dX7_readsItems_53 : decode cX7_readsItems 53 = .ok (.return_, 1) := by decide +kernel
theorem dX7_readsItems_54 : decode cX7_readsItems 54 = .ok (.iload_n 1, 1) := by decide +kernel
theorem dX7_readsItems_55 : decode cX7_readsItems 55 = .ok (.ifCond .le 13, 3) := by decide +kernel
theorem dX7_readsItems_58 : decode cX7_readsItems 58 = .ok (.aload_n 0, 1) := by decide +kernel
theorem dX7_readsItems_59 : decode cX7_readsItems 59 = .ok (.invokevirtual 212, 3) := by decide +kernel
theorem dX7_readsItems_62 : decode cX7_readsItems 62 = .ok (.bipush 41, 2) := by decide +kernel
theorem dX7_readsItems_64 : decode cX7_readsItems 64 = .ok (.if_icmp .ne 4, 3) := by decide +kernel
theorem dX7_readsItems_67 : decode cX7_readsItems 67 = .ok (.return_, 1) := by decide +kernel
theorem dX7_readsItems_68 : decode cX7_readsItems 68 = .ok (.aload_n 0, 1) := by decide +kernel
theorem dX7_readsItems_69 : decode cX7_readsItems 69 = .ok (.iload_n 1, 1) := by decide +kernel
theorem dX7_readsItems_70 : decode cX7_readsItems 70 = .ok (.invokevirtual 232, 3) := by decide +kernel
theorem dX7_readsItems_73 : decode cX7_readsItems 73 = .ok (.goto (-73), 3) := by decide +kernel
theorem dX7_readsItems_76 : decode cX7_readsItems 76 = .ok (.return_, 1) := by decide +kernel
theorem dX7_readsItem_0 : decode cX7_readsItem 0 = .ok (.aload_n 0, 1) := by decide +kernel
theorem dX7_readsItem_1 : decode cX7_readsItem 1 = .ok (.getfield 206, 3) := by decide +kernel
theorem dX7_readsItem_4 : decode cX7_readsItem 4 = .ok (.istore_n 2, 1) := by decide +kernel
theorem dX7_readsItem_5 : decode cX7_readsItem 5 = .ok (.aload_n 0, 1) := by decide +kernel
theorem dX7_readsItem_6 : decode cX7_readsItem 6 = .ok (.invokevirtual 212, 3) := by decide +kernel
theorem dX7_readsItem_9 : decode cX7_readsItem 9 = .ok (.bipush 40, 2) := by decide +kernel
theorem dX7_readsItem_11 : decode cX7_readsItem 11 = .ok (.if_icmp .ne 9, 3) := by decide +kernel
theorem dX7_readsItem_14 : decode cX7_readsItem 14 = .ok (.aload_n 0, 1) := by decide +kernel
theorem dX7_readsItem_15 : decode cX7_readsItem 15 = .ok (.iload_n 1, 1) := by decide +kernel
theorem dX7_readsItem_16 : decode cX7_readsItem 16 = .ok (.invokevirtual 235, 3) := by decide +kernel
theorem dX7_readsItem_19 : decode cX7_readsItem 19 = .ok (.return_, 1) := by decide +kernel
theorem dX7_readsItem_20 : decode cX7_readsItem 20 = .ok (.iconst 0, 1) := by decide +kernel
theorem dX7_readsItem_21 : decode cX7_readsItem 21 = .ok (.istore_n 3, 1) := by decide +kernel
theorem dX7_readsItem_22 : decode cX7_readsItem 22 = .ok (.aload_n 0, 1) := by decide +kernel
theorem dX7_readsItem_23 : decode cX7_readsItem 23 = .ok (.invokevirtual 212, 3) := by decide +kernel
theorem dX7_readsItem_26 : decode cX7_readsItem 26 = .ok (.bipush 45, 2) := by decide +kernel
theorem dX7_readsItem_28 : decode cX7_readsItem 28 = .ok (.if_icmp .ne 16, 3) := by decide +kernel
theorem dX7_readsItem_31 : decode cX7_readsItem 31 = .ok (.aload_n 0, 1) := by decide +kernel
theorem dX7_readsItem_32 : decode cX7_readsItem 32 = .ok (.dup, 1) := by decide +kernel
theorem dX7_readsItem_33 : decode cX7_readsItem 33 = .ok (.getfield 206, 3) := by decide +kernel
theorem dX7_readsItem_36 : decode cX7_readsItem 36 = .ok (.iconst 1, 1) := by decide +kernel
theorem dX7_readsItem_37 : decode cX7_readsItem 37 = .ok (.iadd, 1) := by decide +kernel
theorem dX7_readsItem_38 : decode cX7_readsItem 38 = .ok (.putfield 206, 3) := by decide +kernel
theorem dX7_readsItem_41 : decode cX7_readsItem 41 = .ok (.goto 51, 3) := by decide +kernel
theorem dX7_readsItem_44 : decode cX7_readsItem 44 = .ok (.aload_n 0, 1) := by decide +kernel
theorem dX7_readsItem_45 : decode cX7_readsItem 45 = .ok (.invokevirtual 238, 3) := by decide +kernel
theorem dX7_readsItem_48 : decode cX7_readsItem 48 = .ok (.ifCond .ne 12, 3) := by decide +kernel
theorem dX7_readsItem_51 : decode cX7_readsItem 51 = .ok (.aload_n 0, 1) := by decide +kernel
theorem dX7_readsItem_52 : decode cX7_readsItem 52 = .ok (.iconst 1, 1) := by decide +kernel
theorem dX7_readsItem_53 : decode cX7_readsItem 53 = .ok (.aload_n 0, 1) := by decide +kernel
theorem dX7_readsItem_54 : decode cX7_readsItem 54 = .ok (.getfield 206, 3) := by decide +kernel
theorem dX7_readsItem_57 : decode cX7_readsItem 57 = .ok (.invokevirtual 227, 3) := by decide +kernel
theorem dX7_readsItem_60 : decode cX7_readsItem 60 = .ok (.aload_n 0, 1) := by decide +kernel
theorem dX7_readsItem_61 : decode cX7_readsItem 61 = .ok (.invokevirtual 238, 3) := by decide +kernel
theorem dX7_readsItem_64 : decode cX7_readsItem 64 = .ok (.ifCond .eq 28, 3) := by decide +kernel
theorem dX7_readsItem_67 : decode cX7_readsItem 67 = .ok (.iload_n 3, 1) := by decide +kernel
theorem dX7_readsItem_68 : decode cX7_readsItem 68 = .ok (.iconst 1, 1) := by decide +kernel
theorem dX7_readsItem_69 : decode cX7_readsItem 69 = .ok (.aload_n 0, 1) := by decide +kernel
theorem dX7_readsItem_70 : decode cX7_readsItem 70 = .ok (.invokevirtual 212, 3) := by decide +kernel
theorem dX7_readsItem_73 : decode cX7_readsItem 73 = .ok (.bipush 97, 2) := by decide +kernel
theorem dX7_readsItem_75 : decode cX7_readsItem 75 = .ok (.isub, 1) := by decide +kernel
theorem dX7_readsItem_76 : decode cX7_readsItem 76 = .ok (.ishl, 1) := by decide +kernel
theorem dX7_readsItem_77 : decode cX7_readsItem 77 = .ok (.ior, 1) := by decide +kernel
theorem dX7_readsItem_78 : decode cX7_readsItem 78 = .ok (.istore_n 3, 1) := by decide +kernel
theorem dX7_readsItem_79 : decode cX7_readsItem 79 = .ok (.aload_n 0, 1) := by decide +kernel
theorem dX7_readsItem_80 : decode cX7_readsItem 80 = .ok (.dup, 1) := by decide +kernel
theorem dX7_readsItem_81 : decode cX7_readsItem 81 = .ok (.getfield 206, 3) := by decide +kernel
theorem dX7_readsItem_84 : decode cX7_readsItem 84 = .ok (.iconst 1, 1) := by decide +kernel
theorem dX7_readsItem_85 : decode cX7_readsItem 85 = .ok (.iadd, 1) := by decide +kernel
theorem dX7_readsItem_86 : decode cX7_readsItem 86 = .ok (.putfield 206, 3) := by decide +kernel
theorem dX7_readsItem_89 : decode cX7_readsItem 89 = .ok (.goto (-29), 3) := by decide +kernel
theorem dX7_readsItem_92 : decode cX7_readsItem 92 = .ok (.aload_n 0, 1) := by decide +kernel
theorem dX7_readsItem_93 : decode cX7_readsItem 93 = .ok (.getfield 200, 3) := by decide +kernel
theorem dX7_readsItem_96 : decode cX7_readsItem 96 = .ok (.ifCond .ne 17, 3) := by decide +kernel
theorem dX7_readsItem_99 : decode cX7_readsItem 99 = .ok (.aload_n 0, 1) := by decide +kernel
theorem dX7_readsItem_100 : decode cX7_readsItem 100 = .ok (.invokevirtual 223, 3) := by decide +kernel
theorem dX7_readsItem_103 : decode cX7_readsItem 103 = .ok (.ifCond .eq 10, 3) := by decide +kernel
theorem dX7_readsItem_106 : decode cX7_readsItem 106 = .ok (.aload_n 0, 1) := by decide +kernel
theorem dX7_readsItem_107 : decode cX7_readsItem 107 = .ok (.invokevirtual 241, 3) := by decide +kernel
theorem dX7_readsItem_110 : decode cX7_readsItem 110 = .ok (.goto 4, 3) := by decide +kernel
theorem dX7_readsItem_113 : decode cX7_readsItem 113 = .ok (.iconst 1, 1) := by decide +kernel
theorem dX7_readsItem_114 : decode cX7_readsItem 114 = .ok (.istore 4, 2) := by decide +kernel
theorem dX7_readsItem_116 : decode cX7_readsItem 116 = .ok (.aload_n 0, 1) := by decide +kernel
theorem dX7_readsItem_117 : decode cX7_readsItem 117 = .ok (.getfield 200, 3) := by decide +kernel
theorem dX7_readsItem_120 : decode cX7_readsItem 120 = .ok (.ifCond .ne 21, 3) := by decide +kernel
theorem dX7_readsItem_123 : decode cX7_readsItem 123 = .ok (.aload_n 0, 1) := by decide +kernel
theorem dX7_readsItem_124 : decode cX7_readsItem 124 = .ok (.getfield 244, 3) := by decide +kernel
theorem dX7_readsItem_127 : decode cX7_readsItem 127 = .ok (.iload 4, 2) := by decide +kernel
theorem dX7_readsItem_129 : decode cX7_readsItem 129 = .ok (.iadd, 1) := by decide +kernel
theorem dX7_readsItem_130 : decode cX7_readsItem 130 = .ok (.bipush 100, 2) := by decide +kernel
theorem dX7_readsItem_132 : decode cX7_readsItem 132 = .ok (.if_icmp .le 9, 3) := by decide +kernel
theorem dX7_readsItem_135 : decode cX7_readsItem 135 = .ok (.aload_n 0, 1) := by decide +kernel
theorem dX7_readsItem_136 : decode cX7_readsItem 136 = .ok (.iconst 4, 1) := by decide +kernel
theorem dX7_readsItem_137 : decode cX7_readsItem 137 = .ok (.iload_n 2, 1) := by decide +kernel
theorem dX7_readsItem_138 : decode cX7_readsItem 138 = .ok (.invokevirtual 227, 3) := by decide +kernel
theorem dX7_readsItem_141 : decode cX7_readsItem 141 = .ok (.iconst 0, 1) := by decide +kernel
theorem dX7_readsItem_142 : decode cX7_readsItem 142 = .ok (.istore 5, 2) := by decide +kernel
theorem dX7_readsItem_144 : decode cX7_readsItem 144 = .ok (.iload 5, 2) := by decide +kernel
theorem dX7_readsItem_146 : decode cX7_readsItem 146 = .ok (.iload 4, 2) := by decide +kernel
theorem dX7_readsItem_148 : decode cX7_readsItem 148 = .ok (.if_icmp .ge 45, 3) := by decide +kernel
theorem dX7_readsItem_151 : decode cX7_readsItem 151 = .ok (.aload_n 0, 1) := by decide +kernel
theorem dX7_readsItem_152 : decode cX7_readsItem 152 = .ok (.getfield 200, 3) := by decide +kernel
theorem dX7_readsItem_155 : decode cX7_readsItem 155 = .ok (.ifCond .ne 38, 3) := by decide +kernel
theorem dX7_readsItem_158 : decode cX7_readsItem 158 = .ok (.aload_n 0, 1) := by decide +kernel
theorem dX7_readsItem_159 : decode cX7_readsItem 159 = .ok (.getfield 60, 3) := by decide +kernel
theorem dX7_readsItem_162 : decode cX7_readsItem 162 = .ok (.aload_n 0, 1) := by decide +kernel
theorem dX7_readsItem_163 : decode cX7_readsItem 163 = .ok (.getfield 244, 3) := by decide +kernel
theorem dX7_readsItem_166 : decode cX7_readsItem 166 = .ok (.iload 5, 2) := by decide +kernel
theorem dX7_readsItem_168 : decode cX7_readsItem 168 = .ok (.ifCond .ne 7, 3) := by decide +kernel
theorem dX7_readsItem_171 : decode cX7_readsItem 171 = .ok (.iload_n 3, 1) := by decide +kernel
theorem dX7_readsItem_172 : decode cX7_readsItem 172 = .ok (.goto 4, 3) := by decide +kernel
theorem dX7_readsItem_175 : decode cX7_readsItem 175 = .ok (.iconst 0, 1) := by decide +kernel
theorem dX7_readsItem_176 : decode cX7_readsItem 176 = .ok (.iastore, 1) := by decide +kernel
theorem dX7_readsItem_177 : decode cX7_readsItem 177 = .ok (.aload_n 0, 1) := by decide +kernel
theorem dX7_readsItem_178 : decode cX7_readsItem 178 = .ok (.dup, 1) := by decide +kernel
theorem dX7_readsItem_179 : decode cX7_readsItem 179 = .ok (.getfield 244, 3) := by decide +kernel
theorem dX7_readsItem_182 : decode cX7_readsItem 182 = .ok (.iconst 1, 1) := by decide +kernel
theorem dX7_readsItem_183 : decode cX7_readsItem 183 = .ok (.iadd, 1) := by decide +kernel
theorem dX7_readsItem_184 : decode cX7_readsItem 184 = .ok (.putfield 244, 3) := by decide +kernel
theorem dX7_readsItem_187 : decode cX7_readsItem 187 = .ok (.iinc 5 1, 3) := by decide +kernel
theorem dX7_readsItem_190 : decode cX7_readsItem 190 = .ok (.goto (-46), 3) := by decide +kernel
theorem dX7_readsItem_193 : decode cX7_readsItem 193 = .ok (.return_, 1) := by decide +kernel
theorem dX7_readsGroup_0 : decode cX7_readsGroup 0 = .ok (.aload_n 0, 1) := by decide +kernel
theorem dX7_readsGroup_1 : decode cX7_readsGroup 1 = .ok (.getfield 206, 3) := by decide +kernel
theorem dX7_readsGroup_4 : decode cX7_readsGroup 4 = .ok (.istore_n 2, 1) := by decide +kernel
theorem dX7_readsGroup_5 : decode cX7_readsGroup 5 = .ok (.aload_n 0, 1) := by decide +kernel
theorem dX7_readsGroup_6 : decode cX7_readsGroup 6 = .ok (.getfield 244, 3) := by decide +kernel
theorem dX7_readsGroup_9 : decode cX7_readsGroup 9 = .ok (.istore_n 3, 1) := by decide +kernel
theorem dX7_readsGroup_10 : decode cX7_readsGroup 10 = .ok (.iload_n 1, 1) := by decide +kernel
theorem dX7_readsGroup_11 : decode cX7_readsGroup 11 = .ok (.iconst 3, 1) := by decide +kernel
theorem dX7_readsGroup_12 : decode cX7_readsGroup 12 = .ok (.if_icmp .ne 13, 3) := by decide +kernel
theorem dX7_readsGroup_15 : decode cX7_readsGroup 15 = .ok (.aload_n 0, 1) := by decide +kernel
theorem dX7_readsGroup_16 : decode cX7_readsGroup 16 = .ok (.iconst 3, 1) := by decide +kernel
theorem dX7_readsGroup_17 : decode cX7_readsGroup 17 = .ok (.aload_n 0, 1) := by decide +kernel
theorem dX7_readsGroup_18 : decode cX7_readsGroup 18 = .ok (.getfield 206, 3) := by decide +kernel
theorem dX7_readsGroup_21 : decode cX7_readsGroup 21 = .ok (.invokevirtual 227, 3) := by decide +kernel
theorem dX7_readsGroup_24 : decode cX7_readsGroup 24 = .ok (.return_, 1) := by decide +kernel
theorem dX7_readsGroup_25 : decode cX7_readsGroup 25 = .ok (.aload_n 0, 1) := by decide +kernel
theorem dX7_readsGroup_26 : decode cX7_readsGroup 26 = .ok (.dup, 1) := by decide +kernel
theorem dX7_readsGroup_27 : decode cX7_readsGroup 27 = .ok (.getfield 206, 3) := by decide +kernel
theorem dX7_readsGroup_30 : decode cX7_readsGroup 30 = .ok (.iconst 1, 1) := by decide +kernel
theorem dX7_readsGroup_31 : decode cX7_readsGroup 31 = .ok (.iadd, 1) := by decide +kernel
theorem dX7_readsGroup_32 : decode cX7_readsGroup 32 = .ok (.putfield 206, 3) := by decide +kernel
theorem dX7_readsGroup_35 : decode cX7_readsGroup 35 = .ok (.aload_n 0, 1) := by decide +kernel
theorem dX7_readsGroup_36 : decode cX7_readsGroup 36 = .ok (.iload_n 1, 1) := by decide +kernel
theorem dX7_readsGroup_37 : decode cX7_readsGroup 37 = .ok (.iconst 1, 1) := by decide +kernel
theorem dX7_readsGroup_38 : decode cX7_readsGroup 38 = .ok (.iadd, 1) := by decide +kernel
theorem dX7_readsGroup_39 : decode cX7_readsGroup 39 = .ok (.invokevirtual 247, 3) := by decide +kernel
theorem dX7_readsGroup_42 : decode cX7_readsGroup 42 = .ok (.aload_n 0, 1) := by decide +kernel
theorem dX7_readsGroup_43 : decode cX7_readsGroup 43 = .ok (.getfield 200, 3) := by decide +kernel
theorem dX7_readsGroup_46 : decode cX7_readsGroup 46 = .ok (.ifCond .eq 4, 3) := by decide +kernel
theorem dX7_readsGroup_49 : decode cX7_readsGroup 49 = .ok (.return_, 1) := by decide +kernel
theorem dX7_readsGroup_50 : decode cX7_readsGroup 50 = .ok (.aload_n 0, 1) := by decide +kernel
theorem dX7_readsGroup_51 : decode cX7_readsGroup 51 = .ok (.getfield 244, 3) := by decide +kernel
theorem dX7_readsGroup_54 : decode cX7_readsGroup 54 = .ok (.iload_n 3, 1) := by decide +kernel
theorem dX7_readsGroup_55 : decode cX7_readsGroup 55 = .ok (.if_icmp .ne 13, 3) := by decide +kernel
theorem dX7_readsGroup_58 : decode cX7_readsGroup 58 = .ok (.aload_n 0, 1) := by decide +kernel
theorem dX7_readsGroup_59 : decode cX7_readsGroup 59 = .ok (.iconst 5, 1) := by decide +kernel
theorem dX7_readsGroup_60 : decode cX7_readsGroup 60 = .ok (.aload_n 0, 1) := by decide +kernel
theorem dX7_readsGroup_61 : decode cX7_readsGroup 61 = .ok (.getfield 206, 3) := by decide +kernel
theorem dX7_readsGroup_64 : decode cX7_readsGroup 64 = .ok (.invokevirtual 227, 3) := by decide +kernel
theorem dX7_readsGroup_67 : decode cX7_readsGroup 67 = .ok (.return_, 1) := by decide +kernel
theorem dX7_readsGroup_68 : decode cX7_readsGroup 68 = .ok (.aload_n 0, 1) := by decide +kernel
theorem dX7_readsGroup_69 : decode cX7_readsGroup 69 = .ok (.dup, 1) := by decide +kernel
theorem dX7_readsGroup_70 : decode cX7_readsGroup 70 = .ok (.getfield 206, 3) := by decide +kernel
theorem dX7_readsGroup_73 : decode cX7_readsGroup 73 = .ok (.iconst 1, 1) := by decide +kernel
theorem dX7_readsGroup_74 : decode cX7_readsGroup 74 = .ok (.iadd, 1) := by decide +kernel
theorem dX7_readsGroup_75 : decode cX7_readsGroup 75 = .ok (.putfield 206, 3) := by decide +kernel
theorem dX7_readsGroup_78 : decode cX7_readsGroup 78 = .ok (.aload_n 0, 1) := by decide +kernel
theorem dX7_readsGroup_79 : decode cX7_readsGroup 79 = .ok (.invokevirtual 241, 3) := by decide +kernel
theorem dX7_readsGroup_82 : decode cX7_readsGroup 82 = .ok (.istore 4, 2) := by decide +kernel
theorem dX7_readsGroup_84 : decode cX7_readsGroup 84 = .ok (.aload_n 0, 1) := by decide +kernel
theorem dX7_readsGroup_85 : decode cX7_readsGroup 85 = .ok (.getfield 244, 3) := by decide +kernel
theorem dX7_readsGroup_88 : decode cX7_readsGroup 88 = .ok (.iload_n 3, 1) := by decide +kernel
theorem dX7_readsGroup_89 : decode cX7_readsGroup 89 = .ok (.isub, 1) := by decide +kernel
theorem dX7_readsGroup_90 : decode cX7_readsGroup 90 = .ok (.istore 5, 2) := by decide +kernel
theorem dX7_readsGroup_92 : decode cX7_readsGroup 92 = .ok (.aload_n 0, 1) := by decide +kernel
theorem dX7_readsGroup_93 : decode cX7_readsGroup 93 = .ok (.getfield 200, 3) := by decide +kernel
theorem dX7_readsGroup_96 : decode cX7_readsGroup 96 = .ok (.ifCond .ne 21, 3) := by decide +kernel
theorem dX7_readsGroup_99 : decode cX7_readsGroup 99 = .ok (.iload_n 3, 1) := by decide +kernel
theorem dX7_readsGroup_100 : decode cX7_readsGroup 100 = .ok (.iload 5, 2) := by decide +kernel
theorem dX7_readsGroup_102 : decode cX7_readsGroup 102 = .ok (.iload 4, 2) := by decide +kernel
theorem dX7_readsGroup_104 : decode cX7_readsGroup 104 = .ok (.imul, 1) := by decide +kernel
theorem dX7_readsGroup_105 : decode cX7_readsGroup 105 = .ok (.iadd, 1) := by decide +kernel
theorem dX7_readsGroup_106 : decode cX7_readsGroup 106 = .ok (.bipush 100, 2) := by decide +kernel
theorem dX7_readsGroup_108 : decode cX7_readsGroup 108 = .ok (.if_icmp .le 9, 3) := by decide +kernel
theorem dX7_readsGroup_111 : decode cX7_readsGroup 111 = .ok (.aload_n 0, 1) := by decide +kernel
theorem dX7_readsGroup_112 : decode cX7_readsGroup 112 = .ok (.iconst 4, 1) := by decide +kernel
theorem dX7_readsGroup_113 : decode cX7_readsGroup 113 = .ok (.iload_n 2, 1) := by decide +kernel
theorem dX7_readsGroup_114 : decode cX7_readsGroup 114 = .ok (.invokevirtual 227, 3) := by decide +kernel
theorem dX7_readsGroup_117 : decode cX7_readsGroup 117 = .ok (.iload 5, 2) := by decide +kernel
theorem dX7_readsGroup_119 : decode cX7_readsGroup 119 = .ok (.istore 6, 2) := by decide +kernel
theorem dX7_readsGroup_121 : decode cX7_readsGroup 121 = .ok (.iload 6, 2) := by decide +kernel
theorem dX7_readsGroup_123 : decode cX7_readsGroup 123 = .ok (.iload 5, 2) := by decide +kernel
theorem dX7_readsGroup_125 : decode cX7_readsGroup 125 = .ok (.iload 4, 2) := by decide +kernel
theorem dX7_readsGroup_127 : decode cX7_readsGroup 127 = .ok (.imul, 1) := by decide +kernel
theorem dX7_readsGroup_128 : decode cX7_readsGroup 128 = .ok (.if_icmp .ge 47, 3) := by decide +kernel
theorem dX7_readsGroup_131 : decode cX7_readsGroup 131 = .ok (.aload_n 0, 1) := by decide +kernel
theorem dX7_readsGroup_132 : decode cX7_readsGroup 132 = .ok (.getfield 200, 3) := by decide +kernel
theorem dX7_readsGroup_135 : decode cX7_readsGroup 135 = .ok (.ifCond .ne 40, 3) := by decide +kernel
theorem dX7_readsGroup_138 : decode cX7_readsGroup 138 = .ok (.aload_n 0, 1) := by decide +kernel
theorem dX7_readsGroup_139 : decode cX7_readsGroup 139 = .ok (.getfield 60, 3) := by decide +kernel
theorem dX7_readsGroup_142 : decode cX7_readsGroup 142 = .ok (.aload_n 0, 1) := by decide +kernel
theorem dX7_readsGroup_143 : decode cX7_readsGroup 143 = .ok (.getfield 244, 3) := by decide +kernel
theorem dX7_readsGroup_146 : decode cX7_readsGroup 146 = .ok (.aload_n 0, 1) := by decide +kernel
theorem dX7_readsGroup_147 : decode cX7_readsGroup 147 = .ok (.getfield 60, 3) := by decide +kernel
theorem dX7_readsGroup_150 : decode cX7_readsGroup 150 = .ok (.iload_n 3, 1) := by decide +kernel
theorem dX7_readsGroup_151 : decode cX7_readsGroup 151 = .ok (.iload 6, 2) := by decide +kernel
theorem dX7_readsGroup_153 : decode cX7_readsGroup 153 = .ok (.iload 5, 2) := by decide +kernel
theorem dX7_readsGroup_155 : decode cX7_readsGroup 155 = .ok (.irem, 1) := by decide +kernel
theorem dX7_readsGroup_156 : decode cX7_readsGroup 156 = .ok (.iadd, 1) := by decide +kernel
theorem dX7_readsGroup_157 : decode cX7_readsGroup 157 = .ok (.iaload, 1) := by decide +kernel
theorem dX7_readsGroup_158 : decode cX7_readsGroup 158 = .ok (.iastore, 1) := by decide +kernel
theorem dX7_readsGroup_159 : decode cX7_readsGroup 159 = .ok (.aload_n 0, 1) := by decide +kernel
theorem dX7_readsGroup_160 : decode cX7_readsGroup 160 = .ok (.dup, 1) := by decide +kernel
theorem dX7_readsGroup_161 : decode cX7_readsGroup 161 = .ok (.getfield 244, 3) := by decide +kernel
theorem dX7_readsGroup_164 : decode cX7_readsGroup 164 = .ok (.iconst 1, 1) := by decide +kernel
theorem dX7_readsGroup_165 : decode cX7_readsGroup 165 = .ok (.iadd, 1) := by decide +kernel
theorem dX7_readsGroup_166 : decode cX7_readsGroup 166 = .ok (.putfield 244, 3) := by decide +kernel
theorem dX7_readsGroup_169 : decode cX7_readsGroup 169 = .ok (.iinc 6 1, 3) := by decide +kernel
theorem dX7_readsGroup_172 : decode cX7_readsGroup 172 = .ok (.goto (-51), 3) := by decide +kernel
theorem dX7_readsGroup_175 : decode cX7_readsGroup 175 = .ok (.return_, 1) := by decide +kernel
theorem dX7_isPattern_0 : decode cX7_isPattern 0 = .ok (.iload_n 0, 1) := by decide +kernel
theorem dX7_isPattern_1 : decode cX7_isPattern 1 = .ok (.i2l, 1) := by decide +kernel
theorem dX7_isPattern_2 : decode cX7_isPattern 2 = .ok (.lconst 0, 1) := by decide +kernel
theorem dX7_isPattern_3 : decode cX7_isPattern 3 = .ok (.ldc2_w 250, 3) := by decide +kernel
theorem dX7_isPattern_6 : decode cX7_isPattern 6 = .ok (.invokestatic 135, 3) := by decide +kernel
theorem dX7_isPattern_9 : decode cX7_isPattern 9 = .ok (.ireturn, 1) := by decide +kernel
theorem dX7_loadPattern_0 : decode cX7_loadPattern 0 = .ok (.aload_n 0, 1) := by decide +kernel
theorem dX7_loadPattern_1 : decode cX7_loadPattern 1 = .ok (.iconst 0, 1) := by decide +kernel
theorem dX7_loadPattern_2 : decode cX7_loadPattern 2 = .ok (.putfield 1, 3) := by decide +kernel
theorem dX7_loadPattern_5 : decode cX7_loadPattern 5 = .ok (.iload_n 1, 1) := by decide +kernel
theorem dX7_loadPattern_6 : decode cX7_loadPattern 6 = .ok (.invokestatic 252, 3) := by decide +kernel
theorem dX7_loadPattern_9 : decode cX7_loadPattern 9 = .ok (.ifCond .ne 6, 3) := by decide +kernel
theorem dX7_loadPattern_12 : decode cX7_loadPattern 12 = .ok (.bipush (-2), 2) := by decide +kernel
theorem dX7_loadPattern_14 : decode cX7_loadPattern 14 = .ok (.ireturn, 1) := by decide +kernel
theorem dX7_loadPattern_15 : decode cX7_loadPattern 15 = .ok (.iload_n 2, 1) := by decide +kernel
theorem dX7_loadPattern_16 : decode cX7_loadPattern 16 = .ok (.i2l, 1) := by decide +kernel
theorem dX7_loadPattern_17 : decode cX7_loadPattern 17 = .ok (.lconst 0, 1) := by decide +kernel
theorem dX7_loadPattern_18 : decode cX7_loadPattern 18 = .ok (.aload_n 0, 1) := by decide +kernel
theorem dX7_loadPattern_19 : decode cX7_loadPattern 19 = .ok (.getfield 197, 3) := by decide +kernel
theorem dX7_loadPattern_22 : decode cX7_loadPattern 22 = .ok (.i2l, 1) := by decide +kernel
theorem dX7_loadPattern_23 : decode cX7_loadPattern 23 = .ok (.invokestatic 135, 3) := by decide +kernel
theorem dX7_loadPattern_26 : decode cX7_loadPattern 26 = .ok (.ifCond .ne 6, 3) := by decide +kernel
theorem dX7_loadPattern_29 : decode cX7_loadPattern 29 = .ok (.bipush (-3), 2) := by decide +kernel
theorem dX7_loadPattern_31 : decode cX7_loadPattern 31 = .ok (.ireturn, 1) := by decide +kernel
theorem dX7_loadPattern_32 : decode cX7_loadPattern 32 = .ok (.aload_n 0, 1) := by decide +kernel
theorem dX7_loadPattern_33 : decode cX7_loadPattern 33 = .ok (.iload_n 2, 1) := by decide +kernel
theorem dX7_loadPattern_34 : decode cX7_loadPattern 34 = .ok (.putfield 209, 3) := by decide +kernel
theorem dX7_loadPattern_37 : decode cX7_loadPattern 37 = .ok (.aload_n 0, 1) := by decide +kernel
theorem dX7_loadPattern_38 : decode cX7_loadPattern 38 = .ok (.iconst 0, 1) := by decide +kernel
theorem dX7_loadPattern_39 : decode cX7_loadPattern 39 = .ok (.putfield 197, 3) := by decide +kernel
theorem dX7_loadPattern_42 : decode cX7_loadPattern 42 = .ok (.aload_n 0, 1) := by decide +kernel
theorem dX7_loadPattern_43 : decode cX7_loadPattern 43 = .ok (.iconst 0, 1) := by decide +kernel
theorem dX7_loadPattern_44 : decode cX7_loadPattern 44 = .ok (.putfield 206, 3) := by decide +kernel
theorem dX7_loadPattern_47 : decode cX7_loadPattern 47 = .ok (.aload_n 0, 1) := by decide +kernel
theorem dX7_loadPattern_48 : decode cX7_loadPattern 48 = .ok (.iconst 0, 1) := by decide +kernel
theorem dX7_loadPattern_49 : decode cX7_loadPattern 49 = .ok (.putfield 244, 3) := by decide +kernel
theorem dX7_loadPattern_52 : decode cX7_loadPattern 52 = .ok (.aload_n 0, 1) := by decide +kernel
theorem dX7_loadPattern_53 : decode cX7_loadPattern 53 = .ok (.iconst 0, 1) := by decide +kernel
theorem dX7_loadPattern_54 : decode cX7_loadPattern 54 = .ok (.putfield 200, 3) := by decide +kernel
theorem dX7_loadPattern_57 : decode cX7_loadPattern 57 = .ok (.aload_n 0, 1) := by decide +kernel
theorem dX7_loadPattern_58 : decode cX7_loadPattern 58 = .ok (.iconst 0, 1) := by decide +kernel
theorem dX7_loadPattern_59 : decode cX7_loadPattern 59 = .ok (.invokevirtual 247, 3) := by decide +kernel
theorem dX7_loadPattern_62 : decode cX7_loadPattern 62 = .ok (.aload_n 0, 1) := by decide +kernel
theorem dX7_loadPattern_63 : decode cX7_loadPattern 63 = .ok (.getfield 244, 3) := by decide +kernel
theorem dX7_loadPattern_66 : decode cX7_loadPattern 66 = .ok (.ifCond .ne 12, 3) := by decide +kernel
theorem dX7_loadPattern_69 : decode cX7_loadPattern 69 = .ok (.aload_n 0, 1) := by decide +kernel
theorem dX7_loadPattern_70 : decode cX7_loadPattern 70 = .ok (.iconst 5, 1) := by decide +kernel
theorem dX7_loadPattern_71 : decode cX7_loadPattern 71 = .ok (.aload_n 0, 1) := by decide +kernel
theorem dX7_loadPattern_72 : decode cX7_loadPattern 72 = .ok (.getfield 209, 3) := by decide +kernel
theorem dX7_loadPattern_75 : decode cX7_loadPattern 75 = .ok (.invokevirtual 227, 3) := by decide +kernel
theorem dX7_loadPattern_78 : decode cX7_loadPattern 78 = .ok (.aload_n 0, 1) := by decide +kernel
theorem dX7_loadPattern_79 : decode cX7_loadPattern 79 = .ok (.aload_n 0, 1) := by decide +kernel
theorem dX7_loadPattern_80 : decode cX7_loadPattern 80 = .ok (.getfield 200, 3) := by decide +kernel
theorem dX7_loadPattern_83 : decode cX7_loadPattern 83 = .ok (.putfield 255, 3) := by decide +kernel
theorem dX7_loadPattern_86 : decode cX7_loadPattern 86 = .ok (.aload_n 0, 1) := by decide +kernel
theorem dX7_loadPattern_87 : decode cX7_loadPattern 87 = .ok (.aload_n 0, 1) := by decide +kernel
theorem dX7_loadPattern_88 : decode cX7_loadPattern 88 = .ok (.getfield 200, 3) := by decide +kernel
theorem dX7_loadPattern_91 : decode cX7_loadPattern 91 = .ok (.ifCond .ne 7, 3) := by decide +kernel
theorem dX7_loadPattern_94 : decode cX7_loadPattern 94 = .ok (.iconst (-1), 1) := by decide +kernel
theorem dX7_loadPattern_95 : decode cX7_loadPattern 95 = .ok (.goto 7, 3) := by decide +kernel
theorem dX7_loadPattern_98 : decode cX7_loadPattern 98 = .ok (.aload_n 0, 1) := by decide +kernel
theorem dX7_loadPattern_99 : decode cX7_loadPattern 99 = .ok (.getfield 203, 3) := by decide +kernel
theorem dX7_loadPattern_102 : decode cX7_loadPattern 102 = .ok (.putfield 63, 3) := by decide +kernel
theorem dX7_loadPattern_105 : decode cX7_loadPattern 105 = .ok (.aload_n 0, 1) := by decide +kernel
theorem dX7_loadPattern_106 : decode cX7_loadPattern 106 = .ok (.getfield 200, 3) := by decide +kernel
theorem dX7_loadPattern_109 : decode cX7_loadPattern 109 = .ok (.ifCond .eq 11, 3) := by decide +kernel
theorem dX7_loadPattern_112 : decode cX7_loadPattern 112 = .ok (.bipush (-30), 2) := by decide +kernel
theorem dX7_loadPattern_114 : decode cX7_loadPattern 114 = .ok (.aload_n 0, 1) := by decide +kernel
theorem dX7_loadPattern_115 : decode cX7_loadPattern 115 = .ok (.getfield 200, 3) := by decide +kernel
theorem dX7_loadPattern_118 : decode cX7_loadPattern 118 = .ok (.isub, 1) := by decide +kernel
theorem dX7_loadPattern_119 : decode cX7_loadPattern 119 = .ok (.ireturn, 1) := by decide +kernel
theorem dX7_loadPattern_120 : decode cX7_loadPattern 120 = .ok (.iconst 0, 1) := by decide +kernel
theorem dX7_loadPattern_121 : decode cX7_loadPattern 121 = .ok (.istore_n 3, 1) := by decide +kernel
theorem dX7_loadPattern_122 : decode cX7_loadPattern 122 = .ok (.iload_n 3, 1) := by decide +kernel
theorem dX7_loadPattern_123 : decode cX7_loadPattern 123 = .ok (.aload_n 0, 1) := by decide +kernel
theorem dX7_loadPattern_124 : decode cX7_loadPattern 124 = .ok (.getfield 244, 3) := by decide +kernel
theorem dX7_loadPattern_127 : decode cX7_loadPattern 127 = .ok (.if_icmp .ge 26, 3) := by decide +kernel
theorem dX7_loadPattern_130 : decode cX7_loadPattern 130 = .ok (.aload_n 0, 1) := by decide +kernel
theorem dX7_loadPattern_131 : decode cX7_loadPattern 131 = .ok (.getfield 54, 3) := by decide +kernel
theorem dX7_loadPattern_134 : decode cX7_loadPattern 134 = .ok (.bipush 100, 2) := by decide +kernel
theorem dX7_loadPattern_136 : decode cX7_loadPattern 136 = .ok (.iload_n 1, 1) := by decide +kernel
theorem dX7_loadPattern_137 : decode cX7_loadPattern 137 = .ok (.imul, 1) := by decide +kernel
theorem dX7_loadPattern_138 : decode cX7_loadPattern 138 = .ok (.iload_n 3, 1) := by decide +kernel
theorem dX7_loadPattern_139 : decode cX7_loadPattern 139 = .ok (.iadd, 1) := by decide +kernel
theorem dX7_loadPattern_140 : decode cX7_loadPattern 140 = .ok (.aload_n 0, 1) := by decide +kernel
theorem dX7_loadPattern_141 : decode cX7_loadPattern 141 = .ok (.getfield 60, 3) := by decide +kernel
theorem dX7_loadPattern_144 : decode cX7_loadPattern 144 = .ok (.iload_n 3, 1) := by decide +kernel
theorem dX7_loadPattern_145 : decode cX7_loadPattern 145 = .ok (.iaload, 1) := by decide +kernel
theorem dX7_loadPattern_146 : decode cX7_loadPattern 146 = .ok (.iastore, 1) := by decide +kernel
theorem dX7_loadPattern_147 : decode cX7_loadPattern 147 = .ok (.iinc 3 1, 3) := by decide +kernel
theorem dX7_loadPattern_150 : decode cX7_loadPattern 150 = .ok (.goto (-28), 3) := by decide +kernel
theorem dX7_loadPattern_153 : decode cX7_loadPattern 153 = .ok (.aload_n 0, 1) := by decide +kernel
theorem dX7_loadPattern_154 : decode cX7_loadPattern 154 = .ok (.getfield 57, 3) := by decide +kernel
theorem dX7_loadPattern_157 : decode cX7_loadPattern 157 = .ok (.iload_n 1, 1) := by decide +kernel
theorem dX7_loadPattern_158 : decode cX7_loadPattern 158 = .ok (.aload_n 0, 1) := by decide +kernel
theorem dX7_loadPattern_159 : decode cX7_loadPattern 159 = .ok (.getfield 244, 3) := by decide +kernel
theorem dX7_loadPattern_162 : decode cX7_loadPattern 162 = .ok (.iastore, 1) := by decide +kernel
theorem dX7_loadPattern_163 : decode cX7_loadPattern 163 = .ok (.aload_n 0, 1) := by decide +kernel
theorem dX7_loadPattern_164 : decode cX7_loadPattern 164 = .ok (.getfield 244, 3) := by decide +kernel
theorem dX7_loadPattern_167 : decode cX7_loadPattern 167 = .ok (.ireturn, 1) := by decide +kernel
theorem dX7_patternError_0 : decode cX7_patternError 0 = .ok (.aload_n 0, 1) := by decide +kernel
theorem dX7_patternError_1 : decode cX7_patternError 1 = .ok (.iconst 0, 1) := by decide +kernel
theorem dX7_patternError_2 : decode cX7_patternError 2 = .ok (.putfield 1, 3) := by decide +kernel
theorem dX7_patternError_5 : decode cX7_patternError 5 = .ok (.aload_n 0, 1) := by decide +kernel
theorem dX7_patternError_6 : decode cX7_patternError 6 = .ok (.getfield 255, 3) := by decide +kernel
theorem dX7_patternError_9 : decode cX7_patternError 9 = .ok (.ireturn, 1) := by decide +kernel
theorem dX7_patternErrorPosition_0 : decode cX7_patternErrorPosition 0 = .ok (.aload_n 0, 1) := by decide +kernel
theorem dX7_patternErrorPosition_1 : decode cX7_patternErrorPosition 1 = .ok (.iconst 0, 1) := by decide +kernel
theorem dX7_patternErrorPosition_2 : decode cX7_patternErrorPosition 2 = .ok (.putfield 1, 3) := by decide +kernel
theorem dX7_patternErrorPosition_5 : decode cX7_patternErrorPosition 5 = .ok (.aload_n 0, 1) := by decide +kernel
theorem dX7_patternErrorPosition_6 : decode cX7_patternErrorPosition 6 = .ok (.getfield 63, 3) := by decide +kernel
theorem dX7_patternErrorPosition_9 : decode cX7_patternErrorPosition 9 = .ok (.ireturn, 1) := by decide +kernel
theorem dX7_stepBells_0 : decode cX7_stepBells 0 = .ok (.aload_n 0, 1) := by decide +kernel
theorem dX7_stepBells_1 : decode cX7_stepBells 1 = .ok (.iconst 0, 1) := by decide +kernel
theorem dX7_stepBells_2 : decode cX7_stepBells 2 = .ok (.putfield 1, 3) := by decide +kernel
theorem dX7_stepBells_5 : decode cX7_stepBells 5 = .ok (.iload_n 1, 1) := by decide +kernel
theorem dX7_stepBells_6 : decode cX7_stepBells 6 = .ok (.invokestatic 252, 3) := by decide +kernel
theorem dX7_stepBells_9 : decode cX7_stepBells 9 = .ok (.ifCond .ne 6, 3) := by decide +kernel
theorem dX7_stepBells_12 : decode cX7_stepBells 12 = .ok (.bipush (-2), 2) := by decide +kernel
theorem dX7_stepBells_14 : decode cX7_stepBells 14 = .ok (.ireturn, 1) := by decide +kernel
theorem dX7_stepBells_15 : decode cX7_stepBells 15 = .ok (.aload_n 0, 1) := by decide +kernel
theorem dX7_stepBells_16 : decode cX7_stepBells 16 = .ok (.getfield 57, 3) := by decide +kernel
theorem dX7_stepBells_19 : decode cX7_stepBells 19 = .ok (.iload_n 1, 1) := by decide +kernel
theorem dX7_stepBells_20 : decode cX7_stepBells 20 = .ok (.iaload, 1) := by decide +kernel
theorem dX7_stepBells_21 : decode cX7_stepBells 21 = .ok (.ifCond .ne 6, 3) := by decide +kernel
theorem dX7_stepBells_24 : decode cX7_stepBells 24 = .ok (.bipush (-9), 2) := by decide +kernel
theorem dX7_stepBells_26 : decode cX7_stepBells 26 = .ok (.ireturn, 1) := by decide +kernel
theorem dX7_stepBells_27 : decode cX7_stepBells 27 = .ok (.iload_n 2, 1) := by decide +kernel
theorem dX7_stepBells_28 : decode cX7_stepBells 28 = .ok (.i2l, 1) := by decide +kernel
theorem dX7_stepBells_29 : decode cX7_stepBells 29 = .ok (.lconst 0, 1) := by decide +kernel
theorem dX7_stepBells_30 : decode cX7_stepBells 30 = .ok (.aload_n 0, 1) := by decide +kernel
theorem dX7_stepBells_31 : decode cX7_stepBells 31 = .ok (.getfield 57, 3) := by decide +kernel
theorem dX7_stepBells_34 : decode cX7_stepBells 34 = .ok (.iload_n 1, 1) := by decide +kernel
theorem dX7_stepBells_35 : decode cX7_stepBells 35 = .ok (.iaload, 1) := by decide +kernel
theorem dX7_stepBells_36 : decode cX7_stepBells 36 = .ok (.iconst 1, 1) := by decide +kernel
theorem dX7_stepBells_37 : decode cX7_stepBells 37 = .ok (.isub, 1) := by decide +kernel
theorem dX7_stepBells_38 : decode cX7_stepBells 38 = .ok (.i2l, 1) := by decide +kernel
theorem dX7_stepBells_39 : decode cX7_stepBells 39 = .ok (.invokestatic 135, 3) := by decide +kernel
theorem dX7_stepBells_42 : decode cX7_stepBells 42 = .ok (.ifCond .eq 17, 3) := by decide +kernel
theorem dX7_stepBells_45 : decode cX7_stepBells 45 = .ok (.aload_n 0, 1) := by decide +kernel
theorem dX7_stepBells_46 : decode cX7_stepBells 46 = .ok (.getfield 54, 3) := by decide +kernel
theorem dX7_stepBells_49 : decode cX7_stepBells 49 = .ok (.bipush 100, 2) := by decide +kernel
theorem dX7_stepBells_51 : decode cX7_stepBells 51 = .ok (.iload_n 1, 1) := by decide +kernel
theorem dX7_stepBells_52 : decode cX7_stepBells 52 = .ok (.imul, 1) := by decide +kernel
theorem dX7_stepBells_53 : decode cX7_stepBells 53 = .ok (.iload_n 2, 1) := by decide +kernel
theorem dX7_stepBells_54 : decode cX7_stepBells 54 = .ok (.iadd, 1) := by decide +kernel
theorem dX7_stepBells_55 : decode cX7_stepBells 55 = .ok (.iaload, 1) := by decide +kernel
theorem dX7_stepBells_56 : decode cX7_stepBells 56 = .ok (.goto 4, 3) := by decide +kernel
theorem dX7_stepBells_59 : decode cX7_stepBells 59 = .ok (.iconst (-1), 1) := by decide +kernel
theorem dX7_stepBells_60 : decode cX7_stepBells 60 = .ok (.ireturn, 1) := by decide +kernel
theorem dX7_patternStrokes_0 : decode cX7_patternStrokes 0 = .ok (.aload_n 0, 1) := by decide +kernel
theorem dX7_patternStrokes_1 : decode cX7_patternStrokes 1 = .ok (.iconst 0, 1) := by decide +kernel
theorem dX7_patternStrokes_2 : decode cX7_patternStrokes 2 = .ok (.putfield 1, 3) := by decide +kernel
theorem dX7_patternStrokes_5 : decode cX7_patternStrokes 5 = .ok (.iload_n 1, 1) := by decide +kernel
theorem dX7_patternStrokes_6 : decode cX7_patternStrokes 6 = .ok (.invokestatic 252, 3) := by decide +kernel
theorem dX7_patternStrokes_9 : decode cX7_patternStrokes 9 = .ok (.ifCond .ne 6, 3) := by decide +kernel
theorem dX7_patternStrokes_12 : decode cX7_patternStrokes 12 = .ok (.bipush (-2), 2) := by decide +kernel
theorem dX7_patternStrokes_14 : decode cX7_patternStrokes 14 = .ok (.ireturn, 1) := by decide +kernel
theorem dX7_patternStrokes_15 : decode cX7_patternStrokes 15 = .ok (.aload_n 0, 1) := by decide +kernel
theorem dX7_patternStrokes_16 : decode cX7_patternStrokes 16 = .ok (.getfield 57, 3) := by decide +kernel
theorem dX7_patternStrokes_19 : decode cX7_patternStrokes 19 = .ok (.iload_n 1, 1) := by decide +kernel
theorem dX7_patternStrokes_20 : decode cX7_patternStrokes 20 = .ok (.iaload, 1) := by decide +kernel
theorem dX7_patternStrokes_21 : decode cX7_patternStrokes 21 = .ok (.ifCond .ne 6, 3) := by decide +kernel
theorem dX7_patternStrokes_24 : decode cX7_patternStrokes 24 = .ok (.bipush (-9), 2) := by decide +kernel
theorem dX7_patternStrokes_26 : decode cX7_patternStrokes 26 = .ok (.ireturn, 1) := by decide +kernel
theorem dX7_patternStrokes_27 : decode cX7_patternStrokes 27 = .ok (.iconst 0, 1) := by decide +kernel
theorem dX7_patternStrokes_28 : decode cX7_patternStrokes 28 = .ok (.istore_n 2, 1) := by decide +kernel
theorem dX7_patternStrokes_29 : decode cX7_patternStrokes 29 = .ok (.iconst 0, 1) := by decide +kernel
theorem dX7_patternStrokes_30 : decode cX7_patternStrokes 30 = .ok (.istore_n 3, 1) := by decide +kernel
theorem dX7_patternStrokes_31 : decode cX7_patternStrokes 31 = .ok (.iload_n 3, 1) := by decide +kernel
theorem dX7_patternStrokes_32 : decode cX7_patternStrokes 32 = .ok (.aload_n 0, 1) := by decide +kernel
theorem dX7_patternStrokes_33 : decode cX7_patternStrokes 33 = .ok (.getfield 57, 3) := by decide +kernel
theorem dX7_patternStrokes_36 : decode cX7_patternStrokes 36 = .ok (.iload_n 1, 1) := by decide +kernel
theorem dX7_patternStrokes_37 : decode cX7_patternStrokes 37 = .ok (.iaload, 1) := by decide +kernel
theorem dX7_patternStrokes_38 : decode cX7_patternStrokes 38 = .ok (.if_icmp .ge 46, 3) := by decide +kernel
theorem dX7_patternStrokes_41 : decode cX7_patternStrokes 41 = .ok (.iconst 0, 1) := by decide +kernel
theorem dX7_patternStrokes_42 : decode cX7_patternStrokes 42 = .ok (.istore 4, 2) := by decide +kernel
theorem dX7_patternStrokes_44 : decode cX7_patternStrokes 44 = .ok (.iload 4, 2) := by decide +kernel
theorem dX7_patternStrokes_46 : decode cX7_patternStrokes 46 = .ok (.aload_n 0, 1) := by decide +kernel
theorem dX7_patternStrokes_47 : decode cX7_patternStrokes 47 = .ok (.getfield 132, 3) := by decide +kernel
theorem dX7_patternStrokes_50 : decode cX7_patternStrokes 50 = .ok (.if_icmp .ge 28, 3) := by decide +kernel
theorem dX7_patternStrokes_53 : decode cX7_patternStrokes 53 = .ok (.iload_n 2, 1) := by decide +kernel
theorem dX7_patternStrokes_54 : decode cX7_patternStrokes 54 = .ok (.aload_n 0, 1) := by decide +kernel
theorem dX7_patternStrokes_55 : decode cX7_patternStrokes 55 = .ok (.getfield 54, 3) := by decide +kernel
theorem dX7_patternStrokes_58 : decode cX7_patternStrokes 58 = .ok (.bipush 100, 2) := by decide +kernel
theorem dX7_patternStrokes_60 : decode cX7_patternStrokes 60 = .ok (.iload_n 1, 1) := by decide +kernel
theorem dX7_patternStrokes_61 : decode cX7_patternStrokes 61 = .ok (.imul, 1) := by decide +kernel
theorem dX7_patternStrokes_62 : decode cX7_patternStrokes 62 = .ok (.iload_n 3, 1) := by decide +kernel
theorem dX7_patternStrokes_63 : decode cX7_patternStrokes 63 = .ok (.iadd, 1) := by decide +kernel
theorem dX7_patternStrokes_64 : decode cX7_patternStrokes 64 = .ok (.iaload, 1) := by decide +kernel
theorem dX7_patternStrokes_65 : decode cX7_patternStrokes 65 = .ok (.iload 4, 2) := by decide +kernel
theorem dX7_patternStrokes_67 : decode cX7_patternStrokes 67 = .ok (.ishr, 1) := by decide +kernel
theorem dX7_patternStrokes_68 : decode cX7_patternStrokes 68 = .ok (.iconst 1, 1) := by decide +kernel
theorem dX7_patternStrokes_69 : decode cX7_patternStrokes 69 = .ok (.iand, 1) := by decide +kernel
theorem dX7_patternStrokes_70 : decode cX7_patternStrokes 70 = .ok (.iadd, 1) := by decide +kernel
theorem dX7_patternStrokes_71 : decode cX7_patternStrokes 71 = .ok (.istore_n 2, 1) := by decide +kernel
theorem dX7_patternStrokes_72 : decode cX7_patternStrokes 72 = .ok (.iinc 4 1, 3) := by decide +kernel
theorem dX7_patternStrokes_75 : decode cX7_patternStrokes 75 = .ok (.goto (-31), 3) := by decide +kernel
theorem dX7_patternStrokes_78 : decode cX7_patternStrokes 78 = .ok (.iinc 3 1, 3) := by decide +kernel
theorem dX7_patternStrokes_81 : decode cX7_patternStrokes 81 = .ok (.goto (-50), 3) := by decide +kernel
theorem dX7_patternStrokes_84 : decode cX7_patternStrokes 84 = .ok (.iload_n 2, 1) := by decide +kernel
theorem dX7_patternStrokes_85 : decode cX7_patternStrokes 85 = .ok (.ireturn, 1) := by decide +kernel
theorem dX7_plays_0 : decode cX7_plays 0 = .ok (.aload_n 0, 1) := by decide +kernel
theorem dX7_plays_1 : decode cX7_plays 1 = .ok (.getfield 171, 3) := by decide +kernel
theorem dX7_plays_4 : decode cX7_plays 4 = .ok (.istore 4, 2) := by decide +kernel
theorem dX7_plays_6 : decode cX7_plays 6 = .ok (.iconst 0, 1) := by decide +kernel
theorem dX7_plays_7 : decode cX7_plays 7 = .ok (.istore 5, 2) := by decide +kernel
theorem dX7_plays_9 : decode cX7_plays 9 = .ok (.iload 5, 2) := by decide +kernel
theorem dX7_plays_11 : decode cX7_plays 11 = .ok (.aload_n 0, 1) := by decide +kernel
theorem dX7_plays_12 : decode cX7_plays 12 = .ok (.getfield 57, 3) := by decide +kernel
theorem dX7_plays_15 : decode cX7_plays 15 = .ok (.iload_n 1, 1) := by decide +kernel
theorem dX7_plays_16 : decode cX7_plays 16 = .ok (.iaload, 1) := by decide +kernel
theorem dX7_plays_17 : decode cX7_plays 17 = .ok (.if_icmp .ge 91, 3) := by decide +kernel
theorem dX7_plays_20 : decode cX7_plays 20 = .ok (.iconst 0, 1) := by decide +kernel
theorem dX7_plays_21 : decode cX7_plays 21 = .ok (.istore 6, 2) := by decide +kernel
theorem dX7_plays_23 : decode cX7_plays 23 = .ok (.iload 6, 2) := by decide +kernel
theorem dX7_plays_25 : decode cX7_plays 25 = .ok (.aload_n 0, 1) := by decide +kernel
theorem dX7_plays_26 : decode cX7_plays 26 = .ok (.getfield 132, 3) := by decide +kernel
theorem dX7_plays_29 : decode cX7_plays 29 = .ok (.if_icmp .ge 73, 3) := by decide +kernel
theorem dX7_plays_32 : decode cX7_plays 32 = .ok (.aload_n 0, 1) := by decide +kernel
theorem dX7_plays_33 : decode cX7_plays 33 = .ok (.getfield 54, 3) := by decide +kernel
theorem dX7_plays_36 : decode cX7_plays 36 = .ok (.bipush 100, 2) := by decide +kernel
theorem dX7_plays_38 : decode cX7_plays 38 = .ok (.iload_n 1, 1) := by decide +kernel
theorem dX7_plays_39 : decode cX7_plays 39 = .ok (.imul, 1) := by decide +kernel
theorem dX7_plays_40 : decode cX7_plays 40 = .ok (.iload 5, 2) := by decide +kernel
theorem dX7_plays_42 : decode cX7_plays 42 = .ok (.iadd, 1) := by decide +kernel
theorem dX7_plays_43 : decode cX7_plays 43 = .ok (.iaload, 1) := by decide +kernel
theorem dX7_plays_44 : decode cX7_plays 44 = .ok (.iload 6, 2) := by decide +kernel
theorem dX7_plays_46 : decode cX7_plays 46 = .ok (.ishr, 1) := by decide +kernel
theorem dX7_plays_47 : decode cX7_plays 47 = .ok (.iconst 1, 1) := by decide +kernel
theorem dX7_plays_48 : decode cX7_plays 48 = .ok (.iand, 1) := by decide +kernel
theorem dX7_plays_49 : decode cX7_plays 49 = .ok (.ifCond .ne 6, 3) := by decide +kernel
theorem dX7_plays_52 : decode cX7_plays 52 = .ok (.goto 44, 3) := by decide +kernel
theorem dX7_plays_55 : decode cX7_plays 55 = .ok (.aload_n 0, 1) := by decide +kernel
theorem dX7_plays_56 : decode cX7_plays 56 = .ok (.iload 6, 2) := by decide +kernel
theorem dX7_plays_58 : decode cX7_plays 58 = .ok (.iload_n 2, 1) := by decide +kernel
theorem dX7_plays_59 : decode cX7_plays 59 = .ok (.iload 5, 2) := by decide +kernel
theorem dX7_plays_61 : decode cX7_plays 61 = .ok (.iload_n 3, 1) := by decide +kernel
theorem dX7_plays_62 : decode cX7_plays 62 = .ok (.imul, 1) := by decide +kernel
theorem dX7_plays_63 : decode cX7_plays 63 = .ok (.iadd, 1) := by decide +kernel
theorem dX7_plays_64 : decode cX7_plays 64 = .ok (.i2l, 1) := by decide +kernel
theorem dX7_plays_65 : decode cX7_plays 65 = .ok (.invokevirtual 174, 3) := by decide +kernel
theorem dX7_plays_68 : decode cX7_plays 68 = .ok (.istore 7, 2) := by decide +kernel
theorem dX7_plays_70 : decode cX7_plays 70 = .ok (.iload 7, 2) := by decide +kernel
theorem dX7_plays_72 : decode cX7_plays 72 = .ok (.ifCond .eq 12, 3) := by decide +kernel
theorem dX7_plays_75 : decode cX7_plays 75 = .ok (.aload_n 0, 1) := by decide +kernel
theorem dX7_plays_76 : decode cX7_plays 76 = .ok (.iload 4, 2) := by decide +kernel
theorem dX7_plays_78 : decode cX7_plays 78 = .ok (.putfield 171, 3) := by decide +kernel
theorem dX7_plays_81 : decode cX7_plays 81 = .ok (.iload 7, 2) := by decide +kernel
theorem dX7_plays_83 : decode cX7_plays 83 = .ok (.ireturn, 1) := by decide +kernel
theorem dX7_plays_84 : decode cX7_plays 84 = .ok (.aload_n 0, 1) := by decide +kernel
theorem dX7_plays_85 : decode cX7_plays 85 = .ok (.iload 6, 2) := by decide +kernel
theorem dX7_plays_87 : decode cX7_plays 87 = .ok (.iload_n 2, 1) := by decide +kernel
theorem dX7_plays_88 : decode cX7_plays 88 = .ok (.iload 5, 2) := by decide +kernel
theorem dX7_plays_90 : decode cX7_plays 90 = .ok (.iload_n 3, 1) := by decide +kernel
theorem dX7_plays_91 : decode cX7_plays 91 = .ok (.imul, 1) := by decide +kernel
theorem dX7_plays_92 : decode cX7_plays 92 = .ok (.iadd, 1) := by decide +kernel
theorem dX7_plays_93 : decode cX7_plays 93 = .ok (.invokevirtual 178, 3) := by decide +kernel
theorem dX7_plays_96 : decode cX7_plays 96 = .ok (.iinc 6 1, 3) := by decide +kernel
theorem dX7_plays_99 : decode cX7_plays 99 = .ok (.goto (-76), 3) := by decide +kernel
theorem dX7_plays_102 : decode cX7_plays 102 = .ok (.iinc 5 1, 3) := by decide +kernel
theorem dX7_plays_105 : decode cX7_plays 105 = .ok (.goto (-96), 3) := by decide +kernel
theorem dX7_plays_108 : decode cX7_plays 108 = .ok (.aload_n 0, 1) := by decide +kernel
theorem dX7_plays_109 : decode cX7_plays 109 = .ok (.getfield 171, 3) := by decide +kernel
theorem dX7_plays_112 : decode cX7_plays 112 = .ok (.iload 4, 2) := by decide +kernel
theorem dX7_plays_114 : decode cX7_plays 114 = .ok (.isub, 1) := by decide +kernel
theorem dX7_plays_115 : decode cX7_plays 115 = .ok (.ireturn, 1) := by decide +kernel
theorem dX7_play_0 : decode cX7_play 0 = .ok (.aload_n 0, 1) := by decide +kernel
theorem dX7_play_1 : decode cX7_play 1 = .ok (.iconst 0, 1) := by decide +kernel
theorem dX7_play_2 : decode cX7_play 2 = .ok (.putfield 1, 3) := by decide +kernel
theorem dX7_play_5 : decode cX7_play 5 = .ok (.iload_n 1, 1) := by decide +kernel
theorem dX7_play_6 : decode cX7_play 6 = .ok (.invokestatic 252, 3) := by decide +kernel
theorem dX7_play_9 : decode cX7_play 9 = .ok (.ifCond .ne 6, 3) := by decide +kernel
theorem dX7_play_12 : decode cX7_play 12 = .ok (.bipush (-2), 2) := by decide +kernel
theorem dX7_play_14 : decode cX7_play 14 = .ok (.ireturn, 1) := by decide +kernel
theorem dX7_play_15 : decode cX7_play 15 = .ok (.aload_n 0, 1) := by decide +kernel
theorem dX7_play_16 : decode cX7_play 16 = .ok (.getfield 57, 3) := by decide +kernel
theorem dX7_play_19 : decode cX7_play 19 = .ok (.iload_n 1, 1) := by decide +kernel
theorem dX7_play_20 : decode cX7_play 20 = .ok (.iaload, 1) := by decide +kernel
theorem dX7_play_21 : decode cX7_play 21 = .ok (.ifCond .ne 6, 3) := by decide +kernel
theorem dX7_play_24 : decode cX7_play 24 = .ok (.bipush (-9), 2) := by decide +kernel
theorem dX7_play_26 : decode cX7_play 26 = .ok (.ireturn, 1) := by decide +kernel
theorem dX7_play_27 : decode cX7_play 27 = .ok (.iload_n 2, 1) := by decide +kernel
theorem dX7_play_28 : decode cX7_play 28 = .ok (.i2l, 1) := by decide +kernel
theorem dX7_play_29 : decode cX7_play 29 = .ok (.lconst 0, 1) := by decide +kernel
theorem dX7_play_30 : decode cX7_play 30 = .ok (.ldc2_w 169, 3) := by decide +kernel
theorem dX7_play_33 : decode cX7_play 33 = .ok (.invokestatic 135, 3) := by decide +kernel
theorem dX7_play_36 : decode cX7_play 36 = .ok (.ifCond .eq 15, 3) := by decide +kernel
theorem dX7_play_39 : decode cX7_play 39 = .ok (.iload_n 3, 1) := by decide +kernel
theorem dX7_play_40 : decode cX7_play 40 = .ok (.i2l, 1) := by decide +kernel
theorem dX7_play_41 : decode cX7_play 41 = .ok (.lconst 1, 1) := by decide +kernel
theorem dX7_play_42 : decode cX7_play 42 = .ok (.ldc2_w 258, 3) := by decide +kernel
theorem dX7_play_45 : decode cX7_play 45 = .ok (.invokestatic 135, 3) := by decide +kernel
theorem dX7_play_48 : decode cX7_play 48 = .ok (.ifCond .ne 6, 3) := by decide +kernel
theorem dX7_play_51 : decode cX7_play 51 = .ok (.bipush (-3), 2) := by decide +kernel
theorem dX7_play_53 : decode cX7_play 53 = .ok (.ireturn, 1) := by decide +kernel
theorem dX7_play_54 : decode cX7_play 54 = .ok (.aload_n 0, 1) := by decide +kernel
theorem dX7_play_55 : decode cX7_play 55 = .ok (.iload_n 1, 1) := by decide +kernel
theorem dX7_play_56 : decode cX7_play 56 = .ok (.iload_n 2, 1) := by decide +kernel
theorem dX7_play_57 : decode cX7_play 57 = .ok (.iload_n 3, 1) := by decide +kernel
theorem dX7_play_58 : decode cX7_play 58 = .ok (.invokevirtual 260, 3) := by decide +kernel
theorem dX7_play_61 : decode cX7_play 61 = .ok (.ireturn, 1) := by decide +kernel
theorem dX7_weaves_0 : decode cX7_weaves 0 = .ok (.iconst 0, 1) := by decide +kernel
theorem dX7_weaves_1 : decode cX7_weaves 1 = .ok (.istore 5, 2) := by decide +kernel
theorem dX7_weaves_3 : decode cX7_weaves 3 = .ok (.iload 5, 2) := by decide +kernel
theorem dX7_weaves_5 : decode cX7_weaves 5 = .ok (.iload 4, 2) := by decide +kernel
theorem dX7_weaves_7 : decode cX7_weaves 7 = .ok (.if_icmp .gt 25, 3) := by decide +kernel
theorem dX7_weaves_10 : decode cX7_weaves 10 = .ok (.aload_n 0, 1) := by decide +kernel
theorem dX7_weaves_11 : decode cX7_weaves 11 = .ok (.iload_n 1, 1) := by decide +kernel
theorem dX7_weaves_12 : decode cX7_weaves 12 = .ok (.iload_n 2, 1) := by decide +kernel
theorem dX7_weaves_13 : decode cX7_weaves 13 = .ok (.iload 5, 2) := by decide +kernel
theorem dX7_weaves_15 : decode cX7_weaves 15 = .ok (.iadd, 1) := by decide +kernel
theorem dX7_weaves_16 : decode cX7_weaves 16 = .ok (.iload_n 3, 1) := by decide +kernel
theorem dX7_weaves_17 : decode cX7_weaves 17 = .ok (.invokevirtual 260, 3) := by decide +kernel
theorem dX7_weaves_20 : decode cX7_weaves 20 = .ok (.ifCond .lt 6, 3) := by decide +kernel
theorem dX7_weaves_23 : decode cX7_weaves 23 = .ok (.iload 5, 2) := by decide +kernel
theorem dX7_weaves_25 : decode cX7_weaves 25 = .ok (.ireturn, 1) := by decide +kernel
theorem dX7_weaves_26 : decode cX7_weaves 26 = .ok (.iinc 5 1, 3) := by decide +kernel
theorem dX7_weaves_29 : decode cX7_weaves 29 = .ok (.goto (-26), 3) := by decide +kernel
theorem dX7_weaves_32 : decode cX7_weaves 32 = .ok (.iconst (-1), 1) := by decide +kernel
theorem dX7_weaves_33 : decode cX7_weaves 33 = .ok (.ireturn, 1) := by decide +kernel
theorem dX7_weave_0 : decode cX7_weave 0 = .ok (.aload_n 0, 1) := by decide +kernel
theorem dX7_weave_1 : decode cX7_weave 1 = .ok (.iconst 0, 1) := by decide +kernel
theorem dX7_weave_2 : decode cX7_weave 2 = .ok (.putfield 1, 3) := by decide +kernel
theorem dX7_weave_5 : decode cX7_weave 5 = .ok (.iload_n 1, 1) := by decide +kernel
theorem dX7_weave_6 : decode cX7_weave 6 = .ok (.invokestatic 252, 3) := by decide +kernel
theorem dX7_weave_9 : decode cX7_weave 9 = .ok (.ifCond .ne 6, 3) := by decide +kernel
theorem dX7_weave_12 : decode cX7_weave 12 = .ok (.bipush (-2), 2) := by decide +kernel
theorem dX7_weave_14 : decode cX7_weave 14 = .ok (.ireturn, 1) := by decide +kernel
theorem dX7_weave_15 : decode cX7_weave 15 = .ok (.aload_n 0, 1) := by decide +kernel
theorem dX7_weave_16 : decode cX7_weave 16 = .ok (.getfield 57, 3) := by decide +kernel
theorem dX7_weave_19 : decode cX7_weave 19 = .ok (.iload_n 1, 1) := by decide +kernel
theorem dX7_weave_20 : decode cX7_weave 20 = .ok (.iaload, 1) := by decide +kernel
theorem dX7_weave_21 : decode cX7_weave 21 = .ok (.ifCond .ne 6, 3) := by decide +kernel
theorem dX7_weave_24 : decode cX7_weave 24 = .ok (.bipush (-9), 2) := by decide +kernel
theorem dX7_weave_26 : decode cX7_weave 26 = .ok (.ireturn, 1) := by decide +kernel
theorem dX7_weave_27 : decode cX7_weave 27 = .ok (.iload_n 2, 1) := by decide +kernel
theorem dX7_weave_28 : decode cX7_weave 28 = .ok (.i2l, 1) := by decide +kernel
theorem dX7_weave_29 : decode cX7_weave 29 = .ok (.lconst 0, 1) := by decide +kernel
theorem dX7_weave_30 : decode cX7_weave 30 = .ok (.ldc2_w 169, 3) := by decide +kernel
theorem dX7_weave_33 : decode cX7_weave 33 = .ok (.invokestatic 135, 3) := by decide +kernel
theorem dX7_weave_36 : decode cX7_weave 36 = .ok (.ifCond .eq 28, 3) := by decide +kernel
theorem dX7_weave_39 : decode cX7_weave 39 = .ok (.iload_n 3, 1) := by decide +kernel
theorem dX7_weave_40 : decode cX7_weave 40 = .ok (.i2l, 1) := by decide +kernel
theorem dX7_weave_41 : decode cX7_weave 41 = .ok (.lconst 1, 1) := by decide +kernel
theorem dX7_weave_42 : decode cX7_weave 42 = .ok (.ldc2_w 258, 3) := by decide +kernel
theorem dX7_weave_45 : decode cX7_weave 45 = .ok (.invokestatic 135, 3) := by decide +kernel
theorem dX7_weave_48 : decode cX7_weave 48 = .ok (.ifCond .eq 16, 3) := by decide +kernel
theorem dX7_weave_51 : decode cX7_weave 51 = .ok (.iload 4, 2) := by decide +kernel
theorem dX7_weave_53 : decode cX7_weave 53 = .ok (.i2l, 1) := by decide +kernel
theorem dX7_weave_54 : decode cX7_weave 54 = .ok (.lconst 0, 1) := by decide +kernel
theorem dX7_weave_55 : decode cX7_weave 55 = .ok (.ldc2_w 264, 3) := by decide +kernel
theorem dX7_weave_58 : decode cX7_weave 58 = .ok (.invokestatic 135, 3) := by decide +kernel
theorem dX7_weave_61 : decode cX7_weave 61 = .ok (.ifCond .ne 6, 3) := by decide +kernel
theorem dX7_weave_64 : decode cX7_weave 64 = .ok (.bipush (-3), 2) := by decide +kernel
theorem dX7_weave_66 : decode cX7_weave 66 = .ok (.ireturn, 1) := by decide +kernel
theorem dX7_weave_67 : decode cX7_weave 67 = .ok (.aload_n 0, 1) := by decide +kernel
theorem dX7_weave_68 : decode cX7_weave 68 = .ok (.iload_n 1, 1) := by decide +kernel
theorem dX7_weave_69 : decode cX7_weave 69 = .ok (.iload_n 2, 1) := by decide +kernel
theorem dX7_weave_70 : decode cX7_weave 70 = .ok (.iload_n 3, 1) := by decide +kernel
theorem dX7_weave_71 : decode cX7_weave 71 = .ok (.iload 4, 2) := by decide +kernel
theorem dX7_weave_73 : decode cX7_weave 73 = .ok (.invokevirtual 266, 3) := by decide +kernel
theorem dX7_weave_76 : decode cX7_weave 76 = .ok (.ireturn, 1) := by decide +kernel
theorem dX7_isPlayable_0 : decode cX7_isPlayable 0 = .ok (.aload_n 0, 1) := by decide +kernel
theorem dX7_isPlayable_1 : decode cX7_isPlayable 1 = .ok (.iconst 0, 1) := by decide +kernel
theorem dX7_isPlayable_2 : decode cX7_isPlayable 2 = .ok (.putfield 171, 3) := by decide +kernel
theorem dX7_isPlayable_5 : decode cX7_isPlayable 5 = .ok (.aload_n 0, 1) := by decide +kernel
theorem dX7_isPlayable_6 : decode cX7_isPlayable 6 = .ok (.iload_n 1, 1) := by decide +kernel
theorem dX7_isPlayable_7 : decode cX7_isPlayable 7 = .ok (.sipush 1000, 3) := by decide +kernel
theorem dX7_isPlayable_10 : decode cX7_isPlayable 10 = .ok (.iload_n 2, 1) := by decide +kernel
theorem dX7_isPlayable_11 : decode cX7_isPlayable 11 = .ok (.invokevirtual 260, 3) := by decide +kernel
theorem dX7_isPlayable_14 : decode cX7_isPlayable 14 = .ok (.ifCond .lt 7, 3) := by decide +kernel
theorem dX7_isPlayable_17 : decode cX7_isPlayable 17 = .ok (.iconst 1, 1) := by decide +kernel
theorem dX7_isPlayable_18 : decode cX7_isPlayable 18 = .ok (.goto 4, 3) := by decide +kernel
theorem dX7_isPlayable_21 : decode cX7_isPlayable 21 = .ok (.iconst 0, 1) := by decide +kernel
theorem dX7_isPlayable_22 : decode cX7_isPlayable 22 = .ok (.ireturn, 1) := by decide +kernel
theorem dX7_fastestTicks_0 : decode cX7_fastestTicks 0 = .ok (.aload_n 0, 1) := by decide +kernel
theorem dX7_fastestTicks_1 : decode cX7_fastestTicks 1 = .ok (.iconst 0, 1) := by decide +kernel
theorem dX7_fastestTicks_2 : decode cX7_fastestTicks 2 = .ok (.putfield 1, 3) := by decide +kernel
theorem dX7_fastestTicks_5 : decode cX7_fastestTicks 5 = .ok (.iload_n 1, 1) := by decide +kernel
theorem dX7_fastestTicks_6 : decode cX7_fastestTicks 6 = .ok (.invokestatic 252, 3) := by decide +kernel
theorem dX7_fastestTicks_9 : decode cX7_fastestTicks 9 = .ok (.ifCond .ne 6, 3) := by decide +kernel
theorem dX7_fastestTicks_12 : decode cX7_fastestTicks 12 = .ok (.bipush (-2), 2) := by decide +kernel
theorem dX7_fastestTicks_14 : decode cX7_fastestTicks 14 = .ok (.ireturn, 1) := by decide +kernel
theorem dX7_fastestTicks_15 : decode cX7_fastestTicks 15 = .ok (.aload_n 0, 1) := by decide +kernel
theorem dX7_fastestTicks_16 : decode cX7_fastestTicks 16 = .ok (.getfield 57, 3) := by decide +kernel
theorem dX7_fastestTicks_19 : decode cX7_fastestTicks 19 = .ok (.iload_n 1, 1) := by decide +kernel
theorem dX7_fastestTicks_20 : decode cX7_fastestTicks 20 = .ok (.iaload, 1) := by decide +kernel
theorem dX7_fastestTicks_21 : decode cX7_fastestTicks 21 = .ok (.ifCond .ne 6, 3) := by decide +kernel
theorem dX7_fastestTicks_24 : decode cX7_fastestTicks 24 = .ok (.bipush (-9), 2) := by decide +kernel
theorem dX7_fastestTicks_26 : decode cX7_fastestTicks 26 = .ok (.ireturn, 1) := by decide +kernel
theorem dX7_fastestTicks_27 : decode cX7_fastestTicks 27 = .ok (.aload_n 0, 1) := by decide +kernel
theorem dX7_fastestTicks_28 : decode cX7_fastestTicks 28 = .ok (.getfield 171, 3) := by decide +kernel
theorem dX7_fastestTicks_31 : decode cX7_fastestTicks 31 = .ok (.istore_n 2, 1) := by decide +kernel
theorem dX7_fastestTicks_32 : decode cX7_fastestTicks 32 = .ok (.aload_n 0, 1) := by decide +kernel
theorem dX7_fastestTicks_33 : decode cX7_fastestTicks 33 = .ok (.getfield 158, 3) := by decide +kernel
theorem dX7_fastestTicks_36 : decode cX7_fastestTicks 36 = .ok (.istore_n 3, 1) := by decide +kernel
theorem dX7_fastestTicks_37 : decode cX7_fastestTicks 37 = .ok (.iconst 0, 1) := by decide +kernel
theorem dX7_fastestTicks_38 : decode cX7_fastestTicks 38 = .ok (.istore 4, 2) := by decide +kernel
theorem dX7_fastestTicks_40 : decode cX7_fastestTicks 40 = .ok (.iload 4, 2) := by decide +kernel
theorem dX7_fastestTicks_42 : decode cX7_fastestTicks 42 = .ok (.iload_n 2, 1) := by decide +kernel
theorem dX7_fastestTicks_43 : decode cX7_fastestTicks 43 = .ok (.if_icmp .ge 51, 3) := by decide +kernel
theorem dX7_fastestTicks_46 : decode cX7_fastestTicks 46 = .ok (.aload_n 0, 1) := by decide +kernel
theorem dX7_fastestTicks_47 : decode cX7_fastestTicks 47 = .ok (.getfield 66, 3) := by decide +kernel
theorem dX7_fastestTicks_50 : decode cX7_fastestTicks 50 = .ok (.iload 4, 2) := by decide +kernel
theorem dX7_fastestTicks_52 : decode cX7_fastestTicks 52 = .ok (.aload_n 0, 1) := by decide +kernel
theorem dX7_fastestTicks_53 : decode cX7_fastestTicks 53 = .ok (.getfield 39, 3) := by decide +kernel
theorem dX7_fastestTicks_56 : decode cX7_fastestTicks 56 = .ok (.iload 4, 2) := by decide +kernel
theorem dX7_fastestTicks_58 : decode cX7_fastestTicks 58 = .ok (.iaload, 1) := by decide +kernel
theorem dX7_fastestTicks_59 : decode cX7_fastestTicks 59 = .ok (.iastore, 1) := by decide +kernel
theorem dX7_fastestTicks_60 : decode cX7_fastestTicks 60 = .ok (.aload_n 0, 1) := by decide +kernel
theorem dX7_fastestTicks_61 : decode cX7_fastestTicks 61 = .ok (.getfield 69, 3) := by decide +kernel
theorem dX7_fastestTicks_64 : decode cX7_fastestTicks 64 = .ok (.iload 4, 2) := by decide +kernel
theorem dX7_fastestTicks_66 : decode cX7_fastestTicks 66 = .ok (.aload_n 0, 1) := by decide +kernel
theorem dX7_fastestTicks_67 : decode cX7_fastestTicks 67 = .ok (.getfield 42, 3) := by decide +kernel
theorem dX7_fastestTicks_70 : decode cX7_fastestTicks 70 = .ok (.iload 4, 2) := by decide +kernel
theorem dX7_fastestTicks_72 : decode cX7_fastestTicks 72 = .ok (.iaload, 1) := by decide +kernel
theorem dX7_fastestTicks_73 : decode cX7_fastestTicks 73 = .ok (.iastore, 1) := by decide +kernel
theorem dX7_fastestTicks_74 : decode cX7_fastestTicks 74 = .ok (.aload_n 0, 1) := by decide +kernel
theorem dX7_fastestTicks_75 : decode cX7_fastestTicks 75 = .ok (.getfield 72, 3) := by decide +kernel
theorem dX7_fastestTicks_78 : decode cX7_fastestTicks 78 = .ok (.iload 4, 2) := by decide +kernel
theorem dX7_fastestTicks_80 : decode cX7_fastestTicks 80 = .ok (.aload_n 0, 1) := by decide +kernel
theorem dX7_fastestTicks_81 : decode cX7_fastestTicks 81 = .ok (.getfield 45, 3) := by decide +kernel
theorem dX7_fastestTicks_84 : decode cX7_fastestTicks 84 = .ok (.iload 4, 2) := by decide +kernel
theorem dX7_fastestTicks_86 : decode cX7_fastestTicks 86 = .ok (.iaload, 1) := by decide +kernel
theorem dX7_fastestTicks_87 : decode cX7_fastestTicks 87 = .ok (.iastore, 1) := by decide +kernel
theorem dX7_fastestTicks_88 : decode cX7_fastestTicks 88 = .ok (.iinc 4 1, 3) := by decide +kernel
theorem dX7_fastestTicks_91 : decode cX7_fastestTicks 91 = .ok (.goto (-51), 3) := by decide +kernel
theorem dX7_fastestTicks_94 : decode cX7_fastestTicks 94 = .ok (.iconst 0, 1) := by decide +kernel
theorem dX7_fastestTicks_95 : decode cX7_fastestTicks 95 = .ok (.istore 4, 2) := by decide +kernel
theorem dX7_fastestTicks_97 : decode cX7_fastestTicks 97 = .ok (.iload 4, 2) := by decide +kernel
theorem dX7_fastestTicks_99 : decode cX7_fastestTicks 99 = .ok (.bipush 12, 2) := by decide +kernel
theorem dX7_fastestTicks_101 : decode cX7_fastestTicks 101 = .ok (.if_icmp .ge 53, 3) := by decide +kernel
theorem dX7_fastestTicks_104 : decode cX7_fastestTicks 104 = .ok (.aload_n 0, 1) := by decide +kernel
theorem dX7_fastestTicks_105 : decode cX7_fastestTicks 105 = .ok (.getfield 75, 3) := by decide +kernel
theorem dX7_fastestTicks_108 : decode cX7_fastestTicks 108 = .ok (.iload 4, 2) := by decide +kernel
theorem dX7_fastestTicks_110 : decode cX7_fastestTicks 110 = .ok (.aload_n 0, 1) := by decide +kernel
theorem dX7_fastestTicks_111 : decode cX7_fastestTicks 111 = .ok (.getfield 26, 3) := by decide +kernel
theorem dX7_fastestTicks_114 : decode cX7_fastestTicks 114 = .ok (.iload 4, 2) := by decide +kernel
theorem dX7_fastestTicks_116 : decode cX7_fastestTicks 116 = .ok (.iaload, 1) := by decide +kernel
theorem dX7_fastestTicks_117 : decode cX7_fastestTicks 117 = .ok (.iastore, 1) := by decide +kernel
theorem dX7_fastestTicks_118 : decode cX7_fastestTicks 118 = .ok (.aload_n 0, 1) := by decide +kernel
theorem dX7_fastestTicks_119 : decode cX7_fastestTicks 119 = .ok (.getfield 78, 3) := by decide +kernel
theorem dX7_fastestTicks_122 : decode cX7_fastestTicks 122 = .ok (.iload 4, 2) := by decide +kernel
theorem dX7_fastestTicks_124 : decode cX7_fastestTicks 124 = .ok (.aload_n 0, 1) := by decide +kernel
theorem dX7_fastestTicks_125 : decode cX7_fastestTicks 125 = .ok (.getfield 99, 3) := by decide +kernel
theorem dX7_fastestTicks_128 : decode cX7_fastestTicks 128 = .ok (.iload 4, 2) := by decide +kernel
theorem dX7_fastestTicks_130 : decode cX7_fastestTicks 130 = .ok (.baload, 1) := by decide +kernel
theorem dX7_fastestTicks_131 : decode cX7_fastestTicks 131 = .ok (.bastore, 1) := by decide +kernel
theorem dX7_fastestTicks_132 : decode cX7_fastestTicks 132 = .ok (.aload_n 0, 1) := by decide +kernel
theorem dX7_fastestTicks_133 : decode cX7_fastestTicks 133 = .ok (.getfield 26, 3) := by decide +kernel
theorem dX7_fastestTicks_136 : decode cX7_fastestTicks 136 = .ok (.iload 4, 2) := by decide +kernel
theorem dX7_fastestTicks_138 : decode cX7_fastestTicks 138 = .ok (.iconst 0, 1) := by decide +kernel
theorem dX7_fastestTicks_139 : decode cX7_fastestTicks 139 = .ok (.iastore, 1) := by decide +kernel
theorem dX7_fastestTicks_140 : decode cX7_fastestTicks 140 = .ok (.aload_n 0, 1) := by decide +kernel
theorem dX7_fastestTicks_141 : decode cX7_fastestTicks 141 = .ok (.getfield 99, 3) := by decide +kernel
theorem dX7_fastestTicks_144 : decode cX7_fastestTicks 144 = .ok (.iload 4, 2) := by decide +kernel
theorem dX7_fastestTicks_146 : decode cX7_fastestTicks 146 = .ok (.iconst 0, 1) := by decide +kernel
theorem dX7_fastestTicks_147 : decode cX7_fastestTicks 147 = .ok (.bastore, 1) := by decide +kernel
theorem dX7_fastestTicks_148 : decode cX7_fastestTicks 148 = .ok (.iinc 4 1, 3) := by decide +kernel
theorem dX7_fastestTicks_151 : decode cX7_fastestTicks 151 = .ok (.goto (-54), 3) := by decide +kernel
theorem dX7_fastestTicks_154 : decode cX7_fastestTicks 154 = .ok (.aload_n 0, 1) := by decide +kernel
theorem dX7_fastestTicks_155 : decode cX7_fastestTicks 155 = .ok (.iconst 0, 1) := by decide +kernel
theorem dX7_fastestTicks_156 : decode cX7_fastestTicks 156 = .ok (.putfield 158, 3) := by decide +kernel
theorem dX7_fastestTicks_159 : decode cX7_fastestTicks 159 = .ok (.iconst 1, 1) := by decide +kernel
theorem dX7_fastestTicks_160 : decode cX7_fastestTicks 160 = .ok (.istore 4, 2) := by decide +kernel
theorem dX7_fastestTicks_162 : decode cX7_fastestTicks 162 = .ok (.iload 4, 2) := by decide +kernel
theorem dX7_fastestTicks_164 : decode cX7_fastestTicks 164 = .ok (.sipush 200, 3) := by decide +kernel
theorem dX7_fastestTicks_167 : decode cX7_fastestTicks 167 = .ok (.if_icmp .gt 19, 3) := by decide +kernel
theorem dX7_fastestTicks_170 : decode cX7_fastestTicks 170 = .ok (.aload_n 0, 1) := by decide +kernel
theorem dX7_fastestTicks_171 : decode cX7_fastestTicks 171 = .ok (.iload_n 1, 1) := by decide +kernel
theorem dX7_fastestTicks_172 : decode cX7_fastestTicks 172 = .ok (.iload 4, 2) := by decide +kernel
theorem dX7_fastestTicks_174 : decode cX7_fastestTicks 174 = .ok (.invokevirtual 270, 3) := by decide +kernel
theorem dX7_fastestTicks_177 : decode cX7_fastestTicks 177 = .ok (.ifCond .ne 9, 3) := by decide +kernel
theorem dX7_fastestTicks_180 : decode cX7_fastestTicks 180 = .ok (.iinc 4 1, 3) := by decide +kernel
theorem dX7_fastestTicks_183 : decode cX7_fastestTicks 183 = .ok (.goto (-21), 3) := by decide +kernel
theorem dX7_fastestTicks_186 : decode cX7_fastestTicks 186 = .ok (.aload_n 0, 1) := by decide +kernel
theorem dX7_fastestTicks_187 : decode cX7_fastestTicks 187 = .ok (.iload_n 3, 1) := by decide +kernel
theorem dX7_fastestTicks_188 : decode cX7_fastestTicks 188 = .ok (.putfield 158, 3) := by decide +kernel
theorem dX7_fastestTicks_191 : decode cX7_fastestTicks 191 = .ok (.aload_n 0, 1) := by decide +kernel
theorem dX7_fastestTicks_192 : decode cX7_fastestTicks 192 = .ok (.iload_n 2, 1) := by decide +kernel
theorem dX7_fastestTicks_193 : decode cX7_fastestTicks 193 = .ok (.putfield 171, 3) := by decide +kernel
theorem dX7_fastestTicks_196 : decode cX7_fastestTicks 196 = .ok (.iconst 0, 1) := by decide +kernel
theorem dX7_fastestTicks_197 : decode cX7_fastestTicks 197 = .ok (.istore 5, 2) := by decide +kernel
theorem dX7_fastestTicks_199 : decode cX7_fastestTicks 199 = .ok (.iload 5, 2) := by decide +kernel
theorem dX7_fastestTicks_201 : decode cX7_fastestTicks 201 = .ok (.iload_n 2, 1) := by decide +kernel
theorem dX7_fastestTicks_202 : decode cX7_fastestTicks 202 = .ok (.if_icmp .ge 51, 3) := by decide +kernel
theorem dX7_fastestTicks_205 : decode cX7_fastestTicks 205 = .ok (.aload_n 0, 1) := by decide +kernel
theorem dX7_fastestTicks_206 : decode cX7_fastestTicks 206 = .ok (.getfield 39, 3) := by decide +kernel
theorem dX7_fastestTicks_209 : decode cX7_fastestTicks 209 = .ok (.iload 5, 2) := by decide +kernel
theorem dX7_fastestTicks_211 : decode cX7_fastestTicks 211 = .ok (.aload_n 0, 1) := by decide +kernel
theorem dX7_fastestTicks_212 : decode cX7_fastestTicks 212 = .ok (.getfield 66, 3) := by decide +kernel
theorem dX7_fastestTicks_215 : decode cX7_fastestTicks 215 = .ok (.iload 5, 2) := by decide +kernel
theorem dX7_fastestTicks_217 : decode cX7_fastestTicks 217 = .ok (.iaload, 1) := by decide +kernel
theorem dX7_fastestTicks_218 : decode cX7_fastestTicks 218 = .ok (.iastore, 1) := by decide +kernel
theorem dX7_fastestTicks_219 : decode cX7_fastestTicks 219 = .ok (.aload_n 0, 1) := by decide +kernel
theorem dX7_fastestTicks_220 : decode cX7_fastestTicks 220 = .ok (.getfield 42, 3) := by decide +kernel
theorem dX7_fastestTicks_223 : decode cX7_fastestTicks 223 = .ok (.iload 5, 2) := by decide +kernel
theorem dX7_fastestTicks_225 : decode cX7_fastestTicks 225 = .ok (.aload_n 0, 1) := by decide +kernel
theorem dX7_fastestTicks_226 : decode cX7_fastestTicks 226 = .ok (.getfield 69, 3) := by decide +kernel
theorem dX7_fastestTicks_229 : decode cX7_fastestTicks 229 = .ok (.iload 5, 2) := by decide +kernel
theorem dX7_fastestTicks_231 : decode cX7_fastestTicks 231 = .ok (.iaload, 1) := by decide +kernel
theorem dX7_fastestTicks_232 : decode cX7_fastestTicks 232 = .ok (.iastore, 1) := by decide +kernel
theorem dX7_fastestTicks_233 : decode cX7_fastestTicks 233 = .ok (.aload_n 0, 1) := by decide +kernel
theorem dX7_fastestTicks_234 : decode cX7_fastestTicks 234 = .ok (.getfield 45, 3) := by decide +kernel
theorem dX7_fastestTicks_237 : decode cX7_fastestTicks 237 = .ok (.iload 5, 2) := by decide +kernel
theorem dX7_fastestTicks_239 : decode cX7_fastestTicks 239 = .ok (.aload_n 0, 1) := by decide +kernel
theorem dX7_fastestTicks_240 : decode cX7_fastestTicks 240 = .ok (.getfield 72, 3) := by decide +kernel
theorem dX7_fastestTicks_243 : decode cX7_fastestTicks 243 = .ok (.iload 5, 2) := by decide +kernel
theorem dX7_fastestTicks_245 : decode cX7_fastestTicks 245 = .ok (.iaload, 1) := by decide +kernel
theorem dX7_fastestTicks_246 : decode cX7_fastestTicks 246 = .ok (.iastore, 1) := by decide +kernel
theorem dX7_fastestTicks_247 : decode cX7_fastestTicks 247 = .ok (.iinc 5 1, 3) := by decide +kernel
theorem dX7_fastestTicks_250 : decode cX7_fastestTicks 250 = .ok (.goto (-51), 3) := by decide +kernel
theorem dX7_fastestTicks_253 : decode cX7_fastestTicks 253 = .ok (.iconst 0, 1) := by decide +kernel
theorem dX7_fastestTicks_254 : decode cX7_fastestTicks 254 = .ok (.istore 5, 2) := by decide +kernel
theorem dX7_fastestTicks_256 : decode cX7_fastestTicks 256 = .ok (.iload 5, 2) := by decide +kernel
theorem dX7_fastestTicks_258 : decode cX7_fastestTicks 258 = .ok (.bipush 12, 2) := by decide +kernel
theorem dX7_fastestTicks_260 : decode cX7_fastestTicks 260 = .ok (.if_icmp .ge 37, 3) := by decide +kernel
theorem dX7_fastestTicks_263 : decode cX7_fastestTicks 263 = .ok (.aload_n 0, 1) := by decide +kernel
theorem dX7_fastestTicks_264 : decode cX7_fastestTicks 264 = .ok (.getfield 26, 3) := by decide +kernel
theorem dX7_fastestTicks_267 : decode cX7_fastestTicks 267 = .ok (.iload 5, 2) := by decide +kernel
theorem dX7_fastestTicks_269 : decode cX7_fastestTicks 269 = .ok (.aload_n 0, 1) := by decide +kernel
theorem dX7_fastestTicks_270 : decode cX7_fastestTicks 270 = .ok (.getfield 75, 3) := by decide +kernel
theorem dX7_fastestTicks_273 : decode cX7_fastestTicks 273 = .ok (.iload 5, 2) := by decide +kernel
theorem dX7_fastestTicks_275 : decode cX7_fastestTicks 275 = .ok (.iaload, 1) := by decide +kernel
theorem dX7_fastestTicks_276 : decode cX7_fastestTicks 276 = .ok (.iastore, 1) := by decide +kernel
theorem dX7_fastestTicks_277 : decode cX7_fastestTicks 277 = .ok (.aload_n 0, 1) := by decide +kernel
theorem dX7_fastestTicks_278 : decode cX7_fastestTicks 278 = .ok (.getfield 99, 3) := by decide +kernel
theorem dX7_fastestTicks_281 : decode cX7_fastestTicks 281 = .ok (.iload 5, 2) := by decide +kernel
theorem dX7_fastestTicks_283 : decode cX7_fastestTicks 283 = .ok (.aload_n 0, 1) := by decide +kernel
theorem dX7_fastestTicks_284 : decode cX7_fastestTicks 284 = .ok (.getfield 78, 3) := by decide +kernel
theorem dX7_fastestTicks_287 : decode cX7_fastestTicks 287 = .ok (.iload 5, 2) := by decide +kernel
theorem dX7_fastestTicks_289 : decode cX7_fastestTicks 289 = .ok (.baload, 1) := by decide +kernel
theorem dX7_fastestTicks_290 : decode cX7_fastestTicks 290 = .ok (.bastore, 1) := by decide +kernel
theorem dX7_fastestTicks_291 : decode cX7_fastestTicks 291 = .ok (.iinc 5 1, 3) := by decide +kernel
theorem dX7_fastestTicks_294 : decode cX7_fastestTicks 294 = .ok (.goto (-38), 3) := by decide +kernel
theorem dX7_fastestTicks_297 : decode cX7_fastestTicks 297 = .ok (.iload 4, 2) := by decide +kernel
theorem dX7_fastestTicks_299 : decode cX7_fastestTicks 299 = .ok (.sipush 200, 3) := by decide +kernel
theorem dX7_fastestTicks_302 : decode cX7_fastestTicks 302 = .ok (.if_icmp .le 7, 3) := by decide +kernel
theorem dX7_fastestTicks_305 : decode cX7_fastestTicks 305 = .ok (.iconst (-1), 1) := by decide +kernel
theorem dX7_fastestTicks_306 : decode cX7_fastestTicks 306 = .ok (.goto 5, 3) := by decide +kernel
theorem dX7_fastestTicks_309 : decode cX7_fastestTicks 309 = .ok (.iload 4, 2) := by decide +kernel
theorem dX7_fastestTicks_311 : decode cX7_fastestTicks 311 = .ok (.ireturn, 1) := by decide +kernel
theorem dX7_movesAt_0 : decode cX7_movesAt 0 = .ok (.iconst 0, 1) := by decide +kernel
theorem dX7_movesAt_1 : decode cX7_movesAt 1 = .ok (.istore 4, 2) := by decide +kernel
theorem dX7_movesAt_3 : decode cX7_movesAt 3 = .ok (.iconst 0, 1) := by decide +kernel
theorem dX7_movesAt_4 : decode cX7_movesAt 4 = .ok (.istore 5, 2) := by decide +kernel
theorem dX7_movesAt_6 : decode cX7_movesAt 6 = .ok (.iload 5, 2) := by decide +kernel
theorem dX7_movesAt_8 : decode cX7_movesAt 8 = .ok (.aload_n 0, 1) := by decide +kernel
theorem dX7_movesAt_9 : decode cX7_movesAt 9 = .ok (.getfield 57, 3) := by decide +kernel
theorem dX7_movesAt_12 : decode cX7_movesAt 12 = .ok (.iload_n 1, 1) := by decide +kernel
theorem dX7_movesAt_13 : decode cX7_movesAt 13 = .ok (.iaload, 1) := by decide +kernel
theorem dX7_movesAt_14 : decode cX7_movesAt 14 = .ok (.if_icmp .ge 86, 3) := by decide +kernel
theorem dX7_movesAt_17 : decode cX7_movesAt 17 = .ok (.iconst 0, 1) := by decide +kernel
theorem dX7_movesAt_18 : decode cX7_movesAt 18 = .ok (.istore 6, 2) := by decide +kernel
theorem dX7_movesAt_20 : decode cX7_movesAt 20 = .ok (.iload 6, 2) := by decide +kernel
theorem dX7_movesAt_22 : decode cX7_movesAt 22 = .ok (.aload_n 0, 1) := by decide +kernel
theorem dX7_movesAt_23 : decode cX7_movesAt 23 = .ok (.getfield 132, 3) := by decide +kernel
theorem dX7_movesAt_26 : decode cX7_movesAt 26 = .ok (.if_icmp .ge 68, 3) := by decide +kernel
theorem dX7_movesAt_29 : decode cX7_movesAt 29 = .ok (.iload 4, 2) := by decide +kernel
theorem dX7_movesAt_31 : decode cX7_movesAt 31 = .ok (.aload_n 0, 1) := by decide +kernel
theorem dX7_movesAt_32 : decode cX7_movesAt 32 = .ok (.getfield 54, 3) := by decide +kernel
theorem dX7_movesAt_35 : decode cX7_movesAt 35 = .ok (.bipush 100, 2) := by decide +kernel
theorem dX7_movesAt_37 : decode cX7_movesAt 37 = .ok (.iload_n 1, 1) := by decide +kernel
theorem dX7_movesAt_38 : decode cX7_movesAt 38 = .ok (.imul, 1) := by decide +kernel
theorem dX7_movesAt_39 : decode cX7_movesAt 39 = .ok (.iload 5, 2) := by decide +kernel
theorem dX7_movesAt_41 : decode cX7_movesAt 41 = .ok (.iadd, 1) := by decide +kernel
theorem dX7_movesAt_42 : decode cX7_movesAt 42 = .ok (.iaload, 1) := by decide +kernel
theorem dX7_movesAt_43 : decode cX7_movesAt 43 = .ok (.iload 6, 2) := by decide +kernel
theorem dX7_movesAt_45 : decode cX7_movesAt 45 = .ok (.ishr, 1) := by decide +kernel
theorem dX7_movesAt_46 : decode cX7_movesAt 46 = .ok (.iconst 1, 1) := by decide +kernel
theorem dX7_movesAt_47 : decode cX7_movesAt 47 = .ok (.iand, 1) := by decide +kernel
theorem dX7_movesAt_48 : decode cX7_movesAt 48 = .ok (.iconst 1, 1) := by decide +kernel
theorem dX7_movesAt_49 : decode cX7_movesAt 49 = .ok (.if_icmp .ne 35, 3) := by decide +kernel
theorem dX7_movesAt_52 : decode cX7_movesAt 52 = .ok (.iload_n 3, 1) := by decide +kernel
theorem dX7_movesAt_53 : decode cX7_movesAt 53 = .ok (.i2l, 1) := by decide +kernel
theorem dX7_movesAt_54 : decode cX7_movesAt 54 = .ok (.iload 5, 2) := by decide +kernel
theorem dX7_movesAt_56 : decode cX7_movesAt 56 = .ok (.iload_n 2, 1) := by decide +kernel
theorem dX7_movesAt_57 : decode cX7_movesAt 57 = .ok (.imul, 1) := by decide +kernel
theorem dX7_movesAt_58 : decode cX7_movesAt 58 = .ok (.aload_n 0, 1) := by decide +kernel
theorem dX7_movesAt_59 : decode cX7_movesAt 59 = .ok (.getfield 13, 3) := by decide +kernel
theorem dX7_movesAt_62 : decode cX7_movesAt 62 = .ok (.iload 6, 2) := by decide +kernel
theorem dX7_movesAt_64 : decode cX7_movesAt 64 = .ok (.iaload, 1) := by decide +kernel
theorem dX7_movesAt_65 : decode cX7_movesAt 65 = .ok (.isub, 1) := by decide +kernel
theorem dX7_movesAt_66 : decode cX7_movesAt 66 = .ok (.i2l, 1) := by decide +kernel
theorem dX7_movesAt_67 : decode cX7_movesAt 67 = .ok (.iload 5, 2) := by decide +kernel
theorem dX7_movesAt_69 : decode cX7_movesAt 69 = .ok (.iload_n 2, 1) := by decide +kernel
theorem dX7_movesAt_70 : decode cX7_movesAt 70 = .ok (.imul, 1) := by decide +kernel
theorem dX7_movesAt_71 : decode cX7_movesAt 71 = .ok (.iconst 1, 1) := by decide +kernel
theorem dX7_movesAt_72 : decode cX7_movesAt 72 = .ok (.isub, 1) := by decide +kernel
theorem dX7_movesAt_73 : decode cX7_movesAt 73 = .ok (.i2l, 1) := by decide +kernel
theorem dX7_movesAt_74 : decode cX7_movesAt 74 = .ok (.invokestatic 135, 3) := by decide +kernel
theorem dX7_movesAt_77 : decode cX7_movesAt 77 = .ok (.ifCond .eq 7, 3) := by decide +kernel
theorem dX7_movesAt_80 : decode cX7_movesAt 80 = .ok (.iconst 1, 1) := by decide +kernel
theorem dX7_movesAt_81 : decode cX7_movesAt 81 = .ok (.goto 4, 3) := by decide +kernel
theorem dX7_movesAt_84 : decode cX7_movesAt 84 = .ok (.iconst 0, 1) := by decide +kernel
theorem dX7_movesAt_85 : decode cX7_movesAt 85 = .ok (.iadd, 1) := by decide +kernel
theorem dX7_movesAt_86 : decode cX7_movesAt 86 = .ok (.istore 4, 2) := by decide +kernel
theorem dX7_movesAt_88 : decode cX7_movesAt 88 = .ok (.iinc 6 1, 3) := by decide +kernel
theorem dX7_movesAt_91 : decode cX7_movesAt 91 = .ok (.goto (-71), 3) := by decide +kernel
theorem dX7_movesAt_94 : decode cX7_movesAt 94 = .ok (.iinc 5 1, 3) := by decide +kernel
theorem dX7_movesAt_97 : decode cX7_movesAt 97 = .ok (.goto (-91), 3) := by decide +kernel
theorem dX7_movesAt_100 : decode cX7_movesAt 100 = .ok (.iload 4, 2) := by decide +kernel
theorem dX7_movesAt_102 : decode cX7_movesAt 102 = .ok (.ireturn, 1) := by decide +kernel
theorem dX7_powerNeeded_0 : decode cX7_powerNeeded 0 = .ok (.aload_n 0, 1) := by decide +kernel
theorem dX7_powerNeeded_1 : decode cX7_powerNeeded 1 = .ok (.iconst 0, 1) := by decide +kernel
theorem dX7_powerNeeded_2 : decode cX7_powerNeeded 2 = .ok (.putfield 1, 3) := by decide +kernel
theorem dX7_powerNeeded_5 : decode cX7_powerNeeded 5 = .ok (.iload_n 1, 1) := by decide +kernel
theorem dX7_powerNeeded_6 : decode cX7_powerNeeded 6 = .ok (.invokestatic 252, 3) := by decide +kernel
theorem dX7_powerNeeded_9 : decode cX7_powerNeeded 9 = .ok (.ifCond .ne 6, 3) := by decide +kernel
theorem dX7_powerNeeded_12 : decode cX7_powerNeeded 12 = .ok (.bipush (-2), 2) := by decide +kernel
theorem dX7_powerNeeded_14 : decode cX7_powerNeeded 14 = .ok (.ireturn, 1) := by decide +kernel
theorem dX7_powerNeeded_15 : decode cX7_powerNeeded 15 = .ok (.aload_n 0, 1) := by decide +kernel
theorem dX7_powerNeeded_16 : decode cX7_powerNeeded 16 = .ok (.getfield 57, 3) := by decide +kernel
theorem dX7_powerNeeded_19 : decode cX7_powerNeeded 19 = .ok (.iload_n 1, 1) := by decide +kernel
theorem dX7_powerNeeded_20 : decode cX7_powerNeeded 20 = .ok (.iaload, 1) := by decide +kernel
theorem dX7_powerNeeded_21 : decode cX7_powerNeeded 21 = .ok (.ifCond .ne 6, 3) := by decide +kernel
theorem dX7_powerNeeded_24 : decode cX7_powerNeeded 24 = .ok (.bipush (-9), 2) := by decide +kernel
theorem dX7_powerNeeded_26 : decode cX7_powerNeeded 26 = .ok (.ireturn, 1) := by decide +kernel
theorem dX7_powerNeeded_27 : decode cX7_powerNeeded 27 = .ok (.iload_n 2, 1) := by decide +kernel
theorem dX7_powerNeeded_28 : decode cX7_powerNeeded 28 = .ok (.i2l, 1) := by decide +kernel
theorem dX7_powerNeeded_29 : decode cX7_powerNeeded 29 = .ok (.lconst 1, 1) := by decide +kernel
theorem dX7_powerNeeded_30 : decode cX7_powerNeeded 30 = .ok (.ldc2_w 258, 3) := by decide +kernel
theorem dX7_powerNeeded_33 : decode cX7_powerNeeded 33 = .ok (.invokestatic 135, 3) := by decide +kernel
theorem dX7_powerNeeded_36 : decode cX7_powerNeeded 36 = .ok (.ifCond .ne 6, 3) := by decide +kernel
theorem dX7_powerNeeded_39 : decode cX7_powerNeeded 39 = .ok (.bipush (-3), 2) := by decide +kernel
theorem dX7_powerNeeded_41 : decode cX7_powerNeeded 41 = .ok (.ireturn, 1) := by decide +kernel
theorem dX7_powerNeeded_42 : decode cX7_powerNeeded 42 = .ok (.iconst 0, 1) := by decide +kernel
theorem dX7_powerNeeded_43 : decode cX7_powerNeeded 43 = .ok (.istore_n 3, 1) := by decide +kernel
theorem dX7_powerNeeded_44 : decode cX7_powerNeeded 44 = .ok (.iconst 0, 1) := by decide +kernel
theorem dX7_powerNeeded_45 : decode cX7_powerNeeded 45 = .ok (.istore 4, 2) := by decide +kernel
theorem dX7_powerNeeded_47 : decode cX7_powerNeeded 47 = .ok (.iload 4, 2) := by decide +kernel
theorem dX7_powerNeeded_49 : decode cX7_powerNeeded 49 = .ok (.aload_n 0, 1) := by decide +kernel
theorem dX7_powerNeeded_50 : decode cX7_powerNeeded 50 = .ok (.getfield 57, 3) := by decide +kernel
theorem dX7_powerNeeded_53 : decode cX7_powerNeeded 53 = .ok (.iload_n 1, 1) := by decide +kernel
theorem dX7_powerNeeded_54 : decode cX7_powerNeeded 54 = .ok (.iaload, 1) := by decide +kernel
theorem dX7_powerNeeded_55 : decode cX7_powerNeeded 55 = .ok (.if_icmp .ge 85, 3) := by decide +kernel
theorem dX7_powerNeeded_58 : decode cX7_powerNeeded 58 = .ok (.iconst 0, 1) := by decide +kernel
theorem dX7_powerNeeded_59 : decode cX7_powerNeeded 59 = .ok (.istore 5, 2) := by decide +kernel
theorem dX7_powerNeeded_61 : decode cX7_powerNeeded 61 = .ok (.iload 5, 2) := by decide +kernel
theorem dX7_powerNeeded_63 : decode cX7_powerNeeded 63 = .ok (.aload_n 0, 1) := by decide +kernel
theorem dX7_powerNeeded_64 : decode cX7_powerNeeded 64 = .ok (.getfield 132, 3) := by decide +kernel
theorem dX7_powerNeeded_67 : decode cX7_powerNeeded 67 = .ok (.if_icmp .ge 67, 3) := by decide +kernel
theorem dX7_powerNeeded_70 : decode cX7_powerNeeded 70 = .ok (.aload_n 0, 1) := by decide +kernel
theorem dX7_powerNeeded_71 : decode cX7_powerNeeded 71 = .ok (.getfield 54, 3) := by decide +kernel
theorem dX7_powerNeeded_74 : decode cX7_powerNeeded 74 = .ok (.bipush 100, 2) := by decide +kernel
theorem dX7_powerNeeded_76 : decode cX7_powerNeeded 76 = .ok (.iload_n 1, 1) := by decide +kernel
theorem dX7_powerNeeded_77 : decode cX7_powerNeeded 77 = .ok (.imul, 1) := by decide +kernel
theorem dX7_powerNeeded_78 : decode cX7_powerNeeded 78 = .ok (.iload 4, 2) := by decide +kernel
theorem dX7_powerNeeded_80 : decode cX7_powerNeeded 80 = .ok (.iadd, 1) := by decide +kernel
theorem dX7_powerNeeded_81 : decode cX7_powerNeeded 81 = .ok (.iaload, 1) := by decide +kernel
theorem dX7_powerNeeded_82 : decode cX7_powerNeeded 82 = .ok (.iload 5, 2) := by decide +kernel
theorem dX7_powerNeeded_84 : decode cX7_powerNeeded 84 = .ok (.ishr, 1) := by decide +kernel
theorem dX7_powerNeeded_85 : decode cX7_powerNeeded 85 = .ok (.iconst 1, 1) := by decide +kernel
theorem dX7_powerNeeded_86 : decode cX7_powerNeeded 86 = .ok (.iand, 1) := by decide +kernel
theorem dX7_powerNeeded_87 : decode cX7_powerNeeded 87 = .ok (.iconst 1, 1) := by decide +kernel
theorem dX7_powerNeeded_88 : decode cX7_powerNeeded 88 = .ok (.if_icmp .ne 24, 3) := by decide +kernel
theorem dX7_powerNeeded_91 : decode cX7_powerNeeded 91 = .ok (.aload_n 0, 1) := by decide +kernel
theorem dX7_powerNeeded_92 : decode cX7_powerNeeded 92 = .ok (.iload_n 1, 1) := by decide +kernel
theorem dX7_powerNeeded_93 : decode cX7_powerNeeded 93 = .ok (.iload_n 2, 1) := by decide +kernel
theorem dX7_powerNeeded_94 : decode cX7_powerNeeded 94 = .ok (.iload 4, 2) := by decide +kernel
theorem dX7_powerNeeded_96 : decode cX7_powerNeeded 96 = .ok (.iload_n 2, 1) := by decide +kernel
theorem dX7_powerNeeded_97 : decode cX7_powerNeeded 97 = .ok (.imul, 1) := by decide +kernel
theorem dX7_powerNeeded_98 : decode cX7_powerNeeded 98 = .ok (.aload_n 0, 1) := by decide +kernel
theorem dX7_powerNeeded_99 : decode cX7_powerNeeded 99 = .ok (.getfield 13, 3) := by decide +kernel
theorem dX7_powerNeeded_102 : decode cX7_powerNeeded 102 = .ok (.iload 5, 2) := by decide +kernel
theorem dX7_powerNeeded_104 : decode cX7_powerNeeded 104 = .ok (.iaload, 1) := by decide +kernel
theorem dX7_powerNeeded_105 : decode cX7_powerNeeded 105 = .ok (.isub, 1) := by decide +kernel
theorem dX7_powerNeeded_106 : decode cX7_powerNeeded 106 = .ok (.invokevirtual 274, 3) := by decide +kernel
theorem dX7_powerNeeded_109 : decode cX7_powerNeeded 109 = .ok (.goto 4, 3) := by decide +kernel
theorem dX7_powerNeeded_112 : decode cX7_powerNeeded 112 = .ok (.iconst 0, 1) := by decide +kernel
theorem dX7_powerNeeded_113 : decode cX7_powerNeeded 113 = .ok (.istore 6, 2) := by decide +kernel
theorem dX7_powerNeeded_115 : decode cX7_powerNeeded 115 = .ok (.iload 6, 2) := by decide +kernel
theorem dX7_powerNeeded_117 : decode cX7_powerNeeded 117 = .ok (.iload_n 3, 1) := by decide +kernel
theorem dX7_powerNeeded_118 : decode cX7_powerNeeded 118 = .ok (.if_icmp .le 8, 3) := by decide +kernel
theorem dX7_powerNeeded_121 : decode cX7_powerNeeded 121 = .ok (.iload 6, 2) := by decide +kernel
theorem dX7_powerNeeded_123 : decode cX7_powerNeeded 123 = .ok (.goto 4, 3) := by decide +kernel
theorem dX7_powerNeeded_126 : decode cX7_powerNeeded 126 = .ok (.iload_n 3, 1) := by decide +kernel
theorem dX7_powerNeeded_127 : decode cX7_powerNeeded 127 = .ok (.istore_n 3, 1) := by decide +kernel
theorem dX7_powerNeeded_128 : decode cX7_powerNeeded 128 = .ok (.iinc 5 1, 3) := by decide +kernel
theorem dX7_powerNeeded_131 : decode cX7_powerNeeded 131 = .ok (.goto (-70), 3) := by decide +kernel
theorem dX7_powerNeeded_134 : decode cX7_powerNeeded 134 = .ok (.iinc 4 1, 3) := by decide +kernel
theorem dX7_powerNeeded_137 : decode cX7_powerNeeded 137 = .ok (.goto (-90), 3) := by decide +kernel
theorem dX7_powerNeeded_140 : decode cX7_powerNeeded 140 = .ok (.iload_n 3, 1) := by decide +kernel
theorem dX7_powerNeeded_141 : decode cX7_powerNeeded 141 = .ok (.ireturn, 1) := by decide +kernel
theorem dX7_isEntry_0 : decode cX7_isEntry 0 = .ok (.iload_n 1, 1) := by decide +kernel
theorem dX7_isEntry_1 : decode cX7_isEntry 1 = .ok (.i2l, 1) := by decide +kernel
theorem dX7_isEntry_2 : decode cX7_isEntry 2 = .ok (.lconst 0, 1) := by decide +kernel
theorem dX7_isEntry_3 : decode cX7_isEntry 3 = .ok (.aload_n 0, 1) := by decide +kernel
theorem dX7_isEntry_4 : decode cX7_isEntry 4 = .ok (.getfield 277, 3) := by decide +kernel
theorem dX7_isEntry_7 : decode cX7_isEntry 7 = .ok (.iconst 1, 1) := by decide +kernel
theorem dX7_isEntry_8 : decode cX7_isEntry 8 = .ok (.isub, 1) := by decide +kernel
theorem dX7_isEntry_9 : decode cX7_isEntry 9 = .ok (.i2l, 1) := by decide +kernel
theorem dX7_isEntry_10 : decode cX7_isEntry 10 = .ok (.invokestatic 135, 3) := by decide +kernel
theorem dX7_isEntry_13 : decode cX7_isEntry 13 = .ok (.ireturn, 1) := by decide +kernel
theorem dX7_addEntry_0 : decode cX7_addEntry 0 = .ok (.aload_n 0, 1) := by decide +kernel
theorem dX7_addEntry_1 : decode cX7_addEntry 1 = .ok (.iconst 0, 1) := by decide +kernel
theorem dX7_addEntry_2 : decode cX7_addEntry 2 = .ok (.putfield 1, 3) := by decide +kernel
theorem dX7_addEntry_5 : decode cX7_addEntry 5 = .ok (.iload_n 1, 1) := by decide +kernel
theorem dX7_addEntry_6 : decode cX7_addEntry 6 = .ok (.invokestatic 252, 3) := by decide +kernel
theorem dX7_addEntry_9 : decode cX7_addEntry 9 = .ok (.ifCond .ne 6, 3) := by decide +kernel
theorem dX7_addEntry_12 : decode cX7_addEntry 12 = .ok (.bipush (-2), 2) := by decide +kernel
theorem dX7_addEntry_14 : decode cX7_addEntry 14 = .ok (.ireturn, 1) := by decide +kernel
theorem dX7_addEntry_15 : decode cX7_addEntry 15 = .ok (.iload_n 2, 1) := by decide +kernel
theorem dX7_addEntry_16 : decode cX7_addEntry 16 = .ok (.i2l, 1) := by decide +kernel
theorem dX7_addEntry_17 : decode cX7_addEntry 17 = .ok (.lconst 0, 1) := by decide +kernel
theorem dX7_addEntry_18 : decode cX7_addEntry 18 = .ok (.ldc2_w 169, 3) := by decide +kernel
theorem dX7_addEntry_21 : decode cX7_addEntry 21 = .ok (.invokestatic 135, 3) := by decide +kernel
theorem dX7_addEntry_24 : decode cX7_addEntry 24 = .ok (.ifCond .eq 47, 3) := by decide +kernel
theorem dX7_addEntry_27 : decode cX7_addEntry 27 = .ok (.iload_n 3, 1) := by decide +kernel
theorem dX7_addEntry_28 : decode cX7_addEntry 28 = .ok (.ifCond .eq 17, 3) := by decide +kernel
theorem dX7_addEntry_31 : decode cX7_addEntry 31 = .ok (.iload_n 3, 1) := by decide +kernel
theorem dX7_addEntry_32 : decode cX7_addEntry 32 = .ok (.i2l, 1) := by decide +kernel
theorem dX7_addEntry_33 : decode cX7_addEntry 33 = .ok (.ldc2_w 258, 3) := by decide +kernel
theorem dX7_addEntry_36 : decode cX7_addEntry 36 = .ok (.ldc2_w 280, 3) := by decide +kernel
theorem dX7_addEntry_39 : decode cX7_addEntry 39 = .ok (.invokestatic 135, 3) := by decide +kernel
theorem dX7_addEntry_42 : decode cX7_addEntry 42 = .ok (.ifCond .eq 29, 3) := by decide +kernel
theorem dX7_addEntry_45 : decode cX7_addEntry 45 = .ok (.iload 4, 2) := by decide +kernel
theorem dX7_addEntry_47 : decode cX7_addEntry 47 = .ok (.i2l, 1) := by decide +kernel
theorem dX7_addEntry_48 : decode cX7_addEntry 48 = .ok (.lconst 1, 1) := by decide +kernel
theorem dX7_addEntry_49 : decode cX7_addEntry 49 = .ok (.ldc2_w 258, 3) := by decide +kernel
theorem dX7_addEntry_52 : decode cX7_addEntry 52 = .ok (.invokestatic 135, 3) := by decide +kernel
theorem dX7_addEntry_55 : decode cX7_addEntry 55 = .ok (.ifCond .eq 16, 3) := by decide +kernel
theorem dX7_addEntry_58 : decode cX7_addEntry 58 = .ok (.iload 5, 2) := by decide +kernel
theorem dX7_addEntry_60 : decode cX7_addEntry 60 = .ok (.i2l, 1) := by decide +kernel
theorem dX7_addEntry_61 : decode cX7_addEntry 61 = .ok (.lconst 0, 1) := by decide +kernel
theorem dX7_addEntry_62 : decode cX7_addEntry 62 = .ok (.ldc2_w 264, 3) := by decide +kernel
theorem dX7_addEntry_65 : decode cX7_addEntry 65 = .ok (.invokestatic 135, 3) := by decide +kernel
theorem dX7_addEntry_68 : decode cX7_addEntry 68 = .ok (.ifCond .ne 6, 3) := by decide +kernel
theorem dX7_addEntry_71 : decode cX7_addEntry 71 = .ok (.bipush (-3), 2) := by decide +kernel
theorem dX7_addEntry_73 : decode cX7_addEntry 73 = .ok (.ireturn, 1) := by decide +kernel
theorem dX7_addEntry_74 : decode cX7_addEntry 74 = .ok (.aload_n 0, 1) := by decide +kernel
theorem dX7_addEntry_75 : decode cX7_addEntry 75 = .ok (.getfield 277, 3) := by decide +kernel
theorem dX7_addEntry_78 : decode cX7_addEntry 78 = .ok (.bipush 8, 2) := by decide +kernel
theorem dX7_addEntry_80 : decode cX7_addEntry 80 = .ok (.if_icmp .ne 6, 3) := by decide +kernel
theorem dX7_addEntry_83 : decode cX7_addEntry 83 = .ok (.bipush (-4), 2) := by decide +kernel
theorem dX7_addEntry_85 : decode cX7_addEntry 85 = .ok (.ireturn, 1) := by decide +kernel
theorem dX7_addEntry_86 : decode cX7_addEntry 86 = .ok (.aload_n 0, 1) := by decide +kernel
theorem dX7_addEntry_87 : decode cX7_addEntry 87 = .ok (.getfield 81, 3) := by decide +kernel
theorem dX7_addEntry_90 : decode cX7_addEntry 90 = .ok (.aload_n 0, 1) := by decide +kernel
theorem dX7_addEntry_91 : decode cX7_addEntry 91 = .ok (.getfield 277, 3) := by decide +kernel
theorem dX7_addEntry_94 : decode cX7_addEntry 94 = .ok (.iload_n 1, 1) := by decide +kernel
theorem dX7_addEntry_95 : decode cX7_addEntry 95 = .ok (.iastore, 1) := by decide +kernel
theorem dX7_addEntry_96 : decode cX7_addEntry 96 = .ok (.aload_n 0, 1) := by decide +kernel
theorem dX7_addEntry_97 : decode cX7_addEntry 97 = .ok (.getfield 84, 3) := by decide +kernel
theorem dX7_addEntry_100 : decode cX7_addEntry 100 = .ok (.aload_n 0, 1) := by decide +kernel
theorem dX7_addEntry_101 : decode cX7_addEntry 101 = .ok (.getfield 277, 3) := by decide +kernel
theorem dX7_addEntry_104 : decode cX7_addEntry 104 = .ok (.iload_n 2, 1) := by decide +kernel
theorem dX7_addEntry_105 : decode cX7_addEntry 105 = .ok (.iastore, 1) := by decide +kernel
theorem dX7_addEntry_106 : decode cX7_addEntry 106 = .ok (.aload_n 0, 1) := by decide +kernel
theorem dX7_addEntry_107 : decode cX7_addEntry 107 = .ok (.getfield 87, 3) := by decide +kernel
theorem dX7_addEntry_110 : decode cX7_addEntry 110 = .ok (.aload_n 0, 1) := by decide +kernel
theorem dX7_addEntry_111 : decode cX7_addEntry 111 = .ok (.getfield 277, 3) := by decide +kernel
theorem dX7_addEntry_114 : decode cX7_addEntry 114 = .ok (.iload_n 3, 1) := by decide +kernel
theorem dX7_addEntry_115 : decode cX7_addEntry 115 = .ok (.iastore, 1) := by decide +kernel
theorem dX7_addEntry_116 : decode cX7_addEntry 116 = .ok (.aload_n 0, 1) := by decide +kernel
theorem dX7_addEntry_117 : decode cX7_addEntry 117 = .ok (.getfield 90, 3) := by decide +kernel
theorem dX7_addEntry_120 : decode cX7_addEntry 120 = .ok (.aload_n 0, 1) := by decide +kernel
theorem dX7_addEntry_121 : decode cX7_addEntry 121 = .ok (.getfield 277, 3) := by decide +kernel
theorem dX7_addEntry_124 : decode cX7_addEntry 124 = .ok (.iload 4, 2) := by decide +kernel
theorem dX7_addEntry_126 : decode cX7_addEntry 126 = .ok (.iastore, 1) := by decide +kernel
theorem dX7_addEntry_127 : decode cX7_addEntry 127 = .ok (.aload_n 0, 1) := by decide +kernel
theorem dX7_addEntry_128 : decode cX7_addEntry 128 = .ok (.getfield 93, 3) := by decide +kernel
theorem dX7_addEntry_131 : decode cX7_addEntry 131 = .ok (.aload_n 0, 1) := by decide +kernel
theorem dX7_addEntry_132 : decode cX7_addEntry 132 = .ok (.getfield 277, 3) := by decide +kernel
theorem dX7_addEntry_135 : decode cX7_addEntry 135 = .ok (.iload 5, 2) := by decide +kernel
theorem dX7_addEntry_137 : decode cX7_addEntry 137 = .ok (.iastore, 1) := by decide +kernel
theorem dX7_addEntry_138 : decode cX7_addEntry 138 = .ok (.aload_n 0, 1) := by decide +kernel
theorem dX7_addEntry_139 : decode cX7_addEntry 139 = .ok (.getfield 96, 3) := by decide +kernel
theorem dX7_addEntry_142 : decode cX7_addEntry 142 = .ok (.aload_n 0, 1) := by decide +kernel
theorem dX7_addEntry_143 : decode cX7_addEntry 143 = .ok (.getfield 277, 3) := by decide +kernel
theorem dX7_addEntry_146 : decode cX7_addEntry 146 = .ok (.iconst (-1), 1) := by decide +kernel
theorem dX7_addEntry_147 : decode cX7_addEntry 147 = .ok (.iastore, 1) := by decide +kernel
theorem dX7_addEntry_148 : decode cX7_addEntry 148 = .ok (.aload_n 0, 1) := by decide +kernel
theorem dX7_addEntry_149 : decode cX7_addEntry 149 = .ok (.dup, 1) := by decide +kernel
theorem dX7_addEntry_150 : decode cX7_addEntry 150 = .ok (.getfield 277, 3) := by decide +kernel
theorem dX7_addEntry_153 : decode cX7_addEntry 153 = .ok (.iconst 1, 1) := by decide +kernel
theorem dX7_addEntry_154 : decode cX7_addEntry 154 = .ok (.iadd, 1) := by decide +kernel
theorem dX7_addEntry_155 : decode cX7_addEntry 155 = .ok (.putfield 277, 3) := by decide +kernel
theorem dX7_addEntry_158 : decode cX7_addEntry 158 = .ok (.aload_n 0, 1) := by decide +kernel
theorem dX7_addEntry_159 : decode cX7_addEntry 159 = .ok (.getfield 277, 3) := by decide +kernel
theorem dX7_addEntry_162 : decode cX7_addEntry 162 = .ok (.iconst 1, 1) := by decide +kernel
theorem dX7_addEntry_163 : decode cX7_addEntry 163 = .ok (.isub, 1) := by decide +kernel
theorem dX7_addEntry_164 : decode cX7_addEntry 164 = .ok (.ireturn, 1) := by decide +kernel
theorem dX7_dropsEntry_0 : decode cX7_dropsEntry 0 = .ok (.aload_n 0, 1) := by decide +kernel
theorem dX7_dropsEntry_1 : decode cX7_dropsEntry 1 = .ok (.dup, 1) := by decide +kernel
theorem dX7_dropsEntry_2 : decode cX7_dropsEntry 2 = .ok (.getfield 277, 3) := by decide +kernel
theorem dX7_dropsEntry_5 : decode cX7_dropsEntry 5 = .ok (.iconst 1, 1) := by decide +kernel
theorem dX7_dropsEntry_6 : decode cX7_dropsEntry 6 = .ok (.isub, 1) := by decide +kernel
theorem dX7_dropsEntry_7 : decode cX7_dropsEntry 7 = .ok (.putfield 277, 3) := by decide +kernel
theorem dX7_dropsEntry_10 : decode cX7_dropsEntry 10 = .ok (.iload_n 1, 1) := by decide +kernel
theorem dX7_dropsEntry_11 : decode cX7_dropsEntry 11 = .ok (.istore_n 2, 1) := by decide +kernel
theorem dX7_dropsEntry_12 : decode cX7_dropsEntry 12 = .ok (.iload_n 2, 1) := by decide +kernel
theorem dX7_dropsEntry_13 : decode cX7_dropsEntry 13 = .ok (.aload_n 0, 1) := by decide +kernel
theorem dX7_dropsEntry_14 : decode cX7_dropsEntry 14 = .ok (.getfield 277, 3) := by decide +kernel
theorem dX7_dropsEntry_17 : decode cX7_dropsEntry 17 = .ok (.if_icmp .ge 93, 3) := by decide +kernel
theorem dX7_dropsEntry_20 : decode cX7_dropsEntry 20 = .ok (.aload_n 0, 1) := by decide +kernel
theorem dX7_dropsEntry_21 : decode cX7_dropsEntry 21 = .ok (.getfield 81, 3) := by decide +kernel
theorem dX7_dropsEntry_24 : decode cX7_dropsEntry 24 = .ok (.iload_n 2, 1) := by decide +kernel
theorem dX7_dropsEntry_25 : decode cX7_dropsEntry 25 = .ok (.aload_n 0, 1) := by decide +kernel
theorem dX7_dropsEntry_26 : decode cX7_dropsEntry 26 = .ok (.getfield 81, 3) := by decide +kernel
theorem dX7_dropsEntry_29 : decode cX7_dropsEntry 29 = .ok (.iload_n 2, 1) := by decide +kernel
theorem dX7_dropsEntry_30 : decode cX7_dropsEntry 30 = .ok (.iconst 1, 1) := by decide +kernel
theorem dX7_dropsEntry_31 : decode cX7_dropsEntry 31 = .ok (.iadd, 1) := by decide +kernel
theorem dX7_dropsEntry_32 : decode cX7_dropsEntry 32 = .ok (.iaload, 1) := by decide +kernel
theorem dX7_dropsEntry_33 : decode cX7_dropsEntry 33 = .ok (.iastore, 1) := by decide +kernel
theorem dX7_dropsEntry_34 : decode cX7_dropsEntry 34 = .ok (.aload_n 0, 1) := by decide +kernel
theorem dX7_dropsEntry_35 : decode cX7_dropsEntry 35 = .ok (.getfield 84, 3) := by decide +kernel
theorem dX7_dropsEntry_38 : decode cX7_dropsEntry 38 = .ok (.iload_n 2, 1) := by decide +kernel
theorem dX7_dropsEntry_39 : decode cX7_dropsEntry 39 = .ok (.aload_n 0, 1) := by decide +kernel
theorem dX7_dropsEntry_40 : decode cX7_dropsEntry 40 = .ok (.getfield 84, 3) := by decide +kernel
theorem dX7_dropsEntry_43 : decode cX7_dropsEntry 43 = .ok (.iload_n 2, 1) := by decide +kernel
theorem dX7_dropsEntry_44 : decode cX7_dropsEntry 44 = .ok (.iconst 1, 1) := by decide +kernel
theorem dX7_dropsEntry_45 : decode cX7_dropsEntry 45 = .ok (.iadd, 1) := by decide +kernel
theorem dX7_dropsEntry_46 : decode cX7_dropsEntry 46 = .ok (.iaload, 1) := by decide +kernel
theorem dX7_dropsEntry_47 : decode cX7_dropsEntry 47 = .ok (.iastore, 1) := by decide +kernel
theorem dX7_dropsEntry_48 : decode cX7_dropsEntry 48 = .ok (.aload_n 0, 1) := by decide +kernel
theorem dX7_dropsEntry_49 : decode cX7_dropsEntry 49 = .ok (.getfield 87, 3) := by decide +kernel
theorem dX7_dropsEntry_52 : decode cX7_dropsEntry 52 = .ok (.iload_n 2, 1) := by decide +kernel
theorem dX7_dropsEntry_53 : decode cX7_dropsEntry 53 = .ok (.aload_n 0, 1) := by decide +kernel
theorem dX7_dropsEntry_54 : decode cX7_dropsEntry 54 = .ok (.getfield 87, 3) := by decide +kernel
theorem dX7_dropsEntry_57 : decode cX7_dropsEntry 57 = .ok (.iload_n 2, 1) := by decide +kernel
theorem dX7_dropsEntry_58 : decode cX7_dropsEntry 58 = .ok (.iconst 1, 1) := by decide +kernel
theorem dX7_dropsEntry_59 : decode cX7_dropsEntry 59 = .ok (.iadd, 1) := by decide +kernel
theorem dX7_dropsEntry_60 : decode cX7_dropsEntry 60 = .ok (.iaload, 1) := by decide +kernel
theorem dX7_dropsEntry_61 : decode cX7_dropsEntry 61 = .ok (.iastore, 1) := by decide +kernel
theorem dX7_dropsEntry_62 : decode cX7_dropsEntry 62 = .ok (.aload_n 0, 1) := by decide +kernel
theorem dX7_dropsEntry_63 : decode cX7_dropsEntry 63 = .ok (.getfield 90, 3) := by decide +kernel
theorem dX7_dropsEntry_66 : decode cX7_dropsEntry 66 = .ok (.iload_n 2, 1) := by decide +kernel
theorem dX7_dropsEntry_67 : decode cX7_dropsEntry 67 = .ok (.aload_n 0, 1) := by decide +kernel
theorem dX7_dropsEntry_68 : decode cX7_dropsEntry 68 = .ok (.getfield 90, 3) := by decide +kernel
theorem dX7_dropsEntry_71 : decode cX7_dropsEntry 71 = .ok (.iload_n 2, 1) := by decide +kernel
theorem dX7_dropsEntry_72 : decode cX7_dropsEntry 72 = .ok (.iconst 1, 1) := by decide +kernel
theorem dX7_dropsEntry_73 : decode cX7_dropsEntry 73 = .ok (.iadd, 1) := by decide +kernel
theorem dX7_dropsEntry_74 : decode cX7_dropsEntry 74 = .ok (.iaload, 1) := by decide +kernel
theorem dX7_dropsEntry_75 : decode cX7_dropsEntry 75 = .ok (.iastore, 1) := by decide +kernel
theorem dX7_dropsEntry_76 : decode cX7_dropsEntry 76 = .ok (.aload_n 0, 1) := by decide +kernel
theorem dX7_dropsEntry_77 : decode cX7_dropsEntry 77 = .ok (.getfield 93, 3) := by decide +kernel
theorem dX7_dropsEntry_80 : decode cX7_dropsEntry 80 = .ok (.iload_n 2, 1) := by decide +kernel
theorem dX7_dropsEntry_81 : decode cX7_dropsEntry 81 = .ok (.aload_n 0, 1) := by decide +kernel
theorem dX7_dropsEntry_82 : decode cX7_dropsEntry 82 = .ok (.getfield 93, 3) := by decide +kernel
theorem dX7_dropsEntry_85 : decode cX7_dropsEntry 85 = .ok (.iload_n 2, 1) := by decide +kernel
theorem dX7_dropsEntry_86 : decode cX7_dropsEntry 86 = .ok (.iconst 1, 1) := by decide +kernel
theorem dX7_dropsEntry_87 : decode cX7_dropsEntry 87 = .ok (.iadd, 1) := by decide +kernel
theorem dX7_dropsEntry_88 : decode cX7_dropsEntry 88 = .ok (.iaload, 1) := by decide +kernel
theorem dX7_dropsEntry_89 : decode cX7_dropsEntry 89 = .ok (.iastore, 1) := by decide +kernel
theorem dX7_dropsEntry_90 : decode cX7_dropsEntry 90 = .ok (.aload_n 0, 1) := by decide +kernel
theorem dX7_dropsEntry_91 : decode cX7_dropsEntry 91 = .ok (.getfield 96, 3) := by decide +kernel
theorem dX7_dropsEntry_94 : decode cX7_dropsEntry 94 = .ok (.iload_n 2, 1) := by decide +kernel
theorem dX7_dropsEntry_95 : decode cX7_dropsEntry 95 = .ok (.aload_n 0, 1) := by decide +kernel
theorem dX7_dropsEntry_96 : decode cX7_dropsEntry 96 = .ok (.getfield 96, 3) := by decide +kernel
theorem dX7_dropsEntry_99 : decode cX7_dropsEntry 99 = .ok (.iload_n 2, 1) := by decide +kernel
theorem dX7_dropsEntry_100 : decode cX7_dropsEntry 100 = .ok (.iconst 1, 1) := by decide +kernel
theorem dX7_dropsEntry_101 : decode cX7_dropsEntry 101 = .ok (.iadd, 1) := by decide +kernel
theorem dX7_dropsEntry_102 : decode cX7_dropsEntry 102 = .ok (.iaload, 1) := by decide +kernel
theorem dX7_dropsEntry_103 : decode cX7_dropsEntry 103 = .ok (.iastore, 1) := by decide +kernel
theorem dX7_dropsEntry_104 : decode cX7_dropsEntry 104 = .ok (.iinc 2 1, 3) := by decide +kernel
theorem dX7_dropsEntry_107 : decode cX7_dropsEntry 107 = .ok (.goto (-95), 3) := by decide +kernel
theorem dX7_dropsEntry_110 : decode cX7_dropsEntry 110 = .ok (.return_, 1) := by decide +kernel
theorem dX7_removeEntry_0 : decode cX7_removeEntry 0 = .ok (.aload_n 0, 1) := by decide +kernel
theorem dX7_removeEntry_1 : decode cX7_removeEntry 1 = .ok (.iconst 0, 1) := by decide +kernel
theorem dX7_removeEntry_2 : decode cX7_removeEntry 2 = .ok (.putfield 1, 3) := by decide +kernel
theorem dX7_removeEntry_5 : decode cX7_removeEntry 5 = .ok (.aload_n 0, 1) := by decide +kernel
theorem dX7_removeEntry_6 : decode cX7_removeEntry 6 = .ok (.iload_n 1, 1) := by decide +kernel
theorem dX7_removeEntry_7 : decode cX7_removeEntry 7 = .ok (.invokevirtual 282, 3) := by decide +kernel
theorem dX7_removeEntry_10 : decode cX7_removeEntry 10 = .ok (.ifCond .ne 6, 3) := by decide +kernel
theorem dX7_removeEntry_13 : decode cX7_removeEntry 13 = .ok (.bipush (-2), 2) := by decide +kernel
theorem dX7_removeEntry_15 : decode cX7_removeEntry 15 = .ok (.ireturn, 1) := by decide +kernel
theorem dX7_removeEntry_16 : decode cX7_removeEntry 16 = .ok (.aload_n 0, 1) := by decide +kernel
theorem dX7_removeEntry_17 : decode cX7_removeEntry 17 = .ok (.iload_n 1, 1) := by decide +kernel
theorem dX7_removeEntry_18 : decode cX7_removeEntry 18 = .ok (.invokevirtual 285, 3) := by decide +kernel
theorem dX7_removeEntry_21 : decode cX7_removeEntry 21 = .ok (.aload_n 0, 1) := by decide +kernel
theorem dX7_removeEntry_22 : decode cX7_removeEntry 22 = .ok (.getfield 277, 3) := by decide +kernel
theorem dX7_removeEntry_25 : decode cX7_removeEntry 25 = .ok (.ireturn, 1) := by decide +kernel
theorem dX7_entryCount_0 : decode cX7_entryCount 0 = .ok (.aload_n 0, 1) := by decide +kernel
theorem dX7_entryCount_1 : decode cX7_entryCount 1 = .ok (.iconst 0, 1) := by decide +kernel
theorem dX7_entryCount_2 : decode cX7_entryCount 2 = .ok (.putfield 1, 3) := by decide +kernel
theorem dX7_entryCount_5 : decode cX7_entryCount 5 = .ok (.aload_n 0, 1) := by decide +kernel
theorem dX7_entryCount_6 : decode cX7_entryCount 6 = .ok (.getfield 277, 3) := by decide +kernel
theorem dX7_entryCount_9 : decode cX7_entryCount 9 = .ok (.ireturn, 1) := by decide +kernel
theorem dX7_dueTime_0 : decode cX7_dueTime 0 = .ok (.aload_n 0, 1) := by decide +kernel
theorem dX7_dueTime_1 : decode cX7_dueTime 1 = .ok (.iconst 0, 1) := by decide +kernel
theorem dX7_dueTime_2 : decode cX7_dueTime 2 = .ok (.putfield 1, 3) := by decide +kernel
theorem dX7_dueTime_5 : decode cX7_dueTime 5 = .ok (.aload_n 0, 1) := by decide +kernel
theorem dX7_dueTime_6 : decode cX7_dueTime 6 = .ok (.iload_n 1, 1) := by decide +kernel
theorem dX7_dueTime_7 : decode cX7_dueTime 7 = .ok (.invokevirtual 282, 3) := by decide +kernel
theorem dX7_dueTime_10 : decode cX7_dueTime 10 = .ok (.ifCond .eq 12, 3) := by decide +kernel
theorem dX7_dueTime_13 : decode cX7_dueTime 13 = .ok (.aload_n 0, 1) := by decide +kernel
theorem dX7_dueTime_14 : decode cX7_dueTime 14 = .ok (.getfield 84, 3) := by decide +kernel
theorem dX7_dueTime_17 : decode cX7_dueTime 17 = .ok (.iload_n 1, 1) := by decide +kernel
theorem dX7_dueTime_18 : decode cX7_dueTime 18 = .ok (.iaload, 1) := by decide +kernel
theorem dX7_dueTime_19 : decode cX7_dueTime 19 = .ok (.goto 5, 3) := by decide +kernel
theorem dX7_dueTime_22 : decode cX7_dueTime 22 = .ok (.bipush (-2), 2) := by decide +kernel
theorem dX7_dueTime_24 : decode cX7_dueTime 24 = .ok (.ireturn, 1) := by decide +kernel
theorem dX7_lastShift_0 : decode cX7_lastShift 0 = .ok (.aload_n 0, 1) := by decide +kernel
theorem dX7_lastShift_1 : decode cX7_lastShift 1 = .ok (.iconst 0, 1) := by decide +kernel
theorem dX7_lastShift_2 : decode cX7_lastShift 2 = .ok (.putfield 1, 3) := by decide +kernel
theorem dX7_lastShift_5 : decode cX7_lastShift 5 = .ok (.aload_n 0, 1) := by decide +kernel
theorem dX7_lastShift_6 : decode cX7_lastShift 6 = .ok (.iload_n 1, 1) := by decide +kernel
theorem dX7_lastShift_7 : decode cX7_lastShift 7 = .ok (.invokevirtual 282, 3) := by decide +kernel
theorem dX7_lastShift_10 : decode cX7_lastShift 10 = .ok (.ifCond .eq 12, 3) := by decide +kernel
theorem dX7_lastShift_13 : decode cX7_lastShift 13 = .ok (.aload_n 0, 1) := by decide +kernel
theorem dX7_lastShift_14 : decode cX7_lastShift 14 = .ok (.getfield 96, 3) := by decide +kernel
theorem dX7_lastShift_17 : decode cX7_lastShift 17 = .ok (.iload_n 1, 1) := by decide +kernel
theorem dX7_lastShift_18 : decode cX7_lastShift 18 = .ok (.iaload, 1) := by decide +kernel
theorem dX7_lastShift_19 : decode cX7_lastShift 19 = .ok (.goto 5, 3) := by decide +kernel
theorem dX7_lastShift_22 : decode cX7_lastShift 22 = .ok (.bipush (-2), 2) := by decide +kernel
theorem dX7_lastShift_24 : decode cX7_lastShift 24 = .ok (.ireturn, 1) := by decide +kernel
theorem dX7_failureCount_0 : decode cX7_failureCount 0 = .ok (.aload_n 0, 1) := by decide +kernel
theorem dX7_failureCount_1 : decode cX7_failureCount 1 = .ok (.iconst 0, 1) := by decide +kernel
theorem dX7_failureCount_2 : decode cX7_failureCount 2 = .ok (.putfield 1, 3) := by decide +kernel
theorem dX7_failureCount_5 : decode cX7_failureCount 5 = .ok (.aload_n 0, 1) := by decide +kernel
theorem dX7_failureCount_6 : decode cX7_failureCount 6 = .ok (.getfield 288, 3) := by decide +kernel
theorem dX7_failureCount_9 : decode cX7_failureCount 9 = .ok (.ireturn, 1) := by decide +kernel
theorem dX7_carriesOut_0 : decode cX7_carriesOut 0 = .ok (.aload_n 0, 1) := by decide +kernel
theorem dX7_carriesOut_1 : decode cX7_carriesOut 1 = .ok (.getfield 96, 3) := by decide +kernel
theorem dX7_carriesOut_4 : decode cX7_carriesOut 4 = .ok (.iload_n 1, 1) := by decide +kernel
theorem dX7_carriesOut_5 : decode cX7_carriesOut 5 = .ok (.aload_n 0, 1) := by decide +kernel
theorem dX7_carriesOut_6 : decode cX7_carriesOut 6 = .ok (.getfield 57, 3) := by decide +kernel
theorem dX7_carriesOut_9 : decode cX7_carriesOut 9 = .ok (.aload_n 0, 1) := by decide +kernel
theorem dX7_carriesOut_10 : decode cX7_carriesOut 10 = .ok (.getfield 81, 3) := by decide +kernel
theorem dX7_carriesOut_13 : decode cX7_carriesOut 13 = .ok (.iload_n 1, 1) := by decide +kernel
theorem dX7_carriesOut_14 : decode cX7_carriesOut 14 = .ok (.iaload, 1) := by decide +kernel
theorem dX7_carriesOut_15 : decode cX7_carriesOut 15 = .ok (.iaload, 1) := by decide +kernel
theorem dX7_carriesOut_16 : decode cX7_carriesOut 16 = .ok (.ifCond .ne 7, 3) := by decide +kernel
theorem dX7_carriesOut_19 : decode cX7_carriesOut 19 = .ok (.iconst (-1), 1) := by decide +kernel
theorem dX7_carriesOut_20 : decode cX7_carriesOut 20 = .ok (.goto 31, 3) := by decide +kernel
theorem dX7_carriesOut_23 : decode cX7_carriesOut 23 = .ok (.aload_n 0, 1) := by decide +kernel
theorem dX7_carriesOut_24 : decode cX7_carriesOut 24 = .ok (.aload_n 0, 1) := by decide +kernel
theorem dX7_carriesOut_25 : decode cX7_carriesOut 25 = .ok (.getfield 81, 3) := by decide +kernel
theorem dX7_carriesOut_28 : decode cX7_carriesOut 28 = .ok (.iload_n 1, 1) := by decide +kernel
theorem dX7_carriesOut_29 : decode cX7_carriesOut 29 = .ok (.iaload, 1) := by decide +kernel
theorem dX7_carriesOut_30 : decode cX7_carriesOut 30 = .ok (.aload_n 0, 1) := by decide +kernel
theorem dX7_carriesOut_31 : decode cX7_carriesOut 31 = .ok (.getfield 84, 3) := by decide +kernel
theorem dX7_carriesOut_34 : decode cX7_carriesOut 34 = .ok (.iload_n 1, 1) := by decide +kernel
theorem dX7_carriesOut_35 : decode cX7_carriesOut 35 = .ok (.iaload, 1) := by decide +kernel
theorem dX7_carriesOut_36 : decode cX7_carriesOut 36 = .ok (.aload_n 0, 1) := by decide +kernel
theorem dX7_carriesOut_37 : decode cX7_carriesOut 37 = .ok (.getfield 90, 3) := by decide +kernel
theorem dX7_carriesOut_40 : decode cX7_carriesOut 40 = .ok (.iload_n 1, 1) := by decide +kernel
theorem dX7_carriesOut_41 : decode cX7_carriesOut 41 = .ok (.iaload, 1) := by decide +kernel
theorem dX7_carriesOut_42 : decode cX7_carriesOut 42 = .ok (.aload_n 0, 1) := by decide +kernel
theorem dX7_carriesOut_43 : decode cX7_carriesOut 43 = .ok (.getfield 93, 3) := by decide +kernel
theorem dX7_carriesOut_46 : decode cX7_carriesOut 46 = .ok (.iload_n 1, 1) := by decide +kernel
theorem dX7_carriesOut_47 : decode cX7_carriesOut 47 = .ok (.iaload, 1) := by decide +kernel
theorem dX7_carriesOut_48 : decode cX7_carriesOut 48 = .ok (.invokevirtual 266, 3) := by decide +kernel
theorem dX7_carriesOut_51 : decode cX7_carriesOut 51 = .ok (.iastore, 1) := by decide +kernel
theorem dX7_carriesOut_52 : decode cX7_carriesOut 52 = .ok (.aload_n 0, 1) := by decide +kernel
theorem dX7_carriesOut_53 : decode cX7_carriesOut 53 = .ok (.dup, 1) := by decide +kernel
theorem dX7_carriesOut_54 : decode cX7_carriesOut 54 = .ok (.getfield 288, 3) := by decide +kernel
theorem dX7_carriesOut_57 : decode cX7_carriesOut 57 = .ok (.aload_n 0, 1) := by decide +kernel
theorem dX7_carriesOut_58 : decode cX7_carriesOut 58 = .ok (.getfield 96, 3) := by decide +kernel
theorem dX7_carriesOut_61 : decode cX7_carriesOut 61 = .ok (.iload_n 1, 1) := by decide +kernel
theorem dX7_carriesOut_62 : decode cX7_carriesOut 62 = .ok (.iaload, 1) := by decide +kernel
theorem dX7_carriesOut_63 : decode cX7_carriesOut 63 = .ok (.iconst (-1), 1) := by decide +kernel
theorem dX7_carriesOut_64 : decode cX7_carriesOut 64 = .ok (.if_icmp .ne 7, 3) := by decide +kernel
theorem dX7_carriesOut_67 : decode cX7_carriesOut 67 = .ok (.iconst 1, 1) := by decide +kernel
theorem dX7_carriesOut_68 : decode cX7_carriesOut 68 = .ok (.goto 4, 3) := by decide +kernel
theorem dX7_carriesOut_71 : decode cX7_carriesOut 71 = .ok (.iconst 0, 1) := by decide +kernel
theorem dX7_carriesOut_72 : decode cX7_carriesOut 72 = .ok (.iadd, 1) := by decide +kernel
theorem dX7_carriesOut_73 : decode cX7_carriesOut 73 = .ok (.putfield 288, 3) := by decide +kernel
theorem dX7_carriesOut_76 : decode cX7_carriesOut 76 = .ok (.aload_n 0, 1) := by decide +kernel
theorem dX7_carriesOut_77 : decode cX7_carriesOut 77 = .ok (.getfield 87, 3) := by decide +kernel
theorem dX7_carriesOut_80 : decode cX7_carriesOut 80 = .ok (.iload_n 1, 1) := by decide +kernel
theorem dX7_carriesOut_81 : decode cX7_carriesOut 81 = .ok (.iaload, 1) := by decide +kernel
theorem dX7_carriesOut_82 : decode cX7_carriesOut 82 = .ok (.ifCond .eq 21, 3) := by decide +kernel
theorem dX7_carriesOut_85 : decode cX7_carriesOut 85 = .ok (.aload_n 0, 1) := by decide +kernel
theorem dX7_carriesOut_86 : decode cX7_carriesOut 86 = .ok (.getfield 84, 3) := by decide +kernel
theorem dX7_carriesOut_89 : decode cX7_carriesOut 89 = .ok (.iload_n 1, 1) := by decide +kernel
theorem dX7_carriesOut_90 : decode cX7_carriesOut 90 = .ok (.iaload, 1) := by decide +kernel
theorem dX7_carriesOut_91 : decode cX7_carriesOut 91 = .ok (.aload_n 0, 1) := by decide +kernel
theorem dX7_carriesOut_92 : decode cX7_carriesOut 92 = .ok (.getfield 87, 3) := by decide +kernel
theorem dX7_carriesOut_95 : decode cX7_carriesOut 95 = .ok (.iload_n 1, 1) := by decide +kernel
theorem dX7_carriesOut_96 : decode cX7_carriesOut 96 = .ok (.iaload, 1) := by decide +kernel
theorem dX7_carriesOut_97 : decode cX7_carriesOut 97 = .ok (.iadd, 1) := by decide +kernel
theorem dX7_carriesOut_98 : decode cX7_carriesOut 98 = .ok (.ldc 196, 2) := by decide +kernel
theorem dX7_carriesOut_100 : decode cX7_carriesOut 100 = .ok (.if_icmp .le 5, 3) := by decide +kernel
theorem dX7_carriesOut_103 : decode cX7_carriesOut 103 = .ok (.iconst 0, 1) := by decide +kernel
theorem dX7_carriesOut_104 : decode cX7_carriesOut 104 = .ok (.ireturn, 1) := by decide +kernel
theorem dX7_carriesOut_105 : decode cX7_carriesOut 105 = .ok (.aload_n 0, 1) := by decide +kernel
theorem dX7_carriesOut_106 : decode cX7_carriesOut 106 = .ok (.getfield 84, 3) := by decide +kernel
theorem dX7_carriesOut_109 : decode cX7_carriesOut 109 = .ok (.iload_n 1, 1) := by decide +kernel
theorem dX7_carriesOut_110 : decode cX7_carriesOut 110 = .ok (.dup2, 1) := by decide +kernel
theorem dX7_carriesOut_111 : decode cX7_carriesOut 111 = .ok (.iaload, 1) := by decide +kernel
theorem dX7_carriesOut_112 : decode cX7_carriesOut 112 = .ok (.aload_n 0, 1) := by decide +kernel
theorem dX7_carriesOut_113 : decode cX7_carriesOut 113 = .ok (.getfield 87, 3) := by decide +kernel
theorem dX7_carriesOut_116 : decode cX7_carriesOut 116 = .ok (.iload_n 1, 1) := by decide +kernel
theorem dX7_carriesOut_117 : decode cX7_carriesOut 117 = .ok (.iaload, 1) := by decide +kernel
theorem dX7_carriesOut_118 : decode cX7_carriesOut 118 = .ok (.iadd, 1) := by decide +kernel
theorem dX7_carriesOut_119 : decode cX7_carriesOut 119 = .ok (.iastore, 1) := by decide +kernel
theorem dX7_carriesOut_120 : decode cX7_carriesOut 120 = .ok (.iconst 1, 1) := by decide +kernel
theorem dX7_carriesOut_121 : decode cX7_carriesOut 121 = .ok (.ireturn, 1) := by decide +kernel
theorem dX7_looksAtEntries_0 : decode cX7_looksAtEntries 0 = .ok (.iconst 0, 1) := by decide +kernel
theorem dX7_looksAtEntries_1 : decode cX7_looksAtEntries 1 = .ok (.istore_n 1, 1) := by decide +kernel
theorem dX7_looksAtEntries_2 : decode cX7_looksAtEntries 2 = .ok (.iload_n 1, 1) := by decide +kernel
theorem dX7_looksAtEntries_3 : decode cX7_looksAtEntries 3 = .ok (.aload_n 0, 1) := by decide +kernel
theorem dX7_looksAtEntries_4 : decode cX7_looksAtEntries 4 = .ok (.getfield 277, 3) := by decide +kernel
theorem dX7_looksAtEntries_7 : decode cX7_looksAtEntries 7 = .ok (.if_icmp .ge 41, 3) := by decide +kernel
theorem dX7_looksAtEntries_10 : decode cX7_looksAtEntries 10 = .ok (.aload_n 0, 1) := by decide +kernel
theorem dX7_looksAtEntries_11 : decode cX7_looksAtEntries 11 = .ok (.getfield 84, 3) := by decide +kernel
theorem dX7_looksAtEntries_14 : decode cX7_looksAtEntries 14 = .ok (.iload_n 1, 1) := by decide +kernel
theorem dX7_looksAtEntries_15 : decode cX7_looksAtEntries 15 = .ok (.iaload, 1) := by decide +kernel
theorem dX7_looksAtEntries_16 : decode cX7_looksAtEntries 16 = .ok (.aload_n 0, 1) := by decide +kernel
theorem dX7_looksAtEntries_17 : decode cX7_looksAtEntries 17 = .ok (.getfield 158, 3) := by decide +kernel
theorem dX7_looksAtEntries_20 : decode cX7_looksAtEntries 20 = .ok (.bipush 100, 2) := by decide +kernel
theorem dX7_looksAtEntries_22 : decode cX7_looksAtEntries 22 = .ok (.iadd, 1) := by decide +kernel
theorem dX7_looksAtEntries_23 : decode cX7_looksAtEntries 23 = .ok (.if_icmp .gt 11, 3) := by decide +kernel
theorem dX7_looksAtEntries_26 : decode cX7_looksAtEntries 26 = .ok (.aload_n 0, 1) := by decide +kernel
theorem dX7_looksAtEntries_27 : decode cX7_looksAtEntries 27 = .ok (.iload_n 1, 1) := by decide +kernel
theorem dX7_looksAtEntries_28 : decode cX7_looksAtEntries 28 = .ok (.invokevirtual 291, 3) := by decide +kernel
theorem dX7_looksAtEntries_31 : decode cX7_looksAtEntries 31 = .ok (.ifCond .eq 9, 3) := by decide +kernel
theorem dX7_looksAtEntries_34 : decode cX7_looksAtEntries 34 = .ok (.iinc 1 1, 3) := by decide +kernel
theorem dX7_looksAtEntries_37 : decode cX7_looksAtEntries 37 = .ok (.goto (-35), 3) := by decide +kernel
theorem dX7_looksAtEntries_40 : decode cX7_looksAtEntries 40 = .ok (.aload_n 0, 1) := by decide +kernel
theorem dX7_looksAtEntries_41 : decode cX7_looksAtEntries 41 = .ok (.iload_n 1, 1) := by decide +kernel
theorem dX7_looksAtEntries_42 : decode cX7_looksAtEntries 42 = .ok (.invokevirtual 285, 3) := by decide +kernel
theorem dX7_looksAtEntries_45 : decode cX7_looksAtEntries 45 = .ok (.goto (-43), 3) := by decide +kernel
theorem dX7_looksAtEntries_48 : decode cX7_looksAtEntries 48 = .ok (.return_, 1) := by decide +kernel
theorem dX7_turned_0 : decode cX7_turned 0 = .ok (.iload_n 0, 1) := by decide +kernel
theorem dX7_turned_1 : decode cX7_turned 1 = .ok (.iload_n 0, 1) := by decide +kernel
theorem dX7_turned_2 : decode cX7_turned 2 = .ok (.bipush 30, 2) := by decide +kernel
theorem dX7_turned_4 : decode cX7_turned 4 = .ok (.imul, 1) := by decide +kernel
theorem dX7_turned_5 : decode cX7_turned 5 = .ok (.sipush 1000, 3) := by decide +kernel
theorem dX7_turned_8 : decode cX7_turned 8 = .ok (.idiv, 1) := by decide +kernel
theorem dX7_turned_9 : decode cX7_turned 9 = .ok (.isub, 1) := by decide +kernel
theorem dX7_turned_10 : decode cX7_turned 10 = .ok (.iconst 2, 1) := by decide +kernel
theorem dX7_turned_11 : decode cX7_turned 11 = .ok (.isub, 1) := by decide +kernel
theorem dX7_turned_12 : decode cX7_turned 12 = .ok (.istore_n 3, 1) := by decide +kernel
theorem dX7_turned_13 : decode cX7_turned 13 = .ok (.iload_n 3, 1) := by decide +kernel
theorem dX7_turned_14 : decode cX7_turned 14 = .ok (.ifCond .ge 7, 3) := by decide +kernel
theorem dX7_turned_17 : decode cX7_turned 17 = .ok (.iconst 0, 1) := by decide +kernel
theorem dX7_turned_18 : decode cX7_turned 18 = .ok (.goto 4, 3) := by decide +kernel
theorem dX7_turned_21 : decode cX7_turned 21 = .ok (.iload_n 3, 1) := by decide +kernel
theorem dX7_turned_22 : decode cX7_turned 22 = .ok (.istore_n 3, 1) := by decide +kernel
theorem dX7_turned_23 : decode cX7_turned 23 = .ok (.iload_n 1, 1) := by decide +kernel
theorem dX7_turned_24 : decode cX7_turned 24 = .ok (.ifCond .eq 8, 3) := by decide +kernel
theorem dX7_turned_27 : decode cX7_turned 27 = .ok (.iload_n 3, 1) := by decide +kernel
theorem dX7_turned_28 : decode cX7_turned 28 = .ok (.iload_n 2, 1) := by decide +kernel
theorem dX7_turned_29 : decode cX7_turned 29 = .ok (.if_icmp .lt 5, 3) := by decide +kernel
theorem dX7_turned_32 : decode cX7_turned 32 = .ok (.iload_n 3, 1) := by decide +kernel
theorem dX7_turned_33 : decode cX7_turned 33 = .ok (.ireturn, 1) := by decide +kernel
theorem dX7_turned_34 : decode cX7_turned 34 = .ok (.iload_n 3, 1) := by decide +kernel
theorem dX7_turned_35 : decode cX7_turned 35 = .ok (.bipush 80, 2) := by decide +kernel
theorem dX7_turned_37 : decode cX7_turned 37 = .ok (.iadd, 1) := by decide +kernel
theorem dX7_turned_38 : decode cX7_turned 38 = .ok (.iload_n 2, 1) := by decide +kernel
theorem dX7_turned_39 : decode cX7_turned 39 = .ok (.if_icmp .le 7, 3) := by decide +kernel
theorem dX7_turned_42 : decode cX7_turned 42 = .ok (.iload_n 2, 1) := by decide +kernel
theorem dX7_turned_43 : decode cX7_turned 43 = .ok (.goto 7, 3) := by decide +kernel
theorem dX7_turned_46 : decode cX7_turned 46 = .ok (.iload_n 3, 1) := by decide +kernel
theorem dX7_turned_47 : decode cX7_turned 47 = .ok (.bipush 80, 2) := by decide +kernel
theorem dX7_turned_49 : decode cX7_turned 49 = .ok (.iadd, 1) := by decide +kernel
theorem dX7_turned_50 : decode cX7_turned 50 = .ok (.ireturn, 1) := by decide +kernel
theorem dX7_turns_0 : decode cX7_turns 0 = .ok (.aload_n 0, 1) := by decide +kernel
theorem dX7_turns_1 : decode cX7_turns 1 = .ok (.getfield 111, 3) := by decide +kernel
theorem dX7_turns_4 : decode cX7_turns 4 = .ok (.iload_n 1, 1) := by decide +kernel
theorem dX7_turns_5 : decode cX7_turns 5 = .ok (.aload_n 0, 1) := by decide +kernel
theorem dX7_turns_6 : decode cX7_turns 6 = .ok (.getfield 111, 3) := by decide +kernel
theorem dX7_turns_9 : decode cX7_turns 9 = .ok (.iload_n 1, 1) := by decide +kernel
theorem dX7_turns_10 : decode cX7_turns 10 = .ok (.iaload, 1) := by decide +kernel
theorem dX7_turns_11 : decode cX7_turns 11 = .ok (.ineg, 1) := by decide +kernel
theorem dX7_turns_12 : decode cX7_turns 12 = .ok (.iastore, 1) := by decide +kernel
theorem dX7_turns_13 : decode cX7_turns 13 = .ok (.aload_n 0, 1) := by decide +kernel
theorem dX7_turns_14 : decode cX7_turns 14 = .ok (.getfield 108, 3) := by decide +kernel
theorem dX7_turns_17 : decode cX7_turns 17 = .ok (.iload_n 1, 1) := by decide +kernel
theorem dX7_turns_18 : decode cX7_turns 18 = .ok (.aload_n 0, 1) := by decide +kernel
theorem dX7_turns_19 : decode cX7_turns 19 = .ok (.getfield 108, 3) := by decide +kernel
theorem dX7_turns_22 : decode cX7_turns 22 = .ok (.iload_n 1, 1) := by decide +kernel
theorem dX7_turns_23 : decode cX7_turns 23 = .ok (.iaload, 1) := by decide +kernel
theorem dX7_turns_24 : decode cX7_turns 24 = .ok (.aload_n 0, 1) := by decide +kernel
theorem dX7_turns_25 : decode cX7_turns 25 = .ok (.getfield 105, 3) := by decide +kernel
theorem dX7_turns_28 : decode cX7_turns 28 = .ok (.iload_n 1, 1) := by decide +kernel
theorem dX7_turns_29 : decode cX7_turns 29 = .ok (.baload, 1) := by decide +kernel
theorem dX7_turns_30 : decode cX7_turns 30 = .ok (.aload_n 0, 1) := by decide +kernel
theorem dX7_turns_31 : decode cX7_turns 31 = .ok (.getfield 114, 3) := by decide +kernel
theorem dX7_turns_34 : decode cX7_turns 34 = .ok (.iload_n 1, 1) := by decide +kernel
theorem dX7_turns_35 : decode cX7_turns 35 = .ok (.iaload, 1) := by decide +kernel
theorem dX7_turns_36 : decode cX7_turns 36 = .ok (.invokestatic 294, 3) := by decide +kernel
theorem dX7_turns_39 : decode cX7_turns 39 = .ok (.iastore, 1) := by decide +kernel
theorem dX7_turns_40 : decode cX7_turns 40 = .ok (.aload_n 0, 1) := by decide +kernel
theorem dX7_turns_41 : decode cX7_turns 41 = .ok (.getfield 108, 3) := by decide +kernel
theorem dX7_turns_44 : decode cX7_turns 44 = .ok (.iload_n 1, 1) := by decide +kernel
theorem dX7_turns_45 : decode cX7_turns 45 = .ok (.iaload, 1) := by decide +kernel
theorem dX7_turns_46 : decode cX7_turns 46 = .ok (.sipush 400, 3) := by decide +kernel
theorem dX7_turns_49 : decode cX7_turns 49 = .ok (.if_icmp .lt 18, 3) := by decide +kernel
theorem dX7_turns_52 : decode cX7_turns 52 = .ok (.aload_n 0, 1) := by decide +kernel
theorem dX7_turns_53 : decode cX7_turns 53 = .ok (.getfield 102, 3) := by decide +kernel
theorem dX7_turns_56 : decode cX7_turns 56 = .ok (.iload_n 1, 1) := by decide +kernel
theorem dX7_turns_57 : decode cX7_turns 57 = .ok (.baload, 1) := by decide +kernel
theorem dX7_turns_58 : decode cX7_turns 58 = .ok (.ifCond .ne 9, 3) := by decide +kernel
theorem dX7_turns_61 : decode cX7_turns 61 = .ok (.aload_n 0, 1) := by decide +kernel
theorem dX7_turns_62 : decode cX7_turns 62 = .ok (.iload_n 1, 1) := by decide +kernel
theorem dX7_turns_63 : decode cX7_turns 63 = .ok (.iconst 1, 1) := by decide +kernel
theorem dX7_turns_64 : decode cX7_turns 64 = .ok (.invokevirtual 298, 3) := by decide +kernel
theorem dX7_turns_67 : decode cX7_turns 67 = .ok (.aload_n 0, 1) := by decide +kernel
theorem dX7_turns_68 : decode cX7_turns 68 = .ok (.getfield 99, 3) := by decide +kernel
theorem dX7_turns_71 : decode cX7_turns 71 = .ok (.iload_n 1, 1) := by decide +kernel
theorem dX7_turns_72 : decode cX7_turns 72 = .ok (.aload_n 0, 1) := by decide +kernel
theorem dX7_turns_73 : decode cX7_turns 73 = .ok (.getfield 108, 3) := by decide +kernel
theorem dX7_turns_76 : decode cX7_turns 76 = .ok (.iload_n 1, 1) := by decide +kernel
theorem dX7_turns_77 : decode cX7_turns 77 = .ok (.iaload, 1) := by decide +kernel
theorem dX7_turns_78 : decode cX7_turns 78 = .ok (.ifCond .gt 12, 3) := by decide +kernel
theorem dX7_turns_81 : decode cX7_turns 81 = .ok (.aload_n 0, 1) := by decide +kernel
theorem dX7_turns_82 : decode cX7_turns 82 = .ok (.getfield 105, 3) := by decide +kernel
theorem dX7_turns_85 : decode cX7_turns 85 = .ok (.iload_n 1, 1) := by decide +kernel
theorem dX7_turns_86 : decode cX7_turns 86 = .ok (.baload, 1) := by decide +kernel
theorem dX7_turns_87 : decode cX7_turns 87 = .ok (.ifCond .eq 7, 3) := by decide +kernel
theorem dX7_turns_90 : decode cX7_turns 90 = .ok (.iconst 1, 1) := by decide +kernel
theorem dX7_turns_91 : decode cX7_turns 91 = .ok (.goto 4, 3) := by decide +kernel
theorem dX7_turns_94 : decode cX7_turns 94 = .ok (.iconst 0, 1) := by decide +kernel
theorem dX7_turns_95 : decode cX7_turns 95 = .ok (.bastore, 1) := by decide +kernel
theorem dX7_turns_96 : decode cX7_turns 96 = .ok (.aload_n 0, 1) := by decide +kernel
theorem dX7_turns_97 : decode cX7_turns 97 = .ok (.getfield 117, 3) := by decide +kernel
theorem dX7_turns_100 : decode cX7_turns 100 = .ok (.iload_n 1, 1) := by decide +kernel
theorem dX7_turns_101 : decode cX7_turns 101 = .ok (.dup2, 1) := by decide +kernel
theorem dX7_turns_102 : decode cX7_turns 102 = .ok (.iaload, 1) := by decide +kernel
theorem dX7_turns_103 : decode cX7_turns 103 = .ok (.aload_n 0, 1) := by decide +kernel
theorem dX7_turns_104 : decode cX7_turns 104 = .ok (.getfield 23, 3) := by decide +kernel
theorem dX7_turns_107 : decode cX7_turns 107 = .ok (.iload_n 1, 1) := by decide +kernel
theorem dX7_turns_108 : decode cX7_turns 108 = .ok (.iaload, 1) := by decide +kernel
theorem dX7_turns_109 : decode cX7_turns 109 = .ok (.iadd, 1) := by decide +kernel
theorem dX7_turns_110 : decode cX7_turns 110 = .ok (.iastore, 1) := by decide +kernel
theorem dX7_turns_111 : decode cX7_turns 111 = .ok (.return_, 1) := by decide +kernel
theorem dX7_sounds_0 : decode cX7_sounds 0 = .ok (.aload_n 0, 1) := by decide +kernel
theorem dX7_sounds_1 : decode cX7_sounds 1 = .ok (.iload_n 1, 1) := by decide +kernel
theorem dX7_sounds_2 : decode cX7_sounds 2 = .ok (.aload_n 0, 1) := by decide +kernel
theorem dX7_sounds_3 : decode cX7_sounds 3 = .ok (.getfield 158, 3) := by decide +kernel
theorem dX7_sounds_6 : decode cX7_sounds 6 = .ok (.invokevirtual 182, 3) := by decide +kernel
theorem dX7_sounds_9 : decode cX7_sounds 9 = .ok (.istore_n 2, 1) := by decide +kernel
theorem dX7_sounds_10 : decode cX7_sounds 10 = .ok (.iload_n 2, 1) := by decide +kernel
theorem dX7_sounds_11 : decode cX7_sounds 11 = .ok (.iconst (-1), 1) := by decide +kernel
theorem dX7_sounds_12 : decode cX7_sounds 12 = .ok (.if_icmp .ne 4, 3) := by decide +kernel
theorem dX7_sounds_15 : decode cX7_sounds 15 = .ok (.return_, 1) := by decide +kernel
theorem dX7_sounds_16 : decode cX7_sounds 16 = .ok (.aload_n 0, 1) := by decide +kernel
theorem dX7_sounds_17 : decode cX7_sounds 17 = .ok (.getfield 26, 3) := by decide +kernel
theorem dX7_sounds_20 : decode cX7_sounds 20 = .ok (.iload_n 1, 1) := by decide +kernel
theorem dX7_sounds_21 : decode cX7_sounds 21 = .ok (.aload_n 0, 1) := by decide +kernel
theorem dX7_sounds_22 : decode cX7_sounds 22 = .ok (.getfield 158, 3) := by decide +kernel
theorem dX7_sounds_25 : decode cX7_sounds 25 = .ok (.aload_n 0, 1) := by decide +kernel
theorem dX7_sounds_26 : decode cX7_sounds 26 = .ok (.getfield 17, 3) := by decide +kernel
theorem dX7_sounds_29 : decode cX7_sounds 29 = .ok (.iload_n 1, 1) := by decide +kernel
theorem dX7_sounds_30 : decode cX7_sounds 30 = .ok (.iaload, 1) := by decide +kernel
theorem dX7_sounds_31 : decode cX7_sounds 31 = .ok (.iadd, 1) := by decide +kernel
theorem dX7_sounds_32 : decode cX7_sounds 32 = .ok (.iastore, 1) := by decide +kernel
theorem dX7_sounds_33 : decode cX7_sounds 33 = .ok (.aload_n 0, 1) := by decide +kernel
theorem dX7_sounds_34 : decode cX7_sounds 34 = .ok (.iload_n 2, 1) := by decide +kernel
theorem dX7_sounds_35 : decode cX7_sounds 35 = .ok (.invokevirtual 186, 3) := by decide +kernel
theorem dX7_sounds_38 : decode cX7_sounds 38 = .ok (.aload_n 0, 1) := by decide +kernel
theorem dX7_sounds_39 : decode cX7_sounds 39 = .ok (.iload_n 1, 1) := by decide +kernel
theorem dX7_sounds_40 : decode cX7_sounds 40 = .ok (.iconst 0, 1) := by decide +kernel
theorem dX7_sounds_41 : decode cX7_sounds 41 = .ok (.invokevirtual 298, 3) := by decide +kernel
theorem dX7_sounds_44 : decode cX7_sounds 44 = .ok (.return_, 1) := by decide +kernel
theorem dX7_advance_0 : decode cX7_advance 0 = .ok (.aload_n 0, 1) := by decide +kernel
theorem dX7_advance_1 : decode cX7_advance 1 = .ok (.iconst 0, 1) := by decide +kernel
theorem dX7_advance_2 : decode cX7_advance 2 = .ok (.putfield 1, 3) := by decide +kernel
theorem dX7_advance_5 : decode cX7_advance 5 = .ok (.iload_n 1, 1) := by decide +kernel
theorem dX7_advance_6 : decode cX7_advance 6 = .ok (.i2l, 1) := by decide +kernel
theorem dX7_advance_7 : decode cX7_advance 7 = .ok (.lconst 0, 1) := by decide +kernel
theorem dX7_advance_8 : decode cX7_advance 8 = .ok (.ldc2_w 302, 3) := by decide +kernel
theorem dX7_advance_11 : decode cX7_advance 11 = .ok (.invokestatic 135, 3) := by decide +kernel
theorem dX7_advance_14 : decode cX7_advance 14 = .ok (.ifCond .ne 6, 3) := by decide +kernel
theorem dX7_advance_17 : decode cX7_advance 17 = .ok (.bipush (-3), 2) := by decide +kernel
theorem dX7_advance_19 : decode cX7_advance 19 = .ok (.ireturn, 1) := by decide +kernel
theorem dX7_advance_20 : decode cX7_advance 20 = .ok (.aload_n 0, 1) := by decide +kernel
theorem dX7_advance_21 : decode cX7_advance 21 = .ok (.getfield 158, 3) := by decide +kernel
theorem dX7_advance_24 : decode cX7_advance 24 = .ok (.iload_n 1, 1) := by decide +kernel
theorem dX7_advance_25 : decode cX7_advance 25 = .ok (.iadd, 1) := by decide +kernel
theorem dX7_advance_26 : decode cX7_advance 26 = .ok (.ldc 196, 2) := by decide +kernel
theorem dX7_advance_28 : decode cX7_advance 28 = .ok (.if_icmp .le 6, 3) := by decide +kernel
theorem dX7_advance_31 : decode cX7_advance 31 = .ok (.bipush (-4), 2) := by decide +kernel
theorem dX7_advance_33 : decode cX7_advance 33 = .ok (.ireturn, 1) := by decide +kernel
theorem dX7_advance_34 : decode cX7_advance 34 = .ok (.aload_n 0, 1) := by decide +kernel
theorem dX7_advance_35 : decode cX7_advance 35 = .ok (.getfield 155, 3) := by decide +kernel
theorem dX7_advance_38 : decode cX7_advance 38 = .ok (.istore_n 2, 1) := by decide +kernel
theorem dX7_advance_39 : decode cX7_advance 39 = .ok (.iconst 0, 1) := by decide +kernel
theorem dX7_advance_40 : decode cX7_advance 40 = .ok (.istore_n 3, 1) := by decide +kernel
theorem dX7_advance_41 : decode cX7_advance 41 = .ok (.iload_n 3, 1) := by decide +kernel
theorem dX7_advance_42 : decode cX7_advance 42 = .ok (.iload_n 1, 1) := by decide +kernel
theorem dX7_advance_43 : decode cX7_advance 43 = .ok (.if_icmp .ge 95, 3) := by decide +kernel
theorem dX7_advance_46 : decode cX7_advance 46 = .ok (.aload_n 0, 1) := by decide +kernel
theorem dX7_advance_47 : decode cX7_advance 47 = .ok (.dup, 1) := by decide +kernel
theorem dX7_advance_48 : decode cX7_advance 48 = .ok (.getfield 158, 3) := by decide +kernel
theorem dX7_advance_51 : decode cX7_advance 51 = .ok (.iconst 1, 1) := by decide +kernel
theorem dX7_advance_52 : decode cX7_advance 52 = .ok (.iadd, 1) := by decide +kernel
theorem dX7_advance_53 : decode cX7_advance 53 = .ok (.putfield 158, 3) := by decide +kernel
theorem dX7_advance_56 : decode cX7_advance 56 = .ok (.iconst 0, 1) := by decide +kernel
theorem dX7_advance_57 : decode cX7_advance 57 = .ok (.istore 4, 2) := by decide +kernel
theorem dX7_advance_59 : decode cX7_advance 59 = .ok (.iload 4, 2) := by decide +kernel
theorem dX7_advance_61 : decode cX7_advance 61 = .ok (.aload_n 0, 1) := by decide +kernel
theorem dX7_advance_62 : decode cX7_advance 62 = .ok (.getfield 132, 3) := by decide +kernel
theorem dX7_advance_65 : decode cX7_advance 65 = .ok (.if_icmp .ge 15, 3) := by decide +kernel
theorem dX7_advance_68 : decode cX7_advance 68 = .ok (.aload_n 0, 1) := by decide +kernel
theorem dX7_advance_69 : decode cX7_advance 69 = .ok (.iload 4, 2) := by decide +kernel
theorem dX7_advance_71 : decode cX7_advance 71 = .ok (.invokevirtual 304, 3) := by decide +kernel
theorem dX7_advance_74 : decode cX7_advance 74 = .ok (.iinc 4 1, 3) := by decide +kernel
theorem dX7_advance_77 : decode cX7_advance 77 = .ok (.goto (-18), 3) := by decide +kernel
theorem dX7_advance_80 : decode cX7_advance 80 = .ok (.iconst 0, 1) := by decide +kernel
theorem dX7_advance_81 : decode cX7_advance 81 = .ok (.istore 4, 2) := by decide +kernel
theorem dX7_advance_83 : decode cX7_advance 83 = .ok (.iload 4, 2) := by decide +kernel
theorem dX7_advance_85 : decode cX7_advance 85 = .ok (.aload_n 0, 1) := by decide +kernel
theorem dX7_advance_86 : decode cX7_advance 86 = .ok (.getfield 132, 3) := by decide +kernel
theorem dX7_advance_89 : decode cX7_advance 89 = .ok (.if_icmp .ge 39, 3) := by decide +kernel
theorem dX7_advance_92 : decode cX7_advance 92 = .ok (.aload_n 0, 1) := by decide +kernel
theorem dX7_advance_93 : decode cX7_advance 93 = .ok (.getfield 99, 3) := by decide +kernel
theorem dX7_advance_96 : decode cX7_advance 96 = .ok (.iload 4, 2) := by decide +kernel
theorem dX7_advance_98 : decode cX7_advance 98 = .ok (.baload, 1) := by decide +kernel
theorem dX7_advance_99 : decode cX7_advance 99 = .ok (.ifCond .eq 23, 3) := by decide +kernel
theorem dX7_advance_102 : decode cX7_advance 102 = .ok (.aload_n 0, 1) := by decide +kernel
theorem dX7_advance_103 : decode cX7_advance 103 = .ok (.getfield 117, 3) := by decide +kernel
theorem dX7_advance_106 : decode cX7_advance 106 = .ok (.iload 4, 2) := by decide +kernel
theorem dX7_advance_108 : decode cX7_advance 108 = .ok (.iaload, 1) := by decide +kernel
theorem dX7_advance_109 : decode cX7_advance 109 = .ok (.aload_n 0, 1) := by decide +kernel
theorem dX7_advance_110 : decode cX7_advance 110 = .ok (.getfield 158, 3) := by decide +kernel
theorem dX7_advance_113 : decode cX7_advance 113 = .ok (.if_icmp .ne 9, 3) := by decide +kernel
theorem dX7_advance_116 : decode cX7_advance 116 = .ok (.aload_n 0, 1) := by decide +kernel
theorem dX7_advance_117 : decode cX7_advance 117 = .ok (.iload 4, 2) := by decide +kernel
theorem dX7_advance_119 : decode cX7_advance 119 = .ok (.invokevirtual 307, 3) := by decide +kernel
theorem dX7_advance_122 : decode cX7_advance 122 = .ok (.iinc 4 1, 3) := by decide +kernel
theorem dX7_advance_125 : decode cX7_advance 125 = .ok (.goto (-42), 3) := by decide +kernel
theorem dX7_advance_128 : decode cX7_advance 128 = .ok (.aload_n 0, 1) := by decide +kernel
theorem dX7_advance_129 : decode cX7_advance 129 = .ok (.invokevirtual 310, 3) := by decide +kernel
theorem dX7_advance_132 : decode cX7_advance 132 = .ok (.iinc 3 1, 3) := by decide +kernel
theorem dX7_advance_135 : decode cX7_advance 135 = .ok (.goto (-94), 3) := by decide +kernel
theorem dX7_advance_138 : decode cX7_advance 138 = .ok (.aload_n 0, 1) := by decide +kernel
theorem dX7_advance_139 : decode cX7_advance 139 = .ok (.getfield 155, 3) := by decide +kernel
theorem dX7_advance_142 : decode cX7_advance 142 = .ok (.iload_n 2, 1) := by decide +kernel
theorem dX7_advance_143 : decode cX7_advance 143 = .ok (.isub, 1) := by decide +kernel
theorem dX7_advance_144 : decode cX7_advance 144 = .ok (.ireturn, 1) := by decide +kernel
theorem dX7_forceBy_0 : decode cX7_forceBy 0 = .ok (.iload_n 2, 1) := by decide +kernel
theorem dX7_forceBy_1 : decode cX7_forceBy 1 = .ok (.aload_n 0, 1) := by decide +kernel
theorem dX7_forceBy_2 : decode cX7_forceBy 2 = .ok (.getfield 20, 3) := by decide +kernel
theorem dX7_forceBy_5 : decode cX7_forceBy 5 = .ok (.iload_n 1, 1) := by decide +kernel
theorem dX7_forceBy_6 : decode cX7_forceBy 6 = .ok (.iaload, 1) := by decide +kernel
theorem dX7_forceBy_7 : decode cX7_forceBy 7 = .ok (.imul, 1) := by decide +kernel
theorem dX7_forceBy_8 : decode cX7_forceBy 8 = .ok (.iload_n 3, 1) := by decide +kernel
theorem dX7_forceBy_9 : decode cX7_forceBy 9 = .ok (.imul, 1) := by decide +kernel
theorem dX7_forceBy_10 : decode cX7_forceBy 10 = .ok (.aload_n 0, 1) := by decide +kernel
theorem dX7_forceBy_11 : decode cX7_forceBy 11 = .ok (.getfield 23, 3) := by decide +kernel
theorem dX7_forceBy_14 : decode cX7_forceBy 14 = .ok (.iload_n 1, 1) := by decide +kernel
theorem dX7_forceBy_15 : decode cX7_forceBy 15 = .ok (.iaload, 1) := by decide +kernel
theorem dX7_forceBy_16 : decode cX7_forceBy 16 = .ok (.iconst 2, 1) := by decide +kernel
theorem dX7_forceBy_17 : decode cX7_forceBy 17 = .ok (.iload 4, 2) := by decide +kernel
theorem dX7_forceBy_19 : decode cX7_forceBy 19 = .ok (.imul, 1) := by decide +kernel
theorem dX7_forceBy_20 : decode cX7_forceBy 20 = .ok (.isub, 1) := by decide +kernel
theorem dX7_forceBy_21 : decode cX7_forceBy 21 = .ok (.imul, 1) := by decide +kernel
theorem dX7_forceBy_22 : decode cX7_forceBy 22 = .ok (.bipush 100, 2) := by decide +kernel
theorem dX7_forceBy_24 : decode cX7_forceBy 24 = .ok (.aload_n 0, 1) := by decide +kernel
theorem dX7_forceBy_25 : decode cX7_forceBy 25 = .ok (.getfield 23, 3) := by decide +kernel
theorem dX7_forceBy_28 : decode cX7_forceBy 28 = .ok (.iload_n 1, 1) := by decide +kernel
theorem dX7_forceBy_29 : decode cX7_forceBy 29 = .ok (.iaload, 1) := by decide +kernel
theorem dX7_forceBy_30 : decode cX7_forceBy 30 = .ok (.imul, 1) := by decide +kernel
theorem dX7_forceBy_31 : decode cX7_forceBy 31 = .ok (.idiv, 1) := by decide +kernel
theorem dX7_forceBy_32 : decode cX7_forceBy 32 = .ok (.ireturn, 1) := by decide +kernel
theorem dX7_laysShake_0 : decode cX7_laysShake 0 = .ok (.iconst 0, 1) := by decide +kernel
theorem dX7_laysShake_1 : decode cX7_laysShake 1 = .ok (.istore_n 2, 1) := by decide +kernel
theorem dX7_laysShake_2 : decode cX7_laysShake 2 = .ok (.iload_n 2, 1) := by decide +kernel
theorem dX7_laysShake_3 : decode cX7_laysShake 3 = .ok (.iload_n 1, 1) := by decide +kernel
theorem dX7_laysShake_4 : decode cX7_laysShake 4 = .ok (.if_icmp .gt 16, 3) := by decide +kernel
theorem dX7_laysShake_7 : decode cX7_laysShake 7 = .ok (.aload_n 0, 1) := by decide +kernel
theorem dX7_laysShake_8 : decode cX7_laysShake 8 = .ok (.getfield 120, 3) := by decide +kernel
theorem dX7_laysShake_11 : decode cX7_laysShake 11 = .ok (.iload_n 2, 1) := by decide +kernel
theorem dX7_laysShake_12 : decode cX7_laysShake 12 = .ok (.iconst 0, 1) := by decide +kernel
theorem dX7_laysShake_13 : decode cX7_laysShake 13 = .ok (.iastore, 1) := by decide +kernel
theorem dX7_laysShake_14 : decode cX7_laysShake 14 = .ok (.iinc 2 1, 3) := by decide +kernel
theorem dX7_laysShake_17 : decode cX7_laysShake 17 = .ok (.goto (-15), 3) := by decide +kernel
theorem dX7_laysShake_20 : decode cX7_laysShake 20 = .ok (.iconst 0, 1) := by decide +kernel
theorem dX7_laysShake_21 : decode cX7_laysShake 21 = .ok (.istore_n 2, 1) := by decide +kernel
theorem dX7_laysShake_22 : decode cX7_laysShake 22 = .ok (.iload_n 2, 1) := by decide +kernel
theorem dX7_laysShake_23 : decode cX7_laysShake 23 = .ok (.aload_n 0, 1) := by decide +kernel
theorem dX7_laysShake_24 : decode cX7_laysShake 24 = .ok (.getfield 132, 3) := by decide +kernel
theorem dX7_laysShake_27 : decode cX7_laysShake 27 = .ok (.if_icmp .ge 161, 3) := by decide +kernel
theorem dX7_laysShake_30 : decode cX7_laysShake 30 = .ok (.aload_n 0, 1) := by decide +kernel
theorem dX7_laysShake_31 : decode cX7_laysShake 31 = .ok (.getfield 99, 3) := by decide +kernel
theorem dX7_laysShake_34 : decode cX7_laysShake 34 = .ok (.iload_n 2, 1) := by decide +kernel
theorem dX7_laysShake_35 : decode cX7_laysShake 35 = .ok (.baload, 1) := by decide +kernel
theorem dX7_laysShake_36 : decode cX7_laysShake 36 = .ok (.istore_n 3, 1) := by decide +kernel
theorem dX7_laysShake_37 : decode cX7_laysShake 37 = .ok (.aload_n 0, 1) := by decide +kernel
theorem dX7_laysShake_38 : decode cX7_laysShake 38 = .ok (.getfield 108, 3) := by decide +kernel
theorem dX7_laysShake_41 : decode cX7_laysShake 41 = .ok (.iload_n 2, 1) := by decide +kernel
theorem dX7_laysShake_42 : decode cX7_laysShake 42 = .ok (.iaload, 1) := by decide +kernel
theorem dX7_laysShake_43 : decode cX7_laysShake 43 = .ok (.istore 4, 2) := by decide +kernel
theorem dX7_laysShake_45 : decode cX7_laysShake 45 = .ok (.aload_n 0, 1) := by decide +kernel
theorem dX7_laysShake_46 : decode cX7_laysShake 46 = .ok (.getfield 111, 3) := by decide +kernel
theorem dX7_laysShake_49 : decode cX7_laysShake 49 = .ok (.iload_n 2, 1) := by decide +kernel
theorem dX7_laysShake_50 : decode cX7_laysShake 50 = .ok (.iaload, 1) := by decide +kernel
theorem dX7_laysShake_51 : decode cX7_laysShake 51 = .ok (.istore 5, 2) := by decide +kernel
theorem dX7_laysShake_53 : decode cX7_laysShake 53 = .ok (.aload_n 0, 1) := by decide +kernel
theorem dX7_laysShake_54 : decode cX7_laysShake 54 = .ok (.getfield 117, 3) := by decide +kernel
theorem dX7_laysShake_57 : decode cX7_laysShake 57 = .ok (.iload_n 2, 1) := by decide +kernel
theorem dX7_laysShake_58 : decode cX7_laysShake 58 = .ok (.iaload, 1) := by decide +kernel
theorem dX7_laysShake_59 : decode cX7_laysShake 59 = .ok (.aload_n 0, 1) := by decide +kernel
theorem dX7_laysShake_60 : decode cX7_laysShake 60 = .ok (.getfield 158, 3) := by decide +kernel
theorem dX7_laysShake_63 : decode cX7_laysShake 63 = .ok (.isub, 1) := by decide +kernel
theorem dX7_laysShake_64 : decode cX7_laysShake 64 = .ok (.istore 6, 2) := by decide +kernel
theorem dX7_laysShake_66 : decode cX7_laysShake 66 = .ok (.iconst 0, 1) := by decide +kernel
theorem dX7_laysShake_67 : decode cX7_laysShake 67 = .ok (.istore 7, 2) := by decide +kernel
theorem dX7_laysShake_69 : decode cX7_laysShake 69 = .ok (.iload 7, 2) := by decide +kernel
theorem dX7_laysShake_71 : decode cX7_laysShake 71 = .ok (.iload_n 1, 1) := by decide +kernel
theorem dX7_laysShake_72 : decode cX7_laysShake 72 = .ok (.if_icmp .gt 110, 3) := by decide +kernel
theorem dX7_laysShake_75 : decode cX7_laysShake 75 = .ok (.iload_n 3, 1) := by decide +kernel
theorem dX7_laysShake_76 : decode cX7_laysShake 76 = .ok (.ifCond .eq 106, 3) := by decide +kernel
theorem dX7_laysShake_79 : decode cX7_laysShake 79 = .ok (.iload 7, 2) := by decide +kernel
theorem dX7_laysShake_81 : decode cX7_laysShake 81 = .ok (.iload 6, 2) := by decide +kernel
theorem dX7_laysShake_83 : decode cX7_laysShake 83 = .ok (.if_icmp .ne 58, 3) := by decide +kernel
theorem dX7_laysShake_86 : decode cX7_laysShake 86 = .ok (.iload 5, 2) := by decide +kernel
theorem dX7_laysShake_88 : decode cX7_laysShake 88 = .ok (.ineg, 1) := by decide +kernel
theorem dX7_laysShake_89 : decode cX7_laysShake 89 = .ok (.istore 5, 2) := by decide +kernel
theorem dX7_laysShake_91 : decode cX7_laysShake 91 = .ok (.iload 4, 2) := by decide +kernel
theorem dX7_laysShake_93 : decode cX7_laysShake 93 = .ok (.aload_n 0, 1) := by decide +kernel
theorem dX7_laysShake_94 : decode cX7_laysShake 94 = .ok (.getfield 105, 3) := by decide +kernel
theorem dX7_laysShake_97 : decode cX7_laysShake 97 = .ok (.iload_n 2, 1) := by decide +kernel
theorem dX7_laysShake_98 : decode cX7_laysShake 98 = .ok (.baload, 1) := by decide +kernel
theorem dX7_laysShake_99 : decode cX7_laysShake 99 = .ok (.aload_n 0, 1) := by decide +kernel
theorem dX7_laysShake_100 : decode cX7_laysShake 100 = .ok (.getfield 114, 3) := by decide +kernel
theorem dX7_laysShake_103 : decode cX7_laysShake 103 = .ok (.iload_n 2, 1) := by decide +kernel
theorem dX7_laysShake_104 : decode cX7_laysShake 104 = .ok (.iaload, 1) := by decide +kernel
theorem dX7_laysShake_105 : decode cX7_laysShake 105 = .ok (.invokestatic 294, 3) := by decide +kernel
theorem dX7_laysShake_108 : decode cX7_laysShake 108 = .ok (.istore 4, 2) := by decide +kernel
theorem dX7_laysShake_110 : decode cX7_laysShake 110 = .ok (.iload 4, 2) := by decide +kernel
theorem dX7_laysShake_112 : decode cX7_laysShake 112 = .ok (.ifCond .gt 12, 3) := by decide +kernel
theorem dX7_laysShake_115 : decode cX7_laysShake 115 = .ok (.aload_n 0, 1) := by decide +kernel
theorem dX7_laysShake_116 : decode cX7_laysShake 116 = .ok (.getfield 105, 3) := by decide +kernel
theorem dX7_laysShake_119 : decode cX7_laysShake 119 = .ok (.iload_n 2, 1) := by decide +kernel
theorem dX7_laysShake_120 : decode cX7_laysShake 120 = .ok (.baload, 1) := by decide +kernel
theorem dX7_laysShake_121 : decode cX7_laysShake 121 = .ok (.ifCond .eq 7, 3) := by decide +kernel
theorem dX7_laysShake_124 : decode cX7_laysShake 124 = .ok (.iconst 1, 1) := by decide +kernel
theorem dX7_laysShake_125 : decode cX7_laysShake 125 = .ok (.goto 4, 3) := by decide +kernel
theorem dX7_laysShake_128 : decode cX7_laysShake 128 = .ok (.iconst 0, 1) := by decide +kernel
theorem dX7_laysShake_129 : decode cX7_laysShake 129 = .ok (.istore_n 3, 1) := by decide +kernel
theorem dX7_laysShake_130 : decode cX7_laysShake 130 = .ok (.iload 6, 2) := by decide +kernel
theorem dX7_laysShake_132 : decode cX7_laysShake 132 = .ok (.aload_n 0, 1) := by decide +kernel
theorem dX7_laysShake_133 : decode cX7_laysShake 133 = .ok (.getfield 23, 3) := by decide +kernel
theorem dX7_laysShake_136 : decode cX7_laysShake 136 = .ok (.iload_n 2, 1) := by decide +kernel
theorem dX7_laysShake_137 : decode cX7_laysShake 137 = .ok (.iaload, 1) := by decide +kernel
theorem dX7_laysShake_138 : decode cX7_laysShake 138 = .ok (.iadd, 1) := by decide +kernel
theorem dX7_laysShake_139 : decode cX7_laysShake 139 = .ok (.istore 6, 2) := by decide +kernel
theorem dX7_laysShake_141 : decode cX7_laysShake 141 = .ok (.iload_n 3, 1) := by decide +kernel
theorem dX7_laysShake_142 : decode cX7_laysShake 142 = .ok (.ifCond .eq 34, 3) := by decide +kernel
theorem dX7_laysShake_145 : decode cX7_laysShake 145 = .ok (.aload_n 0, 1) := by decide +kernel
theorem dX7_laysShake_146 : decode cX7_laysShake 146 = .ok (.getfield 120, 3) := by decide +kernel
theorem dX7_laysShake_149 : decode cX7_laysShake 149 = .ok (.iload 7, 2) := by decide +kernel
theorem dX7_laysShake_151 : decode cX7_laysShake 151 = .ok (.dup2, 1) := by decide +kernel
theorem dX7_laysShake_152 : decode cX7_laysShake 152 = .ok (.iaload, 1) := by decide +kernel
theorem dX7_laysShake_153 : decode cX7_laysShake 153 = .ok (.aload_n 0, 1) := by decide +kernel
theorem dX7_laysShake_154 : decode cX7_laysShake 154 = .ok (.iload_n 2, 1) := by decide +kernel
theorem dX7_laysShake_155 : decode cX7_laysShake 155 = .ok (.iload 5, 2) := by decide +kernel
theorem dX7_laysShake_157 : decode cX7_laysShake 157 = .ok (.iload 4, 2) := by decide +kernel
theorem dX7_laysShake_159 : decode cX7_laysShake 159 = .ok (.iload 7, 2) := by decide +kernel
theorem dX7_laysShake_161 : decode cX7_laysShake 161 = .ok (.iload 6, 2) := by decide +kernel
theorem dX7_laysShake_163 : decode cX7_laysShake 163 = .ok (.isub, 1) := by decide +kernel
theorem dX7_laysShake_164 : decode cX7_laysShake 164 = .ok (.aload_n 0, 1) := by decide +kernel
theorem dX7_laysShake_165 : decode cX7_laysShake 165 = .ok (.getfield 23, 3) := by decide +kernel
theorem dX7_laysShake_168 : decode cX7_laysShake 168 = .ok (.iload_n 2, 1) := by decide +kernel
theorem dX7_laysShake_169 : decode cX7_laysShake 169 = .ok (.iaload, 1) := by decide +kernel
theorem dX7_laysShake_170 : decode cX7_laysShake 170 = .ok (.iadd, 1) := by decide +kernel
theorem dX7_laysShake_171 : decode cX7_laysShake 171 = .ok (.invokevirtual 313, 3) := by decide +kernel
theorem dX7_laysShake_174 : decode cX7_laysShake 174 = .ok (.iadd, 1) := by decide +kernel
theorem dX7_laysShake_175 : decode cX7_laysShake 175 = .ok (.iastore, 1) := by decide +kernel
theorem dX7_laysShake_176 : decode cX7_laysShake 176 = .ok (.iinc 7 1, 3) := by decide +kernel
theorem dX7_laysShake_179 : decode cX7_laysShake 179 = .ok (.goto (-110), 3) := by decide +kernel
theorem dX7_laysShake_182 : decode cX7_laysShake 182 = .ok (.iinc 2 1, 3) := by decide +kernel
theorem dX7_laysShake_185 : decode cX7_laysShake 185 = .ok (.goto (-163), 3) := by decide +kernel
theorem dX7_laysShake_188 : decode cX7_laysShake 188 = .ok (.return_, 1) := by decide +kernel
theorem dX7_laysStarted_0 : decode cX7_laysStarted 0 = .ok (.iconst 0, 1) := by decide +kernel
theorem dX7_laysStarted_1 : decode cX7_laysStarted 1 = .ok (.istore_n 3, 1) := by decide +kernel
theorem dX7_laysStarted_2 : decode cX7_laysStarted 2 = .ok (.iconst 1, 1) := by decide +kernel
theorem dX7_laysStarted_3 : decode cX7_laysStarted 3 = .ok (.istore 4, 2) := by decide +kernel
theorem dX7_laysStarted_5 : decode cX7_laysStarted 5 = .ok (.aload_n 0, 1) := by decide +kernel
theorem dX7_laysStarted_6 : decode cX7_laysStarted 6 = .ok (.getfield 23, 3) := by decide +kernel
theorem dX7_laysStarted_9 : decode cX7_laysStarted 9 = .ok (.iload_n 1, 1) := by decide +kernel
theorem dX7_laysStarted_10 : decode cX7_laysStarted 10 = .ok (.iaload, 1) := by decide +kernel
theorem dX7_laysStarted_11 : decode cX7_laysStarted 11 = .ok (.istore 5, 2) := by decide +kernel
theorem dX7_laysStarted_13 : decode cX7_laysStarted 13 = .ok (.iconst 0, 1) := by decide +kernel
theorem dX7_laysStarted_14 : decode cX7_laysStarted 14 = .ok (.istore 6, 2) := by decide +kernel
theorem dX7_laysStarted_16 : decode cX7_laysStarted 16 = .ok (.iload 6, 2) := by decide +kernel
theorem dX7_laysStarted_18 : decode cX7_laysStarted 18 = .ok (.sipush 600, 3) := by decide +kernel
theorem dX7_laysStarted_21 : decode cX7_laysStarted 21 = .ok (.if_icmp .gt 66, 3) := by decide +kernel
theorem dX7_laysStarted_24 : decode cX7_laysStarted 24 = .ok (.iload 6, 2) := by decide +kernel
theorem dX7_laysStarted_26 : decode cX7_laysStarted 26 = .ok (.iload 5, 2) := by decide +kernel
theorem dX7_laysStarted_28 : decode cX7_laysStarted 28 = .ok (.if_icmp .ne 26, 3) := by decide +kernel
theorem dX7_laysStarted_31 : decode cX7_laysStarted 31 = .ok (.iload 4, 2) := by decide +kernel
theorem dX7_laysStarted_33 : decode cX7_laysStarted 33 = .ok (.ineg, 1) := by decide +kernel
theorem dX7_laysStarted_34 : decode cX7_laysStarted 34 = .ok (.istore 4, 2) := by decide +kernel
theorem dX7_laysStarted_36 : decode cX7_laysStarted 36 = .ok (.iload_n 3, 1) := by decide +kernel
theorem dX7_laysStarted_37 : decode cX7_laysStarted 37 = .ok (.iconst 1, 1) := by decide +kernel
theorem dX7_laysStarted_38 : decode cX7_laysStarted 38 = .ok (.iload_n 2, 1) := by decide +kernel
theorem dX7_laysStarted_39 : decode cX7_laysStarted 39 = .ok (.invokestatic 294, 3) := by decide +kernel
theorem dX7_laysStarted_42 : decode cX7_laysStarted 42 = .ok (.istore_n 3, 1) := by decide +kernel
theorem dX7_laysStarted_43 : decode cX7_laysStarted 43 = .ok (.iload 5, 2) := by decide +kernel
theorem dX7_laysStarted_45 : decode cX7_laysStarted 45 = .ok (.aload_n 0, 1) := by decide +kernel
theorem dX7_laysStarted_46 : decode cX7_laysStarted 46 = .ok (.getfield 23, 3) := by decide +kernel
theorem dX7_laysStarted_49 : decode cX7_laysStarted 49 = .ok (.iload_n 1, 1) := by decide +kernel
theorem dX7_laysStarted_50 : decode cX7_laysStarted 50 = .ok (.iaload, 1) := by decide +kernel
theorem dX7_laysStarted_51 : decode cX7_laysStarted 51 = .ok (.iadd, 1) := by decide +kernel
theorem dX7_laysStarted_52 : decode cX7_laysStarted 52 = .ok (.istore 5, 2) := by decide +kernel
theorem dX7_laysStarted_54 : decode cX7_laysStarted 54 = .ok (.aload_n 0, 1) := by decide +kernel
theorem dX7_laysStarted_55 : decode cX7_laysStarted 55 = .ok (.getfield 123, 3) := by decide +kernel
theorem dX7_laysStarted_58 : decode cX7_laysStarted 58 = .ok (.iload 6, 2) := by decide +kernel
theorem dX7_laysStarted_60 : decode cX7_laysStarted 60 = .ok (.aload_n 0, 1) := by decide +kernel
theorem dX7_laysStarted_61 : decode cX7_laysStarted 61 = .ok (.iload_n 1, 1) := by decide +kernel
theorem dX7_laysStarted_62 : decode cX7_laysStarted 62 = .ok (.iload 4, 2) := by decide +kernel
theorem dX7_laysStarted_64 : decode cX7_laysStarted 64 = .ok (.iload_n 3, 1) := by decide +kernel
theorem dX7_laysStarted_65 : decode cX7_laysStarted 65 = .ok (.iload 6, 2) := by decide +kernel
theorem dX7_laysStarted_67 : decode cX7_laysStarted 67 = .ok (.iload 5, 2) := by decide +kernel
theorem dX7_laysStarted_69 : decode cX7_laysStarted 69 = .ok (.isub, 1) := by decide +kernel
theorem dX7_laysStarted_70 : decode cX7_laysStarted 70 = .ok (.aload_n 0, 1) := by decide +kernel
theorem dX7_laysStarted_71 : decode cX7_laysStarted 71 = .ok (.getfield 23, 3) := by decide +kernel
theorem dX7_laysStarted_74 : decode cX7_laysStarted 74 = .ok (.iload_n 1, 1) := by decide +kernel
theorem dX7_laysStarted_75 : decode cX7_laysStarted 75 = .ok (.iaload, 1) := by decide +kernel
theorem dX7_laysStarted_76 : decode cX7_laysStarted 76 = .ok (.iadd, 1) := by decide +kernel
theorem dX7_laysStarted_77 : decode cX7_laysStarted 77 = .ok (.invokevirtual 313, 3) := by decide +kernel
theorem dX7_laysStarted_80 : decode cX7_laysStarted 80 = .ok (.iastore, 1) := by decide +kernel
theorem dX7_laysStarted_81 : decode cX7_laysStarted 81 = .ok (.iinc 6 1, 3) := by decide +kernel
theorem dX7_laysStarted_84 : decode cX7_laysStarted 84 = .ok (.goto (-68), 3) := by decide +kernel
theorem dX7_laysStarted_87 : decode cX7_laysStarted 87 = .ok (.return_, 1) := by decide +kernel
theorem dX7_sizeOf_0 : decode cX7_sizeOf 0 = .ok (.iload_n 0, 1) := by decide +kernel
theorem dX7_sizeOf_1 : decode cX7_sizeOf 1 = .ok (.ifCond .ge 8, 3) := by decide +kernel
theorem dX7_sizeOf_4 : decode cX7_sizeOf 4 = .ok (.iload_n 0, 1) := by decide +kernel
theorem dX7_sizeOf_5 : decode cX7_sizeOf 5 = .ok (.ineg, 1) := by decide +kernel
theorem dX7_sizeOf_6 : decode cX7_sizeOf 6 = .ok (.goto 4, 3) := by decide +kernel
theorem dX7_sizeOf_9 : decode cX7_sizeOf 9 = .ok (.iload_n 0, 1) := by decide +kernel
theorem dX7_sizeOf_10 : decode cX7_sizeOf 10 = .ok (.ireturn, 1) := by decide +kernel
theorem dX7_worstBy_0 : decode cX7_worstBy 0 = .ok (.iconst 0, 1) := by decide +kernel
theorem dX7_worstBy_1 : decode cX7_worstBy 1 = .ok (.istore_n 2, 1) := by decide +kernel
theorem dX7_worstBy_2 : decode cX7_worstBy 2 = .ok (.iconst 0, 1) := by decide +kernel
theorem dX7_worstBy_3 : decode cX7_worstBy 3 = .ok (.istore_n 3, 1) := by decide +kernel
theorem dX7_worstBy_4 : decode cX7_worstBy 4 = .ok (.iload_n 3, 1) := by decide +kernel
theorem dX7_worstBy_5 : decode cX7_worstBy 5 = .ok (.sipush 600, 3) := by decide +kernel
theorem dX7_worstBy_8 : decode cX7_worstBy 8 = .ok (.if_icmp .gt 42, 3) := by decide +kernel
theorem dX7_worstBy_11 : decode cX7_worstBy 11 = .ok (.aload_n 0, 1) := by decide +kernel
theorem dX7_worstBy_12 : decode cX7_worstBy 12 = .ok (.getfield 120, 3) := by decide +kernel
theorem dX7_worstBy_15 : decode cX7_worstBy 15 = .ok (.iload_n 1, 1) := by decide +kernel
theorem dX7_worstBy_16 : decode cX7_worstBy 16 = .ok (.iload_n 3, 1) := by decide +kernel
theorem dX7_worstBy_17 : decode cX7_worstBy 17 = .ok (.iadd, 1) := by decide +kernel
theorem dX7_worstBy_18 : decode cX7_worstBy 18 = .ok (.iaload, 1) := by decide +kernel
theorem dX7_worstBy_19 : decode cX7_worstBy 19 = .ok (.aload_n 0, 1) := by decide +kernel
theorem dX7_worstBy_20 : decode cX7_worstBy 20 = .ok (.getfield 123, 3) := by decide +kernel
theorem dX7_worstBy_23 : decode cX7_worstBy 23 = .ok (.iload_n 3, 1) := by decide +kernel
theorem dX7_worstBy_24 : decode cX7_worstBy 24 = .ok (.iaload, 1) := by decide +kernel
theorem dX7_worstBy_25 : decode cX7_worstBy 25 = .ok (.iadd, 1) := by decide +kernel
theorem dX7_worstBy_26 : decode cX7_worstBy 26 = .ok (.invokestatic 316, 3) := by decide +kernel
theorem dX7_worstBy_29 : decode cX7_worstBy 29 = .ok (.istore 4, 2) := by decide +kernel
theorem dX7_worstBy_31 : decode cX7_worstBy 31 = .ok (.iload 4, 2) := by decide +kernel
theorem dX7_worstBy_33 : decode cX7_worstBy 33 = .ok (.iload_n 2, 1) := by decide +kernel
theorem dX7_worstBy_34 : decode cX7_worstBy 34 = .ok (.if_icmp .le 8, 3) := by decide +kernel
theorem dX7_worstBy_37 : decode cX7_worstBy 37 = .ok (.iload 4, 2) := by decide +kernel
theorem dX7_worstBy_39 : decode cX7_worstBy 39 = .ok (.goto 4, 3) := by decide +kernel
theorem dX7_worstBy_42 : decode cX7_worstBy 42 = .ok (.iload_n 2, 1) := by decide +kernel
theorem dX7_worstBy_43 : decode cX7_worstBy 43 = .ok (.istore_n 2, 1) := by decide +kernel
theorem dX7_worstBy_44 : decode cX7_worstBy 44 = .ok (.iinc 3 1, 3) := by decide +kernel
theorem dX7_worstBy_47 : decode cX7_worstBy 47 = .ok (.goto (-43), 3) := by decide +kernel
theorem dX7_worstBy_50 : decode cX7_worstBy 50 = .ok (.iload_n 2, 1) := by decide +kernel
theorem dX7_worstBy_51 : decode cX7_worstBy 51 = .ok (.ireturn, 1) := by decide +kernel
theorem dX7_startSwing_0 : decode cX7_startSwing 0 = .ok (.aload_n 0, 1) := by decide +kernel
theorem dX7_startSwing_1 : decode cX7_startSwing 1 = .ok (.iconst 0, 1) := by decide +kernel
theorem dX7_startSwing_2 : decode cX7_startSwing 2 = .ok (.putfield 1, 3) := by decide +kernel
theorem dX7_startSwing_5 : decode cX7_startSwing 5 = .ok (.aload_n 0, 1) := by decide +kernel
theorem dX7_startSwing_6 : decode cX7_startSwing 6 = .ok (.iload_n 1, 1) := by decide +kernel
theorem dX7_startSwing_7 : decode cX7_startSwing 7 = .ok (.invokevirtual 149, 3) := by decide +kernel
theorem dX7_startSwing_10 : decode cX7_startSwing 10 = .ok (.ifCond .ne 6, 3) := by decide +kernel
theorem dX7_startSwing_13 : decode cX7_startSwing 13 = .ok (.bipush (-2), 2) := by decide +kernel
theorem dX7_startSwing_15 : decode cX7_startSwing 15 = .ok (.ireturn, 1) := by decide +kernel
theorem dX7_startSwing_16 : decode cX7_startSwing 16 = .ok (.iload_n 2, 1) := by decide +kernel
theorem dX7_startSwing_17 : decode cX7_startSwing 17 = .ok (.i2l, 1) := by decide +kernel
theorem dX7_startSwing_18 : decode cX7_startSwing 18 = .ok (.lconst 1, 1) := by decide +kernel
theorem dX7_startSwing_19 : decode cX7_startSwing 19 = .ok (.ldc2_w 319, 3) := by decide +kernel
theorem dX7_startSwing_22 : decode cX7_startSwing 22 = .ok (.invokestatic 135, 3) := by decide +kernel
theorem dX7_startSwing_25 : decode cX7_startSwing 25 = .ok (.ifCond .ne 6, 3) := by decide +kernel
theorem dX7_startSwing_28 : decode cX7_startSwing 28 = .ok (.bipush (-3), 2) := by decide +kernel
theorem dX7_startSwing_30 : decode cX7_startSwing 30 = .ok (.ireturn, 1) := by decide +kernel
theorem dX7_startSwing_31 : decode cX7_startSwing 31 = .ok (.aload_n 0, 1) := by decide +kernel
theorem dX7_startSwing_32 : decode cX7_startSwing 32 = .ok (.getfield 99, 3) := by decide +kernel
theorem dX7_startSwing_35 : decode cX7_startSwing 35 = .ok (.iload_n 1, 1) := by decide +kernel
theorem dX7_startSwing_36 : decode cX7_startSwing 36 = .ok (.baload, 1) := by decide +kernel
theorem dX7_startSwing_37 : decode cX7_startSwing 37 = .ok (.ifCond .eq 6, 3) := by decide +kernel
theorem dX7_startSwing_40 : decode cX7_startSwing 40 = .ok (.bipush (-6), 2) := by decide +kernel
theorem dX7_startSwing_42 : decode cX7_startSwing 42 = .ok (.ireturn, 1) := by decide +kernel
theorem dX7_startSwing_43 : decode cX7_startSwing 43 = .ok (.aload_n 0, 1) := by decide +kernel
theorem dX7_startSwing_44 : decode cX7_startSwing 44 = .ok (.iload_n 1, 1) := by decide +kernel
theorem dX7_startSwing_45 : decode cX7_startSwing 45 = .ok (.invokevirtual 190, 3) := by decide +kernel
theorem dX7_startSwing_48 : decode cX7_startSwing 48 = .ok (.iconst (-1), 1) := by decide +kernel
theorem dX7_startSwing_49 : decode cX7_startSwing 49 = .ok (.if_icmp .eq 6, 3) := by decide +kernel
theorem dX7_startSwing_52 : decode cX7_startSwing 52 = .ok (.bipush (-10), 2) := by decide +kernel
theorem dX7_startSwing_54 : decode cX7_startSwing 54 = .ok (.ireturn, 1) := by decide +kernel
theorem dX7_startSwing_55 : decode cX7_startSwing 55 = .ok (.aload_n 0, 1) := by decide +kernel
theorem dX7_startSwing_56 : decode cX7_startSwing 56 = .ok (.sipush 600, 3) := by decide +kernel
theorem dX7_startSwing_59 : decode cX7_startSwing 59 = .ok (.invokevirtual 321, 3) := by decide +kernel
theorem dX7_startSwing_62 : decode cX7_startSwing 62 = .ok (.aload_n 0, 1) := by decide +kernel
theorem dX7_startSwing_63 : decode cX7_startSwing 63 = .ok (.iload_n 1, 1) := by decide +kernel
theorem dX7_startSwing_64 : decode cX7_startSwing 64 = .ok (.iload_n 2, 1) := by decide +kernel
theorem dX7_startSwing_65 : decode cX7_startSwing 65 = .ok (.invokevirtual 324, 3) := by decide +kernel
theorem dX7_startSwing_68 : decode cX7_startSwing 68 = .ok (.aload_n 0, 1) := by decide +kernel
theorem dX7_startSwing_69 : decode cX7_startSwing 69 = .ok (.iconst 0, 1) := by decide +kernel
theorem dX7_startSwing_70 : decode cX7_startSwing 70 = .ok (.invokevirtual 327, 3) := by decide +kernel
theorem dX7_startSwing_73 : decode cX7_startSwing 73 = .ok (.aload_n 0, 1) := by decide +kernel
theorem dX7_startSwing_74 : decode cX7_startSwing 74 = .ok (.getfield 129, 3) := by decide +kernel
theorem dX7_startSwing_77 : decode cX7_startSwing 77 = .ok (.if_icmp .le 6, 3) := by decide +kernel
theorem dX7_startSwing_80 : decode cX7_startSwing 80 = .ok (.bipush (-11), 2) := by decide +kernel
theorem dX7_startSwing_82 : decode cX7_startSwing 82 = .ok (.ireturn, 1) := by decide +kernel
theorem dX7_startSwing_83 : decode cX7_startSwing 83 = .ok (.aload_n 0, 1) := by decide +kernel
theorem dX7_startSwing_84 : decode cX7_startSwing 84 = .ok (.getfield 99, 3) := by decide +kernel
theorem dX7_startSwing_87 : decode cX7_startSwing 87 = .ok (.iload_n 1, 1) := by decide +kernel
theorem dX7_startSwing_88 : decode cX7_startSwing 88 = .ok (.iconst 1, 1) := by decide +kernel
theorem dX7_startSwing_89 : decode cX7_startSwing 89 = .ok (.bastore, 1) := by decide +kernel
theorem dX7_startSwing_90 : decode cX7_startSwing 90 = .ok (.aload_n 0, 1) := by decide +kernel
theorem dX7_startSwing_91 : decode cX7_startSwing 91 = .ok (.getfield 105, 3) := by decide +kernel
theorem dX7_startSwing_94 : decode cX7_startSwing 94 = .ok (.iload_n 1, 1) := by decide +kernel
theorem dX7_startSwing_95 : decode cX7_startSwing 95 = .ok (.iconst 1, 1) := by decide +kernel
theorem dX7_startSwing_96 : decode cX7_startSwing 96 = .ok (.bastore, 1) := by decide +kernel
theorem dX7_startSwing_97 : decode cX7_startSwing 97 = .ok (.aload_n 0, 1) := by decide +kernel
theorem dX7_startSwing_98 : decode cX7_startSwing 98 = .ok (.getfield 108, 3) := by decide +kernel
theorem dX7_startSwing_101 : decode cX7_startSwing 101 = .ok (.iload_n 1, 1) := by decide +kernel
theorem dX7_startSwing_102 : decode cX7_startSwing 102 = .ok (.iconst 0, 1) := by decide +kernel
theorem dX7_startSwing_103 : decode cX7_startSwing 103 = .ok (.iastore, 1) := by decide +kernel
theorem dX7_startSwing_104 : decode cX7_startSwing 104 = .ok (.aload_n 0, 1) := by decide +kernel
theorem dX7_startSwing_105 : decode cX7_startSwing 105 = .ok (.getfield 111, 3) := by decide +kernel
theorem dX7_startSwing_108 : decode cX7_startSwing 108 = .ok (.iload_n 1, 1) := by decide +kernel
theorem dX7_startSwing_109 : decode cX7_startSwing 109 = .ok (.iconst 1, 1) := by decide +kernel
theorem dX7_startSwing_110 : decode cX7_startSwing 110 = .ok (.iastore, 1) := by decide +kernel
theorem dX7_startSwing_111 : decode cX7_startSwing 111 = .ok (.aload_n 0, 1) := by decide +kernel
theorem dX7_startSwing_112 : decode cX7_startSwing 112 = .ok (.getfield 114, 3) := by decide +kernel
theorem dX7_startSwing_115 : decode cX7_startSwing 115 = .ok (.iload_n 1, 1) := by decide +kernel
theorem dX7_startSwing_116 : decode cX7_startSwing 116 = .ok (.iload_n 2, 1) := by decide +kernel
theorem dX7_startSwing_117 : decode cX7_startSwing 117 = .ok (.iastore, 1) := by decide +kernel
theorem dX7_startSwing_118 : decode cX7_startSwing 118 = .ok (.aload_n 0, 1) := by decide +kernel
theorem dX7_startSwing_119 : decode cX7_startSwing 119 = .ok (.getfield 117, 3) := by decide +kernel
theorem dX7_startSwing_122 : decode cX7_startSwing 122 = .ok (.iload_n 1, 1) := by decide +kernel
theorem dX7_startSwing_123 : decode cX7_startSwing 123 = .ok (.aload_n 0, 1) := by decide +kernel
theorem dX7_startSwing_124 : decode cX7_startSwing 124 = .ok (.getfield 158, 3) := by decide +kernel
theorem dX7_startSwing_127 : decode cX7_startSwing 127 = .ok (.aload_n 0, 1) := by decide +kernel
theorem dX7_startSwing_128 : decode cX7_startSwing 128 = .ok (.getfield 23, 3) := by decide +kernel
theorem dX7_startSwing_131 : decode cX7_startSwing 131 = .ok (.iload_n 1, 1) := by decide +kernel
theorem dX7_startSwing_132 : decode cX7_startSwing 132 = .ok (.iaload, 1) := by decide +kernel
theorem dX7_startSwing_133 : decode cX7_startSwing 133 = .ok (.iadd, 1) := by decide +kernel
theorem dX7_startSwing_134 : decode cX7_startSwing 134 = .ok (.iastore, 1) := by decide +kernel
theorem dX7_startSwing_135 : decode cX7_startSwing 135 = .ok (.aload_n 0, 1) := by decide +kernel
theorem dX7_startSwing_136 : decode cX7_startSwing 136 = .ok (.getfield 117, 3) := by decide +kernel
theorem dX7_startSwing_139 : decode cX7_startSwing 139 = .ok (.iload_n 1, 1) := by decide +kernel
theorem dX7_startSwing_140 : decode cX7_startSwing 140 = .ok (.iaload, 1) := by decide +kernel
theorem dX7_startSwing_141 : decode cX7_startSwing 141 = .ok (.ireturn, 1) := by decide +kernel
theorem dX7_stopMotor_0 : decode cX7_stopMotor 0 = .ok (.aload_n 0, 1) := by decide +kernel
theorem dX7_stopMotor_1 : decode cX7_stopMotor 1 = .ok (.iconst 0, 1) := by decide +kernel
theorem dX7_stopMotor_2 : decode cX7_stopMotor 2 = .ok (.putfield 1, 3) := by decide +kernel
theorem dX7_stopMotor_5 : decode cX7_stopMotor 5 = .ok (.aload_n 0, 1) := by decide +kernel
theorem dX7_stopMotor_6 : decode cX7_stopMotor 6 = .ok (.iload_n 1, 1) := by decide +kernel
theorem dX7_stopMotor_7 : decode cX7_stopMotor 7 = .ok (.invokevirtual 149, 3) := by decide +kernel
theorem dX7_stopMotor_10 : decode cX7_stopMotor 10 = .ok (.ifCond .ne 6, 3) := by decide +kernel
theorem dX7_stopMotor_13 : decode cX7_stopMotor 13 = .ok (.bipush (-2), 2) := by decide +kernel
theorem dX7_stopMotor_15 : decode cX7_stopMotor 15 = .ok (.ireturn, 1) := by decide +kernel
theorem dX7_stopMotor_16 : decode cX7_stopMotor 16 = .ok (.aload_n 0, 1) := by decide +kernel
theorem dX7_stopMotor_17 : decode cX7_stopMotor 17 = .ok (.getfield 99, 3) := by decide +kernel
theorem dX7_stopMotor_20 : decode cX7_stopMotor 20 = .ok (.iload_n 1, 1) := by decide +kernel
theorem dX7_stopMotor_21 : decode cX7_stopMotor 21 = .ok (.baload, 1) := by decide +kernel
theorem dX7_stopMotor_22 : decode cX7_stopMotor 22 = .ok (.ifCond .ne 5, 3) := by decide +kernel
theorem dX7_stopMotor_25 : decode cX7_stopMotor 25 = .ok (.iconst (-1), 1) := by decide +kernel
theorem dX7_stopMotor_26 : decode cX7_stopMotor 26 = .ok (.ireturn, 1) := by decide +kernel
theorem dX7_stopMotor_27 : decode cX7_stopMotor 27 = .ok (.aload_n 0, 1) := by decide +kernel
theorem dX7_stopMotor_28 : decode cX7_stopMotor 28 = .ok (.getfield 105, 3) := by decide +kernel
theorem dX7_stopMotor_31 : decode cX7_stopMotor 31 = .ok (.iload_n 1, 1) := by decide +kernel
theorem dX7_stopMotor_32 : decode cX7_stopMotor 32 = .ok (.iconst 0, 1) := by decide +kernel
theorem dX7_stopMotor_33 : decode cX7_stopMotor 33 = .ok (.bastore, 1) := by decide +kernel
theorem dX7_stopMotor_34 : decode cX7_stopMotor 34 = .ok (.aload_n 0, 1) := by decide +kernel
theorem dX7_stopMotor_35 : decode cX7_stopMotor 35 = .ok (.getfield 108, 3) := by decide +kernel
theorem dX7_stopMotor_38 : decode cX7_stopMotor 38 = .ok (.iload_n 1, 1) := by decide +kernel
theorem dX7_stopMotor_39 : decode cX7_stopMotor 39 = .ok (.iaload, 1) := by decide +kernel
theorem dX7_stopMotor_40 : decode cX7_stopMotor 40 = .ok (.ireturn, 1) := by decide +kernel
theorem dX7_holdClapper_0 : decode cX7_holdClapper 0 = .ok (.aload_n 0, 1) := by decide +kernel
theorem dX7_holdClapper_1 : decode cX7_holdClapper 1 = .ok (.iconst 0, 1) := by decide +kernel
theorem dX7_holdClapper_2 : decode cX7_holdClapper 2 = .ok (.putfield 1, 3) := by decide +kernel
theorem dX7_holdClapper_5 : decode cX7_holdClapper 5 = .ok (.aload_n 0, 1) := by decide +kernel
theorem dX7_holdClapper_6 : decode cX7_holdClapper 6 = .ok (.iload_n 1, 1) := by decide +kernel
theorem dX7_holdClapper_7 : decode cX7_holdClapper 7 = .ok (.invokevirtual 149, 3) := by decide +kernel
theorem dX7_holdClapper_10 : decode cX7_holdClapper 10 = .ok (.ifCond .ne 6, 3) := by decide +kernel
theorem dX7_holdClapper_13 : decode cX7_holdClapper 13 = .ok (.bipush (-2), 2) := by decide +kernel
theorem dX7_holdClapper_15 : decode cX7_holdClapper 15 = .ok (.ireturn, 1) := by decide +kernel
theorem dX7_holdClapper_16 : decode cX7_holdClapper 16 = .ok (.aload_n 0, 1) := by decide +kernel
theorem dX7_holdClapper_17 : decode cX7_holdClapper 17 = .ok (.getfield 102, 3) := by decide +kernel
theorem dX7_holdClapper_20 : decode cX7_holdClapper 20 = .ok (.iload_n 1, 1) := by decide +kernel
theorem dX7_holdClapper_21 : decode cX7_holdClapper 21 = .ok (.baload, 1) := by decide +kernel
theorem dX7_holdClapper_22 : decode cX7_holdClapper 22 = .ok (.ifCond .eq 7, 3) := by decide +kernel
theorem dX7_holdClapper_25 : decode cX7_holdClapper 25 = .ok (.iconst 1, 1) := by decide +kernel
theorem dX7_holdClapper_26 : decode cX7_holdClapper 26 = .ok (.goto 4, 3) := by decide +kernel
theorem dX7_holdClapper_29 : decode cX7_holdClapper 29 = .ok (.iconst 0, 1) := by decide +kernel
theorem dX7_holdClapper_30 : decode cX7_holdClapper 30 = .ok (.istore_n 3, 1) := by decide +kernel
theorem dX7_holdClapper_31 : decode cX7_holdClapper 31 = .ok (.aload_n 0, 1) := by decide +kernel
theorem dX7_holdClapper_32 : decode cX7_holdClapper 32 = .ok (.getfield 102, 3) := by decide +kernel
theorem dX7_holdClapper_35 : decode cX7_holdClapper 35 = .ok (.iload_n 1, 1) := by decide +kernel
theorem dX7_holdClapper_36 : decode cX7_holdClapper 36 = .ok (.iload_n 2, 1) := by decide +kernel
theorem dX7_holdClapper_37 : decode cX7_holdClapper 37 = .ok (.bastore, 1) := by decide +kernel
theorem dX7_holdClapper_38 : decode cX7_holdClapper 38 = .ok (.iload_n 3, 1) := by decide +kernel
theorem dX7_holdClapper_39 : decode cX7_holdClapper 39 = .ok (.ireturn, 1) := by decide +kernel
theorem dX7_amplitude_0 : decode cX7_amplitude 0 = .ok (.aload_n 0, 1) := by decide +kernel
theorem dX7_amplitude_1 : decode cX7_amplitude 1 = .ok (.iconst 0, 1) := by decide +kernel
theorem dX7_amplitude_2 : decode cX7_amplitude 2 = .ok (.putfield 1, 3) := by decide +kernel
theorem dX7_amplitude_5 : decode cX7_amplitude 5 = .ok (.aload_n 0, 1) := by decide +kernel
theorem dX7_amplitude_6 : decode cX7_amplitude 6 = .ok (.iload_n 1, 1) := by decide +kernel
theorem dX7_amplitude_7 : decode cX7_amplitude 7 = .ok (.invokevirtual 149, 3) := by decide +kernel
theorem dX7_amplitude_10 : decode cX7_amplitude 10 = .ok (.ifCond .ne 8, 3) := by decide +kernel
theorem dX7_amplitude_13 : decode cX7_amplitude 13 = .ok (.bipush (-2), 2) := by decide +kernel
theorem dX7_amplitude_15 : decode cX7_amplitude 15 = .ok (.goto 22, 3) := by decide +kernel
theorem dX7_amplitude_18 : decode cX7_amplitude 18 = .ok (.aload_n 0, 1) := by decide +kernel
theorem dX7_amplitude_19 : decode cX7_amplitude 19 = .ok (.getfield 99, 3) := by decide +kernel
theorem dX7_amplitude_22 : decode cX7_amplitude 22 = .ok (.iload_n 1, 1) := by decide +kernel
theorem dX7_amplitude_23 : decode cX7_amplitude 23 = .ok (.baload, 1) := by decide +kernel
theorem dX7_amplitude_24 : decode cX7_amplitude 24 = .ok (.ifCond .eq 12, 3) := by decide +kernel
theorem dX7_amplitude_27 : decode cX7_amplitude 27 = .ok (.aload_n 0, 1) := by decide +kernel
theorem dX7_amplitude_28 : decode cX7_amplitude 28 = .ok (.getfield 108, 3) := by decide +kernel
theorem dX7_amplitude_31 : decode cX7_amplitude 31 = .ok (.iload_n 1, 1) := by decide +kernel
theorem dX7_amplitude_32 : decode cX7_amplitude 32 = .ok (.iaload, 1) := by decide +kernel
theorem dX7_amplitude_33 : decode cX7_amplitude 33 = .ok (.goto 4, 3) := by decide +kernel
theorem dX7_amplitude_36 : decode cX7_amplitude 36 = .ok (.iconst (-1), 1) := by decide +kernel
theorem dX7_amplitude_37 : decode cX7_amplitude 37 = .ok (.ireturn, 1) := by decide +kernel
theorem dX7_nextTurn_0 : decode cX7_nextTurn 0 = .ok (.aload_n 0, 1) := by decide +kernel
theorem dX7_nextTurn_1 : decode cX7_nextTurn 1 = .ok (.iconst 0, 1) := by decide +kernel
theorem dX7_nextTurn_2 : decode cX7_nextTurn 2 = .ok (.putfield 1, 3) := by decide +kernel
theorem dX7_nextTurn_5 : decode cX7_nextTurn 5 = .ok (.aload_n 0, 1) := by decide +kernel
theorem dX7_nextTurn_6 : decode cX7_nextTurn 6 = .ok (.iload_n 1, 1) := by decide +kernel
theorem dX7_nextTurn_7 : decode cX7_nextTurn 7 = .ok (.invokevirtual 149, 3) := by decide +kernel
theorem dX7_nextTurn_10 : decode cX7_nextTurn 10 = .ok (.ifCond .ne 8, 3) := by decide +kernel
theorem dX7_nextTurn_13 : decode cX7_nextTurn 13 = .ok (.bipush (-2), 2) := by decide +kernel
theorem dX7_nextTurn_15 : decode cX7_nextTurn 15 = .ok (.goto 22, 3) := by decide +kernel
theorem dX7_nextTurn_18 : decode cX7_nextTurn 18 = .ok (.aload_n 0, 1) := by decide +kernel
theorem dX7_nextTurn_19 : decode cX7_nextTurn 19 = .ok (.getfield 99, 3) := by decide +kernel
theorem dX7_nextTurn_22 : decode cX7_nextTurn 22 = .ok (.iload_n 1, 1) := by decide +kernel
theorem dX7_nextTurn_23 : decode cX7_nextTurn 23 = .ok (.baload, 1) := by decide +kernel
theorem dX7_nextTurn_24 : decode cX7_nextTurn 24 = .ok (.ifCond .eq 12, 3) := by decide +kernel
theorem dX7_nextTurn_27 : decode cX7_nextTurn 27 = .ok (.aload_n 0, 1) := by decide +kernel
theorem dX7_nextTurn_28 : decode cX7_nextTurn 28 = .ok (.getfield 117, 3) := by decide +kernel
theorem dX7_nextTurn_31 : decode cX7_nextTurn 31 = .ok (.iload_n 1, 1) := by decide +kernel
theorem dX7_nextTurn_32 : decode cX7_nextTurn 32 = .ok (.iaload, 1) := by decide +kernel
theorem dX7_nextTurn_33 : decode cX7_nextTurn 33 = .ok (.goto 4, 3) := by decide +kernel
theorem dX7_nextTurn_36 : decode cX7_nextTurn 36 = .ok (.iconst (-1), 1) := by decide +kernel
theorem dX7_nextTurn_37 : decode cX7_nextTurn 37 = .ok (.ireturn, 1) := by decide +kernel
theorem dX7_farBehind_0 : decode cX7_farBehind 0 = .ok (.aload_n 0, 1) := by decide +kernel
theorem dX7_farBehind_1 : decode cX7_farBehind 1 = .ok (.getfield 108, 3) := by decide +kernel
theorem dX7_farBehind_4 : decode cX7_farBehind 4 = .ok (.iload_n 1, 1) := by decide +kernel
theorem dX7_farBehind_5 : decode cX7_farBehind 5 = .ok (.iaload, 1) := by decide +kernel
theorem dX7_farBehind_6 : decode cX7_farBehind 6 = .ok (.istore_n 3, 1) := by decide +kernel
theorem dX7_farBehind_7 : decode cX7_farBehind 7 = .ok (.iconst 0, 1) := by decide +kernel
theorem dX7_farBehind_8 : decode cX7_farBehind 8 = .ok (.istore 4, 2) := by decide +kernel
theorem dX7_farBehind_10 : decode cX7_farBehind 10 = .ok (.iload 4, 2) := by decide +kernel
theorem dX7_farBehind_12 : decode cX7_farBehind 12 = .ok (.iload_n 2, 1) := by decide +kernel
theorem dX7_farBehind_13 : decode cX7_farBehind 13 = .ok (.if_icmp .ge 26, 3) := by decide +kernel
theorem dX7_farBehind_16 : decode cX7_farBehind 16 = .ok (.iload_n 3, 1) := by decide +kernel
theorem dX7_farBehind_17 : decode cX7_farBehind 17 = .ok (.aload_n 0, 1) := by decide +kernel
theorem dX7_farBehind_18 : decode cX7_farBehind 18 = .ok (.getfield 105, 3) := by decide +kernel
theorem dX7_farBehind_21 : decode cX7_farBehind 21 = .ok (.iload_n 1, 1) := by decide +kernel
theorem dX7_farBehind_22 : decode cX7_farBehind 22 = .ok (.baload, 1) := by decide +kernel
theorem dX7_farBehind_23 : decode cX7_farBehind 23 = .ok (.aload_n 0, 1) := by decide +kernel
theorem dX7_farBehind_24 : decode cX7_farBehind 24 = .ok (.getfield 114, 3) := by decide +kernel
theorem dX7_farBehind_27 : decode cX7_farBehind 27 = .ok (.iload_n 1, 1) := by decide +kernel
theorem dX7_farBehind_28 : decode cX7_farBehind 28 = .ok (.iaload, 1) := by decide +kernel
theorem dX7_farBehind_29 : decode cX7_farBehind 29 = .ok (.invokestatic 294, 3) := by decide +kernel
theorem dX7_farBehind_32 : decode cX7_farBehind 32 = .ok (.istore_n 3, 1) := by decide +kernel
theorem dX7_farBehind_33 : decode cX7_farBehind 33 = .ok (.iinc 4 1, 3) := by decide +kernel
theorem dX7_farBehind_36 : decode cX7_farBehind 36 = .ok (.goto (-26), 3) := by decide +kernel
theorem dX7_farBehind_39 : decode cX7_farBehind 39 = .ok (.iload_n 3, 1) := by decide +kernel
theorem dX7_farBehind_40 : decode cX7_farBehind 40 = .ok (.ireturn, 1) := by decide +kernel
theorem dX7_amplitudeAfter_0 : decode cX7_amplitudeAfter 0 = .ok (.aload_n 0, 1) := by decide +kernel
theorem dX7_amplitudeAfter_1 : decode cX7_amplitudeAfter 1 = .ok (.iconst 0, 1) := by decide +kernel
theorem dX7_amplitudeAfter_2 : decode cX7_amplitudeAfter 2 = .ok (.putfield 1, 3) := by decide +kernel
theorem dX7_amplitudeAfter_5 : decode cX7_amplitudeAfter 5 = .ok (.aload_n 0, 1) := by decide +kernel
theorem dX7_amplitudeAfter_6 : decode cX7_amplitudeAfter 6 = .ok (.iload_n 1, 1) := by decide +kernel
theorem dX7_amplitudeAfter_7 : decode cX7_amplitudeAfter 7 = .ok (.invokevirtual 149, 3) := by decide +kernel
theorem dX7_amplitudeAfter_10 : decode cX7_amplitudeAfter 10 = .ok (.ifCond .ne 6, 3) := by decide +kernel
theorem dX7_amplitudeAfter_13 : decode cX7_amplitudeAfter 13 = .ok (.bipush (-2), 2) := by decide +kernel
theorem dX7_amplitudeAfter_15 : decode cX7_amplitudeAfter 15 = .ok (.ireturn, 1) := by decide +kernel
theorem dX7_amplitudeAfter_16 : decode cX7_amplitudeAfter 16 = .ok (.iload_n 2, 1) := by decide +kernel
theorem dX7_amplitudeAfter_17 : decode cX7_amplitudeAfter 17 = .ok (.i2l, 1) := by decide +kernel
theorem dX7_amplitudeAfter_18 : decode cX7_amplitudeAfter 18 = .ok (.lconst 0, 1) := by decide +kernel
theorem dX7_amplitudeAfter_19 : decode cX7_amplitudeAfter 19 = .ok (.ldc2_w 258, 3) := by decide +kernel
theorem dX7_amplitudeAfter_22 : decode cX7_amplitudeAfter 22 = .ok (.invokestatic 135, 3) := by decide +kernel
theorem dX7_amplitudeAfter_25 : decode cX7_amplitudeAfter 25 = .ok (.ifCond .ne 6, 3) := by decide +kernel
theorem dX7_amplitudeAfter_28 : decode cX7_amplitudeAfter 28 = .ok (.bipush (-3), 2) := by decide +kernel
theorem dX7_amplitudeAfter_30 : decode cX7_amplitudeAfter 30 = .ok (.ireturn, 1) := by decide +kernel
theorem dX7_amplitudeAfter_31 : decode cX7_amplitudeAfter 31 = .ok (.aload_n 0, 1) := by decide +kernel
theorem dX7_amplitudeAfter_32 : decode cX7_amplitudeAfter 32 = .ok (.getfield 99, 3) := by decide +kernel
theorem dX7_amplitudeAfter_35 : decode cX7_amplitudeAfter 35 = .ok (.iload_n 1, 1) := by decide +kernel
theorem dX7_amplitudeAfter_36 : decode cX7_amplitudeAfter 36 = .ok (.baload, 1) := by decide +kernel
theorem dX7_amplitudeAfter_37 : decode cX7_amplitudeAfter 37 = .ok (.ifCond .eq 12, 3) := by decide +kernel
theorem dX7_amplitudeAfter_40 : decode cX7_amplitudeAfter 40 = .ok (.aload_n 0, 1) := by decide +kernel
theorem dX7_amplitudeAfter_41 : decode cX7_amplitudeAfter 41 = .ok (.iload_n 1, 1) := by decide +kernel
theorem dX7_amplitudeAfter_42 : decode cX7_amplitudeAfter 42 = .ok (.iload_n 2, 1) := by decide +kernel
theorem dX7_amplitudeAfter_43 : decode cX7_amplitudeAfter 43 = .ok (.invokevirtual 330, 3) := by decide +kernel
theorem dX7_amplitudeAfter_46 : decode cX7_amplitudeAfter 46 = .ok (.goto 4, 3) := by decide +kernel
theorem dX7_amplitudeAfter_49 : decode cX7_amplitudeAfter 49 = .ok (.iconst (-1), 1) := by decide +kernel
theorem dX7_amplitudeAfter_50 : decode cX7_amplitudeAfter 50 = .ok (.ireturn, 1) := by decide +kernel
theorem dX7_turnsUntilLoud_0 : decode cX7_turnsUntilLoud 0 = .ok (.aload_n 0, 1) := by decide +kernel
theorem dX7_turnsUntilLoud_1 : decode cX7_turnsUntilLoud 1 = .ok (.iconst 0, 1) := by decide +kernel
theorem dX7_turnsUntilLoud_2 : decode cX7_turnsUntilLoud 2 = .ok (.putfield 1, 3) := by decide +kernel
theorem dX7_turnsUntilLoud_5 : decode cX7_turnsUntilLoud 5 = .ok (.aload_n 0, 1) := by decide +kernel
theorem dX7_turnsUntilLoud_6 : decode cX7_turnsUntilLoud 6 = .ok (.iload_n 1, 1) := by decide +kernel
theorem dX7_turnsUntilLoud_7 : decode cX7_turnsUntilLoud 7 = .ok (.invokevirtual 149, 3) := by decide +kernel
theorem dX7_turnsUntilLoud_10 : decode cX7_turnsUntilLoud 10 = .ok (.ifCond .ne 6, 3) := by decide +kernel
theorem dX7_turnsUntilLoud_13 : decode cX7_turnsUntilLoud 13 = .ok (.bipush (-2), 2) := by decide +kernel
theorem dX7_turnsUntilLoud_15 : decode cX7_turnsUntilLoud 15 = .ok (.ireturn, 1) := by decide +kernel
theorem dX7_turnsUntilLoud_16 : decode cX7_turnsUntilLoud 16 = .ok (.iconst 1, 1) := by decide +kernel
theorem dX7_turnsUntilLoud_17 : decode cX7_turnsUntilLoud 17 = .ok (.istore_n 2, 1) := by decide +kernel
theorem dX7_turnsUntilLoud_18 : decode cX7_turnsUntilLoud 18 = .ok (.iload_n 2, 1) := by decide +kernel
theorem dX7_turnsUntilLoud_19 : decode cX7_turnsUntilLoud 19 = .ok (.sipush 200, 3) := by decide +kernel
theorem dX7_turnsUntilLoud_22 : decode cX7_turnsUntilLoud 22 = .ok (.if_icmp .gt 32, 3) := by decide +kernel
theorem dX7_turnsUntilLoud_25 : decode cX7_turnsUntilLoud 25 = .ok (.aload_n 0, 1) := by decide +kernel
theorem dX7_turnsUntilLoud_26 : decode cX7_turnsUntilLoud 26 = .ok (.getfield 99, 3) := by decide +kernel
theorem dX7_turnsUntilLoud_29 : decode cX7_turnsUntilLoud 29 = .ok (.iload_n 1, 1) := by decide +kernel
theorem dX7_turnsUntilLoud_30 : decode cX7_turnsUntilLoud 30 = .ok (.baload, 1) := by decide +kernel
theorem dX7_turnsUntilLoud_31 : decode cX7_turnsUntilLoud 31 = .ok (.ifCond .eq 23, 3) := by decide +kernel
theorem dX7_turnsUntilLoud_34 : decode cX7_turnsUntilLoud 34 = .ok (.aload_n 0, 1) := by decide +kernel
theorem dX7_turnsUntilLoud_35 : decode cX7_turnsUntilLoud 35 = .ok (.iload_n 1, 1) := by decide +kernel
theorem dX7_turnsUntilLoud_36 : decode cX7_turnsUntilLoud 36 = .ok (.iload_n 2, 1) := by decide +kernel
theorem dX7_turnsUntilLoud_37 : decode cX7_turnsUntilLoud 37 = .ok (.invokevirtual 330, 3) := by decide +kernel
theorem dX7_turnsUntilLoud_40 : decode cX7_turnsUntilLoud 40 = .ok (.sipush 400, 3) := by decide +kernel
theorem dX7_turnsUntilLoud_43 : decode cX7_turnsUntilLoud 43 = .ok (.if_icmp .lt 5, 3) := by decide +kernel
theorem dX7_turnsUntilLoud_46 : decode cX7_turnsUntilLoud 46 = .ok (.iload_n 2, 1) := by decide +kernel
theorem dX7_turnsUntilLoud_47 : decode cX7_turnsUntilLoud 47 = .ok (.ireturn, 1) := by decide +kernel
theorem dX7_turnsUntilLoud_48 : decode cX7_turnsUntilLoud 48 = .ok (.iinc 2 1, 3) := by decide +kernel
theorem dX7_turnsUntilLoud_51 : decode cX7_turnsUntilLoud 51 = .ok (.goto (-33), 3) := by decide +kernel
theorem dX7_turnsUntilLoud_54 : decode cX7_turnsUntilLoud 54 = .ok (.iconst (-1), 1) := by decide +kernel
theorem dX7_turnsUntilLoud_55 : decode cX7_turnsUntilLoud 55 = .ok (.ireturn, 1) := by decide +kernel
theorem dX7_force_0 : decode cX7_force 0 = .ok (.aload_n 0, 1) := by decide +kernel
theorem dX7_force_1 : decode cX7_force 1 = .ok (.iconst 0, 1) := by decide +kernel
theorem dX7_force_2 : decode cX7_force 2 = .ok (.putfield 1, 3) := by decide +kernel
theorem dX7_force_5 : decode cX7_force 5 = .ok (.aload_n 0, 1) := by decide +kernel
theorem dX7_force_6 : decode cX7_force 6 = .ok (.iload_n 1, 1) := by decide +kernel
theorem dX7_force_7 : decode cX7_force 7 = .ok (.invokevirtual 149, 3) := by decide +kernel
theorem dX7_force_10 : decode cX7_force 10 = .ok (.ifCond .ne 6, 3) := by decide +kernel
theorem dX7_force_13 : decode cX7_force 13 = .ok (.bipush (-2), 2) := by decide +kernel
theorem dX7_force_15 : decode cX7_force 15 = .ok (.ireturn, 1) := by decide +kernel
theorem dX7_force_16 : decode cX7_force 16 = .ok (.ldc 196, 2) := by decide +kernel
theorem dX7_force_18 : decode cX7_force 18 = .ok (.aload_n 0, 1) := by decide +kernel
theorem dX7_force_19 : decode cX7_force 19 = .ok (.getfield 99, 3) := by decide +kernel
theorem dX7_force_22 : decode cX7_force 22 = .ok (.iload_n 1, 1) := by decide +kernel
theorem dX7_force_23 : decode cX7_force 23 = .ok (.baload, 1) := by decide +kernel
theorem dX7_force_24 : decode cX7_force 24 = .ok (.ifCond .eq 41, 3) := by decide +kernel
theorem dX7_force_27 : decode cX7_force 27 = .ok (.aload_n 0, 1) := by decide +kernel
theorem dX7_force_28 : decode cX7_force 28 = .ok (.iload_n 1, 1) := by decide +kernel
theorem dX7_force_29 : decode cX7_force 29 = .ok (.aload_n 0, 1) := by decide +kernel
theorem dX7_force_30 : decode cX7_force 30 = .ok (.getfield 111, 3) := by decide +kernel
theorem dX7_force_33 : decode cX7_force 33 = .ok (.iload_n 1, 1) := by decide +kernel
theorem dX7_force_34 : decode cX7_force 34 = .ok (.iaload, 1) := by decide +kernel
theorem dX7_force_35 : decode cX7_force 35 = .ok (.aload_n 0, 1) := by decide +kernel
theorem dX7_force_36 : decode cX7_force 36 = .ok (.getfield 108, 3) := by decide +kernel
theorem dX7_force_39 : decode cX7_force 39 = .ok (.iload_n 1, 1) := by decide +kernel
theorem dX7_force_40 : decode cX7_force 40 = .ok (.iaload, 1) := by decide +kernel
theorem dX7_force_41 : decode cX7_force 41 = .ok (.aload_n 0, 1) := by decide +kernel
theorem dX7_force_42 : decode cX7_force 42 = .ok (.getfield 158, 3) := by decide +kernel
theorem dX7_force_45 : decode cX7_force 45 = .ok (.aload_n 0, 1) := by decide +kernel
theorem dX7_force_46 : decode cX7_force 46 = .ok (.getfield 117, 3) := by decide +kernel
theorem dX7_force_49 : decode cX7_force 49 = .ok (.iload_n 1, 1) := by decide +kernel
theorem dX7_force_50 : decode cX7_force 50 = .ok (.iaload, 1) := by decide +kernel
theorem dX7_force_51 : decode cX7_force 51 = .ok (.isub, 1) := by decide +kernel
theorem dX7_force_52 : decode cX7_force 52 = .ok (.aload_n 0, 1) := by decide +kernel
theorem dX7_force_53 : decode cX7_force 53 = .ok (.getfield 23, 3) := by decide +kernel
theorem dX7_force_56 : decode cX7_force 56 = .ok (.iload_n 1, 1) := by decide +kernel
theorem dX7_force_57 : decode cX7_force 57 = .ok (.iaload, 1) := by decide +kernel
theorem dX7_force_58 : decode cX7_force 58 = .ok (.iadd, 1) := by decide +kernel
theorem dX7_force_59 : decode cX7_force 59 = .ok (.invokevirtual 313, 3) := by decide +kernel
theorem dX7_force_62 : decode cX7_force 62 = .ok (.goto 4, 3) := by decide +kernel
theorem dX7_force_65 : decode cX7_force 65 = .ok (.iconst 0, 1) := by decide +kernel
theorem dX7_force_66 : decode cX7_force 66 = .ok (.iadd, 1) := by decide +kernel
theorem dX7_force_67 : decode cX7_force 67 = .ok (.ireturn, 1) := by decide +kernel
theorem dX7_shake_0 : decode cX7_shake 0 = .ok (.aload_n 0, 1) := by decide +kernel
theorem dX7_shake_1 : decode cX7_shake 1 = .ok (.iconst 0, 1) := by decide +kernel
theorem dX7_shake_2 : decode cX7_shake 2 = .ok (.putfield 1, 3) := by decide +kernel
theorem dX7_shake_5 : decode cX7_shake 5 = .ok (.iload_n 1, 1) := by decide +kernel
theorem dX7_shake_6 : decode cX7_shake 6 = .ok (.i2l, 1) := by decide +kernel
theorem dX7_shake_7 : decode cX7_shake 7 = .ok (.lconst 0, 1) := by decide +kernel
theorem dX7_shake_8 : decode cX7_shake 8 = .ok (.ldc2_w 333, 3) := by decide +kernel
theorem dX7_shake_11 : decode cX7_shake 11 = .ok (.invokestatic 135, 3) := by decide +kernel
theorem dX7_shake_14 : decode cX7_shake 14 = .ok (.ifCond .ne 6, 3) := by decide +kernel
theorem dX7_shake_17 : decode cX7_shake 17 = .ok (.bipush (-3), 2) := by decide +kernel
theorem dX7_shake_19 : decode cX7_shake 19 = .ok (.ireturn, 1) := by decide +kernel
theorem dX7_shake_20 : decode cX7_shake 20 = .ok (.aload_n 0, 1) := by decide +kernel
theorem dX7_shake_21 : decode cX7_shake 21 = .ok (.iload_n 1, 1) := by decide +kernel
theorem dX7_shake_22 : decode cX7_shake 22 = .ok (.invokevirtual 321, 3) := by decide +kernel
theorem dX7_shake_25 : decode cX7_shake 25 = .ok (.ldc 196, 2) := by decide +kernel
theorem dX7_shake_27 : decode cX7_shake 27 = .ok (.aload_n 0, 1) := by decide +kernel
theorem dX7_shake_28 : decode cX7_shake 28 = .ok (.getfield 120, 3) := by decide +kernel
theorem dX7_shake_31 : decode cX7_shake 31 = .ok (.iload_n 1, 1) := by decide +kernel
theorem dX7_shake_32 : decode cX7_shake 32 = .ok (.iaload, 1) := by decide +kernel
theorem dX7_shake_33 : decode cX7_shake 33 = .ok (.iadd, 1) := by decide +kernel
theorem dX7_shake_34 : decode cX7_shake 34 = .ok (.ireturn, 1) := by decide +kernel
theorem dX7_greatestShake_0 : decode cX7_greatestShake 0 = .ok (.aload_n 0, 1) := by decide +kernel
theorem dX7_greatestShake_1 : decode cX7_greatestShake 1 = .ok (.iconst 0, 1) := by decide +kernel
theorem dX7_greatestShake_2 : decode cX7_greatestShake 2 = .ok (.putfield 1, 3) := by decide +kernel
theorem dX7_greatestShake_5 : decode cX7_greatestShake 5 = .ok (.iload_n 1, 1) := by decide +kernel
theorem dX7_greatestShake_6 : decode cX7_greatestShake 6 = .ok (.i2l, 1) := by decide +kernel
theorem dX7_greatestShake_7 : decode cX7_greatestShake 7 = .ok (.lconst 0, 1) := by decide +kernel
theorem dX7_greatestShake_8 : decode cX7_greatestShake 8 = .ok (.ldc2_w 333, 3) := by decide +kernel
theorem dX7_greatestShake_11 : decode cX7_greatestShake 11 = .ok (.invokestatic 135, 3) := by decide +kernel
theorem dX7_greatestShake_14 : decode cX7_greatestShake 14 = .ok (.ifCond .ne 6, 3) := by decide +kernel
theorem dX7_greatestShake_17 : decode cX7_greatestShake 17 = .ok (.bipush (-3), 2) := by decide +kernel
theorem dX7_greatestShake_19 : decode cX7_greatestShake 19 = .ok (.ireturn, 1) := by decide +kernel
theorem dX7_greatestShake_20 : decode cX7_greatestShake 20 = .ok (.aload_n 0, 1) := by decide +kernel
theorem dX7_greatestShake_21 : decode cX7_greatestShake 21 = .ok (.iload_n 1, 1) := by decide +kernel
theorem dX7_greatestShake_22 : decode cX7_greatestShake 22 = .ok (.invokevirtual 321, 3) := by decide +kernel
theorem dX7_greatestShake_25 : decode cX7_greatestShake 25 = .ok (.iconst 0, 1) := by decide +kernel
theorem dX7_greatestShake_26 : decode cX7_greatestShake 26 = .ok (.istore_n 2, 1) := by decide +kernel
theorem dX7_greatestShake_27 : decode cX7_greatestShake 27 = .ok (.iconst 0, 1) := by decide +kernel
theorem dX7_greatestShake_28 : decode cX7_greatestShake 28 = .ok (.istore_n 3, 1) := by decide +kernel
theorem dX7_greatestShake_29 : decode cX7_greatestShake 29 = .ok (.iload_n 3, 1) := by decide +kernel
theorem dX7_greatestShake_30 : decode cX7_greatestShake 30 = .ok (.iload_n 1, 1) := by decide +kernel
theorem dX7_greatestShake_31 : decode cX7_greatestShake 31 = .ok (.if_icmp .gt 36, 3) := by decide +kernel
theorem dX7_greatestShake_34 : decode cX7_greatestShake 34 = .ok (.aload_n 0, 1) := by decide +kernel
theorem dX7_greatestShake_35 : decode cX7_greatestShake 35 = .ok (.getfield 120, 3) := by decide +kernel
theorem dX7_greatestShake_38 : decode cX7_greatestShake 38 = .ok (.iload_n 3, 1) := by decide +kernel
theorem dX7_greatestShake_39 : decode cX7_greatestShake 39 = .ok (.iaload, 1) := by decide +kernel
theorem dX7_greatestShake_40 : decode cX7_greatestShake 40 = .ok (.invokestatic 316, 3) := by decide +kernel
theorem dX7_greatestShake_43 : decode cX7_greatestShake 43 = .ok (.iload_n 2, 1) := by decide +kernel
theorem dX7_greatestShake_44 : decode cX7_greatestShake 44 = .ok (.if_icmp .le 15, 3) := by decide +kernel
theorem dX7_greatestShake_47 : decode cX7_greatestShake 47 = .ok (.aload_n 0, 1) := by decide +kernel
theorem dX7_greatestShake_48 : decode cX7_greatestShake 48 = .ok (.getfield 120, 3) := by decide +kernel
theorem dX7_greatestShake_51 : decode cX7_greatestShake 51 = .ok (.iload_n 3, 1) := by decide +kernel
theorem dX7_greatestShake_52 : decode cX7_greatestShake 52 = .ok (.iaload, 1) := by decide +kernel
theorem dX7_greatestShake_53 : decode cX7_greatestShake 53 = .ok (.invokestatic 316, 3) := by decide +kernel
theorem dX7_greatestShake_56 : decode cX7_greatestShake 56 = .ok (.goto 4, 3) := by decide +kernel
theorem dX7_greatestShake_59 : decode cX7_greatestShake 59 = .ok (.iload_n 2, 1) := by decide +kernel
theorem dX7_greatestShake_60 : decode cX7_greatestShake 60 = .ok (.istore_n 2, 1) := by decide +kernel
theorem dX7_greatestShake_61 : decode cX7_greatestShake 61 = .ok (.iinc 3 1, 3) := by decide +kernel
theorem dX7_greatestShake_64 : decode cX7_greatestShake 64 = .ok (.goto (-35), 3) := by decide +kernel
theorem dX7_greatestShake_67 : decode cX7_greatestShake 67 = .ok (.iload_n 2, 1) := by decide +kernel
theorem dX7_greatestShake_68 : decode cX7_greatestShake 68 = .ok (.ireturn, 1) := by decide +kernel
theorem dX7_setShakeLimit_0 : decode cX7_setShakeLimit 0 = .ok (.aload_n 0, 1) := by decide +kernel
theorem dX7_setShakeLimit_1 : decode cX7_setShakeLimit 1 = .ok (.iconst 0, 1) := by decide +kernel
theorem dX7_setShakeLimit_2 : decode cX7_setShakeLimit 2 = .ok (.putfield 1, 3) := by decide +kernel
theorem dX7_setShakeLimit_5 : decode cX7_setShakeLimit 5 = .ok (.iload_n 1, 1) := by decide +kernel
theorem dX7_setShakeLimit_6 : decode cX7_setShakeLimit 6 = .ok (.i2l, 1) := by decide +kernel
theorem dX7_setShakeLimit_7 : decode cX7_setShakeLimit 7 = .ok (.lconst 0, 1) := by decide +kernel
theorem dX7_setShakeLimit_8 : decode cX7_setShakeLimit 8 = .ok (.ldc2_w 169, 3) := by decide +kernel
theorem dX7_setShakeLimit_11 : decode cX7_setShakeLimit 11 = .ok (.invokestatic 135, 3) := by decide +kernel
theorem dX7_setShakeLimit_14 : decode cX7_setShakeLimit 14 = .ok (.ifCond .ne 6, 3) := by decide +kernel
theorem dX7_setShakeLimit_17 : decode cX7_setShakeLimit 17 = .ok (.bipush (-3), 2) := by decide +kernel
theorem dX7_setShakeLimit_19 : decode cX7_setShakeLimit 19 = .ok (.ireturn, 1) := by decide +kernel
theorem dX7_setShakeLimit_20 : decode cX7_setShakeLimit 20 = .ok (.aload_n 0, 1) := by decide +kernel
theorem dX7_setShakeLimit_21 : decode cX7_setShakeLimit 21 = .ok (.getfield 129, 3) := by decide +kernel
theorem dX7_setShakeLimit_24 : decode cX7_setShakeLimit 24 = .ok (.istore_n 2, 1) := by decide +kernel
theorem dX7_setShakeLimit_25 : decode cX7_setShakeLimit 25 = .ok (.aload_n 0, 1) := by decide +kernel
theorem dX7_setShakeLimit_26 : decode cX7_setShakeLimit 26 = .ok (.iload_n 1, 1) := by decide +kernel
theorem dX7_setShakeLimit_27 : decode cX7_setShakeLimit 27 = .ok (.putfield 129, 3) := by decide +kernel
theorem dX7_setShakeLimit_30 : decode cX7_setShakeLimit 30 = .ok (.iload_n 2, 1) := by decide +kernel
theorem dX7_setShakeLimit_31 : decode cX7_setShakeLimit 31 = .ok (.ireturn, 1) := by decide +kernel
theorem dX7_calmestWait_0 : decode cX7_calmestWait 0 = .ok (.aload_n 0, 1) := by decide +kernel
theorem dX7_calmestWait_1 : decode cX7_calmestWait 1 = .ok (.iconst 0, 1) := by decide +kernel
theorem dX7_calmestWait_2 : decode cX7_calmestWait 2 = .ok (.putfield 1, 3) := by decide +kernel
theorem dX7_calmestWait_5 : decode cX7_calmestWait 5 = .ok (.aload_n 0, 1) := by decide +kernel
theorem dX7_calmestWait_6 : decode cX7_calmestWait 6 = .ok (.iload_n 1, 1) := by decide +kernel
theorem dX7_calmestWait_7 : decode cX7_calmestWait 7 = .ok (.invokevirtual 149, 3) := by decide +kernel
theorem dX7_calmestWait_10 : decode cX7_calmestWait 10 = .ok (.ifCond .ne 6, 3) := by decide +kernel
theorem dX7_calmestWait_13 : decode cX7_calmestWait 13 = .ok (.bipush (-2), 2) := by decide +kernel
theorem dX7_calmestWait_15 : decode cX7_calmestWait 15 = .ok (.ireturn, 1) := by decide +kernel
theorem dX7_calmestWait_16 : decode cX7_calmestWait 16 = .ok (.iload_n 2, 1) := by decide +kernel
theorem dX7_calmestWait_17 : decode cX7_calmestWait 17 = .ok (.i2l, 1) := by decide +kernel
theorem dX7_calmestWait_18 : decode cX7_calmestWait 18 = .ok (.lconst 1, 1) := by decide +kernel
theorem dX7_calmestWait_19 : decode cX7_calmestWait 19 = .ok (.ldc2_w 319, 3) := by decide +kernel
theorem dX7_calmestWait_22 : decode cX7_calmestWait 22 = .ok (.invokestatic 135, 3) := by decide +kernel
theorem dX7_calmestWait_25 : decode cX7_calmestWait 25 = .ok (.ifCond .ne 6, 3) := by decide +kernel
theorem dX7_calmestWait_28 : decode cX7_calmestWait 28 = .ok (.bipush (-3), 2) := by decide +kernel
theorem dX7_calmestWait_30 : decode cX7_calmestWait 30 = .ok (.ireturn, 1) := by decide +kernel
theorem dX7_calmestWait_31 : decode cX7_calmestWait 31 = .ok (.aload_n 0, 1) := by decide +kernel
theorem dX7_calmestWait_32 : decode cX7_calmestWait 32 = .ok (.getfield 99, 3) := by decide +kernel
theorem dX7_calmestWait_35 : decode cX7_calmestWait 35 = .ok (.iload_n 1, 1) := by decide +kernel
theorem dX7_calmestWait_36 : decode cX7_calmestWait 36 = .ok (.baload, 1) := by decide +kernel
theorem dX7_calmestWait_37 : decode cX7_calmestWait 37 = .ok (.ifCond .eq 6, 3) := by decide +kernel
theorem dX7_calmestWait_40 : decode cX7_calmestWait 40 = .ok (.bipush (-6), 2) := by decide +kernel
theorem dX7_calmestWait_42 : decode cX7_calmestWait 42 = .ok (.ireturn, 1) := by decide +kernel
theorem dX7_calmestWait_43 : decode cX7_calmestWait 43 = .ok (.aload_n 0, 1) := by decide +kernel
theorem dX7_calmestWait_44 : decode cX7_calmestWait 44 = .ok (.sipush 600, 3) := by decide +kernel
theorem dX7_calmestWait_47 : decode cX7_calmestWait 47 = .ok (.iconst 2, 1) := by decide +kernel
theorem dX7_calmestWait_48 : decode cX7_calmestWait 48 = .ok (.aload_n 0, 1) := by decide +kernel
theorem dX7_calmestWait_49 : decode cX7_calmestWait 49 = .ok (.getfield 23, 3) := by decide +kernel
theorem dX7_calmestWait_52 : decode cX7_calmestWait 52 = .ok (.iload_n 1, 1) := by decide +kernel
theorem dX7_calmestWait_53 : decode cX7_calmestWait 53 = .ok (.iaload, 1) := by decide +kernel
theorem dX7_calmestWait_54 : decode cX7_calmestWait 54 = .ok (.imul, 1) := by decide +kernel
theorem dX7_calmestWait_55 : decode cX7_calmestWait 55 = .ok (.iadd, 1) := by decide +kernel
theorem dX7_calmestWait_56 : decode cX7_calmestWait 56 = .ok (.iconst 1, 1) := by decide +kernel
theorem dX7_calmestWait_57 : decode cX7_calmestWait 57 = .ok (.isub, 1) := by decide +kernel
theorem dX7_calmestWait_58 : decode cX7_calmestWait 58 = .ok (.invokevirtual 321, 3) := by decide +kernel
theorem dX7_calmestWait_61 : decode cX7_calmestWait 61 = .ok (.aload_n 0, 1) := by decide +kernel
theorem dX7_calmestWait_62 : decode cX7_calmestWait 62 = .ok (.iload_n 1, 1) := by decide +kernel
theorem dX7_calmestWait_63 : decode cX7_calmestWait 63 = .ok (.iload_n 2, 1) := by decide +kernel
theorem dX7_calmestWait_64 : decode cX7_calmestWait 64 = .ok (.invokevirtual 324, 3) := by decide +kernel
theorem dX7_calmestWait_67 : decode cX7_calmestWait 67 = .ok (.iconst 0, 1) := by decide +kernel
theorem dX7_calmestWait_68 : decode cX7_calmestWait 68 = .ok (.istore_n 3, 1) := by decide +kernel
theorem dX7_calmestWait_69 : decode cX7_calmestWait 69 = .ok (.iconst 0, 1) := by decide +kernel
theorem dX7_calmestWait_70 : decode cX7_calmestWait 70 = .ok (.istore 4, 2) := by decide +kernel
theorem dX7_calmestWait_72 : decode cX7_calmestWait 72 = .ok (.iconst 0, 1) := by decide +kernel
theorem dX7_calmestWait_73 : decode cX7_calmestWait 73 = .ok (.istore 5, 2) := by decide +kernel
theorem dX7_calmestWait_75 : decode cX7_calmestWait 75 = .ok (.iload 5, 2) := by decide +kernel
theorem dX7_calmestWait_77 : decode cX7_calmestWait 77 = .ok (.iconst 2, 1) := by decide +kernel
theorem dX7_calmestWait_78 : decode cX7_calmestWait 78 = .ok (.aload_n 0, 1) := by decide +kernel
theorem dX7_calmestWait_79 : decode cX7_calmestWait 79 = .ok (.getfield 23, 3) := by decide +kernel
theorem dX7_calmestWait_82 : decode cX7_calmestWait 82 = .ok (.iload_n 1, 1) := by decide +kernel
theorem dX7_calmestWait_83 : decode cX7_calmestWait 83 = .ok (.iaload, 1) := by decide +kernel
theorem dX7_calmestWait_84 : decode cX7_calmestWait 84 = .ok (.imul, 1) := by decide +kernel
theorem dX7_calmestWait_85 : decode cX7_calmestWait 85 = .ok (.if_icmp .ge 39, 3) := by decide +kernel
theorem dX7_calmestWait_88 : decode cX7_calmestWait 88 = .ok (.aload_n 0, 1) := by decide +kernel
theorem dX7_calmestWait_89 : decode cX7_calmestWait 89 = .ok (.iload 5, 2) := by decide +kernel
theorem dX7_calmestWait_91 : decode cX7_calmestWait 91 = .ok (.invokevirtual 327, 3) := by decide +kernel
theorem dX7_calmestWait_94 : decode cX7_calmestWait 94 = .ok (.istore 6, 2) := by decide +kernel
theorem dX7_calmestWait_96 : decode cX7_calmestWait 96 = .ok (.iload 5, 2) := by decide +kernel
theorem dX7_calmestWait_98 : decode cX7_calmestWait 98 = .ok (.ifCond .le 13, 3) := by decide +kernel
theorem dX7_calmestWait_101 : decode cX7_calmestWait 101 = .ok (.iload 6, 2) := by decide +kernel
theorem dX7_calmestWait_103 : decode cX7_calmestWait 103 = .ok (.iload 4, 2) := by decide +kernel
theorem dX7_calmestWait_105 : decode cX7_calmestWait 105 = .ok (.if_icmp .lt 6, 3) := by decide +kernel
theorem dX7_calmestWait_108 : decode cX7_calmestWait 108 = .ok (.goto 10, 3) := by decide +kernel
theorem dX7_calmestWait_111 : decode cX7_calmestWait 111 = .ok (.iload 5, 2) := by decide +kernel
theorem dX7_calmestWait_113 : decode cX7_calmestWait 113 = .ok (.istore_n 3, 1) := by decide +kernel
theorem dX7_calmestWait_114 : decode cX7_calmestWait 114 = .ok (.iload 6, 2) := by decide +kernel
theorem dX7_calmestWait_116 : decode cX7_calmestWait 116 = .ok (.istore 4, 2) := by decide +kernel
theorem dX7_calmestWait_118 : decode cX7_calmestWait 118 = .ok (.iinc 5 1, 3) := by decide +kernel
theorem dX7_calmestWait_121 : decode cX7_calmestWait 121 = .ok (.goto (-46), 3) := by decide +kernel
theorem dX7_calmestWait_124 : decode cX7_calmestWait 124 = .ok (.iload_n 3, 1) := by decide +kernel
theorem dX7_calmestWait_125 : decode cX7_calmestWait 125 = .ok (.ireturn, 1) := by decide +kernel
end
section
-- part 05: forms of contracts; kinds and constant references (printed by wip/whole/gen/gen05.py)
theorem SH_1 : SH 1 = (0, 6) := rfl
theorem SH_2 : SH 2 = (3, 12) := rfl
theorem SH_3 : SH 3 = (0, 0) := rfl
theorem SH_4 : SH 4 = (0, 5) := rfl
theorem SH_5 : SH 5 = (1, 200) := rfl
theorem SH_6 : SH 6 = (1, 200) := rfl
theorem SH_7 : SH 7 = (1, 200) := rfl
theorem SH_8 : SH 8 = (0, 4) := rfl
theorem SH_9 : SH 9 = (1, 300) := rfl
theorem SH_10 : SH 10 = (1, 300) := rfl
theorem SH_11 : SH 11 = (1, 300) := rfl
theorem SH_12 : SH 12 = (1, 51) := rfl
theorem SH_13 : SH 13 = (0, 4) := rfl
theorem SH_14 : SH 14 = (1, 300) := rfl
theorem SH_15 : SH 15 = (1, 300) := rfl
theorem SH_16 : SH 16 = (1, 300) := rfl
theorem SH_17 : SH 17 = (1, 51) := rfl
theorem SH_18 : SH 18 = (0, 3) := rfl
theorem SH_19 : SH 19 = (1, 300) := rfl
theorem SH_20 : SH 20 = (1, 100) := rfl
theorem SH_21 : SH 21 = (1, 3) := rfl
theorem SH_22 : SH 22 = (1, 3) := rfl
theorem SH_23 : SH 23 = (4, 5) := rfl
theorem SH_24 : SH 24 = (5, 8) := rfl
theorem SH_25 : SH 25 = (1, 720) := rfl
theorem SH_26 : SH 26 = (1, 601) := rfl
theorem SH_27 : SH 27 = (1, 51) := rfl
theorem SH_28 : SH 28 = (0, 0) := rfl
theorem SH_29 : SH 29 = (0, 0) := rfl
theorem SH_30 : SH 30 = (0, 0) := rfl
theorem SH_31 : SH 31 = (0, 0) := rfl
theorem SH_32 : SH 32 = (0, 0) := rfl
theorem SH_33 : SH 33 = (0, 0) := rfl
theorem SH_34 : SH 34 = (0, 0) := rfl
theorem SH_35 : SH 35 = (0, 0) := rfl
theorem SH_36 : SH 36 = (0, 0) := rfl
theorem SH_37 : SH 37 = (0, 0) := rfl
theorem SH_38 : SH 38 = (0, 0) := rfl
theorem SH_39 : SH 39 = (0, 0) := rfl
theorem SH_40 : SH 40 = (0, 2) := rfl
theorem SH_41 : SH 41 = (1, 100) := rfl
theorem SH_42 : SH 42 = (0, 2) := rfl
theorem SH_43 : SH 43 = (1, 100) := rfl
theorem SH_44 : SH 44 = (0, 2) := rfl
theorem SH_45 : SH 45 = (1, 100) := rfl
theorem SH_46 : SH 46 = (0, 2) := rfl
theorem SH_47 : SH 47 = (1, 100) := rfl
theorem SH_48 : SH 48 = (0, 2) := rfl
theorem SH_49 : SH 49 = (1, 100) := rfl
theorem SH_50 : SH 50 = (0, 1) := rfl
theorem SH_51 : SH 51 = (0, 1) := rfl
theorem SH_52 : SH 52 = (0, 1) := rfl
theorem SH_53 : SH 53 = (0, 1) := rfl
theorem SH_54 : SH 54 = (0, 1) := rfl
theorem SH_55 : SH 55 = (0, 1) := rfl
theorem SH_56 : SH 56 = (0, 1) := rfl
theorem SH_57 : SH 57 = (0, 1) := rfl
theorem SH_58 : SH 58 = (0, 7) := rfl
theorem SH_59 : SH 59 = (1, 12) := rfl
theorem SH_60 : SH 60 = (1, 12) := rfl
theorem SH_61 : SH 61 = (1, 12) := rfl
theorem SH_62 : SH 62 = (1, 12) := rfl
theorem SH_63 : SH 63 = (1, 12) := rfl
theorem SH_64 : SH 64 = (1, 200) := rfl
theorem SH_65 : SH 65 = (1, 200) := rfl
theorem SH_66 : SH 66 = (2, 200) := rfl
theorem SH_67 : SH 67 = (1, 300) := rfl
theorem SH_68 : SH 68 = (1, 300) := rfl
theorem SH_69 : SH 69 = (1, 300) := rfl
theorem SH_70 : SH 70 = (1, 52) := rfl
theorem SH_71 : SH 71 = (1, 300) := rfl
theorem SH_72 : SH 72 = (1, 500) := rfl
theorem SH_73 : SH 73 = (1, 5) := rfl
theorem SH_74 : SH 74 = (1, 100) := rfl
theorem SH_75 : SH 75 = (1, 300) := rfl
theorem SH_76 : SH 76 = (1, 300) := rfl
theorem SH_77 : SH 77 = (1, 300) := rfl
theorem SH_78 : SH 78 = (1, 12) := rfl
theorem SH_79 : SH 79 = (2, 12) := rfl
theorem SH_80 : SH 80 = (1, 8) := rfl
theorem SH_81 : SH 81 = (1, 8) := rfl
theorem SH_82 : SH 82 = (1, 8) := rfl
theorem SH_83 : SH 83 = (1, 8) := rfl
theorem SH_84 : SH 84 = (1, 8) := rfl
theorem SH_85 : SH 85 = (1, 8) := rfl
theorem SH_86 : SH 86 = (2, 12) := rfl
theorem SH_87 : SH 87 = (2, 12) := rfl
theorem SH_88 : SH 88 = (2, 12) := rfl
theorem SH_89 : SH 89 = (1, 12) := rfl
theorem SH_90 : SH 90 = (1, 12) := rfl
theorem SH_91 : SH 91 = (1, 12) := rfl
theorem SH_92 : SH 92 = (1, 12) := rfl
theorem SH_93 : SH 93 = (1, 720) := rfl
theorem SH_94 : SH 94 = (1, 601) := rfl
theorem SH_bell {i : Int} (h : 0 ≤ i ∧ i < 12) : SH (28 + i.toNat) = (0, 0) := by
  have key : ∀ j, j < 12 → SH (28 + j) = (0, 0) := by decide +kernel
  exact key _ (by omega)
theorem SH_pat {i : Int} (h : 0 ≤ i ∧ i < 5) : SH (40 + 2 * i.toNat) = (0, 2) ∧ SH (40 + 2 * i.toNat + 1) = (1, 100) := by
  have key : ∀ j, j < 5 → SH (40 + 2 * j) = (0, 2) ∧ SH (40 + 2 * j + 1) = (1, 100) := by decide +kernel
  exact key _ (by omega)
theorem SH_ent {j : Nat} (h : j < 8) : SH (50 + j) = (0, 1) := by
  have key : ∀ j, j < 8 → SH (50 + j) = (0, 1) := by decide +kernel
  exact key _ h
def R0L : List (Nat × Int × Nat) := [(1, 0, 2), (1, 1, 3), (1, 2, 4), (1, 3, 8), (1, 4, 13), (1, 5, 18), (1, 6, 23), (1, 7, 24), (1, 8, 25), (1, 9, 26), (1, 10, 27), (4, 0, 5), (4, 1, 6), (4, 2, 7), (8, 0, 9), (8, 1, 10), (8, 2, 11), (8, 3, 12), (13, 0, 14), (13, 1, 15), (13, 2, 16), (13, 3, 17), (18, 0, 19), (18, 2, 20), (18, 9, 21), (18, 10, 22), (40, 0, 41), (42, 0, 43), (44, 0, 45), (46, 0, 47), (48, 0, 49), (58, 1, 59), (58, 2, 60), (58, 3, 61), (58, 4, 62), (58, 5, 63), (58, 10, 64), (58, 11, 65), (58, 12, 66), (58, 14, 67), (58, 15, 68), (58, 16, 69), (58, 17, 70), (58, 19, 71), (58, 20, 72), (58, 21, 73), (58, 22, 74), (58, 31, 75), (58, 32, 76), (58, 33, 77), (58, 34, 78), (58, 35, 79), (58, 36, 80), (58, 37, 81), (58, 38, 82), (58, 39, 83), (58, 40, 84), (58, 41, 85), (58, 44, 86), (58, 45, 87), (58, 46, 88), (58, 47, 89), (58, 48, 90), (58, 49, 91), (58, 50, 92), (58, 51, 93), (58, 52, 94)]
/-- the references that never change behind the constructors -/
def Rok (mr : aR) : Prop := (∀ q ∈ R0L, mr q.1 q.2.1 = some q.2.2) ∧ (∀ i : Int, 0 ≤ i → i < 12 → mr 2 i = some (28 + i.toNat)) ∧ (∀ i : Int, 0 ≤ i → i < 5 → mr 23 i = some (40 + 2 * i.toNat))
theorem rk_1_0 {mr : aR} (h : Rok mr) : mr 1 0 = some 2 := h.1 (1, 0, 2) (List.mem_of_getElem? (i := 0) rfl)
theorem rk_1_1 {mr : aR} (h : Rok mr) : mr 1 1 = some 3 := h.1 (1, 1, 3) (List.mem_of_getElem? (i := 1) rfl)
theorem rk_1_2 {mr : aR} (h : Rok mr) : mr 1 2 = some 4 := h.1 (1, 2, 4) (List.mem_of_getElem? (i := 2) rfl)
theorem rk_1_3 {mr : aR} (h : Rok mr) : mr 1 3 = some 8 := h.1 (1, 3, 8) (List.mem_of_getElem? (i := 3) rfl)
theorem rk_1_4 {mr : aR} (h : Rok mr) : mr 1 4 = some 13 := h.1 (1, 4, 13) (List.mem_of_getElem? (i := 4) rfl)
theorem rk_1_5 {mr : aR} (h : Rok mr) : mr 1 5 = some 18 := h.1 (1, 5, 18) (List.mem_of_getElem? (i := 5) rfl)
theorem rk_1_6 {mr : aR} (h : Rok mr) : mr 1 6 = some 23 := h.1 (1, 6, 23) (List.mem_of_getElem? (i := 6) rfl)
theorem rk_1_7 {mr : aR} (h : Rok mr) : mr 1 7 = some 24 := h.1 (1, 7, 24) (List.mem_of_getElem? (i := 7) rfl)
theorem rk_1_8 {mr : aR} (h : Rok mr) : mr 1 8 = some 25 := h.1 (1, 8, 25) (List.mem_of_getElem? (i := 8) rfl)
theorem rk_1_9 {mr : aR} (h : Rok mr) : mr 1 9 = some 26 := h.1 (1, 9, 26) (List.mem_of_getElem? (i := 9) rfl)
theorem rk_1_10 {mr : aR} (h : Rok mr) : mr 1 10 = some 27 := h.1 (1, 10, 27) (List.mem_of_getElem? (i := 10) rfl)
theorem rk_4_0 {mr : aR} (h : Rok mr) : mr 4 0 = some 5 := h.1 (4, 0, 5) (List.mem_of_getElem? (i := 11) rfl)
theorem rk_4_1 {mr : aR} (h : Rok mr) : mr 4 1 = some 6 := h.1 (4, 1, 6) (List.mem_of_getElem? (i := 12) rfl)
theorem rk_4_2 {mr : aR} (h : Rok mr) : mr 4 2 = some 7 := h.1 (4, 2, 7) (List.mem_of_getElem? (i := 13) rfl)
theorem rk_8_0 {mr : aR} (h : Rok mr) : mr 8 0 = some 9 := h.1 (8, 0, 9) (List.mem_of_getElem? (i := 14) rfl)
theorem rk_8_1 {mr : aR} (h : Rok mr) : mr 8 1 = some 10 := h.1 (8, 1, 10) (List.mem_of_getElem? (i := 15) rfl)
theorem rk_8_2 {mr : aR} (h : Rok mr) : mr 8 2 = some 11 := h.1 (8, 2, 11) (List.mem_of_getElem? (i := 16) rfl)
theorem rk_8_3 {mr : aR} (h : Rok mr) : mr 8 3 = some 12 := h.1 (8, 3, 12) (List.mem_of_getElem? (i := 17) rfl)
theorem rk_13_0 {mr : aR} (h : Rok mr) : mr 13 0 = some 14 := h.1 (13, 0, 14) (List.mem_of_getElem? (i := 18) rfl)
theorem rk_13_1 {mr : aR} (h : Rok mr) : mr 13 1 = some 15 := h.1 (13, 1, 15) (List.mem_of_getElem? (i := 19) rfl)
theorem rk_13_2 {mr : aR} (h : Rok mr) : mr 13 2 = some 16 := h.1 (13, 2, 16) (List.mem_of_getElem? (i := 20) rfl)
theorem rk_13_3 {mr : aR} (h : Rok mr) : mr 13 3 = some 17 := h.1 (13, 3, 17) (List.mem_of_getElem? (i := 21) rfl)
theorem rk_18_0 {mr : aR} (h : Rok mr) : mr 18 0 = some 19 := h.1 (18, 0, 19) (List.mem_of_getElem? (i := 22) rfl)
theorem rk_18_2 {mr : aR} (h : Rok mr) : mr 18 2 = some 20 := h.1 (18, 2, 20) (List.mem_of_getElem? (i := 23) rfl)
theorem rk_18_9 {mr : aR} (h : Rok mr) : mr 18 9 = some 21 := h.1 (18, 9, 21) (List.mem_of_getElem? (i := 24) rfl)
theorem rk_18_10 {mr : aR} (h : Rok mr) : mr 18 10 = some 22 := h.1 (18, 10, 22) (List.mem_of_getElem? (i := 25) rfl)
theorem rk_40_0 {mr : aR} (h : Rok mr) : mr 40 0 = some 41 := h.1 (40, 0, 41) (List.mem_of_getElem? (i := 26) rfl)
theorem rk_42_0 {mr : aR} (h : Rok mr) : mr 42 0 = some 43 := h.1 (42, 0, 43) (List.mem_of_getElem? (i := 27) rfl)
theorem rk_44_0 {mr : aR} (h : Rok mr) : mr 44 0 = some 45 := h.1 (44, 0, 45) (List.mem_of_getElem? (i := 28) rfl)
theorem rk_46_0 {mr : aR} (h : Rok mr) : mr 46 0 = some 47 := h.1 (46, 0, 47) (List.mem_of_getElem? (i := 29) rfl)
theorem rk_48_0 {mr : aR} (h : Rok mr) : mr 48 0 = some 49 := h.1 (48, 0, 49) (List.mem_of_getElem? (i := 30) rfl)
theorem rk_58_1 {mr : aR} (h : Rok mr) : mr 58 1 = some 59 := h.1 (58, 1, 59) (List.mem_of_getElem? (i := 31) rfl)
theorem rk_58_2 {mr : aR} (h : Rok mr) : mr 58 2 = some 60 := h.1 (58, 2, 60) (List.mem_of_getElem? (i := 32) rfl)
theorem rk_58_3 {mr : aR} (h : Rok mr) : mr 58 3 = some 61 := h.1 (58, 3, 61) (List.mem_of_getElem? (i := 33) rfl)
theorem rk_58_4 {mr : aR} (h : Rok mr) : mr 58 4 = some 62 := h.1 (58, 4, 62) (List.mem_of_getElem? (i := 34) rfl)
theorem rk_58_5 {mr : aR} (h : Rok mr) : mr 58 5 = some 63 := h.1 (58, 5, 63) (List.mem_of_getElem? (i := 35) rfl)
theorem rk_58_10 {mr : aR} (h : Rok mr) : mr 58 10 = some 64 := h.1 (58, 10, 64) (List.mem_of_getElem? (i := 36) rfl)
theorem rk_58_11 {mr : aR} (h : Rok mr) : mr 58 11 = some 65 := h.1 (58, 11, 65) (List.mem_of_getElem? (i := 37) rfl)
theorem rk_58_12 {mr : aR} (h : Rok mr) : mr 58 12 = some 66 := h.1 (58, 12, 66) (List.mem_of_getElem? (i := 38) rfl)
theorem rk_58_14 {mr : aR} (h : Rok mr) : mr 58 14 = some 67 := h.1 (58, 14, 67) (List.mem_of_getElem? (i := 39) rfl)
theorem rk_58_15 {mr : aR} (h : Rok mr) : mr 58 15 = some 68 := h.1 (58, 15, 68) (List.mem_of_getElem? (i := 40) rfl)
theorem rk_58_16 {mr : aR} (h : Rok mr) : mr 58 16 = some 69 := h.1 (58, 16, 69) (List.mem_of_getElem? (i := 41) rfl)
theorem rk_58_17 {mr : aR} (h : Rok mr) : mr 58 17 = some 70 := h.1 (58, 17, 70) (List.mem_of_getElem? (i := 42) rfl)
theorem rk_58_19 {mr : aR} (h : Rok mr) : mr 58 19 = some 71 := h.1 (58, 19, 71) (List.mem_of_getElem? (i := 43) rfl)
theorem rk_58_20 {mr : aR} (h : Rok mr) : mr 58 20 = some 72 := h.1 (58, 20, 72) (List.mem_of_getElem? (i := 44) rfl)
theorem rk_58_21 {mr : aR} (h : Rok mr) : mr 58 21 = some 73 := h.1 (58, 21, 73) (List.mem_of_getElem? (i := 45) rfl)
theorem rk_58_22 {mr : aR} (h : Rok mr) : mr 58 22 = some 74 := h.1 (58, 22, 74) (List.mem_of_getElem? (i := 46) rfl)
theorem rk_58_31 {mr : aR} (h : Rok mr) : mr 58 31 = some 75 := h.1 (58, 31, 75) (List.mem_of_getElem? (i := 47) rfl)
theorem rk_58_32 {mr : aR} (h : Rok mr) : mr 58 32 = some 76 := h.1 (58, 32, 76) (List.mem_of_getElem? (i := 48) rfl)
theorem rk_58_33 {mr : aR} (h : Rok mr) : mr 58 33 = some 77 := h.1 (58, 33, 77) (List.mem_of_getElem? (i := 49) rfl)
theorem rk_58_34 {mr : aR} (h : Rok mr) : mr 58 34 = some 78 := h.1 (58, 34, 78) (List.mem_of_getElem? (i := 50) rfl)
theorem rk_58_35 {mr : aR} (h : Rok mr) : mr 58 35 = some 79 := h.1 (58, 35, 79) (List.mem_of_getElem? (i := 51) rfl)
theorem rk_58_36 {mr : aR} (h : Rok mr) : mr 58 36 = some 80 := h.1 (58, 36, 80) (List.mem_of_getElem? (i := 52) rfl)
theorem rk_58_37 {mr : aR} (h : Rok mr) : mr 58 37 = some 81 := h.1 (58, 37, 81) (List.mem_of_getElem? (i := 53) rfl)
theorem rk_58_38 {mr : aR} (h : Rok mr) : mr 58 38 = some 82 := h.1 (58, 38, 82) (List.mem_of_getElem? (i := 54) rfl)
theorem rk_58_39 {mr : aR} (h : Rok mr) : mr 58 39 = some 83 := h.1 (58, 39, 83) (List.mem_of_getElem? (i := 55) rfl)
theorem rk_58_40 {mr : aR} (h : Rok mr) : mr 58 40 = some 84 := h.1 (58, 40, 84) (List.mem_of_getElem? (i := 56) rfl)
theorem rk_58_41 {mr : aR} (h : Rok mr) : mr 58 41 = some 85 := h.1 (58, 41, 85) (List.mem_of_getElem? (i := 57) rfl)
theorem rk_58_44 {mr : aR} (h : Rok mr) : mr 58 44 = some 86 := h.1 (58, 44, 86) (List.mem_of_getElem? (i := 58) rfl)
theorem rk_58_45 {mr : aR} (h : Rok mr) : mr 58 45 = some 87 := h.1 (58, 45, 87) (List.mem_of_getElem? (i := 59) rfl)
theorem rk_58_46 {mr : aR} (h : Rok mr) : mr 58 46 = some 88 := h.1 (58, 46, 88) (List.mem_of_getElem? (i := 60) rfl)
theorem rk_58_47 {mr : aR} (h : Rok mr) : mr 58 47 = some 89 := h.1 (58, 47, 89) (List.mem_of_getElem? (i := 61) rfl)
theorem rk_58_48 {mr : aR} (h : Rok mr) : mr 58 48 = some 90 := h.1 (58, 48, 90) (List.mem_of_getElem? (i := 62) rfl)
theorem rk_58_49 {mr : aR} (h : Rok mr) : mr 58 49 = some 91 := h.1 (58, 49, 91) (List.mem_of_getElem? (i := 63) rfl)
theorem rk_58_50 {mr : aR} (h : Rok mr) : mr 58 50 = some 92 := h.1 (58, 50, 92) (List.mem_of_getElem? (i := 64) rfl)
theorem rk_58_51 {mr : aR} (h : Rok mr) : mr 58 51 = some 93 := h.1 (58, 51, 93) (List.mem_of_getElem? (i := 65) rfl)
theorem rk_58_52 {mr : aR} (h : Rok mr) : mr 58 52 = some 94 := h.1 (58, 52, 94) (List.mem_of_getElem? (i := 66) rfl)
theorem rk_pat {mr : aR} (h : Rok mr) {i : Int} (hi : 0 ≤ i ∧ i < 5) : mr (40 + 2 * i.toNat) 0 = some (40 + 2 * i.toNat + 1) := by
  have hc : i = 0 ∨ i = 1 ∨ i = 2 ∨ i = 3 ∨ i = 4 := by omega
  rcases hc with rfl | rfl | rfl | rfl | rfl
  · exact rk_40_0 h
  · exact rk_42_0 h
  · exact rk_44_0 h
  · exact rk_46_0 h
  · exact rk_48_0 h
/-- one of the two schedules -/
def isS (a : Nat) : Prop := a = 8 ∨ a = 13
theorem isS_SH {a : Nat} (h : isS a) : SH a = (0, 4) ∧ SH (a + 1) = (1, 300) ∧ SH (a + 2) = (1, 300) ∧ SH (a + 3) = (1, 300) ∧ SH (a + 4) = (1, 51) := by
  rcases h with rfl | rfl <;> exact ⟨rfl, rfl, rfl, rfl, rfl⟩
theorem isS_ok {a : Nat} (h : isS a) : (0 < a ∧ a ≤ 94) ∧ (0 < a + 1 ∧ a + 1 ≤ 94) ∧ (0 < a + 2 ∧ a + 2 ≤ 94) ∧ (0 < a + 3 ∧ a + 3 ≤ 94) ∧ (0 < a + 4 ∧ a + 4 ≤ 94) := by
  rcases h with rfl | rfl <;> decide
theorem isS_rf {a : Nat} (h : isS a) {mr : aR} (hR : Rok mr) : mr a 0 = some (a + 1) ∧ mr a 1 = some (a + 2) ∧ mr a 2 = some (a + 3) ∧ mr a 3 = some (a + 4) := by
  rcases h with rfl | rfl
  · exact ⟨rk_8_0 hR, rk_8_1 hR, rk_8_2 hR, rk_8_3 hR⟩
  · exact ⟨rk_13_0 hR, rk_13_1 hR, rk_13_2 hR, rk_13_3 hR⟩
theorem aup_eq {α : Type} (m : Nat → Int → α) (a : Nat) (k : Int) (v : α) : aup m a k v a k = v := by simp [aup]
theorem aup_k {α : Type} {m : Nat → Int → α} {a x : Nat} {k j : Int} {v : α} (h : j ≠ k) : aup m a k v x j = m x j := by simp [aup, h]
theorem aup_a {α : Type} {m : Nat → Int → α} {a x : Nat} {k j : Int} {v : α} (h : x ≠ a) : aup m a k v x j = m x j := by simp [aup, h]
/-! forms of posts: an int (memory may change), an int (nothing changes), no answer -/
def Pi (mr : aR) (P : Int → aM → Prop) : Option Int → Nat → aM → aR → Prop := fun v n' mi' mr' => ∃ r, v = some r ∧ n' = 94 ∧ mr' = mr ∧ P r mi'
def Pp (mi : aM) (mr : aR) (P : Int → Prop) : Option Int → Nat → aM → aR → Prop := fun v n' mi' mr' => ∃ r, v = some r ∧ n' = 94 ∧ mr' = mr ∧ mi' = mi ∧ P r
def Pv (mr : aR) (P : aM → Prop) : Option Int → Nat → aM → aR → Prop := fun v n' mi' mr' => v = none ∧ n' = 94 ∧ mr' = mr ∧ P mi'
/-- general: references may change -/
def Pg (P : Int → aM → aR → Prop) : Option Int → Nat → aM → aR → Prop := fun v n' mi' mr' => ∃ r, v = some r ∧ n' = 94 ∧ P r mi' mr'
def Pgv (P : aM → aR → Prop) : Option Int → Nat → aM → aR → Prop := fun v n' mi' mr' => v = none ∧ n' = 94 ∧ P mi' mr'
abbrev SPg (y : MethodName) (cc : ByteArray) (nL : Nat) (rt : Option FieldType) (d : Nat) (av : List Value) (mi : aM) (mr : aR) (Po : Option Int → Nat → aM → aR → Prop) : Prop := SP y cc nL rt d 0 0 94 av mi mr Po
abbrev AWm (own : String) (cc : ByteArray) (nL d : Nat) (Po : Option Int → Nat → aM → aR → Prop) (pc : Nat) (lv : List (Nat × Value)) (st : List Value) (mi : aM) (mr : aR) : Prop := AW own cc nL d false 0 0 none Po 94 pc lv st mi mr 0 0
theorem SPg.int {y : MethodName} {own : String} {cc : ByteArray} {nL d : Nat} {av : List Value} {mi : aM} {mr : aR} {P : Int → aM → Prop} (hown : y.cls = own) (hpl : plainName y.cls = true) (hargs : (lg_sl av).length ≤ nL) (h : AWm own cc nL d (Pi mr P) 0 (lv_args 0 av) [] mi mr) : SPg y cc nL (some .int) d av mi mr (Pi mr P) :=
  SP.of false hown (fun h => by cases h) hpl hargs (Or.inl ⟨rfl, fun _ _ _ ⟨_, h, _⟩ => by cases h⟩) h
theorem SPg.pure {y : MethodName} {own : String} {cc : ByteArray} {nL d : Nat} {av : List Value} {mi : aM} {mr : aR} {P : Int → Prop} (hown : y.cls = own) (hpl : plainName y.cls = true) (hargs : (lg_sl av).length ≤ nL) (h : AWm own cc nL d (Pp mi mr P) 0 (lv_args 0 av) [] mi mr) : SPg y cc nL (some .int) d av mi mr (Pp mi mr P) :=
  SP.of false hown (fun h => by cases h) hpl hargs (Or.inl ⟨rfl, fun _ _ _ ⟨_, h, _⟩ => by cases h⟩) h
theorem SPg.bool {y : MethodName} {own : String} {cc : ByteArray} {nL d : Nat} {av : List Value} {mi : aM} {mr : aR} {P : Int → aM → Prop} (hown : y.cls = own) (hpl : plainName y.cls = true) (hargs : (lg_sl av).length ≤ nL) (hb : ∀ r m, P r m → r = 0 ∨ r = 1) (h : AWm own cc nL d (Pi mr P) 0 (lv_args 0 av) [] mi mr) : SPg y cc nL (some .boolean) d av mi mr (Pi mr P) :=
  SP.of false hown (fun h => by cases h) hpl hargs (Or.inr (Or.inl ⟨rfl, fun _ _ _ ⟨_, h, _⟩ => by (cases h), fun v n' m' r' ⟨r, h1, h2, h3, h4⟩ => by cases h1; exact hb _ _ h4⟩)) h
theorem SPg.boolp {y : MethodName} {own : String} {cc : ByteArray} {nL d : Nat} {av : List Value} {mi : aM} {mr : aR} {P : Int → Prop} (hown : y.cls = own) (hpl : plainName y.cls = true) (hargs : (lg_sl av).length ≤ nL) (hb : ∀ r, P r → r = 0 ∨ r = 1) (h : AWm own cc nL d (Pp mi mr P) 0 (lv_args 0 av) [] mi mr) : SPg y cc nL (some .boolean) d av mi mr (Pp mi mr P) :=
  SP.of false hown (fun h => by cases h) hpl hargs (Or.inr (Or.inl ⟨rfl, fun _ _ _ ⟨_, h, _⟩ => by (cases h), fun v n' m' r' ⟨r, h1, h2, h3, h4, h5⟩ => by cases h1; exact hb _ h5⟩)) h
theorem SPg.void {y : MethodName} {own : String} {cc : ByteArray} {nL d : Nat} {av : List Value} {mi : aM} {mr : aR} {P : aM → Prop} (hown : y.cls = own) (hpl : plainName y.cls = true) (hargs : (lg_sl av).length ≤ nL) (h : AWm own cc nL d (Pv mr P) 0 (lv_args 0 av) [] mi mr) : SPg y cc nL none d av mi mr (Pv mr P) :=
  SP.of false hown (fun h => by cases h) hpl hargs (Or.inr (Or.inr ⟨rfl, fun _ _ _ _ ⟨h, _⟩ => by cases h⟩)) h
theorem SPg.gint {y : MethodName} {own : String} {cc : ByteArray} {nL d : Nat} {av : List Value} {mi : aM} {mr : aR} {P : Int → aM → aR → Prop} (hown : y.cls = own) (hpl : plainName y.cls = true) (hargs : (lg_sl av).length ≤ nL) (h : AWm own cc nL d (Pg P) 0 (lv_args 0 av) [] mi mr) : SPg y cc nL (some .int) d av mi mr (Pg P) :=
  SP.of false hown (fun h => by cases h) hpl hargs (Or.inl ⟨rfl, fun _ _ _ ⟨_, h, _⟩ => by cases h⟩) h
theorem SPg.gvoid {y : MethodName} {own : String} {cc : ByteArray} {nL d : Nat} {av : List Value} {mi : aM} {mr : aR} {P : aM → aR → Prop} (hown : y.cls = own) (hpl : plainName y.cls = true) (hargs : (lg_sl av).length ≤ nL) (h : AWm own cc nL d (Pgv P) 0 (lv_args 0 av) [] mi mr) : SPg y cc nL none d av mi mr (Pgv P) :=
  SP.of false hown (fun h => by cases h) hpl hargs (Or.inr (Or.inr ⟨rfl, fun _ _ _ _ ⟨h, _⟩ => by cases h⟩)) h
section AWS
variable {own : String} {cc : ByteArray} {nL d : Nat} {ini : Bool} {kc ks : Nat} {xo : Option (Nat × (Int → Int))} {Po : Option Int → Nat → aM → aR → Prop} {pc : Nat} {lv : List (Nat × Value)} {st : List Value} {mi : aM} {mr : aR} {ck sk : Nat}
theorem aw_getIv {idx ci f a n : Nat} {x : Int} (hf : aFld own idx ci f) (hs : SH a = (0, ci)) (ha : 0 < a ∧ a ≤ n) (hr : (fty ci f).isReference = false) (hx : mi a f = x) (hd : decode cc pc = .ok (.getfield idx, 3)) (k : -2147483648 ≤ x ∧ x ≤ 2147483647 → AW own cc nL d ini kc ks xo Po n (pc + 3) lv (iI x :: st) mi mr ck sk) : AW own cc nL d ini kc ks xo Po n pc lv (.ref a :: st) mi mr ck sk := by
  subst hx
  exact aw_getI hf hs ha hr hd k
theorem aw_ialdv {a z n : Nat} {i x : Int} (hs : SH a = (1, z)) (ha : 0 < a ∧ a ≤ n) (hi : 0 ≤ i ∧ i < z) (hx : mi a i = x) (hd : decode cc pc = .ok (.iaload, 1)) (k : -2147483648 ≤ x ∧ x ≤ 2147483647 → AW own cc nL d ini kc ks xo Po n (pc + 1) lv (iI x :: st) mi mr ck sk) : AW own cc nL d ini kc ks xo Po n pc lv (iI i :: .ref a :: st) mi mr ck sk := by
  subst hx
  exact aw_iald hs ha hi hd k
theorem aw_zaldv {a z n : Nat} {i x : Int} (hs : SH a = (2, z)) (ha : 0 < a ∧ a ≤ n) (hi : 0 ≤ i ∧ i < z) (hx : mi a i = x) (hd : decode cc pc = .ok (.baload, 1)) (k : -2147483648 ≤ x ∧ x ≤ 2147483647 → AW own cc nL d ini kc ks xo Po n (pc + 1) lv (iI x :: st) mi mr ck sk) : AW own cc nL d ini kc ks xo Po n pc lv (iI i :: .ref a :: st) mi mr ck sk := by
  subst hx
  exact aw_zald hs ha hi hd k
theorem aw_cVi {y : MethodName} {ccg : ByteArray} {nLg dg idx na : Nat} {rtg : Option FieldType} {a ci N : Nat} {F : u_T} {As st0 : List Value} {P : Int → aM → Prop} (hcal : aCalV own idx y ccg nLg rtg na) (hM : SPg y ccg nLg rtg dg (.ref a :: As) mi mr (Pi mr P)) (hs : SH a = (0, ci)) (hc : vwCl[ci]? = some (y.cls, F, N)) (ha : 0 < a ∧ a ≤ 94) (hna : As.length = na) (hst9 : st0 = As.reverse ++ .ref a :: st) (hr : (st.map fun v => v.category).sum ≤ 8) (hdd : dg + 1 ≤ d) (hnl : nLg ≤ 40) (hck : ck ≤ kc) (hsk : sk ≤ ks) (hd : decode cc pc = .ok (.invokevirtual idx, 3)) (k : ∀ r mi', P r mi' → AW own cc nL d ini kc ks xo Po 94 (pc + 3) lv (iI r :: st) mi' mr ck sk) : AW own cc nL d ini kc ks xo Po 94 pc lv st0 mi mr ck sk := by
  refine aw_callV hcal hM hs hc ha hna hst9 hr hdd hnl (by omega) (by omega) hd (fun v n' mi' mr' h => ?_)
  obtain ⟨r, h1, h2, h3, h4⟩ := h
  subst h1 h2 h3
  exact k r mi' h4
theorem aw_cVp {y : MethodName} {ccg : ByteArray} {nLg dg idx na : Nat} {rtg : Option FieldType} {a ci N : Nat} {F : u_T} {As st0 : List Value} {P : Int → Prop} (hcal : aCalV own idx y ccg nLg rtg na) (hM : SPg y ccg nLg rtg dg (.ref a :: As) mi mr (Pp mi mr P)) (hs : SH a = (0, ci)) (hc : vwCl[ci]? = some (y.cls, F, N)) (ha : 0 < a ∧ a ≤ 94) (hna : As.length = na) (hst9 : st0 = As.reverse ++ .ref a :: st) (hr : (st.map fun v => v.category).sum ≤ 8) (hdd : dg + 1 ≤ d) (hnl : nLg ≤ 40) (hck : ck ≤ kc) (hsk : sk ≤ ks) (hd : decode cc pc = .ok (.invokevirtual idx, 3)) (k : ∀ r, P r → AW own cc nL d ini kc ks xo Po 94 (pc + 3) lv (iI r :: st) mi mr ck sk) : AW own cc nL d ini kc ks xo Po 94 pc lv st0 mi mr ck sk := by
  refine aw_callV hcal hM hs hc ha hna hst9 hr hdd hnl (by omega) (by omega) hd (fun v n' mi' mr' h => ?_)
  obtain ⟨r, h1, h2, h3, h4, h5⟩ := h
  subst h1 h2 h3 h4
  exact k r h5
theorem aw_cVv {y : MethodName} {ccg : ByteArray} {nLg dg idx na : Nat} {rtg : Option FieldType} {a ci N : Nat} {F : u_T} {As st0 : List Value} {P : aM → Prop} (hcal : aCalV own idx y ccg nLg rtg na) (hM : SPg y ccg nLg rtg dg (.ref a :: As) mi mr (Pv mr P)) (hs : SH a = (0, ci)) (hc : vwCl[ci]? = some (y.cls, F, N)) (ha : 0 < a ∧ a ≤ 94) (hna : As.length = na) (hst9 : st0 = As.reverse ++ .ref a :: st) (hr : (st.map fun v => v.category).sum ≤ 8) (hdd : dg + 1 ≤ d) (hnl : nLg ≤ 40) (hck : ck ≤ kc) (hsk : sk ≤ ks) (hd : decode cc pc = .ok (.invokevirtual idx, 3)) (k : ∀ mi', P mi' → AW own cc nL d ini kc ks xo Po 94 (pc + 3) lv (st) mi' mr ck sk) : AW own cc nL d ini kc ks xo Po 94 pc lv st0 mi mr ck sk := by
  refine aw_callV hcal hM hs hc ha hna hst9 hr hdd hnl (by omega) (by omega) hd (fun v n' mi' mr' h => ?_)
  obtain ⟨h1, h2, h3, h4⟩ := h
  subst h1 h2 h3
  exact k mi' h4
theorem aw_cVg {y : MethodName} {ccg : ByteArray} {nLg dg idx na : Nat} {rtg : Option FieldType} {a ci N : Nat} {F : u_T} {As st0 : List Value} {P : Int → aM → aR → Prop} (hcal : aCalV own idx y ccg nLg rtg na) (hM : SPg y ccg nLg rtg dg (.ref a :: As) mi mr (Pg P)) (hs : SH a = (0, ci)) (hc : vwCl[ci]? = some (y.cls, F, N)) (ha : 0 < a ∧ a ≤ 94) (hna : As.length = na) (hst9 : st0 = As.reverse ++ .ref a :: st) (hr : (st.map fun v => v.category).sum ≤ 8) (hdd : dg + 1 ≤ d) (hnl : nLg ≤ 40) (hck : ck ≤ kc) (hsk : sk ≤ ks) (hd : decode cc pc = .ok (.invokevirtual idx, 3)) (k : ∀ r mi' mr', P r mi' mr' → AW own cc nL d ini kc ks xo Po 94 (pc + 3) lv (iI r :: st) mi' mr' ck sk) : AW own cc nL d ini kc ks xo Po 94 pc lv st0 mi mr ck sk := by
  refine aw_callV hcal hM hs hc ha hna hst9 hr hdd hnl (by omega) (by omega) hd (fun v n' mi' mr' h => ?_)
  obtain ⟨r, h1, h2, h4⟩ := h
  subst h1 h2
  exact k r mi' mr' h4
theorem aw_cVw {y : MethodName} {ccg : ByteArray} {nLg dg idx na : Nat} {rtg : Option FieldType} {a ci N : Nat} {F : u_T} {As st0 : List Value} {P : aM → aR → Prop} (hcal : aCalV own idx y ccg nLg rtg na) (hM : SPg y ccg nLg rtg dg (.ref a :: As) mi mr (Pgv P)) (hs : SH a = (0, ci)) (hc : vwCl[ci]? = some (y.cls, F, N)) (ha : 0 < a ∧ a ≤ 94) (hna : As.length = na) (hst9 : st0 = As.reverse ++ .ref a :: st) (hr : (st.map fun v => v.category).sum ≤ 8) (hdd : dg + 1 ≤ d) (hnl : nLg ≤ 40) (hck : ck ≤ kc) (hsk : sk ≤ ks) (hd : decode cc pc = .ok (.invokevirtual idx, 3)) (k : ∀ mi' mr', P mi' mr' → AW own cc nL d ini kc ks xo Po 94 (pc + 3) lv (st) mi' mr' ck sk) : AW own cc nL d ini kc ks xo Po 94 pc lv st0 mi mr ck sk := by
  refine aw_callV hcal hM hs hc ha hna hst9 hr hdd hnl (by omega) (by omega) hd (fun v n' mi' mr' h => ?_)
  obtain ⟨h1, h2, h4⟩ := h
  subst h1 h2
  exact k mi' mr' h4
theorem aw_cSi {y : MethodName} {ccg : ByteArray} {nLg dg idx na : Nat} {rtg : Option FieldType} {As st0 : List Value} {P : Int → aM → Prop} (hcal : aCalS own idx y ccg nLg rtg na) (hM : SPg y ccg nLg rtg dg As mi mr (Pi mr P)) (hna : As.length = na) (hst9 : st0 = As.reverse ++ st) (hr : (st.map fun v => v.category).sum ≤ 8) (hdd : dg + 1 ≤ d) (hnl : nLg ≤ 40) (hck : ck ≤ kc) (hsk : sk ≤ ks) (hd : decode cc pc = .ok (.invokestatic idx, 3)) (k : ∀ r mi', P r mi' → AW own cc nL d ini kc ks xo Po 94 (pc + 3) lv (iI r :: st) mi' mr ck sk) : AW own cc nL d ini kc ks xo Po 94 pc lv st0 mi mr ck sk := by
  refine aw_callS hcal hM hna hst9 hr hdd hnl (by omega) (by omega) hd (fun v n' mi' mr' h => ?_)
  obtain ⟨r, h1, h2, h3, h4⟩ := h
  subst h1 h2 h3
  exact k r mi' h4
theorem aw_cSp {y : MethodName} {ccg : ByteArray} {nLg dg idx na : Nat} {rtg : Option FieldType} {As st0 : List Value} {P : Int → Prop} (hcal : aCalS own idx y ccg nLg rtg na) (hM : SPg y ccg nLg rtg dg As mi mr (Pp mi mr P)) (hna : As.length = na) (hst9 : st0 = As.reverse ++ st) (hr : (st.map fun v => v.category).sum ≤ 8) (hdd : dg + 1 ≤ d) (hnl : nLg ≤ 40) (hck : ck ≤ kc) (hsk : sk ≤ ks) (hd : decode cc pc = .ok (.invokestatic idx, 3)) (k : ∀ r, P r → AW own cc nL d ini kc ks xo Po 94 (pc + 3) lv (iI r :: st) mi mr ck sk) : AW own cc nL d ini kc ks xo Po 94 pc lv st0 mi mr ck sk := by
  refine aw_callS hcal hM hna hst9 hr hdd hnl (by omega) (by omega) hd (fun v n' mi' mr' h => ?_)
  obtain ⟨r, h1, h2, h3, h4, h5⟩ := h
  subst h1 h2 h3 h4
  exact k r h5
theorem aw_cSv {y : MethodName} {ccg : ByteArray} {nLg dg idx na : Nat} {rtg : Option FieldType} {As st0 : List Value} {P : aM → Prop} (hcal : aCalS own idx y ccg nLg rtg na) (hM : SPg y ccg nLg rtg dg As mi mr (Pv mr P)) (hna : As.length = na) (hst9 : st0 = As.reverse ++ st) (hr : (st.map fun v => v.category).sum ≤ 8) (hdd : dg + 1 ≤ d) (hnl : nLg ≤ 40) (hck : ck ≤ kc) (hsk : sk ≤ ks) (hd : decode cc pc = .ok (.invokestatic idx, 3)) (k : ∀ mi', P mi' → AW own cc nL d ini kc ks xo Po 94 (pc + 3) lv (st) mi' mr ck sk) : AW own cc nL d ini kc ks xo Po 94 pc lv st0 mi mr ck sk := by
  refine aw_callS hcal hM hna hst9 hr hdd hnl (by omega) (by omega) hd (fun v n' mi' mr' h => ?_)
  obtain ⟨h1, h2, h3, h4⟩ := h
  subst h1 h2 h3
  exact k mi' h4
theorem aw_cSg {y : MethodName} {ccg : ByteArray} {nLg dg idx na : Nat} {rtg : Option FieldType} {As st0 : List Value} {P : Int → aM → aR → Prop} (hcal : aCalS own idx y ccg nLg rtg na) (hM : SPg y ccg nLg rtg dg As mi mr (Pg P)) (hna : As.length = na) (hst9 : st0 = As.reverse ++ st) (hr : (st.map fun v => v.category).sum ≤ 8) (hdd : dg + 1 ≤ d) (hnl : nLg ≤ 40) (hck : ck ≤ kc) (hsk : sk ≤ ks) (hd : decode cc pc = .ok (.invokestatic idx, 3)) (k : ∀ r mi' mr', P r mi' mr' → AW own cc nL d ini kc ks xo Po 94 (pc + 3) lv (iI r :: st) mi' mr' ck sk) : AW own cc nL d ini kc ks xo Po 94 pc lv st0 mi mr ck sk := by
  refine aw_callS hcal hM hna hst9 hr hdd hnl (by omega) (by omega) hd (fun v n' mi' mr' h => ?_)
  obtain ⟨r, h1, h2, h4⟩ := h
  subst h1 h2
  exact k r mi' mr' h4
theorem aw_cSw {y : MethodName} {ccg : ByteArray} {nLg dg idx na : Nat} {rtg : Option FieldType} {As st0 : List Value} {P : aM → aR → Prop} (hcal : aCalS own idx y ccg nLg rtg na) (hM : SPg y ccg nLg rtg dg As mi mr (Pgv P)) (hna : As.length = na) (hst9 : st0 = As.reverse ++ st) (hr : (st.map fun v => v.category).sum ≤ 8) (hdd : dg + 1 ≤ d) (hnl : nLg ≤ 40) (hck : ck ≤ kc) (hsk : sk ≤ ks) (hd : decode cc pc = .ok (.invokestatic idx, 3)) (k : ∀ mi' mr', P mi' mr' → AW own cc nL d ini kc ks xo Po 94 (pc + 3) lv (st) mi' mr' ck sk) : AW own cc nL d ini kc ks xo Po 94 pc lv st0 mi mr ck sk := by
  refine aw_callS hcal hM hna hst9 hr hdd hnl (by omega) (by omega) hd (fun v n' mi' mr' h => ?_)
  obtain ⟨h1, h2, h4⟩ := h
  subst h1 h2
  exact k mi' mr' h4
end AWS
end
