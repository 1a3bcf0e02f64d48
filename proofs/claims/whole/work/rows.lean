section
-- part 01: tables, names, links (printed by wip/whole/gen/gen01.py)
/-- a private method of a class that the tables say can be made, by its rows of tables_1 -/
def lw_okq (q : MethodName × Nat) : Prop := (q.1.cls ≠ "java/lang/invoke/MethodHandle" ∧ q.1.cls ≠ "java/lang/invoke/VarHandle") ∧ Cond.instantiable q.1.cls q.2 ∈ tables_1 ∧ Cond.privateMethod q.1 ∈ tables_1 ∧ Cond.instanceMethod q.1 ∈ tables_1
theorem lw_p0 : lw_okq (⟨"BellController", "isBell", "(I)Z"⟩, 17) := ⟨⟨by decide +kernel, by decide +kernel⟩, List.mem_of_getElem? (i := 13) (by decide +kernel), List.mem_of_getElem? (i := 286) (by decide +kernel), List.mem_of_getElem? (i := 287) (by decide +kernel)⟩
theorem lw_p1 : lw_okq (⟨"BellController", "soundHammers", "()I"⟩, 17) := ⟨⟨by decide +kernel, by decide +kernel⟩, List.mem_of_getElem? (i := 13) (by decide +kernel), List.mem_of_getElem? (i := 307) (by decide +kernel), List.mem_of_getElem? (i := 308) (by decide +kernel)⟩
theorem lw_p2 : lw_okq (⟨"BellController", "turnBells", "()I"⟩, 17) := ⟨⟨by decide +kernel, by decide +kernel⟩, List.mem_of_getElem? (i := 13) (by decide +kernel), List.mem_of_getElem? (i := 329) (by decide +kernel), List.mem_of_getElem? (i := 330) (by decide +kernel)⟩
theorem lw_p3 : lw_okq (⟨"BellController", "runProgramme", "()V"⟩, 17) := ⟨⟨by decide +kernel, by decide +kernel⟩, List.mem_of_getElem? (i := 13) (by decide +kernel), List.mem_of_getElem? (i := 349) (by decide +kernel), List.mem_of_getElem? (i := 350) (by decide +kernel)⟩
theorem lw_p4 : lw_okq (⟨"BellController", "carryOut", "(LBellController$Entry;)Z"⟩, 17) := ⟨⟨by decide +kernel, by decide +kernel⟩, List.mem_of_getElem? (i := 13) (by decide +kernel), List.mem_of_getElem? (i := 353) (by decide +kernel), List.mem_of_getElem? (i := 354) (by decide +kernel)⟩
theorem lw_p5 : lw_okq (⟨"BellController", "weaveFrom", "(LBellController$Pattern;III)I"⟩, 17) := ⟨⟨by decide +kernel, by decide +kernel⟩, List.mem_of_getElem? (i := 13) (by decide +kernel), List.mem_of_getElem? (i := 361) (by decide +kernel), List.mem_of_getElem? (i := 362) (by decide +kernel)⟩
theorem lw_p6 : lw_okq (⟨"BellController", "readyTime", "(LBellController$Pattern;I)I"⟩, 17) := ⟨⟨by decide +kernel, by decide +kernel⟩, List.mem_of_getElem? (i := 13) (by decide +kernel), List.mem_of_getElem? (i := 365) (by decide +kernel), List.mem_of_getElem? (i := 366) (by decide +kernel)⟩
theorem lw_p7 : lw_okq (⟨"BellController", "existingBells", "()I"⟩, 17) := ⟨⟨by decide +kernel, by decide +kernel⟩, List.mem_of_getElem? (i := 13) (by decide +kernel), List.mem_of_getElem? (i := 369) (by decide +kernel), List.mem_of_getElem? (i := 370) (by decide +kernel)⟩
theorem lw_p8 : lw_okq (⟨"BellController", "swingsIn", "(LBellController$Pattern;)Z"⟩, 17) := ⟨⟨by decide +kernel, by decide +kernel⟩, List.mem_of_getElem? (i := 13) (by decide +kernel), List.mem_of_getElem? (i := 384) (by decide +kernel), List.mem_of_getElem? (i := 385) (by decide +kernel)⟩
theorem lw_p9 : lw_okq (⟨"BellController", "fitsAlone", "(LBellController$Pattern;I)Z"⟩, 17) := ⟨⟨by decide +kernel, by decide +kernel⟩, List.mem_of_getElem? (i := 13) (by decide +kernel), List.mem_of_getElem? (i := 388) (by decide +kernel), List.mem_of_getElem? (i := 389) (by decide +kernel)⟩
theorem lw_p10 : lw_okq (⟨"BellController", "draftPattern", "(LBellController$Pattern;II)I"⟩, 17) := ⟨⟨by decide +kernel, by decide +kernel⟩, List.mem_of_getElem? (i := 13) (by decide +kernel), List.mem_of_getElem? (i := 416) (by decide +kernel), List.mem_of_getElem? (i := 417) (by decide +kernel)⟩
theorem lw_p11 : lw_okq (⟨"BellController", "examine", "(LBellController$Schedule;II)I"⟩, 17) := ⟨⟨by decide +kernel, by decide +kernel⟩, List.mem_of_getElem? (i := 13) (by decide +kernel), List.mem_of_getElem? (i := 424) (by decide +kernel), List.mem_of_getElem? (i := 425) (by decide +kernel)⟩
theorem lw_p12 : lw_okq (⟨"BellController", "dropEntry", "(I)V"⟩, 17) := ⟨⟨by decide +kernel, by decide +kernel⟩, List.mem_of_getElem? (i := 13) (by decide +kernel), List.mem_of_getElem? (i := 428) (by decide +kernel), List.mem_of_getElem? (i := 429) (by decide +kernel)⟩
theorem lw_p13 : lw_okq (⟨"BellController$PatternReader", "readNext", "()V"⟩, 11) := ⟨⟨by decide +kernel, by decide +kernel⟩, List.mem_of_getElem? (i := 126) (by decide +kernel), List.mem_of_getElem? (i := 518) (by decide +kernel), List.mem_of_getElem? (i := 519) (by decide +kernel)⟩
theorem lw_p14 : lw_okq (⟨"BellController$PatternReader", "signAt", "(I)I"⟩, 11) := ⟨⟨by decide +kernel, by decide +kernel⟩, List.mem_of_getElem? (i := 126) (by decide +kernel), List.mem_of_getElem? (i := 522) (by decide +kernel), List.mem_of_getElem? (i := 523) (by decide +kernel)⟩
theorem lw_p15 : lw_okq (⟨"BellController$PatternReader", "openGroup", "()V"⟩, 11) := ⟨⟨by decide +kernel, by decide +kernel⟩, List.mem_of_getElem? (i := 126) (by decide +kernel), List.mem_of_getElem? (i := 526) (by decide +kernel), List.mem_of_getElem? (i := 527) (by decide +kernel)⟩
def lw_privs_1 : List (MethodName × Nat) := [(⟨"BellController", "isBell", "(I)Z"⟩, 17), (⟨"BellController", "soundHammers", "()I"⟩, 17), (⟨"BellController", "turnBells", "()I"⟩, 17), (⟨"BellController", "runProgramme", "()V"⟩, 17), (⟨"BellController", "carryOut", "(LBellController$Entry;)Z"⟩, 17), (⟨"BellController", "weaveFrom", "(LBellController$Pattern;III)I"⟩, 17), (⟨"BellController", "readyTime", "(LBellController$Pattern;I)I"⟩, 17), (⟨"BellController", "existingBells", "()I"⟩, 17), (⟨"BellController", "swingsIn", "(LBellController$Pattern;)Z"⟩, 17), (⟨"BellController", "fitsAlone", "(LBellController$Pattern;I)Z"⟩, 17), (⟨"BellController", "draftPattern", "(LBellController$Pattern;II)I"⟩, 17), (⟨"BellController", "examine", "(LBellController$Schedule;II)I"⟩, 17), (⟨"BellController", "dropEntry", "(I)V"⟩, 17), (⟨"BellController$PatternReader", "readNext", "()V"⟩, 11), (⟨"BellController$PatternReader", "signAt", "(I)I"⟩, 11), (⟨"BellController$PatternReader", "openGroup", "()V"⟩, 11)]
theorem lw_r1 : ∀ q ∈ lw_privs_1, lw_okq q := List.forall_mem_cons.mpr ⟨lw_p0, List.forall_mem_cons.mpr ⟨lw_p1, List.forall_mem_cons.mpr ⟨lw_p2, List.forall_mem_cons.mpr ⟨lw_p3, List.forall_mem_cons.mpr ⟨lw_p4, List.forall_mem_cons.mpr ⟨lw_p5, List.forall_mem_cons.mpr ⟨lw_p6, List.forall_mem_cons.mpr ⟨lw_p7, List.forall_mem_cons.mpr ⟨lw_p8, List.forall_mem_cons.mpr ⟨lw_p9, List.forall_mem_cons.mpr ⟨lw_p10, List.forall_mem_cons.mpr ⟨lw_p11, List.forall_mem_cons.mpr ⟨lw_p12, List.forall_mem_cons.mpr ⟨lw_p13, List.forall_mem_cons.mpr ⟨lw_p14, List.forall_mem_cons.mpr ⟨lw_p15, fun _ h => absurd h List.not_mem_nil⟩⟩⟩⟩⟩⟩⟩⟩⟩⟩⟩⟩⟩⟩⟩⟩
theorem lw_p16 : lw_okq (⟨"BellController$PatternReader", "fail", "(II)V"⟩, 11) := ⟨⟨by decide +kernel, by decide +kernel⟩, List.mem_of_getElem? (i := 126) (by decide +kernel), List.mem_of_getElem? (i := 530) (by decide +kernel), List.mem_of_getElem? (i := 531) (by decide +kernel)⟩
theorem lw_p17 : lw_okq (⟨"BellController$PatternReader", "closeGroup", "()V"⟩, 11) := ⟨⟨by decide +kernel, by decide +kernel⟩, List.mem_of_getElem? (i := 126) (by decide +kernel), List.mem_of_getElem? (i := 534) (by decide +kernel), List.mem_of_getElem? (i := 535) (by decide +kernel)⟩
theorem lw_p18 : lw_okq (⟨"BellController$PatternReader", "readNumber", "()I"⟩, 11) := ⟨⟨by decide +kernel, by decide +kernel⟩, List.mem_of_getElem? (i := 126) (by decide +kernel), List.mem_of_getElem? (i := 541) (by decide +kernel), List.mem_of_getElem? (i := 542) (by decide +kernel)⟩
theorem lw_p19 : lw_okq (⟨"BellController$PatternReader", "repeatGroup", "(II)V"⟩, 11) := ⟨⟨by decide +kernel, by decide +kernel⟩, List.mem_of_getElem? (i := 126) (by decide +kernel), List.mem_of_getElem? (i := 545) (by decide +kernel), List.mem_of_getElem? (i := 546) (by decide +kernel)⟩
theorem lw_p20 : lw_okq (⟨"BellController$PatternReader", "readStep", "()V"⟩, 11) := ⟨⟨by decide +kernel, by decide +kernel⟩, List.mem_of_getElem? (i := 126) (by decide +kernel), List.mem_of_getElem? (i := 553) (by decide +kernel), List.mem_of_getElem? (i := 554) (by decide +kernel)⟩
theorem lw_p21 : lw_okq (⟨"BellController", "listMovingBells", "()V"⟩, 17) := ⟨⟨by decide +kernel, by decide +kernel⟩, List.mem_of_getElem? (i := 13) (by decide +kernel), List.mem_of_getElem? (i := 590) (by decide +kernel), List.mem_of_getElem? (i := 591) (by decide +kernel)⟩
theorem lw_p22 : lw_okq (⟨"BellController", "movingBefore", "(LBellController$Pattern;II)I"⟩, 17) := ⟨⟨by decide +kernel, by decide +kernel⟩, List.mem_of_getElem? (i := 13) (by decide +kernel), List.mem_of_getElem? (i := 594) (by decide +kernel), List.mem_of_getElem? (i := 595) (by decide +kernel)⟩
theorem lw_p23 : lw_okq (⟨"BellController", "isEntry", "(I)Z"⟩, 17) := ⟨⟨by decide +kernel, by decide +kernel⟩, List.mem_of_getElem? (i := 13) (by decide +kernel), List.mem_of_getElem? (i := 608) (by decide +kernel), List.mem_of_getElem? (i := 609) (by decide +kernel)⟩
theorem lw_p24 : lw_okq (⟨"BellController", "foreseeShakes", "(I)V"⟩, 17) := ⟨⟨by decide +kernel, by decide +kernel⟩, List.mem_of_getElem? (i := 13) (by decide +kernel), List.mem_of_getElem? (i := 632) (by decide +kernel), List.mem_of_getElem? (i := 633) (by decide +kernel)⟩
theorem lw_p25 : lw_okq (⟨"BellController", "greatestUpTo", "(I)I"⟩, 17) := ⟨⟨by decide +kernel, by decide +kernel⟩, List.mem_of_getElem? (i := 13) (by decide +kernel), List.mem_of_getElem? (i := 657) (by decide +kernel), List.mem_of_getElem? (i := 658) (by decide +kernel)⟩
theorem lw_p26 : lw_okq (⟨"BellController", "greatestIfStartedAfter", "(II)I"⟩, 17) := ⟨⟨by decide +kernel, by decide +kernel⟩, List.mem_of_getElem? (i := 13) (by decide +kernel), List.mem_of_getElem? (i := 711) (by decide +kernel), List.mem_of_getElem? (i := 712) (by decide +kernel)⟩
theorem lw_p27 : lw_okq (⟨"BellControllerModel", "isBell", "(I)Z"⟩, 53) := ⟨⟨by decide +kernel, by decide +kernel⟩, List.mem_of_getElem? (i := 715) (by decide +kernel), List.mem_of_getElem? (i := 902) (by decide +kernel), List.mem_of_getElem? (i := 903) (by decide +kernel)⟩
theorem lw_p28 : lw_okq (⟨"BellControllerModel", "recordMany", "()I"⟩, 53) := ⟨⟨by decide +kernel, by decide +kernel⟩, List.mem_of_getElem? (i := 715) (by decide +kernel), List.mem_of_getElem? (i := 923) (by decide +kernel), List.mem_of_getElem? (i := 924) (by decide +kernel)⟩
theorem lw_p29 : lw_okq (⟨"BellControllerModel", "recordAt", "(I)I"⟩, 53) := ⟨⟨by decide +kernel, by decide +kernel⟩, List.mem_of_getElem? (i := 715) (by decide +kernel), List.mem_of_getElem? (i := 931) (by decide +kernel), List.mem_of_getElem? (i := 932) (by decide +kernel)⟩
theorem lw_p30 : lw_okq (⟨"BellControllerModel", "refuses", "(IJ)I"⟩, 53) := ⟨⟨by decide +kernel, by decide +kernel⟩, List.mem_of_getElem? (i := 715) (by decide +kernel), List.mem_of_getElem? (i := 947) (by decide +kernel), List.mem_of_getElem? (i := 948) (by decide +kernel)⟩
theorem lw_p31 : lw_okq (⟨"BellControllerModel", "schedules", "(II)V"⟩, 53) := ⟨⟨by decide +kernel, by decide +kernel⟩, List.mem_of_getElem? (i := 715) (by decide +kernel), List.mem_of_getElem? (i := 952) (by decide +kernel), List.mem_of_getElem? (i := 953) (by decide +kernel)⟩
def lw_privs_2 : List (MethodName × Nat) := [(⟨"BellController$PatternReader", "fail", "(II)V"⟩, 11), (⟨"BellController$PatternReader", "closeGroup", "()V"⟩, 11), (⟨"BellController$PatternReader", "readNumber", "()I"⟩, 11), (⟨"BellController$PatternReader", "repeatGroup", "(II)V"⟩, 11), (⟨"BellController$PatternReader", "readStep", "()V"⟩, 11), (⟨"BellController", "listMovingBells", "()V"⟩, 17), (⟨"BellController", "movingBefore", "(LBellController$Pattern;II)I"⟩, 17), (⟨"BellController", "isEntry", "(I)Z"⟩, 17), (⟨"BellController", "foreseeShakes", "(I)V"⟩, 17), (⟨"BellController", "greatestUpTo", "(I)I"⟩, 17), (⟨"BellController", "greatestIfStartedAfter", "(II)I"⟩, 17), (⟨"BellControllerModel", "isBell", "(I)Z"⟩, 53), (⟨"BellControllerModel", "recordMany", "()I"⟩, 53), (⟨"BellControllerModel", "recordAt", "(I)I"⟩, 53), (⟨"BellControllerModel", "refuses", "(IJ)I"⟩, 53), (⟨"BellControllerModel", "schedules", "(II)V"⟩, 53)]
theorem lw_r2 : ∀ q ∈ lw_privs_2, lw_okq q := List.forall_mem_cons.mpr ⟨lw_p16, List.forall_mem_cons.mpr ⟨lw_p17, List.forall_mem_cons.mpr ⟨lw_p18, List.forall_mem_cons.mpr ⟨lw_p19, List.forall_mem_cons.mpr ⟨lw_p20, List.forall_mem_cons.mpr ⟨lw_p21, List.forall_mem_cons.mpr ⟨lw_p22, List.forall_mem_cons.mpr ⟨lw_p23, List.forall_mem_cons.mpr ⟨lw_p24, List.forall_mem_cons.mpr ⟨lw_p25, List.forall_mem_cons.mpr ⟨lw_p26, List.forall_mem_cons.mpr ⟨lw_p27, List.forall_mem_cons.mpr ⟨lw_p28, List.forall_mem_cons.mpr ⟨lw_p29, List.forall_mem_cons.mpr ⟨lw_p30, List.forall_mem_cons.mpr ⟨lw_p31, fun _ h => absurd h List.not_mem_nil⟩⟩⟩⟩⟩⟩⟩⟩⟩⟩⟩⟩⟩⟩⟩⟩
theorem lw_p32 : lw_okq (⟨"BellControllerModel", "strokeOf", "(II)I"⟩, 53) := ⟨⟨by decide +kernel, by decide +kernel⟩, List.mem_of_getElem? (i := 715) (by decide +kernel), List.mem_of_getElem? (i := 960) (by decide +kernel), List.mem_of_getElem? (i := 961) (by decide +kernel)⟩
theorem lw_p33 : lw_okq (⟨"BellControllerModel", "removes", "(I)V"⟩, 53) := ⟨⟨by decide +kernel, by decide +kernel⟩, List.mem_of_getElem? (i := 715) (by decide +kernel), List.mem_of_getElem? (i := 964) (by decide +kernel), List.mem_of_getElem? (i := 965) (by decide +kernel)⟩
theorem lw_p34 : lw_okq (⟨"BellControllerModel", "nextOf", "(I)I"⟩, 53) := ⟨⟨by decide +kernel, by decide +kernel⟩, List.mem_of_getElem? (i := 715) (by decide +kernel), List.mem_of_getElem? (i := 976) (by decide +kernel), List.mem_of_getElem? (i := 977) (by decide +kernel)⟩
theorem lw_p35 : lw_okq (⟨"BellControllerModel", "ranked", "(I)I"⟩, 53) := ⟨⟨by decide +kernel, by decide +kernel⟩, List.mem_of_getElem? (i := 715) (by decide +kernel), List.mem_of_getElem? (i := 984) (by decide +kernel), List.mem_of_getElem? (i := 985) (by decide +kernel)⟩
theorem lw_p36 : lw_okq (⟨"BellControllerModel", "readsItems", "(I)V"⟩, 53) := ⟨⟨by decide +kernel, by decide +kernel⟩, List.mem_of_getElem? (i := 715) (by decide +kernel), List.mem_of_getElem? (i := 1013) (by decide +kernel), List.mem_of_getElem? (i := 1014) (by decide +kernel)⟩
theorem lw_p37 : lw_okq (⟨"BellControllerModel", "here", "()I"⟩, 53) := ⟨⟨by decide +kernel, by decide +kernel⟩, List.mem_of_getElem? (i := 715) (by decide +kernel), List.mem_of_getElem? (i := 1017) (by decide +kernel), List.mem_of_getElem? (i := 1018) (by decide +kernel)⟩
theorem lw_p38 : lw_okq (⟨"BellControllerModel", "fails", "(II)V"⟩, 53) := ⟨⟨by decide +kernel, by decide +kernel⟩, List.mem_of_getElem? (i := 715) (by decide +kernel), List.mem_of_getElem? (i := 1021) (by decide +kernel), List.mem_of_getElem? (i := 1022) (by decide +kernel)⟩
theorem lw_p39 : lw_okq (⟨"BellControllerModel", "readsItem", "(I)V"⟩, 53) := ⟨⟨by decide +kernel, by decide +kernel⟩, List.mem_of_getElem? (i := 715) (by decide +kernel), List.mem_of_getElem? (i := 1025) (by decide +kernel), List.mem_of_getElem? (i := 1026) (by decide +kernel)⟩
theorem lw_p40 : lw_okq (⟨"BellControllerModel", "readsGroup", "(I)V"⟩, 53) := ⟨⟨by decide +kernel, by decide +kernel⟩, List.mem_of_getElem? (i := 715) (by decide +kernel), List.mem_of_getElem? (i := 1029) (by decide +kernel), List.mem_of_getElem? (i := 1030) (by decide +kernel)⟩
theorem lw_p41 : lw_okq (⟨"BellControllerModel", "number", "()I"⟩, 53) := ⟨⟨by decide +kernel, by decide +kernel⟩, List.mem_of_getElem? (i := 715) (by decide +kernel), List.mem_of_getElem? (i := 1033) (by decide +kernel), List.mem_of_getElem? (i := 1034) (by decide +kernel)⟩
theorem lw_p42 : lw_okq (⟨"BellControllerModel", "isDigit", "()Z"⟩, 53) := ⟨⟨by decide +kernel, by decide +kernel⟩, List.mem_of_getElem? (i := 715) (by decide +kernel), List.mem_of_getElem? (i := 1037) (by decide +kernel), List.mem_of_getElem? (i := 1038) (by decide +kernel)⟩
theorem lw_p43 : lw_okq (⟨"BellControllerModel", "isLetter", "()Z"⟩, 53) := ⟨⟨by decide +kernel, by decide +kernel⟩, List.mem_of_getElem? (i := 715) (by decide +kernel), List.mem_of_getElem? (i := 1044) (by decide +kernel), List.mem_of_getElem? (i := 1045) (by decide +kernel)⟩
theorem lw_p44 : lw_okq (⟨"BellControllerModel", "plays", "(III)I"⟩, 53) := ⟨⟨by decide +kernel, by decide +kernel⟩, List.mem_of_getElem? (i := 715) (by decide +kernel), List.mem_of_getElem? (i := 1071) (by decide +kernel), List.mem_of_getElem? (i := 1072) (by decide +kernel)⟩
theorem lw_p45 : lw_okq (⟨"BellControllerModel", "weaves", "(IIII)I"⟩, 53) := ⟨⟨by decide +kernel, by decide +kernel⟩, List.mem_of_getElem? (i := 715) (by decide +kernel), List.mem_of_getElem? (i := 1080) (by decide +kernel), List.mem_of_getElem? (i := 1081) (by decide +kernel)⟩
theorem lw_p46 : lw_okq (⟨"BellControllerModel", "isPlayable", "(II)Z"⟩, 53) := ⟨⟨by decide +kernel, by decide +kernel⟩, List.mem_of_getElem? (i := 715) (by decide +kernel), List.mem_of_getElem? (i := 1088) (by decide +kernel), List.mem_of_getElem? (i := 1089) (by decide +kernel)⟩
theorem lw_p47 : lw_okq (⟨"BellControllerModel", "movesAt", "(III)I"⟩, 53) := ⟨⟨by decide +kernel, by decide +kernel⟩, List.mem_of_getElem? (i := 715) (by decide +kernel), List.mem_of_getElem? (i := 1096) (by decide +kernel), List.mem_of_getElem? (i := 1097) (by decide +kernel)⟩
def lw_privs_3 : List (MethodName × Nat) := [(⟨"BellControllerModel", "strokeOf", "(II)I"⟩, 53), (⟨"BellControllerModel", "removes", "(I)V"⟩, 53), (⟨"BellControllerModel", "nextOf", "(I)I"⟩, 53), (⟨"BellControllerModel", "ranked", "(I)I"⟩, 53), (⟨"BellControllerModel", "readsItems", "(I)V"⟩, 53), (⟨"BellControllerModel", "here", "()I"⟩, 53), (⟨"BellControllerModel", "fails", "(II)V"⟩, 53), (⟨"BellControllerModel", "readsItem", "(I)V"⟩, 53), (⟨"BellControllerModel", "readsGroup", "(I)V"⟩, 53), (⟨"BellControllerModel", "number", "()I"⟩, 53), (⟨"BellControllerModel", "isDigit", "()Z"⟩, 53), (⟨"BellControllerModel", "isLetter", "()Z"⟩, 53), (⟨"BellControllerModel", "plays", "(III)I"⟩, 53), (⟨"BellControllerModel", "weaves", "(IIII)I"⟩, 53), (⟨"BellControllerModel", "isPlayable", "(II)Z"⟩, 53), (⟨"BellControllerModel", "movesAt", "(III)I"⟩, 53)]
theorem lw_r3 : ∀ q ∈ lw_privs_3, lw_okq q := List.forall_mem_cons.mpr ⟨lw_p32, List.forall_mem_cons.mpr ⟨lw_p33, List.forall_mem_cons.mpr ⟨lw_p34, List.forall_mem_cons.mpr ⟨lw_p35, List.forall_mem_cons.mpr ⟨lw_p36, List.forall_mem_cons.mpr ⟨lw_p37, List.forall_mem_cons.mpr ⟨lw_p38, List.forall_mem_cons.mpr ⟨lw_p39, List.forall_mem_cons.mpr ⟨lw_p40, List.forall_mem_cons.mpr ⟨lw_p41, List.forall_mem_cons.mpr ⟨lw_p42, List.forall_mem_cons.mpr ⟨lw_p43, List.forall_mem_cons.mpr ⟨lw_p44, List.forall_mem_cons.mpr ⟨lw_p45, List.forall_mem_cons.mpr ⟨lw_p46, List.forall_mem_cons.mpr ⟨lw_p47, fun _ h => absurd h List.not_mem_nil⟩⟩⟩⟩⟩⟩⟩⟩⟩⟩⟩⟩⟩⟩⟩⟩
theorem lw_p48 : lw_okq (⟨"BellControllerModel", "isEntry", "(I)Z"⟩, 53) := ⟨⟨by decide +kernel, by decide +kernel⟩, List.mem_of_getElem? (i := 715) (by decide +kernel), List.mem_of_getElem? (i := 1109) (by decide +kernel), List.mem_of_getElem? (i := 1110) (by decide +kernel)⟩
theorem lw_p49 : lw_okq (⟨"BellControllerModel", "dropsEntry", "(I)V"⟩, 53) := ⟨⟨by decide +kernel, by decide +kernel⟩, List.mem_of_getElem? (i := 715) (by decide +kernel), List.mem_of_getElem? (i := 1113) (by decide +kernel), List.mem_of_getElem? (i := 1114) (by decide +kernel)⟩
theorem lw_p50 : lw_okq (⟨"BellControllerModel", "sounds", "(I)V"⟩, 53) := ⟨⟨by decide +kernel, by decide +kernel⟩, List.mem_of_getElem? (i := 715) (by decide +kernel), List.mem_of_getElem? (i := 1138) (by decide +kernel), List.mem_of_getElem? (i := 1139) (by decide +kernel)⟩
theorem lw_p51 : lw_okq (⟨"BellControllerModel", "records", "(IZ)V"⟩, 53) := ⟨⟨by decide +kernel, by decide +kernel⟩, List.mem_of_getElem? (i := 715) (by decide +kernel), List.mem_of_getElem? (i := 1142) (by decide +kernel), List.mem_of_getElem? (i := 1143) (by decide +kernel)⟩
theorem lw_p52 : lw_okq (⟨"BellControllerModel", "turns", "(I)V"⟩, 53) := ⟨⟨by decide +kernel, by decide +kernel⟩, List.mem_of_getElem? (i := 715) (by decide +kernel), List.mem_of_getElem? (i := 1146) (by decide +kernel), List.mem_of_getElem? (i := 1147) (by decide +kernel)⟩
theorem lw_p53 : lw_okq (⟨"BellControllerModel", "looksAtEntries", "()V"⟩, 53) := ⟨⟨by decide +kernel, by decide +kernel⟩, List.mem_of_getElem? (i := 715) (by decide +kernel), List.mem_of_getElem? (i := 1153) (by decide +kernel), List.mem_of_getElem? (i := 1154) (by decide +kernel)⟩
theorem lw_p54 : lw_okq (⟨"BellControllerModel", "carriesOut", "(I)Z"⟩, 53) := ⟨⟨by decide +kernel, by decide +kernel⟩, List.mem_of_getElem? (i := 715) (by decide +kernel), List.mem_of_getElem? (i := 1157) (by decide +kernel), List.mem_of_getElem? (i := 1158) (by decide +kernel)⟩
theorem lw_p55 : lw_okq (⟨"BellControllerModel", "laysShake", "(I)V"⟩, 53) := ⟨⟨by decide +kernel, by decide +kernel⟩, List.mem_of_getElem? (i := 715) (by decide +kernel), List.mem_of_getElem? (i := 1166) (by decide +kernel), List.mem_of_getElem? (i := 1167) (by decide +kernel)⟩
theorem lw_p56 : lw_okq (⟨"BellControllerModel", "forceBy", "(IIII)I"⟩, 53) := ⟨⟨by decide +kernel, by decide +kernel⟩, List.mem_of_getElem? (i := 715) (by decide +kernel), List.mem_of_getElem? (i := 1170) (by decide +kernel), List.mem_of_getElem? (i := 1171) (by decide +kernel)⟩
theorem lw_p57 : lw_okq (⟨"BellControllerModel", "laysStarted", "(II)V"⟩, 53) := ⟨⟨by decide +kernel, by decide +kernel⟩, List.mem_of_getElem? (i := 715) (by decide +kernel), List.mem_of_getElem? (i := 1174) (by decide +kernel), List.mem_of_getElem? (i := 1175) (by decide +kernel)⟩
theorem lw_p58 : lw_okq (⟨"BellControllerModel", "worstBy", "(I)I"⟩, 53) := ⟨⟨by decide +kernel, by decide +kernel⟩, List.mem_of_getElem? (i := 715) (by decide +kernel), List.mem_of_getElem? (i := 1178) (by decide +kernel), List.mem_of_getElem? (i := 1179) (by decide +kernel)⟩
theorem lw_p59 : lw_okq (⟨"BellControllerModel", "farBehind", "(II)I"⟩, 53) := ⟨⟨by decide +kernel, by decide +kernel⟩, List.mem_of_getElem? (i := 715) (by decide +kernel), List.mem_of_getElem? (i := 1205) (by decide +kernel), List.mem_of_getElem? (i := 1206) (by decide +kernel)⟩
def lw_privs_4 : List (MethodName × Nat) := [(⟨"BellControllerModel", "isEntry", "(I)Z"⟩, 53), (⟨"BellControllerModel", "dropsEntry", "(I)V"⟩, 53), (⟨"BellControllerModel", "sounds", "(I)V"⟩, 53), (⟨"BellControllerModel", "records", "(IZ)V"⟩, 53), (⟨"BellControllerModel", "turns", "(I)V"⟩, 53), (⟨"BellControllerModel", "looksAtEntries", "()V"⟩, 53), (⟨"BellControllerModel", "carriesOut", "(I)Z"⟩, 53), (⟨"BellControllerModel", "laysShake", "(I)V"⟩, 53), (⟨"BellControllerModel", "forceBy", "(IIII)I"⟩, 53), (⟨"BellControllerModel", "laysStarted", "(II)V"⟩, 53), (⟨"BellControllerModel", "worstBy", "(I)I"⟩, 53), (⟨"BellControllerModel", "farBehind", "(II)I"⟩, 53)]
theorem lw_r4 : ∀ q ∈ lw_privs_4, lw_okq q := List.forall_mem_cons.mpr ⟨lw_p48, List.forall_mem_cons.mpr ⟨lw_p49, List.forall_mem_cons.mpr ⟨lw_p50, List.forall_mem_cons.mpr ⟨lw_p51, List.forall_mem_cons.mpr ⟨lw_p52, List.forall_mem_cons.mpr ⟨lw_p53, List.forall_mem_cons.mpr ⟨lw_p54, List.forall_mem_cons.mpr ⟨lw_p55, List.forall_mem_cons.mpr ⟨lw_p56, List.forall_mem_cons.mpr ⟨lw_p57, List.forall_mem_cons.mpr ⟨lw_p58, List.forall_mem_cons.mpr ⟨lw_p59, fun _ h => absurd h List.not_mem_nil⟩⟩⟩⟩⟩⟩⟩⟩⟩⟩⟩⟩
def lw_privs : List (MethodName × Nat) := lw_privs_1 ++ (lw_privs_2 ++ (lw_privs_3 ++ (lw_privs_4)))
def lw_tbl : List Cond := k2_sels lw_privs ++ tables_1
theorem lw_privs_ok : ∀ q ∈ lw_privs, lw_okq q := by
  show ∀ q ∈ lw_privs_1 ++ (lw_privs_2 ++ (lw_privs_3 ++ (lw_privs_4))), lw_okq q
  exact List.forall_mem_append.mpr ⟨lw_r1, List.forall_mem_append.mpr ⟨lw_r2, List.forall_mem_append.mpr ⟨lw_r3, lw_r4⟩⟩⟩

def RX0 : String := "BellController$Bell"
def TX0 : u_T := fun k => match k with
  | 0 => ("BellController$Bell", "hammerDelay", "I", false)
  | 1 => ("BellController$Bell", "recovery", "I", false)
  | 2 => ("BellController$Bell", "weight", "I", false)
  | 3 => ("BellController$Bell", "halfPeriod", "I", false)
  | 4 => ("BellController$Bell", "occupiedUntil", "I", false)
  | 5 => ("BellController$Bell", "clapperHeld", "Z", false)
  | 6 => ("BellController$Bell", "swings", "Z", false)
  | 7 => ("BellController$Bell", "motorOn", "Z", false)
  | 8 => ("BellController$Bell", "amplitude", "I", false)
  | 9 => ("BellController$Bell", "side", "I", false)
  | 10 => ("BellController$Bell", "target", "I", false)
  | _ => ("BellController$Bell", "latestTurn", "I", false)
def tyX0 : Nat → FieldType := fun k => match k with
  | 0 => .int
  | 1 => .int
  | 2 => .int
  | 3 => .int
  | 4 => .int
  | 5 => .boolean
  | 6 => .boolean
  | 7 => .boolean
  | 8 => .int
  | 9 => .int
  | 10 => .int
  | _ => .int
abbrev wsX00 : List Cond := u_ws RX0 TX0 12
theorem nmX0 : ∀ a, a < 12 → ∀ b, b < 12 → a ≠ b → (TX0 a).2.1 ≠ (TX0 b).2.1 := by decide +kernel
theorem tyX0_ok : ∀ k, k < 12 → parseFieldDescriptor (TX0 k).2.2.1 = some (tyX0 k) := by decide +kernel
abbrev cX0_init : ByteArray := prog_2_method_1_code
def yX0_init : MethodName := ⟨RX0, "<init>", "()V"⟩
abbrev cX0_copyFrom : ByteArray := prog_2_method_2_code
def yX0_copyFrom : MethodName := ⟨RX0, "copyFrom", "(LBellController$Bell;)V"⟩
abbrev cX0_start : ByteArray := prog_2_method_3_code
def yX0_start : MethodName := ⟨RX0, "start", "(II)V"⟩
abbrev cX0_turnTime : ByteArray := prog_2_method_4_code
def yX0_turnTime : MethodName := ⟨RX0, "turnTime", "()I"⟩
abbrev cX0_turnsAt : ByteArray := prog_2_method_5_code
def yX0_turnsAt : MethodName := ⟨RX0, "turnsAt", "(I)Z"⟩
abbrev cX0_turn : ByteArray := prog_2_method_6_code
def yX0_turn : MethodName := ⟨RX0, "turn", "()V"⟩
abbrev cX0_forceAt : ByteArray := prog_2_method_7_code
def yX0_forceAt : MethodName := ⟨RX0, "forceAt", "(I)I"⟩
abbrev cX0_addForces : ByteArray := prog_2_method_8_code
def yX0_addForces : MethodName := ⟨RX0, "addForces", "([III)V"⟩
def RX1 : String := "BellController$Entry"
def TX1 : u_T := fun k => match k with
  | 0 => ("BellController$Entry", "which", "I", false)
  | 1 => ("BellController$Entry", "due", "I", false)
  | 2 => ("BellController$Entry", "period", "I", false)
  | 3 => ("BellController$Entry", "ticks", "I", false)
  | 4 => ("BellController$Entry", "largestShift", "I", false)
  | _ => ("BellController$Entry", "latestShift", "I", false)
def tyX1 : Nat → FieldType := fun k => match k with
  | 0 => .int
  | 1 => .int
  | 2 => .int
  | 3 => .int
  | 4 => .int
  | _ => .int
abbrev wsX10 : List Cond := u_ws RX1 TX1 6
theorem nmX1 : ∀ a, a < 6 → ∀ b, b < 6 → a ≠ b → (TX1 a).2.1 ≠ (TX1 b).2.1 := by decide +kernel
theorem tyX1_ok : ∀ k, k < 6 → parseFieldDescriptor (TX1 k).2.2.1 = some (tyX1 k) := by decide +kernel
abbrev cX1_init : ByteArray := prog_3_method_1_code
def yX1_init : MethodName := ⟨RX1, "<init>", "()V"⟩
def RX2 : String := "BellController$Pattern"
def TX2 : u_T := fun k => match k with
  | 0 => ("BellController$Pattern", "steps", "[I", true)
  | _ => ("BellController$Pattern", "length", "I", false)
def tyX2 : Nat → FieldType := fun k => match k with
  | 0 => .array .int
  | _ => .int
abbrev wsX20 : List Cond := u_ws RX2 TX2 2
theorem nmX2 : ∀ a, a < 2 → ∀ b, b < 2 → a ≠ b → (TX2 a).2.1 ≠ (TX2 b).2.1 := by decide +kernel
theorem tyX2_ok : ∀ k, k < 2 → parseFieldDescriptor (TX2 k).2.2.1 = some (tyX2 k) := by decide +kernel
abbrev cX2_init : ByteArray := prog_4_method_1_code
def yX2_init : MethodName := ⟨RX2, "<init>", "()V"⟩
abbrev cX2_isMissing : ByteArray := prog_4_method_2_code
def yX2_isMissing : MethodName := ⟨RX2, "isMissing", "()Z"⟩
abbrev cX2_strokesOf : ByteArray := prog_4_method_3_code
def yX2_strokesOf : MethodName := ⟨RX2, "strokesOf", "(I)I"⟩
def RX3 : String := "BellController$PatternReader"
def TX3 : u_T := fun k => match k with
  | 0 => ("BellController$PatternReader", "text", "[I", true)
  | 1 => ("BellController$PatternReader", "textLength", "I", false)
  | 2 => ("BellController$PatternReader", "steps", "[I", true)
  | 3 => ("BellController$PatternReader", "length", "I", false)
  | 4 => ("BellController$PatternReader", "error", "I", false)
  | 5 => ("BellController$PatternReader", "errorPosition", "I", false)
  | 6 => ("BellController$PatternReader", "end", "I", false)
  | 7 => ("BellController$PatternReader", "position", "I", false)
  | 8 => ("BellController$PatternReader", "depth", "I", false)
  | 9 => ("BellController$PatternReader", "groupPosition", "[I", true)
  | _ => ("BellController$PatternReader", "groupStart", "[I", true)
def tyX3 : Nat → FieldType := fun k => match k with
  | 0 => .array .int
  | 1 => .int
  | 2 => .array .int
  | 3 => .int
  | 4 => .int
  | 5 => .int
  | 6 => .int
  | 7 => .int
  | 8 => .int
  | 9 => .array .int
  | _ => .array .int
abbrev wsX30 : List Cond := u_ws RX3 TX3 11
theorem nmX3 : ∀ a, a < 11 → ∀ b, b < 11 → a ≠ b → (TX3 a).2.1 ≠ (TX3 b).2.1 := by decide +kernel
theorem tyX3_ok : ∀ k, k < 11 → parseFieldDescriptor (TX3 k).2.2.1 = some (tyX3 k) := by decide +kernel
abbrev cX3_init : ByteArray := prog_5_method_1_code
def yX3_init : MethodName := ⟨RX3, "<init>", "()V"⟩
abbrev cX3_append : ByteArray := prog_5_method_2_code
def yX3_append : MethodName := ⟨RX3, "append", "(I)V"⟩
abbrev cX3_read : ByteArray := prog_5_method_3_code
def yX3_read : MethodName := ⟨RX3, "read", "(I)V"⟩
abbrev cX3_fail : ByteArray := prog_5_method_4_code
def yX3_fail : MethodName := ⟨RX3, "fail", "(II)V"⟩
abbrev cX3_readNext : ByteArray := prog_5_method_5_code
def yX3_readNext : MethodName := ⟨RX3, "readNext", "()V"⟩
abbrev cX3_signAt : ByteArray := prog_5_method_6_code
def yX3_signAt : MethodName := ⟨RX3, "signAt", "(I)I"⟩
abbrev cX3_isLetter : ByteArray := prog_5_method_7_code
def yX3_isLetter : MethodName := ⟨RX3, "isLetter", "(I)Z"⟩
abbrev cX3_isDigit : ByteArray := prog_5_method_8_code
def yX3_isDigit : MethodName := ⟨RX3, "isDigit", "(I)Z"⟩
abbrev cX3_readStep : ByteArray := prog_5_method_9_code
def yX3_readStep : MethodName := ⟨RX3, "readStep", "()V"⟩
abbrev cX3_readNumber : ByteArray := prog_5_method_10_code
def yX3_readNumber : MethodName := ⟨RX3, "readNumber", "()I"⟩
abbrev cX3_openGroup : ByteArray := prog_5_method_11_code
def yX3_openGroup : MethodName := ⟨RX3, "openGroup", "()V"⟩
abbrev cX3_closeGroup : ByteArray := prog_5_method_12_code
def yX3_closeGroup : MethodName := ⟨RX3, "closeGroup", "()V"⟩
abbrev cX3_repeatGroup : ByteArray := prog_5_method_13_code
def yX3_repeatGroup : MethodName := ⟨RX3, "repeatGroup", "(II)V"⟩
def RX4 : String := "BellController$Schedule"
def TX4 : u_T := fun k => match k with
  | 0 => ("BellController$Schedule", "bells", "[I", true)
  | 1 => ("BellController$Schedule", "commands", "[I", true)
  | 2 => ("BellController$Schedule", "times", "[I", true)
  | 3 => ("BellController$Schedule", "changes", "[I", true)
  | _ => ("BellController$Schedule", "count", "I", false)
def tyX4 : Nat → FieldType := fun k => match k with
  | 0 => .array .int
  | 1 => .array .int
  | 2 => .array .int
  | 3 => .array .int
  | _ => .int
abbrev wsX40 : List Cond := u_ws RX4 TX4 5
theorem nmX4 : ∀ a, a < 5 → ∀ b, b < 5 → a ≠ b → (TX4 a).2.1 ≠ (TX4 b).2.1 := by decide +kernel
theorem tyX4_ok : ∀ k, k < 5 → parseFieldDescriptor (TX4 k).2.2.1 = some (tyX4 k) := by decide +kernel
abbrev cX4_init : ByteArray := prog_6_method_1_code
def yX4_init : MethodName := ⟨RX4, "<init>", "()V"⟩
abbrev cX4_isFull : ByteArray := prog_6_method_2_code
def yX4_isFull : MethodName := ⟨RX4, "isFull", "()Z"⟩
abbrev cX4_copyFrom : ByteArray := prog_6_method_3_code
def yX4_copyFrom : MethodName := ⟨RX4, "copyFrom", "(LBellController$Schedule;)V"⟩
abbrev cX4_rankOf : ByteArray := prog_6_method_4_code
def yX4_rankOf : MethodName := ⟨RX4, "rankOf", "(I)I"⟩
abbrev cX4_insert : ByteArray := prog_6_method_5_code
def yX4_insert : MethodName := ⟨RX4, "insert", "(III)V"⟩
abbrev cX4_removeAt : ByteArray := prog_6_method_6_code
def yX4_removeAt : MethodName := ⟨RX4, "removeAt", "(I)V"⟩
abbrev cX4_indexOf : ByteArray := prog_6_method_7_code
def yX4_indexOf : MethodName := ⟨RX4, "indexOf", "(II)I"⟩
abbrev cX4_firstTimeOf : ByteArray := prog_6_method_8_code
def yX4_firstTimeOf : MethodName := ⟨RX4, "firstTimeOf", "(I)I"⟩
abbrev cX4_movingAt : ByteArray := prog_6_method_9_code
def yX4_movingAt : MethodName := ⟨RX4, "movingAt", "(I)I"⟩
abbrev cX4_takeSounding : ByteArray := prog_6_method_10_code
def yX4_takeSounding : MethodName := ⟨RX4, "takeSounding", "(I)I"⟩
abbrev cX4_clashes : ByteArray := prog_6_method_11_code
def yX4_clashes : MethodName := ⟨RX4, "clashes", "(IIIII)Z"⟩
abbrev cX4_overloads : ByteArray := prog_6_method_12_code
def yX4_overloads : MethodName := ⟨RX4, "overloads", "(IIII)Z"⟩
def RX5 : String := "BellController$StrokeLog"
def TX5 : u_T := fun k => match k with
  | 0 => ("BellController$StrokeLog", "bells", "[I", true)
  | 1 => ("BellController$StrokeLog", "times", "[I", true)
  | 2 => ("BellController$StrokeLog", "clappers", "[I", true)
  | 3 => ("BellController$StrokeLog", "length", "I", false)
  | _ => ("BellController$StrokeLog", "next", "I", false)
def tyX5 : Nat → FieldType := fun k => match k with
  | 0 => .array .int
  | 1 => .array .int
  | 2 => .array .int
  | 3 => .int
  | _ => .int
abbrev wsX50 : List Cond := u_ws RX5 TX5 5
theorem nmX5 : ∀ a, a < 5 → ∀ b, b < 5 → a ≠ b → (TX5 a).2.1 ≠ (TX5 b).2.1 := by decide +kernel
theorem tyX5_ok : ∀ k, k < 5 → parseFieldDescriptor (TX5 k).2.2.1 = some (tyX5 k) := by decide +kernel
abbrev cX5_init : ByteArray := prog_7_method_1_code
def yX5_init : MethodName := ⟨RX5, "<init>", "()V"⟩
abbrev cX5_add : ByteArray := prog_7_method_2_code
def yX5_add : MethodName := ⟨RX5, "add", "(III)V"⟩
abbrev cX5_slotOf : ByteArray := prog_7_method_3_code
def yX5_slotOf : MethodName := ⟨RX5, "slotOf", "(I)I"⟩
def RX6 : String := "BellController"
def TX6 : u_T := fun k => match k with
  | 0 => ("BellController", "bells", "[LBellController$Bell;", true)
  | 1 => ("BellController", "imagined", "LBellController$Bell;", true)
  | 2 => ("BellController", "log", "LBellController$StrokeLog;", true)
  | 3 => ("BellController", "schedule", "LBellController$Schedule;", true)
  | 4 => ("BellController", "draft", "LBellController$Schedule;", true)
  | 5 => ("BellController", "reader", "LBellController$PatternReader;", true)
  | 6 => ("BellController", "patterns", "[LBellController$Pattern;", true)
  | 7 => ("BellController", "entries", "[LBellController$Entry;", true)
  | 8 => ("BellController", "shakes", "[I", true)
  | 9 => ("BellController", "startedForces", "[I", true)
  | 10 => ("BellController", "movingBells", "[I", true)
  | 11 => ("BellController", "bellsAdded", "I", false)
  | 12 => ("BellController", "entriesAdded", "I", false)
  | 13 => ("BellController", "now", "I", false)
  | 14 => ("BellController", "powerLimit", "I", false)
  | 15 => ("BellController", "shakeLimit", "I", false)
  | _ => ("BellController", "failures", "I", false)
def tyX6 : Nat → FieldType := fun k => match k with
  | 0 => .array (.object "BellController$Bell")
  | 1 => .object "BellController$Bell"
  | 2 => .object "BellController$StrokeLog"
  | 3 => .object "BellController$Schedule"
  | 4 => .object "BellController$Schedule"
  | 5 => .object "BellController$PatternReader"
  | 6 => .array (.object "BellController$Pattern")
  | 7 => .array (.object "BellController$Entry")
  | 8 => .array .int
  | 9 => .array .int
  | 10 => .array .int
  | 11 => .int
  | 12 => .int
  | 13 => .int
  | 14 => .int
  | 15 => .int
  | _ => .int
abbrev wsX60 : List Cond := u_ws RX6 TX6 17
theorem nmX6 : ∀ a, a < 17 → ∀ b, b < 17 → a ≠ b → (TX6 a).2.1 ≠ (TX6 b).2.1 := by decide +kernel
theorem tyX6_ok : ∀ k, k < 17 → parseFieldDescriptor (TX6 k).2.2.1 = some (tyX6 k) := by decide +kernel
abbrev cX6_init : ByteArray := prog_1_method_1_code
def yX6_init : MethodName := ⟨RX6, "<init>", "()V"⟩
abbrev cX6_addBell : ByteArray := prog_1_method_2_code
def yX6_addBell : MethodName := ⟨RX6, "addBell", "(IIII)I"⟩
abbrev cX6_bellCount : ByteArray := prog_1_method_3_code
def yX6_bellCount : MethodName := ⟨RX6, "bellCount", "()I"⟩
abbrev cX6_delay : ByteArray := prog_1_method_4_code
def yX6_delay : MethodName := ⟨RX6, "delay", "(I)I"⟩
abbrev cX6_calibrate : ByteArray := prog_1_method_5_code
def yX6_calibrate : MethodName := ⟨RX6, "calibrate", "(II)I"⟩
abbrev cX6_setPowerLimit : ByteArray := prog_1_method_6_code
def yX6_setPowerLimit : MethodName := ⟨RX6, "setPowerLimit", "(I)I"⟩
abbrev cX6_currentTime : ByteArray := prog_1_method_7_code
def yX6_currentTime : MethodName := ⟨RX6, "currentTime", "()I"⟩
abbrev cX6_advance : ByteArray := prog_1_method_8_code
def yX6_advance : MethodName := ⟨RX6, "advance", "(I)I"⟩
abbrev cX6_recordLength : ByteArray := prog_1_method_9_code
def yX6_recordLength : MethodName := ⟨RX6, "recordLength", "()I"⟩
abbrev cX6_recordBell : ByteArray := prog_1_method_10_code
def yX6_recordBell : MethodName := ⟨RX6, "recordBell", "(I)I"⟩
abbrev cX6_recordTime : ByteArray := prog_1_method_11_code
def yX6_recordTime : MethodName := ⟨RX6, "recordTime", "(I)I"⟩
abbrev cX6_recordClapper : ByteArray := prog_1_method_12_code
def yX6_recordClapper : MethodName := ⟨RX6, "recordClapper", "(I)I"⟩
abbrev cX6_scheduleStroke : ByteArray := prog_1_method_13_code
def yX6_scheduleStroke : MethodName := ⟨RX6, "scheduleStroke", "(II)I"⟩
abbrev cX6_cancelStroke : ByteArray := prog_1_method_14_code
def yX6_cancelStroke : MethodName := ⟨RX6, "cancelStroke", "(II)I"⟩
abbrev cX6_scheduledCount : ByteArray := prog_1_method_15_code
def yX6_scheduledCount : MethodName := ⟨RX6, "scheduledCount", "()I"⟩
abbrev cX6_nextStroke : ByteArray := prog_1_method_16_code
def yX6_nextStroke : MethodName := ⟨RX6, "nextStroke", "(I)I"⟩
abbrev cX6_commandTime : ByteArray := prog_1_method_17_code
def yX6_commandTime : MethodName := ⟨RX6, "commandTime", "(I)I"⟩
abbrev cX6_commandBell : ByteArray := prog_1_method_18_code
def yX6_commandBell : MethodName := ⟨RX6, "commandBell", "(I)I"⟩
abbrev cX6_movingHammers : ByteArray := prog_1_method_19_code
def yX6_movingHammers : MethodName := ⟨RX6, "movingHammers", "(I)I"⟩
abbrev cX6_earliestStroke : ByteArray := prog_1_method_20_code
def yX6_earliestStroke : MethodName := ⟨RX6, "earliestStroke", "(II)I"⟩
abbrev cX6_appendBytes : ByteArray := prog_1_method_21_code
def yX6_appendBytes : MethodName := ⟨RX6, "appendBytes", "(IIIII)I"⟩
abbrev cX6_loadPattern : ByteArray := prog_1_method_22_code
def yX6_loadPattern : MethodName := ⟨RX6, "loadPattern", "(II)I"⟩
abbrev cX6_patternError : ByteArray := prog_1_method_23_code
def yX6_patternError : MethodName := ⟨RX6, "patternError", "()I"⟩
abbrev cX6_patternErrorPosition : ByteArray := prog_1_method_24_code
def yX6_patternErrorPosition : MethodName := ⟨RX6, "patternErrorPosition", "()I"⟩
abbrev cX6_stepBells : ByteArray := prog_1_method_25_code
def yX6_stepBells : MethodName := ⟨RX6, "stepBells", "(II)I"⟩
abbrev cX6_patternStrokes : ByteArray := prog_1_method_26_code
def yX6_patternStrokes : MethodName := ⟨RX6, "patternStrokes", "(I)I"⟩
abbrev cX6_play : ByteArray := prog_1_method_27_code
def yX6_play : MethodName := ⟨RX6, "play", "(III)I"⟩
abbrev cX6_weave : ByteArray := prog_1_method_28_code
def yX6_weave : MethodName := ⟨RX6, "weave", "(IIII)I"⟩
abbrev cX6_fastestTicks : ByteArray := prog_1_method_29_code
def yX6_fastestTicks : MethodName := ⟨RX6, "fastestTicks", "(I)I"⟩
abbrev cX6_powerNeeded : ByteArray := prog_1_method_30_code
def yX6_powerNeeded : MethodName := ⟨RX6, "powerNeeded", "(II)I"⟩
abbrev cX6_addEntry : ByteArray := prog_1_method_31_code
def yX6_addEntry : MethodName := ⟨RX6, "addEntry", "(IIIII)I"⟩
abbrev cX6_removeEntry : ByteArray := prog_1_method_32_code
def yX6_removeEntry : MethodName := ⟨RX6, "removeEntry", "(I)I"⟩
abbrev cX6_entryCount : ByteArray := prog_1_method_33_code
def yX6_entryCount : MethodName := ⟨RX6, "entryCount", "()I"⟩
abbrev cX6_dueTime : ByteArray := prog_1_method_34_code
def yX6_dueTime : MethodName := ⟨RX6, "dueTime", "(I)I"⟩
abbrev cX6_lastShift : ByteArray := prog_1_method_35_code
def yX6_lastShift : MethodName := ⟨RX6, "lastShift", "(I)I"⟩
abbrev cX6_failureCount : ByteArray := prog_1_method_36_code
def yX6_failureCount : MethodName := ⟨RX6, "failureCount", "()I"⟩
abbrev cX6_startSwing : ByteArray := prog_1_method_37_code
def yX6_startSwing : MethodName := ⟨RX6, "startSwing", "(II)I"⟩
abbrev cX6_stopMotor : ByteArray := prog_1_method_38_code
def yX6_stopMotor : MethodName := ⟨RX6, "stopMotor", "(I)I"⟩
abbrev cX6_holdClapper : ByteArray := prog_1_method_39_code
def yX6_holdClapper : MethodName := ⟨RX6, "holdClapper", "(IZ)I"⟩
abbrev cX6_amplitude : ByteArray := prog_1_method_40_code
def yX6_amplitude : MethodName := ⟨RX6, "amplitude", "(I)I"⟩
abbrev cX6_nextTurn : ByteArray := prog_1_method_41_code
def yX6_nextTurn : MethodName := ⟨RX6, "nextTurn", "(I)I"⟩
abbrev cX6_amplitudeAfter : ByteArray := prog_1_method_42_code
def yX6_amplitudeAfter : MethodName := ⟨RX6, "amplitudeAfter", "(II)I"⟩
abbrev cX6_turnsUntilLoud : ByteArray := prog_1_method_43_code
def yX6_turnsUntilLoud : MethodName := ⟨RX6, "turnsUntilLoud", "(I)I"⟩
abbrev cX6_force : ByteArray := prog_1_method_44_code
def yX6_force : MethodName := ⟨RX6, "force", "(I)I"⟩
abbrev cX6_shake : ByteArray := prog_1_method_45_code
def yX6_shake : MethodName := ⟨RX6, "shake", "(I)I"⟩
abbrev cX6_greatestShake : ByteArray := prog_1_method_46_code
def yX6_greatestShake : MethodName := ⟨RX6, "greatestShake", "(I)I"⟩
abbrev cX6_setShakeLimit : ByteArray := prog_1_method_47_code
def yX6_setShakeLimit : MethodName := ⟨RX6, "setShakeLimit", "(I)I"⟩
abbrev cX6_calmestWait : ByteArray := prog_1_method_48_code
def yX6_calmestWait : MethodName := ⟨RX6, "calmestWait", "(II)I"⟩
abbrev cX6_outside : ByteArray := prog_1_method_49_code
def yX6_outside : MethodName := ⟨RX6, "outside", "(III)Z"⟩
abbrev cX6_clear : ByteArray := prog_1_method_50_code
def yX6_clear : MethodName := ⟨RX6, "clear", "([I)V"⟩
abbrev cX6_isBell : ByteArray := prog_1_method_51_code
def yX6_isBell : MethodName := ⟨RX6, "isBell", "(I)Z"⟩
abbrev cX6_isPattern : ByteArray := prog_1_method_52_code
def yX6_isPattern : MethodName := ⟨RX6, "isPattern", "(I)Z"⟩
abbrev cX6_isEntry : ByteArray := prog_1_method_53_code
def yX6_isEntry : MethodName := ⟨RX6, "isEntry", "(I)Z"⟩
abbrev cX6_existingBells : ByteArray := prog_1_method_54_code
def yX6_existingBells : MethodName := ⟨RX6, "existingBells", "()I"⟩
abbrev cX6_soundHammers : ByteArray := prog_1_method_55_code
def yX6_soundHammers : MethodName := ⟨RX6, "soundHammers", "()I"⟩
abbrev cX6_turnBells : ByteArray := prog_1_method_56_code
def yX6_turnBells : MethodName := ⟨RX6, "turnBells", "()I"⟩
abbrev cX6_runProgramme : ByteArray := prog_1_method_57_code
def yX6_runProgramme : MethodName := ⟨RX6, "runProgramme", "()V"⟩
abbrev cX6_carryOut : ByteArray := prog_1_method_58_code
def yX6_carryOut : MethodName := ⟨RX6, "carryOut", "(LBellController$Entry;)Z"⟩
abbrev cX6_dropEntry : ByteArray := prog_1_method_59_code
def yX6_dropEntry : MethodName := ⟨RX6, "dropEntry", "(I)V"⟩
abbrev cX6_examine : ByteArray := prog_1_method_60_code
def yX6_examine : MethodName := ⟨RX6, "examine", "(LBellController$Schedule;II)I"⟩
abbrev cX6_draftPattern : ByteArray := prog_1_method_61_code
def yX6_draftPattern : MethodName := ⟨RX6, "draftPattern", "(LBellController$Pattern;II)I"⟩
abbrev cX6_weaveFrom : ByteArray := prog_1_method_62_code
def yX6_weaveFrom : MethodName := ⟨RX6, "weaveFrom", "(LBellController$Pattern;III)I"⟩
abbrev cX6_readyTime : ByteArray := prog_1_method_63_code
def yX6_readyTime : MethodName := ⟨RX6, "readyTime", "(LBellController$Pattern;I)I"⟩
abbrev cX6_swingsIn : ByteArray := prog_1_method_64_code
def yX6_swingsIn : MethodName := ⟨RX6, "swingsIn", "(LBellController$Pattern;)Z"⟩
abbrev cX6_fitsAlone : ByteArray := prog_1_method_65_code
def yX6_fitsAlone : MethodName := ⟨RX6, "fitsAlone", "(LBellController$Pattern;I)Z"⟩
abbrev cX6_listMovingBells : ByteArray := prog_1_method_66_code
def yX6_listMovingBells : MethodName := ⟨RX6, "listMovingBells", "()V"⟩
abbrev cX6_movingBefore : ByteArray := prog_1_method_67_code
def yX6_movingBefore : MethodName := ⟨RX6, "movingBefore", "(LBellController$Pattern;II)I"⟩
abbrev cX6_foreseeShakes : ByteArray := prog_1_method_68_code
def yX6_foreseeShakes : MethodName := ⟨RX6, "foreseeShakes", "(I)V"⟩
abbrev cX6_greatestUpTo : ByteArray := prog_1_method_69_code
def yX6_greatestUpTo : MethodName := ⟨RX6, "greatestUpTo", "(I)I"⟩
abbrev cX6_greatestIfStartedAfter : ByteArray := prog_1_method_70_code
def yX6_greatestIfStartedAfter : MethodName := ⟨RX6, "greatestIfStartedAfter", "(II)I"⟩
def RX7 : String := "BellControllerModel"
def TX7 : u_T := fun k => match k with
  | 0 => ("BellControllerModel", "thrown", "I", false)
  | 1 => ("BellControllerModel", "delayOf", "[I", true)
  | 2 => ("BellControllerModel", "recovery", "[I", true)
  | 3 => ("BellControllerModel", "weight", "[I", true)
  | 4 => ("BellControllerModel", "half", "[I", true)
  | 5 => ("BellControllerModel", "occupiedTo", "[I", true)
  | 6 => ("BellControllerModel", "bells", "I", false)
  | 7 => ("BellControllerModel", "powerLimit", "I", false)
  | 8 => ("BellControllerModel", "shakeLimit", "I", false)
  | 9 => ("BellControllerModel", "now", "I", false)
  | 10 => ("BellControllerModel", "recordedBell", "[I", true)
  | 11 => ("BellControllerModel", "recordedTime", "[I", true)
  | 12 => ("BellControllerModel", "byClapper", "[Z", true)
  | 13 => ("BellControllerModel", "recorded", "I", false)
  | 14 => ("BellControllerModel", "strokeBell", "[I", true)
  | 15 => ("BellControllerModel", "strokeTime", "[I", true)
  | 16 => ("BellControllerModel", "strokeCommand", "[I", true)
  | 17 => ("BellControllerModel", "moving", "[I", true)
  | 18 => ("BellControllerModel", "strokes", "I", false)
  | 19 => ("BellControllerModel", "buffer", "[I", true)
  | 20 => ("BellControllerModel", "steps", "[I", true)
  | 21 => ("BellControllerModel", "stepMany", "[I", true)
  | 22 => ("BellControllerModel", "fresh", "[I", true)
  | 23 => ("BellControllerModel", "buffered", "I", false)
  | 24 => ("BellControllerModel", "size", "I", false)
  | 25 => ("BellControllerModel", "at", "I", false)
  | 26 => ("BellControllerModel", "made", "I", false)
  | 27 => ("BellControllerModel", "wrong", "I", false)
  | 28 => ("BellControllerModel", "wrongAt", "I", false)
  | 29 => ("BellControllerModel", "faultKind", "I", false)
  | 30 => ("BellControllerModel", "faultAt", "I", false)
  | 31 => ("BellControllerModel", "keptBell", "[I", true)
  | 32 => ("BellControllerModel", "keptTime", "[I", true)
  | 33 => ("BellControllerModel", "keptCommand", "[I", true)
  | 34 => ("BellControllerModel", "keptTo", "[I", true)
  | 35 => ("BellControllerModel", "keptSwings", "[Z", true)
  | 36 => ("BellControllerModel", "entryWhich", "[I", true)
  | 37 => ("BellControllerModel", "entryDue", "[I", true)
  | 38 => ("BellControllerModel", "entryPeriod", "[I", true)
  | 39 => ("BellControllerModel", "entryTicks", "[I", true)
  | 40 => ("BellControllerModel", "entryShift", "[I", true)
  | 41 => ("BellControllerModel", "entryLast", "[I", true)
  | 42 => ("BellControllerModel", "entries", "I", false)
  | 43 => ("BellControllerModel", "failures", "I", false)
  | 44 => ("BellControllerModel", "swings", "[Z", true)
  | 45 => ("BellControllerModel", "isHeld", "[Z", true)
  | 46 => ("BellControllerModel", "hasMotor", "[Z", true)
  | 47 => ("BellControllerModel", "far", "[I", true)
  | 48 => ("BellControllerModel", "side", "[I", true)
  | 49 => ("BellControllerModel", "target", "[I", true)
  | 50 => ("BellControllerModel", "turn", "[I", true)
  | 51 => ("BellControllerModel", "shaken", "[I", true)
  | _ => ("BellControllerModel", "started", "[I", true)
def tyX7 : Nat → FieldType := fun k => match k with
  | 0 => .int
  | 1 => .array .int
  | 2 => .array .int
  | 3 => .array .int
  | 4 => .array .int
  | 5 => .array .int
  | 6 => .int
  | 7 => .int
  | 8 => .int
  | 9 => .int
  | 10 => .array .int
  | 11 => .array .int
  | 12 => .array .boolean
  | 13 => .int
  | 14 => .array .int
  | 15 => .array .int
  | 16 => .array .int
  | 17 => .array .int
  | 18 => .int
  | 19 => .array .int
  | 20 => .array .int
  | 21 => .array .int
  | 22 => .array .int
  | 23 => .int
  | 24 => .int
  | 25 => .int
  | 26 => .int
  | 27 => .int
  | 28 => .int
  | 29 => .int
  | 30 => .int
  | 31 => .array .int
  | 32 => .array .int
  | 33 => .array .int
  | 34 => .array .int
  | 35 => .array .boolean
  | 36 => .array .int
  | 37 => .array .int
  | 38 => .array .int
  | 39 => .array .int
  | 40 => .array .int
  | 41 => .array .int
  | 42 => .int
  | 43 => .int
  | 44 => .array .boolean
  | 45 => .array .boolean
  | 46 => .array .boolean
  | 47 => .array .int
  | 48 => .array .int
  | 49 => .array .int
  | 50 => .array .int
  | 51 => .array .int
  | _ => .array .int
abbrev wsX70 : List Cond := u_ws RX7 TX7 53
theorem nmX7 : ∀ a, a < 53 → ∀ b, b < 53 → a ≠ b → (TX7 a).2.1 ≠ (TX7 b).2.1 := by decide +kernel
theorem tyX7_ok : ∀ k, k < 53 → parseFieldDescriptor (TX7 k).2.2.1 = some (tyX7 k) := by decide +kernel
abbrev cX7_isIn : ByteArray := prog_9_method_2_code
def yX7_isIn : MethodName := ⟨RX7, "isIn", "(JJJ)Z"⟩
abbrev cX7_init : ByteArray := prog_9_method_3_code
def yX7_init : MethodName := ⟨RX7, "<init>", "()V"⟩
abbrev cX7_isBell : ByteArray := prog_9_method_4_code
def yX7_isBell : MethodName := ⟨RX7, "isBell", "(I)Z"⟩
abbrev cX7_addBell : ByteArray := prog_9_method_5_code
def yX7_addBell : MethodName := ⟨RX7, "addBell", "(IIII)I"⟩
abbrev cX7_bellCount : ByteArray := prog_9_method_6_code
def yX7_bellCount : MethodName := ⟨RX7, "bellCount", "()I"⟩
abbrev cX7_delay : ByteArray := prog_9_method_7_code
def yX7_delay : MethodName := ⟨RX7, "delay", "(I)I"⟩
abbrev cX7_calibrate : ByteArray := prog_9_method_8_code
def yX7_calibrate : MethodName := ⟨RX7, "calibrate", "(II)I"⟩
abbrev cX7_setPowerLimit : ByteArray := prog_9_method_9_code
def yX7_setPowerLimit : MethodName := ⟨RX7, "setPowerLimit", "(I)I"⟩
abbrev cX7_records : ByteArray := prog_9_method_10_code
def yX7_records : MethodName := ⟨RX7, "records", "(IZ)V"⟩
abbrev cX7_recordMany : ByteArray := prog_9_method_11_code
def yX7_recordMany : MethodName := ⟨RX7, "recordMany", "()I"⟩
abbrev cX7_recordAt : ByteArray := prog_9_method_12_code
def yX7_recordAt : MethodName := ⟨RX7, "recordAt", "(I)I"⟩
abbrev cX7_currentTime : ByteArray := prog_9_method_13_code
def yX7_currentTime : MethodName := ⟨RX7, "currentTime", "()I"⟩
abbrev cX7_recordLength : ByteArray := prog_9_method_14_code
def yX7_recordLength : MethodName := ⟨RX7, "recordLength", "()I"⟩
abbrev cX7_recordBell : ByteArray := prog_9_method_15_code
def yX7_recordBell : MethodName := ⟨RX7, "recordBell", "(I)I"⟩
abbrev cX7_recordTime : ByteArray := prog_9_method_16_code
def yX7_recordTime : MethodName := ⟨RX7, "recordTime", "(I)I"⟩
abbrev cX7_recordClapper : ByteArray := prog_9_method_17_code
def yX7_recordClapper : MethodName := ⟨RX7, "recordClapper", "(I)I"⟩
abbrev cX7_refuses : ByteArray := prog_9_method_18_code
def yX7_refuses : MethodName := ⟨RX7, "refuses", "(IJ)I"⟩
abbrev cX7_schedules : ByteArray := prog_9_method_19_code
def yX7_schedules : MethodName := ⟨RX7, "schedules", "(II)V"⟩
abbrev cX7_removes : ByteArray := prog_9_method_20_code
def yX7_removes : MethodName := ⟨RX7, "removes", "(I)V"⟩
abbrev cX7_strokeOf : ByteArray := prog_9_method_21_code
def yX7_strokeOf : MethodName := ⟨RX7, "strokeOf", "(II)I"⟩
abbrev cX7_scheduleStroke : ByteArray := prog_9_method_22_code
def yX7_scheduleStroke : MethodName := ⟨RX7, "scheduleStroke", "(II)I"⟩
abbrev cX7_cancelStroke : ByteArray := prog_9_method_23_code
def yX7_cancelStroke : MethodName := ⟨RX7, "cancelStroke", "(II)I"⟩
abbrev cX7_scheduledCount : ByteArray := prog_9_method_24_code
def yX7_scheduledCount : MethodName := ⟨RX7, "scheduledCount", "()I"⟩
abbrev cX7_nextOf : ByteArray := prog_9_method_25_code
def yX7_nextOf : MethodName := ⟨RX7, "nextOf", "(I)I"⟩
abbrev cX7_nextStroke : ByteArray := prog_9_method_26_code
def yX7_nextStroke : MethodName := ⟨RX7, "nextStroke", "(I)I"⟩
abbrev cX7_ranked : ByteArray := prog_9_method_27_code
def yX7_ranked : MethodName := ⟨RX7, "ranked", "(I)I"⟩
abbrev cX7_commandTime : ByteArray := prog_9_method_28_code
def yX7_commandTime : MethodName := ⟨RX7, "commandTime", "(I)I"⟩
abbrev cX7_commandBell : ByteArray := prog_9_method_29_code
def yX7_commandBell : MethodName := ⟨RX7, "commandBell", "(I)I"⟩
abbrev cX7_movingHammers : ByteArray := prog_9_method_30_code
def yX7_movingHammers : MethodName := ⟨RX7, "movingHammers", "(I)I"⟩
abbrev cX7_earliestStroke : ByteArray := prog_9_method_31_code
def yX7_earliestStroke : MethodName := ⟨RX7, "earliestStroke", "(II)I"⟩
abbrev cX7_appendBytes : ByteArray := prog_9_method_32_code
def yX7_appendBytes : MethodName := ⟨RX7, "appendBytes", "(IIIII)I"⟩
abbrev cX7_fails : ByteArray := prog_9_method_33_code
def yX7_fails : MethodName := ⟨RX7, "fails", "(II)V"⟩
abbrev cX7_here : ByteArray := prog_9_method_34_code
def yX7_here : MethodName := ⟨RX7, "here", "()I"⟩
abbrev cX7_isDigit : ByteArray := prog_9_method_35_code
def yX7_isDigit : MethodName := ⟨RX7, "isDigit", "()Z"⟩
abbrev cX7_isLetter : ByteArray := prog_9_method_36_code
def yX7_isLetter : MethodName := ⟨RX7, "isLetter", "()Z"⟩
abbrev cX7_number : ByteArray := prog_9_method_37_code
def yX7_number : MethodName := ⟨RX7, "number", "()I"⟩
abbrev cX7_readsItems : ByteArray := prog_9_method_38_code
def yX7_readsItems : MethodName := ⟨RX7, "readsItems", "(I)V"⟩
abbrev cX7_readsItem : ByteArray := prog_9_method_39_code
def yX7_readsItem : MethodName := ⟨RX7, "readsItem", "(I)V"⟩
abbrev cX7_readsGroup : ByteArray := prog_9_method_40_code
def yX7_readsGroup : MethodName := ⟨RX7, "readsGroup", "(I)V"⟩
abbrev cX7_isPattern : ByteArray := prog_9_method_41_code
def yX7_isPattern : MethodName := ⟨RX7, "isPattern", "(I)Z"⟩
abbrev cX7_loadPattern : ByteArray := prog_9_method_42_code
def yX7_loadPattern : MethodName := ⟨RX7, "loadPattern", "(II)I"⟩
abbrev cX7_patternError : ByteArray := prog_9_method_43_code
def yX7_patternError : MethodName := ⟨RX7, "patternError", "()I"⟩
abbrev cX7_patternErrorPosition : ByteArray := prog_9_method_44_code
def yX7_patternErrorPosition : MethodName := ⟨RX7, "patternErrorPosition", "()I"⟩
abbrev cX7_stepBells : ByteArray := prog_9_method_45_code
def yX7_stepBells : MethodName := ⟨RX7, "stepBells", "(II)I"⟩
abbrev cX7_patternStrokes : ByteArray := prog_9_method_46_code
def yX7_patternStrokes : MethodName := ⟨RX7, "patternStrokes", "(I)I"⟩
abbrev cX7_plays : ByteArray := prog_9_method_47_code
def yX7_plays : MethodName := ⟨RX7, "plays", "(III)I"⟩
abbrev cX7_play : ByteArray := prog_9_method_48_code
def yX7_play : MethodName := ⟨RX7, "play", "(III)I"⟩
abbrev cX7_weaves : ByteArray := prog_9_method_49_code
def yX7_weaves : MethodName := ⟨RX7, "weaves", "(IIII)I"⟩
abbrev cX7_weave : ByteArray := prog_9_method_50_code
def yX7_weave : MethodName := ⟨RX7, "weave", "(IIII)I"⟩
abbrev cX7_isPlayable : ByteArray := prog_9_method_51_code
def yX7_isPlayable : MethodName := ⟨RX7, "isPlayable", "(II)Z"⟩
abbrev cX7_fastestTicks : ByteArray := prog_9_method_52_code
def yX7_fastestTicks : MethodName := ⟨RX7, "fastestTicks", "(I)I"⟩
abbrev cX7_movesAt : ByteArray := prog_9_method_53_code
def yX7_movesAt : MethodName := ⟨RX7, "movesAt", "(III)I"⟩
abbrev cX7_powerNeeded : ByteArray := prog_9_method_54_code
def yX7_powerNeeded : MethodName := ⟨RX7, "powerNeeded", "(II)I"⟩
abbrev cX7_isEntry : ByteArray := prog_9_method_55_code
def yX7_isEntry : MethodName := ⟨RX7, "isEntry", "(I)Z"⟩
abbrev cX7_addEntry : ByteArray := prog_9_method_56_code
def yX7_addEntry : MethodName := ⟨RX7, "addEntry", "(IIIII)I"⟩
abbrev cX7_dropsEntry : ByteArray := prog_9_method_57_code
def yX7_dropsEntry : MethodName := ⟨RX7, "dropsEntry", "(I)V"⟩
abbrev cX7_removeEntry : ByteArray := prog_9_method_58_code
def yX7_removeEntry : MethodName := ⟨RX7, "removeEntry", "(I)I"⟩
abbrev cX7_entryCount : ByteArray := prog_9_method_59_code
def yX7_entryCount : MethodName := ⟨RX7, "entryCount", "()I"⟩
abbrev cX7_dueTime : ByteArray := prog_9_method_60_code
def yX7_dueTime : MethodName := ⟨RX7, "dueTime", "(I)I"⟩
abbrev cX7_lastShift : ByteArray := prog_9_method_61_code
def yX7_lastShift : MethodName := ⟨RX7, "lastShift", "(I)I"⟩
abbrev cX7_failureCount : ByteArray := prog_9_method_62_code
def yX7_failureCount : MethodName := ⟨RX7, "failureCount", "()I"⟩
abbrev cX7_carriesOut : ByteArray := prog_9_method_63_code
def yX7_carriesOut : MethodName := ⟨RX7, "carriesOut", "(I)Z"⟩
abbrev cX7_looksAtEntries : ByteArray := prog_9_method_64_code
def yX7_looksAtEntries : MethodName := ⟨RX7, "looksAtEntries", "()V"⟩
abbrev cX7_turned : ByteArray := prog_9_method_65_code
def yX7_turned : MethodName := ⟨RX7, "turned", "(IZI)I"⟩
abbrev cX7_turns : ByteArray := prog_9_method_66_code
def yX7_turns : MethodName := ⟨RX7, "turns", "(I)V"⟩
abbrev cX7_sounds : ByteArray := prog_9_method_67_code
def yX7_sounds : MethodName := ⟨RX7, "sounds", "(I)V"⟩
abbrev cX7_advance : ByteArray := prog_9_method_68_code
def yX7_advance : MethodName := ⟨RX7, "advance", "(I)I"⟩
abbrev cX7_forceBy : ByteArray := prog_9_method_69_code
def yX7_forceBy : MethodName := ⟨RX7, "forceBy", "(IIII)I"⟩
abbrev cX7_laysShake : ByteArray := prog_9_method_70_code
def yX7_laysShake : MethodName := ⟨RX7, "laysShake", "(I)V"⟩
abbrev cX7_laysStarted : ByteArray := prog_9_method_71_code
def yX7_laysStarted : MethodName := ⟨RX7, "laysStarted", "(II)V"⟩
abbrev cX7_sizeOf : ByteArray := prog_9_method_72_code
def yX7_sizeOf : MethodName := ⟨RX7, "sizeOf", "(I)I"⟩
abbrev cX7_worstBy : ByteArray := prog_9_method_73_code
def yX7_worstBy : MethodName := ⟨RX7, "worstBy", "(I)I"⟩
abbrev cX7_startSwing : ByteArray := prog_9_method_74_code
def yX7_startSwing : MethodName := ⟨RX7, "startSwing", "(II)I"⟩
abbrev cX7_stopMotor : ByteArray := prog_9_method_75_code
def yX7_stopMotor : MethodName := ⟨RX7, "stopMotor", "(I)I"⟩
abbrev cX7_holdClapper : ByteArray := prog_9_method_76_code
def yX7_holdClapper : MethodName := ⟨RX7, "holdClapper", "(IZ)I"⟩
abbrev cX7_amplitude : ByteArray := prog_9_method_77_code
def yX7_amplitude : MethodName := ⟨RX7, "amplitude", "(I)I"⟩
abbrev cX7_nextTurn : ByteArray := prog_9_method_78_code
def yX7_nextTurn : MethodName := ⟨RX7, "nextTurn", "(I)I"⟩
abbrev cX7_farBehind : ByteArray := prog_9_method_79_code
def yX7_farBehind : MethodName := ⟨RX7, "farBehind", "(II)I"⟩
abbrev cX7_amplitudeAfter : ByteArray := prog_9_method_80_code
def yX7_amplitudeAfter : MethodName := ⟨RX7, "amplitudeAfter", "(II)I"⟩
abbrev cX7_turnsUntilLoud : ByteArray := prog_9_method_81_code
def yX7_turnsUntilLoud : MethodName := ⟨RX7, "turnsUntilLoud", "(I)I"⟩
abbrev cX7_force : ByteArray := prog_9_method_82_code
def yX7_force : MethodName := ⟨RX7, "force", "(I)I"⟩
abbrev cX7_shake : ByteArray := prog_9_method_83_code
def yX7_shake : MethodName := ⟨RX7, "shake", "(I)I"⟩
abbrev cX7_greatestShake : ByteArray := prog_9_method_84_code
def yX7_greatestShake : MethodName := ⟨RX7, "greatestShake", "(I)I"⟩
abbrev cX7_setShakeLimit : ByteArray := prog_9_method_85_code
def yX7_setShakeLimit : MethodName := ⟨RX7, "setShakeLimit", "(I)I"⟩
abbrev cX7_calmestWait : ByteArray := prog_9_method_86_code
def yX7_calmestWait : MethodName := ⟨RX7, "calmestWait", "(II)I"⟩
def RJ6 : String := "java/lang/Integer"
def TJ6 : u_T := fun k => match k with
  | _ => ("", "", "", false)
def tyJ6 : Nat → FieldType := fun k => match k with
  | _ => .int
abbrev wsJ60 : List Cond := u_ws RJ6 TJ6 0
theorem nmJ6 : ∀ a, a < 0 → ∀ b, b < 0 → a ≠ b → (TJ6 a).2.1 ≠ (TJ6 b).2.1 := by decide +kernel
theorem tyJ6_ok : ∀ k, k < 0 → parseFieldDescriptor (TJ6 k).2.2.1 = some (tyJ6 k) := by decide +kernel
abbrev cJ6_bitCount_0f7a4 : ByteArray := prog_10_method_49_code
def yJ6_bitCount_0f7a4 : MethodName := ⟨RJ6, "bitCount", "(I)I"⟩
def RJ9 : String := "java/lang/Math"
def TJ9 : u_T := fun k => match k with
  | _ => ("", "", "", false)
def tyJ9 : Nat → FieldType := fun k => match k with
  | _ => .int
abbrev wsJ90 : List Cond := u_ws RJ9 TJ9 0
theorem nmJ9 : ∀ a, a < 0 → ∀ b, b < 0 → a ≠ b → (TJ9 a).2.1 ≠ (TJ9 b).2.1 := by decide +kernel
theorem tyJ9_ok : ∀ k, k < 0 → parseFieldDescriptor (TJ9 k).2.2.1 = some (tyJ9 k) := by decide +kernel
abbrev cJ9_abs_0f7a4 : ByteArray := prog_11_method_59_code
def yJ9_abs_0f7a4 : MethodName := ⟨RJ9, "abs", "(I)I"⟩
abbrev cJ9_max_7cf53 : ByteArray := prog_11_method_65_code
def yJ9_max_7cf53 : MethodName := ⟨RJ9, "max", "(II)I"⟩
abbrev cJ9_min_7cf53 : ByteArray := prog_11_method_69_code
def yJ9_min_7cf53 : MethodName := ⟨RJ9, "min", "(II)I"⟩
def RJ10 : String := "java/lang/System"
def TJ10 : u_T := fun k => match k with
  | _ => ("", "", "", false)
def tyJ10 : Nat → FieldType := fun k => match k with
  | _ => .int
abbrev wsJ100 : List Cond := u_ws RJ10 TJ10 0
theorem nmJ10 : ∀ a, a < 0 → ∀ b, b < 0 → a ≠ b → (TJ10 a).2.1 ≠ (TJ10 b).2.1 := by decide +kernel
theorem tyJ10_ok : ∀ k, k < 0 → parseFieldDescriptor (TJ10 k).2.2.1 = some (tyJ10 k) := by decide +kernel
def RL : String := "BellControllerLaw"
abbrev cL_law : ByteArray := code
abbrev vwCl : List vw_C := [(RX0, TX0, 12), (RX1, TX1, 6), (RX2, TX2, 2), (RX3, TX3, 11), (RX4, TX4, 5), (RX5, TX5, 5), (RX6, TX6, 17), (RX7, TX7, 53)]
def yL_law : MethodName := ⟨RL, "law", "([I)Z"⟩

/-! ===== the tables' words that a callee may be told ===== -/
def aT : List Cond := lw_tbl.filter goodWord
theorem aT_sub {w : Cond} (h : w ∈ aT) : w ∈ lw_tbl := (List.mem_filter.mp h).1
theorem aT_good : ∀ w ∈ aT, goodWord w = true := fun _ h => (List.mem_filter.mp h).2
theorem aT_in (i : Nat) {w : Cond} (h : tables_1[i]? = some w) (hg : goodWord w = true) : w ∈ aT := List.mem_filter.mpr ⟨List.mem_append_right _ (List.mem_of_getElem? h), hg⟩
theorem aT_sel {q : MethodName × Nat} (h : q ∈ lw_privs) : Cond.selects q.1.cls q.1 q.1 ∈ aT := List.mem_filter.mpr ⟨List.mem_append_left _ (List.mem_map.mpr ⟨q, h, rfl⟩), rfl⟩
theorem aT_selI (i : Nat) {y : MethodName} {n : Nat} (h : lw_privs[i]? = some (y, n)) : Cond.selects y.cls y y ∈ aT := aT_sel (q := (y, n)) (List.mem_of_getElem? h)
def fty : Nat → Nat → FieldType := fun ci => match ci with
  | 0 => tyX0
  | 1 => tyX1
  | 2 => tyX2
  | 3 => tyX3
  | 4 => tyX4
  | 5 => tyX5
  | 6 => tyX6
  | _ => tyX7
def nF : Nat → Nat := fun ci => match ci with

  | 0 => 12
  | 1 => 6
  | 2 => 2
  | 3 => 11
  | 4 => 5
  | 5 => 5
  | 6 => 17
  | _ => 53
theorem aIn0 : ∀ w ∈ u_ws RX0 TX0 12, w ∈ aT := by decide +kernel
theorem aIn1 : ∀ w ∈ u_ws RX1 TX1 6, w ∈ aT := by decide +kernel
theorem aIn2 : ∀ w ∈ u_ws RX2 TX2 2, w ∈ aT := by decide +kernel
theorem aIn3 : ∀ w ∈ u_ws RX3 TX3 11, w ∈ aT := by decide +kernel
theorem aIn4 : ∀ w ∈ u_ws RX4 TX4 5, w ∈ aT := by decide +kernel
theorem aIn5 : ∀ w ∈ u_ws RX5 TX5 5, w ∈ aT := by decide +kernel
theorem aIn6 : ∀ w ∈ u_ws RX6 TX6 17, w ∈ aT := by decide +kernel
theorem aIn7 : ∀ w ∈ u_ws RX7 TX7 53, w ∈ aT := by decide +kernel
theorem aIn {ci N : Nat} {C : String} {F : u_T} (h : vwCl[ci]? = some (C, F, N)) : (∀ w ∈ u_ws C F N, w ∈ aT) ∧ (∀ k, k < N → parseFieldDescriptor (F k).2.2.1 = some (fty ci k)) ∧ (∀ a, a < N → ∀ b, b < N → a ≠ b → (F a).2.1 ≠ (F b).2.1) ∧ N = nF ci := by
  match ci, h with
  | 0, h => cases h; exact ⟨aIn0, tyX0_ok, nmX0, rfl⟩
  | 1, h => cases h; exact ⟨aIn1, tyX1_ok, nmX1, rfl⟩
  | 2, h => cases h; exact ⟨aIn2, tyX2_ok, nmX2, rfl⟩
  | 3, h => cases h; exact ⟨aIn3, tyX3_ok, nmX3, rfl⟩
  | 4, h => cases h; exact ⟨aIn4, tyX4_ok, nmX4, rfl⟩
  | 5, h => cases h; exact ⟨aIn5, tyX5_ok, nmX5, rfl⟩
  | 6, h => cases h; exact ⟨aIn6, tyX6_ok, nmX6, rfl⟩
  | 7, h => cases h; exact ⟨aIn7, tyX7_ok, nmX7, rfl⟩
  | k + 8, h => simp [vwCl] at h

def aFld (own : String) (idx ci k : Nat) : Prop := ∃ (C : String) (F : u_T) (N : Nat), vwCl[ci]? = some (C, F, N) ∧ k < N ∧ Cond.fieldLink own idx C (F k).2.1 (F k).2.2.1 ∈ aT
def aFin (ci k : Nat) : Bool := match vwCl[ci]? with
  | some q => (q.2.1 k).2.2.2
  | none => false
/-- what a call of y by own's entry idx rests on: C the receiver's class ("" where static) -/
def aCalV (own : String) (idx : Nat) (y : MethodName) (cc : ByteArray) (nL : Nat) (rt : Option FieldType) (n : Nat) : Prop :=
  Cond.methodLink own idx y ∈ aT ∧ Cond.instanceMethod y ∈ aT ∧ Cond.selects y.cls y y ∈ aT ∧ Cond.initialized y.cls ∈ aT ∧ Cond.code y cc nL rt ∈ aT ∧ y.cls ≠ "java/lang/invoke/MethodHandle" ∧ y.cls ≠ "java/lang/invoke/VarHandle" ∧ (parseMethodDescriptor y.desc).map (fun d => d.parameters.length) = some n
def aCalS (own : String) (idx : Nat) (y : MethodName) (cc : ByteArray) (nL : Nat) (rt : Option FieldType) (n : Nat) : Prop :=
  Cond.methodLink own idx y ∈ aT ∧ Cond.static y ∈ aT ∧ Cond.initialized y.cls ∈ aT ∧ Cond.code y cc nL rt ∈ aT ∧ y.cls ≠ "java/lang/invoke/MethodHandle" ∧ y.cls ≠ "java/lang/invoke/VarHandle" ∧ (parseMethodDescriptor y.desc).map (fun d => d.parameters.length) = some n
def aCalI (own : String) (idx : Nat) (y : MethodName) (cc : ByteArray) (nL : Nat) (n : Nat) : Prop :=
  Cond.methodLink own idx y ∈ aT ∧ Cond.instanceMethod y ∈ aT ∧ Cond.initialized y.cls ∈ aT ∧ Cond.code y cc nL none ∈ aT ∧ y.name = "<init>" ∧ y.cls ≠ "java/lang/invoke/MethodHandle" ∧ y.cls ≠ "java/lang/invoke/VarHandle" ∧ (parseMethodDescriptor y.desc).map (fun d => d.parameters.length) = some n
/-- a nest mate's private constructor -/
def aCalN (own : String) (idx : Nat) (y : MethodName) (host : String) (cc : ByteArray) (nL : Nat) (n : Nat) : Prop :=
  Cond.methodLinkNest own idx y host ∈ tables_1 ∧ Cond.instanceMethod y ∈ aT ∧ Cond.initialized y.cls ∈ aT ∧ Cond.code y cc nL none ∈ aT ∧ y.name = "<init>" ∧ y.cls ≠ "java/lang/invoke/MethodHandle" ∧ y.cls ≠ "java/lang/invoke/VarHandle" ∧ (parseMethodDescriptor y.desc).map (fun d => d.parameters.length) = some n

theorem ckL_7 : Cond.classLink RL 7 RX6 ∈ aT := aT_in 12 (by decide +kernel) rfl
theorem ins_RX6 : Cond.instantiable RX6 17 ∈ aT ∧ Cond.initialized RX6 ∈ aT := ⟨aT_in 13 (by decide +kernel) rfl, aT_in 1 (by decide +kernel) rfl⟩
theorem clL_9 : aCalI RL 9 yX6_init cX6_init 2 0 := ⟨aT_in 14 (w := Cond.methodLink RL 9 yX6_init) (by decide +kernel) rfl, aT_in 15 (w := Cond.instanceMethod yX6_init) (by decide +kernel) rfl, aT_in 1 (w := Cond.initialized (yX6_init).cls) (by decide +kernel) rfl, aT_in 16 (w := Cond.code yX6_init cX6_init 2 none) (by decide +kernel) rfl, rfl, by decide +kernel, by decide +kernel, by decide +kernel⟩
theorem ckX6_9 : Cond.classLink RX6 9 RX0 ∈ aT := aT_in 20 (by decide +kernel) rfl
theorem ins_RX0 : Cond.instantiable RX0 12 ∈ aT ∧ Cond.initialized RX0 ∈ aT := ⟨aT_in 22 (by decide +kernel) rfl, aT_in 2 (by decide +kernel) rfl⟩
theorem clX6_15 : aCalN RX6 15 yX0_init RX6 cX0_init 1 0 := ⟨List.mem_of_getElem? (i := 23) (by decide +kernel), aT_in 24 (w := Cond.instanceMethod yX0_init) (by decide +kernel) rfl, aT_in 2 (w := Cond.initialized (yX0_init).cls) (by decide +kernel) rfl, aT_in 25 (w := Cond.code yX0_init cX0_init 1 none) (by decide +kernel) rfl, rfl, by decide +kernel, by decide +kernel, by decide +kernel⟩
theorem flX0_9 : aFld RX0 9 0 0 := ⟨RX0, TX0, 12, rfl, by decide, aT_in 27 (w := Cond.fieldLink RX0 9 RX0 "hammerDelay" "I") (by decide +kernel) rfl⟩
theorem flX6_91 : aFld RX6 91 0 0 := ⟨RX0, TX0, 12, rfl, by decide, aT_in 28 (w := Cond.fieldLink RX6 91 RX0 "hammerDelay" "I") (by decide +kernel) rfl⟩
theorem flX0_15 : aFld RX0 15 0 1 := ⟨RX0, TX0, 12, rfl, by decide, aT_in 29 (w := Cond.fieldLink RX0 15 RX0 "recovery" "I") (by decide +kernel) rfl⟩
theorem flX6_94 : aFld RX6 94 0 1 := ⟨RX0, TX0, 12, rfl, by decide, aT_in 30 (w := Cond.fieldLink RX6 94 RX0 "recovery" "I") (by decide +kernel) rfl⟩
theorem flX0_18 : aFld RX0 18 0 2 := ⟨RX0, TX0, 12, rfl, by decide, aT_in 31 (w := Cond.fieldLink RX0 18 RX0 "weight" "I") (by decide +kernel) rfl⟩
theorem flX6_97 : aFld RX6 97 0 2 := ⟨RX0, TX0, 12, rfl, by decide, aT_in 32 (w := Cond.fieldLink RX6 97 RX0 "weight" "I") (by decide +kernel) rfl⟩
theorem flX0_21 : aFld RX0 21 0 3 := ⟨RX0, TX0, 12, rfl, by decide, aT_in 33 (w := Cond.fieldLink RX0 21 RX0 "halfPeriod" "I") (by decide +kernel) rfl⟩
theorem flX6_100 : aFld RX6 100 0 3 := ⟨RX0, TX0, 12, rfl, by decide, aT_in 34 (w := Cond.fieldLink RX6 100 RX0 "halfPeriod" "I") (by decide +kernel) rfl⟩
theorem flX0_24 : aFld RX0 24 0 4 := ⟨RX0, TX0, 12, rfl, by decide, aT_in 35 (w := Cond.fieldLink RX0 24 RX0 "occupiedUntil" "I") (by decide +kernel) rfl⟩
theorem flX6_310 : aFld RX6 310 0 4 := ⟨RX0, TX0, 12, rfl, by decide, aT_in 36 (w := Cond.fieldLink RX6 310 RX0 "occupiedUntil" "I") (by decide +kernel) rfl⟩
theorem flX0_27 : aFld RX0 27 0 5 := ⟨RX0, TX0, 12, rfl, by decide, aT_in 37 (w := Cond.fieldLink RX0 27 RX0 "clapperHeld" "Z") (by decide +kernel) rfl⟩
theorem flX6_290 : aFld RX6 290 0 5 := ⟨RX0, TX0, 12, rfl, by decide, aT_in 38 (w := Cond.fieldLink RX6 290 RX0 "clapperHeld" "Z") (by decide +kernel) rfl⟩
theorem flX0_31 : aFld RX0 31 0 6 := ⟨RX0, TX0, 12, rfl, by decide, aT_in 39 (w := Cond.fieldLink RX0 31 RX0 "swings" "Z") (by decide +kernel) rfl⟩
theorem flX6_162 : aFld RX6 162 0 6 := ⟨RX0, TX0, 12, rfl, by decide, aT_in 40 (w := Cond.fieldLink RX6 162 RX0 "swings" "Z") (by decide +kernel) rfl⟩
theorem flX0_34 : aFld RX0 34 0 7 := ⟨RX0, TX0, 12, rfl, by decide, aT_in 41 (w := Cond.fieldLink RX0 34 RX0 "motorOn" "Z") (by decide +kernel) rfl⟩
theorem flX6_284 : aFld RX6 284 0 7 := ⟨RX0, TX0, 12, rfl, by decide, aT_in 42 (w := Cond.fieldLink RX6 284 RX0 "motorOn" "Z") (by decide +kernel) rfl⟩
theorem flX0_37 : aFld RX0 37 0 8 := ⟨RX0, TX0, 12, rfl, by decide, aT_in 43 (w := Cond.fieldLink RX0 37 RX0 "amplitude" "I") (by decide +kernel) rfl⟩
theorem flX6_287 : aFld RX6 287 0 8 := ⟨RX0, TX0, 12, rfl, by decide, aT_in 44 (w := Cond.fieldLink RX6 287 RX0 "amplitude" "I") (by decide +kernel) rfl⟩
theorem flX0_40 : aFld RX0 40 0 9 := ⟨RX0, TX0, 12, rfl, by decide, aT_in 45 (w := Cond.fieldLink RX0 40 RX0 "side" "I") (by decide +kernel) rfl⟩
theorem flX0_43 : aFld RX0 43 0 10 := ⟨RX0, TX0, 12, rfl, by decide, aT_in 46 (w := Cond.fieldLink RX0 43 RX0 "target" "I") (by decide +kernel) rfl⟩
theorem flX0_46 : aFld RX0 46 0 11 := ⟨RX0, TX0, 12, rfl, by decide, aT_in 47 (w := Cond.fieldLink RX0 46 RX0 "latestTurn" "I") (by decide +kernel) rfl⟩
theorem ckX6_20 : Cond.classLink RX6 20 RX5 ∈ aT := aT_in 73 (by decide +kernel) rfl
theorem ins_RX5 : Cond.instantiable RX5 5 ∈ aT ∧ Cond.initialized RX5 ∈ aT := ⟨aT_in 74 (by decide +kernel) rfl, aT_in 3 (by decide +kernel) rfl⟩
theorem clX6_22 : aCalN RX6 22 yX5_init RX6 cX5_init 1 0 := ⟨List.mem_of_getElem? (i := 75) (by decide +kernel), aT_in 76 (w := Cond.instanceMethod yX5_init) (by decide +kernel) rfl, aT_in 3 (w := Cond.initialized (yX5_init).cls) (by decide +kernel) rfl, aT_in 77 (w := Cond.code yX5_init cX5_init 1 none) (by decide +kernel) rfl, rfl, by decide +kernel, by decide +kernel, by decide +kernel⟩
theorem flX5_9 : aFld RX5 9 5 0 := ⟨RX5, TX5, 5, rfl, by decide, aT_in 79 (w := Cond.fieldLink RX5 9 RX5 "bells" "[I") (by decide +kernel) rfl⟩
theorem flX6_125 : aFld RX6 125 5 0 := ⟨RX5, TX5, 5, rfl, by decide, aT_in 80 (w := Cond.fieldLink RX6 125 RX5 "bells" "[I") (by decide +kernel) rfl⟩
theorem flX5_15 : aFld RX5 15 5 1 := ⟨RX5, TX5, 5, rfl, by decide, aT_in 81 (w := Cond.fieldLink RX5 15 RX5 "times" "[I") (by decide +kernel) rfl⟩
theorem flX6_127 : aFld RX6 127 5 1 := ⟨RX5, TX5, 5, rfl, by decide, aT_in 82 (w := Cond.fieldLink RX6 127 RX5 "times" "[I") (by decide +kernel) rfl⟩
theorem flX5_18 : aFld RX5 18 5 2 := ⟨RX5, TX5, 5, rfl, by decide, aT_in 83 (w := Cond.fieldLink RX5 18 RX5 "clappers" "[I") (by decide +kernel) rfl⟩
theorem flX6_130 : aFld RX6 130 5 2 := ⟨RX5, TX5, 5, rfl, by decide, aT_in 84 (w := Cond.fieldLink RX6 130 RX5 "clappers" "[I") (by decide +kernel) rfl⟩
theorem flX5_21 : aFld RX5 21 5 3 := ⟨RX5, TX5, 5, rfl, by decide, aT_in 85 (w := Cond.fieldLink RX5 21 RX5 "length" "I") (by decide +kernel) rfl⟩
theorem flX6_118 : aFld RX6 118 5 3 := ⟨RX5, TX5, 5, rfl, by decide, aT_in 86 (w := Cond.fieldLink RX6 118 RX5 "length" "I") (by decide +kernel) rfl⟩
theorem flX5_25 : aFld RX5 25 5 4 := ⟨RX5, TX5, 5, rfl, by decide, aT_in 87 (w := Cond.fieldLink RX5 25 RX5 "next" "I") (by decide +kernel) rfl⟩
theorem ckX6_27 : Cond.classLink RX6 27 RX4 ∈ aT := aT_in 100 (by decide +kernel) rfl
theorem ins_RX4 : Cond.instantiable RX4 5 ∈ aT ∧ Cond.initialized RX4 ∈ aT := ⟨aT_in 101 (by decide +kernel) rfl, aT_in 4 (by decide +kernel) rfl⟩
theorem clX6_29 : aCalN RX6 29 yX4_init RX6 cX4_init 1 0 := ⟨List.mem_of_getElem? (i := 102) (by decide +kernel), aT_in 103 (w := Cond.instanceMethod yX4_init) (by decide +kernel) rfl, aT_in 4 (w := Cond.initialized (yX4_init).cls) (by decide +kernel) rfl, aT_in 104 (w := Cond.code yX4_init cX4_init 1 none) (by decide +kernel) rfl, rfl, by decide +kernel, by decide +kernel, by decide +kernel⟩
theorem flX4_9 : aFld RX4 9 4 0 := ⟨RX4, TX4, 5, rfl, by decide, aT_in 106 (w := Cond.fieldLink RX4 9 RX4 "bells" "[I") (by decide +kernel) rfl⟩
theorem flX6_158 : aFld RX6 158 4 0 := ⟨RX4, TX4, 5, rfl, by decide, aT_in 107 (w := Cond.fieldLink RX6 158 RX4 "bells" "[I") (by decide +kernel) rfl⟩
theorem flX4_15 : aFld RX4 15 4 1 := ⟨RX4, TX4, 5, rfl, by decide, aT_in 108 (w := Cond.fieldLink RX4 15 RX4 "commands" "[I") (by decide +kernel) rfl⟩
theorem flX6_145 : aFld RX6 145 4 1 := ⟨RX4, TX4, 5, rfl, by decide, aT_in 109 (w := Cond.fieldLink RX6 145 RX4 "commands" "[I") (by decide +kernel) rfl⟩
theorem flX4_18 : aFld RX4 18 4 2 := ⟨RX4, TX4, 5, rfl, by decide, aT_in 110 (w := Cond.fieldLink RX4 18 RX4 "times" "[I") (by decide +kernel) rfl⟩
theorem flX4_21 : aFld RX4 21 4 3 := ⟨RX4, TX4, 5, rfl, by decide, aT_in 111 (w := Cond.fieldLink RX4 21 RX4 "changes" "[I") (by decide +kernel) rfl⟩
theorem flX4_24 : aFld RX4 24 4 4 := ⟨RX4, TX4, 5, rfl, by decide, aT_in 112 (w := Cond.fieldLink RX4 24 RX4 "count" "I") (by decide +kernel) rfl⟩
theorem flX6_152 : aFld RX6 152 4 4 := ⟨RX4, TX4, 5, rfl, by decide, aT_in 113 (w := Cond.fieldLink RX6 152 RX4 "count" "I") (by decide +kernel) rfl⟩
theorem ckX6_37 : Cond.classLink RX6 37 RX3 ∈ aT := aT_in 125 (by decide +kernel) rfl
theorem ins_RX3 : Cond.instantiable RX3 11 ∈ aT ∧ Cond.initialized RX3 ∈ aT := ⟨aT_in 126 (by decide +kernel) rfl, aT_in 5 (by decide +kernel) rfl⟩
theorem clX6_39 : aCalN RX6 39 yX3_init RX6 cX3_init 1 0 := ⟨List.mem_of_getElem? (i := 127) (by decide +kernel), aT_in 128 (w := Cond.instanceMethod yX3_init) (by decide +kernel) rfl, aT_in 5 (w := Cond.initialized (yX3_init).cls) (by decide +kernel) rfl, aT_in 129 (w := Cond.code yX3_init cX3_init 1 none) (by decide +kernel) rfl, rfl, by decide +kernel, by decide +kernel, by decide +kernel⟩
theorem flX3_9 : aFld RX3 9 3 0 := ⟨RX3, TX3, 11, rfl, by decide, aT_in 131 (w := Cond.fieldLink RX3 9 RX3 "text" "[I") (by decide +kernel) rfl⟩
theorem flX3_15 : aFld RX3 15 3 1 := ⟨RX3, TX3, 11, rfl, by decide, aT_in 132 (w := Cond.fieldLink RX3 15 RX3 "textLength" "I") (by decide +kernel) rfl⟩
theorem flX6_175 : aFld RX6 175 3 1 := ⟨RX3, TX3, 11, rfl, by decide, aT_in 133 (w := Cond.fieldLink RX6 175 RX3 "textLength" "I") (by decide +kernel) rfl⟩
theorem flX3_19 : aFld RX3 19 3 2 := ⟨RX3, TX3, 11, rfl, by decide, aT_in 134 (w := Cond.fieldLink RX3 19 RX3 "steps" "[I") (by decide +kernel) rfl⟩
theorem flX6_190 : aFld RX6 190 3 2 := ⟨RX3, TX3, 11, rfl, by decide, aT_in 135 (w := Cond.fieldLink RX6 190 RX3 "steps" "[I") (by decide +kernel) rfl⟩
theorem flX3_22 : aFld RX3 22 3 3 := ⟨RX3, TX3, 11, rfl, by decide, aT_in 136 (w := Cond.fieldLink RX3 22 RX3 "length" "I") (by decide +kernel) rfl⟩
theorem flX6_194 : aFld RX6 194 3 3 := ⟨RX3, TX3, 11, rfl, by decide, aT_in 137 (w := Cond.fieldLink RX6 194 RX3 "length" "I") (by decide +kernel) rfl⟩
theorem flX3_25 : aFld RX3 25 3 4 := ⟨RX3, TX3, 11, rfl, by decide, aT_in 138 (w := Cond.fieldLink RX3 25 RX3 "error" "I") (by decide +kernel) rfl⟩
theorem flX6_187 : aFld RX6 187 3 4 := ⟨RX3, TX3, 11, rfl, by decide, aT_in 139 (w := Cond.fieldLink RX6 187 RX3 "error" "I") (by decide +kernel) rfl⟩
theorem flX3_28 : aFld RX3 28 3 5 := ⟨RX3, TX3, 11, rfl, by decide, aT_in 140 (w := Cond.fieldLink RX3 28 RX3 "errorPosition" "I") (by decide +kernel) rfl⟩
theorem flX6_202 : aFld RX6 202 3 5 := ⟨RX3, TX3, 11, rfl, by decide, aT_in 141 (w := Cond.fieldLink RX6 202 RX3 "errorPosition" "I") (by decide +kernel) rfl⟩
theorem flX3_31 : aFld RX3 31 3 6 := ⟨RX3, TX3, 11, rfl, by decide, aT_in 142 (w := Cond.fieldLink RX3 31 RX3 "end" "I") (by decide +kernel) rfl⟩
theorem flX3_34 : aFld RX3 34 3 7 := ⟨RX3, TX3, 11, rfl, by decide, aT_in 143 (w := Cond.fieldLink RX3 34 RX3 "position" "I") (by decide +kernel) rfl⟩
theorem flX3_37 : aFld RX3 37 3 8 := ⟨RX3, TX3, 11, rfl, by decide, aT_in 144 (w := Cond.fieldLink RX3 37 RX3 "depth" "I") (by decide +kernel) rfl⟩
theorem flX3_40 : aFld RX3 40 3 9 := ⟨RX3, TX3, 11, rfl, by decide, aT_in 145 (w := Cond.fieldLink RX3 40 RX3 "groupPosition" "[I") (by decide +kernel) rfl⟩
theorem flX3_43 : aFld RX3 43 3 10 := ⟨RX3, TX3, 11, rfl, by decide, aT_in 146 (w := Cond.fieldLink RX3 43 RX3 "groupStart" "[I") (by decide +kernel) rfl⟩
theorem ckX6_44 : Cond.classLink RX6 44 RX2 ∈ aT := aT_in 170 (by decide +kernel) rfl
theorem ckX6_50 : Cond.classLink RX6 50 RX1 ∈ aT := aT_in 172 (by decide +kernel) rfl
theorem ins_RX2 : Cond.instantiable RX2 2 ∈ aT ∧ Cond.initialized RX2 ∈ aT := ⟨aT_in 174 (by decide +kernel) rfl, aT_in 6 (by decide +kernel) rfl⟩
theorem clX6_85 : aCalN RX6 85 yX2_init RX6 cX2_init 1 0 := ⟨List.mem_of_getElem? (i := 175) (by decide +kernel), aT_in 176 (w := Cond.instanceMethod yX2_init) (by decide +kernel) rfl, aT_in 6 (w := Cond.initialized (yX2_init).cls) (by decide +kernel) rfl, aT_in 177 (w := Cond.code yX2_init cX2_init 1 none) (by decide +kernel) rfl, rfl, by decide +kernel, by decide +kernel, by decide +kernel⟩
theorem flX2_9 : aFld RX2 9 2 0 := ⟨RX2, TX2, 2, rfl, by decide, aT_in 179 (w := Cond.fieldLink RX2 9 RX2 "steps" "[I") (by decide +kernel) rfl⟩
theorem flX6_193 : aFld RX6 193 2 0 := ⟨RX2, TX2, 2, rfl, by decide, aT_in 180 (w := Cond.fieldLink RX6 193 RX2 "steps" "[I") (by decide +kernel) rfl⟩
theorem flX2_15 : aFld RX2 15 2 1 := ⟨RX2, TX2, 2, rfl, by decide, aT_in 181 (w := Cond.fieldLink RX2 15 RX2 "length" "I") (by decide +kernel) rfl⟩
theorem flX6_201 : aFld RX6 201 2 1 := ⟨RX2, TX2, 2, rfl, by decide, aT_in 182 (w := Cond.fieldLink RX6 201 RX2 "length" "I") (by decide +kernel) rfl⟩
theorem ins_RX1 : Cond.instantiable RX1 6 ∈ aT ∧ Cond.initialized RX1 ∈ aT := ⟨aT_in 188 (by decide +kernel) rfl, aT_in 7 (by decide +kernel) rfl⟩
theorem clX6_86 : aCalN RX6 86 yX1_init RX6 cX1_init 1 0 := ⟨List.mem_of_getElem? (i := 189) (by decide +kernel), aT_in 190 (w := Cond.instanceMethod yX1_init) (by decide +kernel) rfl, aT_in 7 (w := Cond.initialized (yX1_init).cls) (by decide +kernel) rfl, aT_in 191 (w := Cond.code yX1_init cX1_init 1 none) (by decide +kernel) rfl, rfl, by decide +kernel, by decide +kernel, by decide +kernel⟩
theorem flX1_9 : aFld RX1 9 1 0 := ⟨RX1, TX1, 6, rfl, by decide, aT_in 193 (w := Cond.fieldLink RX1 9 RX1 "which" "I") (by decide +kernel) rfl⟩
theorem flX6_240 : aFld RX6 240 1 0 := ⟨RX1, TX1, 6, rfl, by decide, aT_in 194 (w := Cond.fieldLink RX6 240 RX1 "which" "I") (by decide +kernel) rfl⟩
theorem flX1_15 : aFld RX1 15 1 1 := ⟨RX1, TX1, 6, rfl, by decide, aT_in 195 (w := Cond.fieldLink RX1 15 RX1 "due" "I") (by decide +kernel) rfl⟩
theorem flX6_243 : aFld RX6 243 1 1 := ⟨RX1, TX1, 6, rfl, by decide, aT_in 196 (w := Cond.fieldLink RX6 243 RX1 "due" "I") (by decide +kernel) rfl⟩
theorem flX1_18 : aFld RX1 18 1 2 := ⟨RX1, TX1, 6, rfl, by decide, aT_in 197 (w := Cond.fieldLink RX1 18 RX1 "period" "I") (by decide +kernel) rfl⟩
theorem flX6_246 : aFld RX6 246 1 2 := ⟨RX1, TX1, 6, rfl, by decide, aT_in 198 (w := Cond.fieldLink RX6 246 RX1 "period" "I") (by decide +kernel) rfl⟩
theorem flX1_21 : aFld RX1 21 1 3 := ⟨RX1, TX1, 6, rfl, by decide, aT_in 199 (w := Cond.fieldLink RX1 21 RX1 "ticks" "I") (by decide +kernel) rfl⟩
theorem flX6_249 : aFld RX6 249 1 3 := ⟨RX1, TX1, 6, rfl, by decide, aT_in 200 (w := Cond.fieldLink RX6 249 RX1 "ticks" "I") (by decide +kernel) rfl⟩
theorem flX1_24 : aFld RX1 24 1 4 := ⟨RX1, TX1, 6, rfl, by decide, aT_in 201 (w := Cond.fieldLink RX1 24 RX1 "largestShift" "I") (by decide +kernel) rfl⟩
theorem flX6_252 : aFld RX6 252 1 4 := ⟨RX1, TX1, 6, rfl, by decide, aT_in 202 (w := Cond.fieldLink RX6 252 RX1 "largestShift" "I") (by decide +kernel) rfl⟩
theorem flX1_27 : aFld RX1 27 1 5 := ⟨RX1, TX1, 6, rfl, by decide, aT_in 203 (w := Cond.fieldLink RX1 27 RX1 "latestShift" "I") (by decide +kernel) rfl⟩
theorem flX6_255 : aFld RX6 255 1 5 := ⟨RX1, TX1, 6, rfl, by decide, aT_in 204 (w := Cond.fieldLink RX6 255 RX1 "latestShift" "I") (by decide +kernel) rfl⟩
theorem flX6_11 : aFld RX6 11 6 0 := ⟨RX6, TX6, 17, rfl, by decide, aT_in 218 (w := Cond.fieldLink RX6 11 RX6 "bells" "[LBellController$Bell;") (by decide +kernel) rfl⟩
theorem flX6_16 : aFld RX6 16 6 1 := ⟨RX6, TX6, 17, rfl, by decide, aT_in 219 (w := Cond.fieldLink RX6 16 RX6 "imagined" "LBellController$Bell;") (by decide +kernel) rfl⟩
theorem flX6_23 : aFld RX6 23 6 2 := ⟨RX6, TX6, 17, rfl, by decide, aT_in 220 (w := Cond.fieldLink RX6 23 RX6 "log" "LBellController$StrokeLog;") (by decide +kernel) rfl⟩
theorem flX6_30 : aFld RX6 30 6 3 := ⟨RX6, TX6, 17, rfl, by decide, aT_in 221 (w := Cond.fieldLink RX6 30 RX6 "schedule" "LBellController$Schedule;") (by decide +kernel) rfl⟩
theorem flX6_34 : aFld RX6 34 6 4 := ⟨RX6, TX6, 17, rfl, by decide, aT_in 222 (w := Cond.fieldLink RX6 34 RX6 "draft" "LBellController$Schedule;") (by decide +kernel) rfl⟩
theorem flX6_40 : aFld RX6 40 6 5 := ⟨RX6, TX6, 17, rfl, by decide, aT_in 223 (w := Cond.fieldLink RX6 40 RX6 "reader" "LBellController$PatternReader;") (by decide +kernel) rfl⟩
theorem flX6_46 : aFld RX6 46 6 6 := ⟨RX6, TX6, 17, rfl, by decide, aT_in 224 (w := Cond.fieldLink RX6 46 RX6 "patterns" "[LBellController$Pattern;") (by decide +kernel) rfl⟩
theorem flX6_52 : aFld RX6 52 6 7 := ⟨RX6, TX6, 17, rfl, by decide, aT_in 225 (w := Cond.fieldLink RX6 52 RX6 "entries" "[LBellController$Entry;") (by decide +kernel) rfl⟩
theorem flX6_56 : aFld RX6 56 6 8 := ⟨RX6, TX6, 17, rfl, by decide, aT_in 226 (w := Cond.fieldLink RX6 56 RX6 "shakes" "[I") (by decide +kernel) rfl⟩
theorem flX6_60 : aFld RX6 60 6 9 := ⟨RX6, TX6, 17, rfl, by decide, aT_in 227 (w := Cond.fieldLink RX6 60 RX6 "startedForces" "[I") (by decide +kernel) rfl⟩
theorem flX6_63 : aFld RX6 63 6 10 := ⟨RX6, TX6, 17, rfl, by decide, aT_in 228 (w := Cond.fieldLink RX6 63 RX6 "movingBells" "[I") (by decide +kernel) rfl⟩
theorem flX6_66 : aFld RX6 66 6 11 := ⟨RX6, TX6, 17, rfl, by decide, aT_in 229 (w := Cond.fieldLink RX6 66 RX6 "bellsAdded" "I") (by decide +kernel) rfl⟩
theorem flX6_70 : aFld RX6 70 6 12 := ⟨RX6, TX6, 17, rfl, by decide, aT_in 230 (w := Cond.fieldLink RX6 70 RX6 "entriesAdded" "I") (by decide +kernel) rfl⟩
theorem flX6_73 : aFld RX6 73 6 13 := ⟨RX6, TX6, 17, rfl, by decide, aT_in 231 (w := Cond.fieldLink RX6 73 RX6 "now" "I") (by decide +kernel) rfl⟩
theorem flX6_76 : aFld RX6 76 6 14 := ⟨RX6, TX6, 17, rfl, by decide, aT_in 232 (w := Cond.fieldLink RX6 76 RX6 "powerLimit" "I") (by decide +kernel) rfl⟩
theorem flX6_79 : aFld RX6 79 6 15 := ⟨RX6, TX6, 17, rfl, by decide, aT_in 233 (w := Cond.fieldLink RX6 79 RX6 "shakeLimit" "I") (by decide +kernel) rfl⟩
theorem flX6_82 : aFld RX6 82 6 16 := ⟨RX6, TX6, 17, rfl, by decide, aT_in 234 (w := Cond.fieldLink RX6 82 RX6 "failures" "I") (by decide +kernel) rfl⟩
theorem clL_13 : aCalV RL 13 yX6_addBell cX6_addBell 6 (some .int) 4 := ⟨aT_in 270 (w := Cond.methodLink RL 13 yX6_addBell) (by decide +kernel) rfl, aT_in 271 (w := Cond.instanceMethod yX6_addBell) (by decide +kernel) rfl, aT_in 272 (w := Cond.selects (yX6_addBell).cls yX6_addBell yX6_addBell) (by decide +kernel) rfl, aT_in 1 (w := Cond.initialized (yX6_addBell).cls) (by decide +kernel) rfl, aT_in 273 (w := Cond.code yX6_addBell cX6_addBell 6 (some .int)) (by decide +kernel) rfl, by decide +kernel, by decide +kernel, by decide +kernel⟩
theorem clX6_87 : aCalS RX6 87 yX6_outside cX6_outside 3 (some .boolean) 3 := ⟨aT_in 274 (w := Cond.methodLink RX6 87 yX6_outside) (by decide +kernel) rfl, aT_in 275 (w := Cond.static yX6_outside) (by decide +kernel) rfl, aT_in 1 (w := Cond.initialized (yX6_outside).cls) (by decide +kernel) rfl, aT_in 276 (w := Cond.code yX6_outside cX6_outside 3 (some .boolean)) (by decide +kernel) rfl, by decide +kernel, by decide +kernel, by decide +kernel⟩
theorem clL_18 : aCalV RL 18 yX6_bellCount cX6_bellCount 1 (some .int) 0 := ⟨aT_in 277 (w := Cond.methodLink RL 18 yX6_bellCount) (by decide +kernel) rfl, aT_in 278 (w := Cond.instanceMethod yX6_bellCount) (by decide +kernel) rfl, aT_in 279 (w := Cond.selects (yX6_bellCount).cls yX6_bellCount yX6_bellCount) (by decide +kernel) rfl, aT_in 1 (w := Cond.initialized (yX6_bellCount).cls) (by decide +kernel) rfl, aT_in 280 (w := Cond.code yX6_bellCount cX6_bellCount 1 (some .int)) (by decide +kernel) rfl, by decide +kernel, by decide +kernel, by decide +kernel⟩
theorem clL_23 : aCalV RL 23 yX6_delay cX6_delay 2 (some .int) 1 := ⟨aT_in 281 (w := Cond.methodLink RL 23 yX6_delay) (by decide +kernel) rfl, aT_in 282 (w := Cond.instanceMethod yX6_delay) (by decide +kernel) rfl, aT_in 283 (w := Cond.selects (yX6_delay).cls yX6_delay yX6_delay) (by decide +kernel) rfl, aT_in 1 (w := Cond.initialized (yX6_delay).cls) (by decide +kernel) rfl, aT_in 284 (w := Cond.code yX6_delay cX6_delay 2 (some .int)) (by decide +kernel) rfl, by decide +kernel, by decide +kernel, by decide +kernel⟩
theorem clX6_103 : aCalV RX6 103 yX6_isBell cX6_isBell 2 (some .boolean) 1 := ⟨aT_in 285 (w := Cond.methodLink RX6 103 yX6_isBell) (by decide +kernel) rfl, aT_in 287 (w := Cond.instanceMethod yX6_isBell) (by decide +kernel) rfl, aT_selI 0 (n := 17) (by decide +kernel), aT_in 1 (w := Cond.initialized (yX6_isBell).cls) (by decide +kernel) rfl, aT_in 288 (w := Cond.code yX6_isBell cX6_isBell 2 (some .boolean)) (by decide +kernel) rfl, by decide +kernel, by decide +kernel, by decide +kernel⟩
theorem clL_28 : aCalV RL 28 yX6_calibrate cX6_calibrate 4 (some .int) 2 := ⟨aT_in 289 (w := Cond.methodLink RL 28 yX6_calibrate) (by decide +kernel) rfl, aT_in 290 (w := Cond.instanceMethod yX6_calibrate) (by decide +kernel) rfl, aT_in 291 (w := Cond.selects (yX6_calibrate).cls yX6_calibrate yX6_calibrate) (by decide +kernel) rfl, aT_in 1 (w := Cond.initialized (yX6_calibrate).cls) (by decide +kernel) rfl, aT_in 292 (w := Cond.code yX6_calibrate cX6_calibrate 4 (some .int)) (by decide +kernel) rfl, by decide +kernel, by decide +kernel, by decide +kernel⟩
theorem clL_33 : aCalV RL 33 yX6_setPowerLimit cX6_setPowerLimit 3 (some .int) 1 := ⟨aT_in 293 (w := Cond.methodLink RL 33 yX6_setPowerLimit) (by decide +kernel) rfl, aT_in 294 (w := Cond.instanceMethod yX6_setPowerLimit) (by decide +kernel) rfl, aT_in 295 (w := Cond.selects (yX6_setPowerLimit).cls yX6_setPowerLimit yX6_setPowerLimit) (by decide +kernel) rfl, aT_in 1 (w := Cond.initialized (yX6_setPowerLimit).cls) (by decide +kernel) rfl, aT_in 296 (w := Cond.code yX6_setPowerLimit cX6_setPowerLimit 3 (some .int)) (by decide +kernel) rfl, by decide +kernel, by decide +kernel, by decide +kernel⟩
theorem clL_37 : aCalV RL 37 yX6_currentTime cX6_currentTime 1 (some .int) 0 := ⟨aT_in 297 (w := Cond.methodLink RL 37 yX6_currentTime) (by decide +kernel) rfl, aT_in 298 (w := Cond.instanceMethod yX6_currentTime) (by decide +kernel) rfl, aT_in 299 (w := Cond.selects (yX6_currentTime).cls yX6_currentTime yX6_currentTime) (by decide +kernel) rfl, aT_in 1 (w := Cond.initialized (yX6_currentTime).cls) (by decide +kernel) rfl, aT_in 300 (w := Cond.code yX6_currentTime cX6_currentTime 1 (some .int)) (by decide +kernel) rfl, by decide +kernel, by decide +kernel, by decide +kernel⟩
theorem clL_41 : aCalV RL 41 yX6_advance cX6_advance 4 (some .int) 1 := ⟨aT_in 301 (w := Cond.methodLink RL 41 yX6_advance) (by decide +kernel) rfl, aT_in 302 (w := Cond.instanceMethod yX6_advance) (by decide +kernel) rfl, aT_in 303 (w := Cond.selects (yX6_advance).cls yX6_advance yX6_advance) (by decide +kernel) rfl, aT_in 1 (w := Cond.initialized (yX6_advance).cls) (by decide +kernel) rfl, aT_in 304 (w := Cond.code yX6_advance cX6_advance 4 (some .int)) (by decide +kernel) rfl, by decide +kernel, by decide +kernel, by decide +kernel⟩
theorem coX6_107 : Cond.constant RX6 107 (100000) ∈ aT := aT_in 305 (by decide +kernel) rfl
theorem clX6_108 : aCalV RX6 108 yX6_soundHammers cX6_soundHammers 4 (some .int) 0 := ⟨aT_in 306 (w := Cond.methodLink RX6 108 yX6_soundHammers) (by decide +kernel) rfl, aT_in 308 (w := Cond.instanceMethod yX6_soundHammers) (by decide +kernel) rfl, aT_selI 1 (n := 17) (by decide +kernel), aT_in 1 (w := Cond.initialized (yX6_soundHammers).cls) (by decide +kernel) rfl, aT_in 309 (w := Cond.code yX6_soundHammers cX6_soundHammers 4 (some .int)) (by decide +kernel) rfl, by decide +kernel, by decide +kernel, by decide +kernel⟩
theorem clX6_307 : aCalV RX6 307 yX4_takeSounding cX4_takeSounding 5 (some .int) 1 := ⟨aT_in 310 (w := Cond.methodLink RX6 307 yX4_takeSounding) (by decide +kernel) rfl, aT_in 311 (w := Cond.instanceMethod yX4_takeSounding) (by decide +kernel) rfl, aT_in 312 (w := Cond.selects (yX4_takeSounding).cls yX4_takeSounding yX4_takeSounding) (by decide +kernel) rfl, aT_in 4 (w := Cond.initialized (yX4_takeSounding).cls) (by decide +kernel) rfl, aT_in 313 (w := Cond.code yX4_takeSounding cX4_takeSounding 5 (some .int)) (by decide +kernel) rfl, by decide +kernel, by decide +kernel, by decide +kernel⟩
theorem clX4_42 : aCalV RX4 42 yX4_removeAt cX4_removeAt 2 none 1 := ⟨aT_in 314 (w := Cond.methodLink RX4 42 yX4_removeAt) (by decide +kernel) rfl, aT_in 315 (w := Cond.instanceMethod yX4_removeAt) (by decide +kernel) rfl, aT_in 316 (w := Cond.selects (yX4_removeAt).cls yX4_removeAt yX4_removeAt) (by decide +kernel) rfl, aT_in 4 (w := Cond.initialized (yX4_removeAt).cls) (by decide +kernel) rfl, aT_in 317 (w := Cond.code yX4_removeAt cX4_removeAt 2 none) (by decide +kernel) rfl, by decide +kernel, by decide +kernel, by decide +kernel⟩
theorem clX6_313 : aCalV RX6 313 yX5_add cX5_add 4 none 3 := ⟨aT_in 321 (w := Cond.methodLink RX6 313 yX5_add) (by decide +kernel) rfl, aT_in 322 (w := Cond.instanceMethod yX5_add) (by decide +kernel) rfl, aT_in 323 (w := Cond.selects (yX5_add).cls yX5_add yX5_add) (by decide +kernel) rfl, aT_in 3 (w := Cond.initialized (yX5_add).cls) (by decide +kernel) rfl, aT_in 324 (w := Cond.code yX5_add cX5_add 4 none) (by decide +kernel) rfl, by decide +kernel, by decide +kernel, by decide +kernel⟩
theorem clX5_28 : aCalS RX5 28 yJ9_min_7cf53 cJ9_min_7cf53 2 (some .int) 2 := ⟨aT_in 325 (w := Cond.methodLink RX5 28 yJ9_min_7cf53) (by decide +kernel) rfl, aT_in 326 (w := Cond.static yJ9_min_7cf53) (by decide +kernel) rfl, aT_in 10 (w := Cond.initialized (yJ9_min_7cf53).cls) (by decide +kernel) rfl, aT_in 327 (w := Cond.code yJ9_min_7cf53 cJ9_min_7cf53 2 (some .int)) (by decide +kernel) rfl, by decide +kernel, by decide +kernel, by decide +kernel⟩
theorem clX6_112 : aCalV RX6 112 yX6_turnBells cX6_turnBells 4 (some .int) 0 := ⟨aT_in 328 (w := Cond.methodLink RX6 112 yX6_turnBells) (by decide +kernel) rfl, aT_in 330 (w := Cond.instanceMethod yX6_turnBells) (by decide +kernel) rfl, aT_selI 2 (n := 17) (by decide +kernel), aT_in 1 (w := Cond.initialized (yX6_turnBells).cls) (by decide +kernel) rfl, aT_in 331 (w := Cond.code yX6_turnBells cX6_turnBells 4 (some .int)) (by decide +kernel) rfl, by decide +kernel, by decide +kernel, by decide +kernel⟩
theorem clX6_316 : aCalV RX6 316 yX0_turnsAt cX0_turnsAt 2 (some .boolean) 1 := ⟨aT_in 332 (w := Cond.methodLink RX6 316 yX0_turnsAt) (by decide +kernel) rfl, aT_in 333 (w := Cond.instanceMethod yX0_turnsAt) (by decide +kernel) rfl, aT_in 334 (w := Cond.selects (yX0_turnsAt).cls yX0_turnsAt yX0_turnsAt) (by decide +kernel) rfl, aT_in 2 (w := Cond.initialized (yX0_turnsAt).cls) (by decide +kernel) rfl, aT_in 335 (w := Cond.code yX0_turnsAt cX0_turnsAt 2 (some .boolean)) (by decide +kernel) rfl, by decide +kernel, by decide +kernel, by decide +kernel⟩
theorem clX0_49 : aCalV RX0 49 yX0_turnTime cX0_turnTime 1 (some .int) 0 := ⟨aT_in 336 (w := Cond.methodLink RX0 49 yX0_turnTime) (by decide +kernel) rfl, aT_in 337 (w := Cond.instanceMethod yX0_turnTime) (by decide +kernel) rfl, aT_in 338 (w := Cond.selects (yX0_turnTime).cls yX0_turnTime yX0_turnTime) (by decide +kernel) rfl, aT_in 2 (w := Cond.initialized (yX0_turnTime).cls) (by decide +kernel) rfl, aT_in 339 (w := Cond.code yX0_turnTime cX0_turnTime 1 (some .int)) (by decide +kernel) rfl, by decide +kernel, by decide +kernel, by decide +kernel⟩
theorem clX6_293 : aCalV RX6 293 yX0_turn cX0_turn 1 none 0 := ⟨aT_in 340 (w := Cond.methodLink RX6 293 yX0_turn) (by decide +kernel) rfl, aT_in 341 (w := Cond.instanceMethod yX0_turn) (by decide +kernel) rfl, aT_in 342 (w := Cond.selects (yX0_turn).cls yX0_turn yX0_turn) (by decide +kernel) rfl, aT_in 2 (w := Cond.initialized (yX0_turn).cls) (by decide +kernel) rfl, aT_in 343 (w := Cond.code yX0_turn cX0_turn 1 none) (by decide +kernel) rfl, by decide +kernel, by decide +kernel, by decide +kernel⟩
theorem clX0_53 : aCalS RX0 53 yJ9_max_7cf53 cJ9_max_7cf53 2 (some .int) 2 := ⟨aT_in 344 (w := Cond.methodLink RX0 53 yJ9_max_7cf53) (by decide +kernel) rfl, aT_in 345 (w := Cond.static yJ9_max_7cf53) (by decide +kernel) rfl, aT_in 10 (w := Cond.initialized (yJ9_max_7cf53).cls) (by decide +kernel) rfl, aT_in 346 (w := Cond.code yJ9_max_7cf53 cJ9_max_7cf53 2 (some .int)) (by decide +kernel) rfl, by decide +kernel, by decide +kernel, by decide +kernel⟩
theorem clX0_59 : aCalS RX0 59 yJ9_min_7cf53 cJ9_min_7cf53 2 (some .int) 2 := ⟨aT_in 347 (w := Cond.methodLink RX0 59 yJ9_min_7cf53) (by decide +kernel) rfl, aT_in 326 (w := Cond.static yJ9_min_7cf53) (by decide +kernel) rfl, aT_in 10 (w := Cond.initialized (yJ9_min_7cf53).cls) (by decide +kernel) rfl, aT_in 327 (w := Cond.code yJ9_min_7cf53 cJ9_min_7cf53 2 (some .int)) (by decide +kernel) rfl, by decide +kernel, by decide +kernel, by decide +kernel⟩
theorem clX6_115 : aCalV RX6 115 yX6_runProgramme cX6_runProgramme 3 none 0 := ⟨aT_in 348 (w := Cond.methodLink RX6 115 yX6_runProgramme) (by decide +kernel) rfl, aT_in 350 (w := Cond.instanceMethod yX6_runProgramme) (by decide +kernel) rfl, aT_selI 3 (n := 17) (by decide +kernel), aT_in 1 (w := Cond.initialized (yX6_runProgramme).cls) (by decide +kernel) rfl, aT_in 351 (w := Cond.code yX6_runProgramme cX6_runProgramme 3 none) (by decide +kernel) rfl, by decide +kernel, by decide +kernel, by decide +kernel⟩
theorem clX6_319 : aCalV RX6 319 yX6_carryOut cX6_carryOut 3 (some .boolean) 1 := ⟨aT_in 352 (w := Cond.methodLink RX6 319 yX6_carryOut) (by decide +kernel) rfl, aT_in 354 (w := Cond.instanceMethod yX6_carryOut) (by decide +kernel) rfl, aT_selI 4 (n := 17) (by decide +kernel), aT_in 1 (w := Cond.initialized (yX6_carryOut).cls) (by decide +kernel) rfl, aT_in 355 (w := Cond.code yX6_carryOut cX6_carryOut 3 (some .boolean)) (by decide +kernel) rfl, by decide +kernel, by decide +kernel, by decide +kernel⟩
theorem clX6_205 : aCalV RX6 205 yX2_isMissing cX2_isMissing 1 (some .boolean) 0 := ⟨aT_in 356 (w := Cond.methodLink RX6 205 yX2_isMissing) (by decide +kernel) rfl, aT_in 357 (w := Cond.instanceMethod yX2_isMissing) (by decide +kernel) rfl, aT_in 358 (w := Cond.selects (yX2_isMissing).cls yX2_isMissing yX2_isMissing) (by decide +kernel) rfl, aT_in 6 (w := Cond.initialized (yX2_isMissing).cls) (by decide +kernel) rfl, aT_in 359 (w := Cond.code yX2_isMissing cX2_isMissing 1 (some .boolean)) (by decide +kernel) rfl, by decide +kernel, by decide +kernel, by decide +kernel⟩
theorem clX6_222 : aCalV RX6 222 yX6_weaveFrom cX6_weaveFrom 8 (some .int) 4 := ⟨aT_in 360 (w := Cond.methodLink RX6 222 yX6_weaveFrom) (by decide +kernel) rfl, aT_in 362 (w := Cond.instanceMethod yX6_weaveFrom) (by decide +kernel) rfl, aT_selI 5 (n := 17) (by decide +kernel), aT_in 1 (w := Cond.initialized (yX6_weaveFrom).cls) (by decide +kernel) rfl, aT_in 363 (w := Cond.code yX6_weaveFrom cX6_weaveFrom 8 (some .int)) (by decide +kernel) rfl, by decide +kernel, by decide +kernel, by decide +kernel⟩
theorem clX6_334 : aCalV RX6 334 yX6_readyTime cX6_readyTime 9 (some .int) 2 := ⟨aT_in 364 (w := Cond.methodLink RX6 334 yX6_readyTime) (by decide +kernel) rfl, aT_in 366 (w := Cond.instanceMethod yX6_readyTime) (by decide +kernel) rfl, aT_selI 6 (n := 17) (by decide +kernel), aT_in 1 (w := Cond.initialized (yX6_readyTime).cls) (by decide +kernel) rfl, aT_in 367 (w := Cond.code yX6_readyTime cX6_readyTime 9 (some .int)) (by decide +kernel) rfl, by decide +kernel, by decide +kernel, by decide +kernel⟩
theorem clX6_208 : aCalV RX6 208 yX6_existingBells cX6_existingBells 1 (some .int) 0 := ⟨aT_in 368 (w := Cond.methodLink RX6 208 yX6_existingBells) (by decide +kernel) rfl, aT_in 370 (w := Cond.instanceMethod yX6_existingBells) (by decide +kernel) rfl, aT_selI 7 (n := 17) (by decide +kernel), aT_in 1 (w := Cond.initialized (yX6_existingBells).cls) (by decide +kernel) rfl, aT_in 371 (w := Cond.code yX6_existingBells cX6_existingBells 1 (some .int)) (by decide +kernel) rfl, by decide +kernel, by decide +kernel, by decide +kernel⟩
theorem clX6_236 : aCalS RX6 236 yJ9_max_7cf53 cJ9_max_7cf53 2 (some .int) 2 := ⟨aT_in 372 (w := Cond.methodLink RX6 236 yJ9_max_7cf53) (by decide +kernel) rfl, aT_in 345 (w := Cond.static yJ9_max_7cf53) (by decide +kernel) rfl, aT_in 10 (w := Cond.initialized (yJ9_max_7cf53).cls) (by decide +kernel) rfl, aT_in 346 (w := Cond.code yJ9_max_7cf53 cJ9_max_7cf53 2 (some .int)) (by decide +kernel) rfl, by decide +kernel, by decide +kernel, by decide +kernel⟩
theorem clX6_211 : aCalV RX6 211 yX2_strokesOf cX2_strokesOf 4 (some .int) 1 := ⟨aT_in 373 (w := Cond.methodLink RX6 211 yX2_strokesOf) (by decide +kernel) rfl, aT_in 374 (w := Cond.instanceMethod yX2_strokesOf) (by decide +kernel) rfl, aT_in 375 (w := Cond.selects (yX2_strokesOf).cls yX2_strokesOf yX2_strokesOf) (by decide +kernel) rfl, aT_in 6 (w := Cond.initialized (yX2_strokesOf).cls) (by decide +kernel) rfl, aT_in 376 (w := Cond.code yX2_strokesOf cX2_strokesOf 4 (some .int)) (by decide +kernel) rfl, by decide +kernel, by decide +kernel, by decide +kernel⟩
theorem clX2_19 : aCalS RX2 19 yJ6_bitCount_0f7a4 cJ6_bitCount_0f7a4 1 (some .int) 1 := ⟨aT_in 377 (w := Cond.methodLink RX2 19 yJ6_bitCount_0f7a4) (by decide +kernel) rfl, aT_in 378 (w := Cond.static yJ6_bitCount_0f7a4) (by decide +kernel) rfl, aT_in 11 (w := Cond.initialized (yJ6_bitCount_0f7a4).cls) (by decide +kernel) rfl, aT_in 379 (w := Cond.code yJ6_bitCount_0f7a4 cJ6_bitCount_0f7a4 1 (some .int)) (by decide +kernel) rfl, by decide +kernel, by decide +kernel, by decide +kernel⟩
theorem coJ6_265 : Cond.constant RJ6 265 (1431655765) ∈ aT := aT_in 380 (by decide +kernel) rfl
theorem coJ6_266 : Cond.constant RJ6 266 (858993459) ∈ aT := aT_in 381 (by decide +kernel) rfl
theorem coJ6_267 : Cond.constant RJ6 267 (252645135) ∈ aT := aT_in 382 (by decide +kernel) rfl
theorem clX6_338 : aCalV RX6 338 yX6_swingsIn cX6_swingsIn 3 (some .boolean) 1 := ⟨aT_in 383 (w := Cond.methodLink RX6 338 yX6_swingsIn) (by decide +kernel) rfl, aT_in 385 (w := Cond.instanceMethod yX6_swingsIn) (by decide +kernel) rfl, aT_selI 8 (n := 17) (by decide +kernel), aT_in 1 (w := Cond.initialized (yX6_swingsIn).cls) (by decide +kernel) rfl, aT_in 386 (w := Cond.code yX6_swingsIn cX6_swingsIn 3 (some .boolean)) (by decide +kernel) rfl, by decide +kernel, by decide +kernel, by decide +kernel⟩
theorem clX6_226 : aCalV RX6 226 yX6_fitsAlone cX6_fitsAlone 10 (some .boolean) 2 := ⟨aT_in 387 (w := Cond.methodLink RX6 226 yX6_fitsAlone) (by decide +kernel) rfl, aT_in 389 (w := Cond.instanceMethod yX6_fitsAlone) (by decide +kernel) rfl, aT_selI 9 (n := 17) (by decide +kernel), aT_in 1 (w := Cond.initialized (yX6_fitsAlone).cls) (by decide +kernel) rfl, aT_in 390 (w := Cond.code yX6_fitsAlone cX6_fitsAlone 10 (some .boolean)) (by decide +kernel) rfl, by decide +kernel, by decide +kernel, by decide +kernel⟩
theorem clX6_323 : aCalV RX6 323 yX4_rankOf cX4_rankOf 4 (some .int) 1 := ⟨aT_in 391 (w := Cond.methodLink RX6 323 yX4_rankOf) (by decide +kernel) rfl, aT_in 392 (w := Cond.instanceMethod yX4_rankOf) (by decide +kernel) rfl, aT_in 393 (w := Cond.selects (yX4_rankOf).cls yX4_rankOf yX4_rankOf) (by decide +kernel) rfl, aT_in 4 (w := Cond.initialized (yX4_rankOf).cls) (by decide +kernel) rfl, aT_in 394 (w := Cond.code yX4_rankOf cX4_rankOf 4 (some .int)) (by decide +kernel) rfl, by decide +kernel, by decide +kernel, by decide +kernel⟩
theorem clX6_166 : aCalV RX6 166 yX4_isFull cX4_isFull 1 (some .boolean) 0 := ⟨aT_in 395 (w := Cond.methodLink RX6 166 yX4_isFull) (by decide +kernel) rfl, aT_in 396 (w := Cond.instanceMethod yX4_isFull) (by decide +kernel) rfl, aT_in 397 (w := Cond.selects (yX4_isFull).cls yX4_isFull yX4_isFull) (by decide +kernel) rfl, aT_in 4 (w := Cond.initialized (yX4_isFull).cls) (by decide +kernel) rfl, aT_in 398 (w := Cond.code yX4_isFull cX4_isFull 1 (some .boolean)) (by decide +kernel) rfl, by decide +kernel, by decide +kernel, by decide +kernel⟩
theorem clX6_326 : aCalV RX6 326 yX4_clashes cX4_clashes 7 (some .boolean) 5 := ⟨aT_in 399 (w := Cond.methodLink RX6 326 yX4_clashes) (by decide +kernel) rfl, aT_in 400 (w := Cond.instanceMethod yX4_clashes) (by decide +kernel) rfl, aT_in 401 (w := Cond.selects (yX4_clashes).cls yX4_clashes yX4_clashes) (by decide +kernel) rfl, aT_in 4 (w := Cond.initialized (yX4_clashes).cls) (by decide +kernel) rfl, aT_in 402 (w := Cond.code yX4_clashes cX4_clashes 7 (some .boolean)) (by decide +kernel) rfl, by decide +kernel, by decide +kernel, by decide +kernel⟩
theorem clX6_330 : aCalV RX6 330 yX4_overloads cX4_overloads 8 (some .boolean) 4 := ⟨aT_in 403 (w := Cond.methodLink RX6 330 yX4_overloads) (by decide +kernel) rfl, aT_in 404 (w := Cond.instanceMethod yX4_overloads) (by decide +kernel) rfl, aT_in 405 (w := Cond.selects (yX4_overloads).cls yX4_overloads yX4_overloads) (by decide +kernel) rfl, aT_in 4 (w := Cond.initialized (yX4_overloads).cls) (by decide +kernel) rfl, aT_in 406 (w := Cond.code yX4_overloads cX4_overloads 8 (some .boolean)) (by decide +kernel) rfl, by decide +kernel, by decide +kernel, by decide +kernel⟩
theorem clX4_46 : aCalS RX4 46 yJ9_min_7cf53 cJ9_min_7cf53 2 (some .int) 2 := ⟨aT_in 407 (w := Cond.methodLink RX4 46 yJ9_min_7cf53) (by decide +kernel) rfl, aT_in 326 (w := Cond.static yJ9_min_7cf53) (by decide +kernel) rfl, aT_in 10 (w := Cond.initialized (yJ9_min_7cf53).cls) (by decide +kernel) rfl, aT_in 327 (w := Cond.code yJ9_min_7cf53 cJ9_min_7cf53 2 (some .int)) (by decide +kernel) rfl, by decide +kernel, by decide +kernel, by decide +kernel⟩
theorem clX4_52 : aCalS RX4 52 yJ9_max_7cf53 cJ9_max_7cf53 2 (some .int) 2 := ⟨aT_in 408 (w := Cond.methodLink RX4 52 yJ9_max_7cf53) (by decide +kernel) rfl, aT_in 345 (w := Cond.static yJ9_max_7cf53) (by decide +kernel) rfl, aT_in 10 (w := Cond.initialized (yJ9_max_7cf53).cls) (by decide +kernel) rfl, aT_in 346 (w := Cond.code yJ9_max_7cf53 cJ9_max_7cf53 2 (some .int)) (by decide +kernel) rfl, by decide +kernel, by decide +kernel, by decide +kernel⟩
theorem clX6_137 : aCalV RX6 137 yX4_insert cX4_insert 5 none 3 := ⟨aT_in 409 (w := Cond.methodLink RX6 137 yX4_insert) (by decide +kernel) rfl, aT_in 410 (w := Cond.instanceMethod yX4_insert) (by decide +kernel) rfl, aT_in 411 (w := Cond.selects (yX4_insert).cls yX4_insert yX4_insert) (by decide +kernel) rfl, aT_in 4 (w := Cond.initialized (yX4_insert).cls) (by decide +kernel) rfl, aT_in 412 (w := Cond.code yX4_insert cX4_insert 5 none) (by decide +kernel) rfl, by decide +kernel, by decide +kernel, by decide +kernel⟩
theorem clX4_34 : aCalV RX4 34 yX4_isFull cX4_isFull 1 (some .boolean) 0 := ⟨aT_in 413 (w := Cond.methodLink RX4 34 yX4_isFull) (by decide +kernel) rfl, aT_in 396 (w := Cond.instanceMethod yX4_isFull) (by decide +kernel) rfl, aT_in 397 (w := Cond.selects (yX4_isFull).cls yX4_isFull yX4_isFull) (by decide +kernel) rfl, aT_in 4 (w := Cond.initialized (yX4_isFull).cls) (by decide +kernel) rfl, aT_in 398 (w := Cond.code yX4_isFull cX4_isFull 1 (some .boolean)) (by decide +kernel) rfl, by decide +kernel, by decide +kernel, by decide +kernel⟩
theorem clX4_38 : aCalV RX4 38 yX4_rankOf cX4_rankOf 4 (some .int) 1 := ⟨aT_in 414 (w := Cond.methodLink RX4 38 yX4_rankOf) (by decide +kernel) rfl, aT_in 392 (w := Cond.instanceMethod yX4_rankOf) (by decide +kernel) rfl, aT_in 393 (w := Cond.selects (yX4_rankOf).cls yX4_rankOf yX4_rankOf) (by decide +kernel) rfl, aT_in 4 (w := Cond.initialized (yX4_rankOf).cls) (by decide +kernel) rfl, aT_in 394 (w := Cond.code yX4_rankOf cX4_rankOf 4 (some .int)) (by decide +kernel) rfl, by decide +kernel, by decide +kernel, by decide +kernel⟩
theorem clX6_214 : aCalV RX6 214 yX6_draftPattern cX6_draftPattern 11 (some .int) 3 := ⟨aT_in 415 (w := Cond.methodLink RX6 214 yX6_draftPattern) (by decide +kernel) rfl, aT_in 417 (w := Cond.instanceMethod yX6_draftPattern) (by decide +kernel) rfl, aT_selI 10 (n := 17) (by decide +kernel), aT_in 1 (w := Cond.initialized (yX6_draftPattern).cls) (by decide +kernel) rfl, aT_in 418 (w := Cond.code yX6_draftPattern cX6_draftPattern 11 (some .int)) (by decide +kernel) rfl, by decide +kernel, by decide +kernel, by decide +kernel⟩
theorem clX6_218 : aCalV RX6 218 yX4_copyFrom cX4_copyFrom 2 none 1 := ⟨aT_in 419 (w := Cond.methodLink RX6 218 yX4_copyFrom) (by decide +kernel) rfl, aT_in 420 (w := Cond.instanceMethod yX4_copyFrom) (by decide +kernel) rfl, aT_in 421 (w := Cond.selects (yX4_copyFrom).cls yX4_copyFrom yX4_copyFrom) (by decide +kernel) rfl, aT_in 4 (w := Cond.initialized (yX4_copyFrom).cls) (by decide +kernel) rfl, aT_in 422 (w := Cond.code yX4_copyFrom cX4_copyFrom 2 none) (by decide +kernel) rfl, by decide +kernel, by decide +kernel, by decide +kernel⟩
theorem clX6_133 : aCalV RX6 133 yX6_examine cX6_examine 7 (some .int) 3 := ⟨aT_in 423 (w := Cond.methodLink RX6 133 yX6_examine) (by decide +kernel) rfl, aT_in 425 (w := Cond.instanceMethod yX6_examine) (by decide +kernel) rfl, aT_selI 11 (n := 17) (by decide +kernel), aT_in 1 (w := Cond.initialized (yX6_examine).cls) (by decide +kernel) rfl, aT_in 426 (w := Cond.code yX6_examine cX6_examine 7 (some .int)) (by decide +kernel) rfl, by decide +kernel, by decide +kernel, by decide +kernel⟩
theorem clX6_261 : aCalV RX6 261 yX6_dropEntry cX6_dropEntry 4 none 1 := ⟨aT_in 427 (w := Cond.methodLink RX6 261 yX6_dropEntry) (by decide +kernel) rfl, aT_in 429 (w := Cond.instanceMethod yX6_dropEntry) (by decide +kernel) rfl, aT_selI 12 (n := 17) (by decide +kernel), aT_in 1 (w := Cond.initialized (yX6_dropEntry).cls) (by decide +kernel) rfl, aT_in 430 (w := Cond.code yX6_dropEntry cX6_dropEntry 4 none) (by decide +kernel) rfl, by decide +kernel, by decide +kernel, by decide +kernel⟩
theorem clL_45 : aCalV RL 45 yX6_recordLength cX6_recordLength 1 (some .int) 0 := ⟨aT_in 431 (w := Cond.methodLink RL 45 yX6_recordLength) (by decide +kernel) rfl, aT_in 432 (w := Cond.instanceMethod yX6_recordLength) (by decide +kernel) rfl, aT_in 433 (w := Cond.selects (yX6_recordLength).cls yX6_recordLength yX6_recordLength) (by decide +kernel) rfl, aT_in 1 (w := Cond.initialized (yX6_recordLength).cls) (by decide +kernel) rfl, aT_in 434 (w := Cond.code yX6_recordLength cX6_recordLength 1 (some .int)) (by decide +kernel) rfl, by decide +kernel, by decide +kernel, by decide +kernel⟩
theorem clL_49 : aCalV RL 49 yX6_recordBell cX6_recordBell 3 (some .int) 1 := ⟨aT_in 435 (w := Cond.methodLink RL 49 yX6_recordBell) (by decide +kernel) rfl, aT_in 436 (w := Cond.instanceMethod yX6_recordBell) (by decide +kernel) rfl, aT_in 437 (w := Cond.selects (yX6_recordBell).cls yX6_recordBell yX6_recordBell) (by decide +kernel) rfl, aT_in 1 (w := Cond.initialized (yX6_recordBell).cls) (by decide +kernel) rfl, aT_in 438 (w := Cond.code yX6_recordBell cX6_recordBell 3 (some .int)) (by decide +kernel) rfl, by decide +kernel, by decide +kernel, by decide +kernel⟩
theorem clX6_121 : aCalV RX6 121 yX5_slotOf cX5_slotOf 3 (some .int) 1 := ⟨aT_in 439 (w := Cond.methodLink RX6 121 yX5_slotOf) (by decide +kernel) rfl, aT_in 440 (w := Cond.instanceMethod yX5_slotOf) (by decide +kernel) rfl, aT_in 441 (w := Cond.selects (yX5_slotOf).cls yX5_slotOf yX5_slotOf) (by decide +kernel) rfl, aT_in 3 (w := Cond.initialized (yX5_slotOf).cls) (by decide +kernel) rfl, aT_in 442 (w := Cond.code yX5_slotOf cX5_slotOf 3 (some .int)) (by decide +kernel) rfl, by decide +kernel, by decide +kernel, by decide +kernel⟩
theorem clL_53 : aCalV RL 53 yX6_recordTime cX6_recordTime 3 (some .int) 1 := ⟨aT_in 443 (w := Cond.methodLink RL 53 yX6_recordTime) (by decide +kernel) rfl, aT_in 444 (w := Cond.instanceMethod yX6_recordTime) (by decide +kernel) rfl, aT_in 445 (w := Cond.selects (yX6_recordTime).cls yX6_recordTime yX6_recordTime) (by decide +kernel) rfl, aT_in 1 (w := Cond.initialized (yX6_recordTime).cls) (by decide +kernel) rfl, aT_in 446 (w := Cond.code yX6_recordTime cX6_recordTime 3 (some .int)) (by decide +kernel) rfl, by decide +kernel, by decide +kernel, by decide +kernel⟩
theorem clL_57 : aCalV RL 57 yX6_recordClapper cX6_recordClapper 3 (some .int) 1 := ⟨aT_in 447 (w := Cond.methodLink RL 57 yX6_recordClapper) (by decide +kernel) rfl, aT_in 448 (w := Cond.instanceMethod yX6_recordClapper) (by decide +kernel) rfl, aT_in 449 (w := Cond.selects (yX6_recordClapper).cls yX6_recordClapper yX6_recordClapper) (by decide +kernel) rfl, aT_in 1 (w := Cond.initialized (yX6_recordClapper).cls) (by decide +kernel) rfl, aT_in 450 (w := Cond.code yX6_recordClapper cX6_recordClapper 3 (some .int)) (by decide +kernel) rfl, by decide +kernel, by decide +kernel, by decide +kernel⟩
theorem clL_61 : aCalV RL 61 yX6_scheduleStroke cX6_scheduleStroke 5 (some .int) 2 := ⟨aT_in 451 (w := Cond.methodLink RL 61 yX6_scheduleStroke) (by decide +kernel) rfl, aT_in 452 (w := Cond.instanceMethod yX6_scheduleStroke) (by decide +kernel) rfl, aT_in 453 (w := Cond.selects (yX6_scheduleStroke).cls yX6_scheduleStroke yX6_scheduleStroke) (by decide +kernel) rfl, aT_in 1 (w := Cond.initialized (yX6_scheduleStroke).cls) (by decide +kernel) rfl, aT_in 454 (w := Cond.code yX6_scheduleStroke cX6_scheduleStroke 5 (some .int)) (by decide +kernel) rfl, by decide +kernel, by decide +kernel, by decide +kernel⟩
theorem clL_65 : aCalV RL 65 yX6_cancelStroke cX6_cancelStroke 4 (some .int) 2 := ⟨aT_in 455 (w := Cond.methodLink RL 65 yX6_cancelStroke) (by decide +kernel) rfl, aT_in 456 (w := Cond.instanceMethod yX6_cancelStroke) (by decide +kernel) rfl, aT_in 457 (w := Cond.selects (yX6_cancelStroke).cls yX6_cancelStroke yX6_cancelStroke) (by decide +kernel) rfl, aT_in 1 (w := Cond.initialized (yX6_cancelStroke).cls) (by decide +kernel) rfl, aT_in 458 (w := Cond.code yX6_cancelStroke cX6_cancelStroke 4 (some .int)) (by decide +kernel) rfl, by decide +kernel, by decide +kernel, by decide +kernel⟩
theorem clX6_141 : aCalV RX6 141 yX4_indexOf cX4_indexOf 4 (some .int) 2 := ⟨aT_in 459 (w := Cond.methodLink RX6 141 yX4_indexOf) (by decide +kernel) rfl, aT_in 460 (w := Cond.instanceMethod yX4_indexOf) (by decide +kernel) rfl, aT_in 461 (w := Cond.selects (yX4_indexOf).cls yX4_indexOf yX4_indexOf) (by decide +kernel) rfl, aT_in 4 (w := Cond.initialized (yX4_indexOf).cls) (by decide +kernel) rfl, aT_in 462 (w := Cond.code yX4_indexOf cX4_indexOf 4 (some .int)) (by decide +kernel) rfl, by decide +kernel, by decide +kernel, by decide +kernel⟩
theorem clX6_148 : aCalV RX6 148 yX4_removeAt cX4_removeAt 2 none 1 := ⟨aT_in 463 (w := Cond.methodLink RX6 148 yX4_removeAt) (by decide +kernel) rfl, aT_in 315 (w := Cond.instanceMethod yX4_removeAt) (by decide +kernel) rfl, aT_in 316 (w := Cond.selects (yX4_removeAt).cls yX4_removeAt yX4_removeAt) (by decide +kernel) rfl, aT_in 4 (w := Cond.initialized (yX4_removeAt).cls) (by decide +kernel) rfl, aT_in 317 (w := Cond.code yX4_removeAt cX4_removeAt 2 none) (by decide +kernel) rfl, by decide +kernel, by decide +kernel, by decide +kernel⟩
theorem clL_69 : aCalV RL 69 yX6_scheduledCount cX6_scheduledCount 1 (some .int) 0 := ⟨aT_in 464 (w := Cond.methodLink RL 69 yX6_scheduledCount) (by decide +kernel) rfl, aT_in 465 (w := Cond.instanceMethod yX6_scheduledCount) (by decide +kernel) rfl, aT_in 466 (w := Cond.selects (yX6_scheduledCount).cls yX6_scheduledCount yX6_scheduledCount) (by decide +kernel) rfl, aT_in 1 (w := Cond.initialized (yX6_scheduledCount).cls) (by decide +kernel) rfl, aT_in 467 (w := Cond.code yX6_scheduledCount cX6_scheduledCount 1 (some .int)) (by decide +kernel) rfl, by decide +kernel, by decide +kernel, by decide +kernel⟩
theorem clL_73 : aCalV RL 73 yX6_nextStroke cX6_nextStroke 2 (some .int) 1 := ⟨aT_in 468 (w := Cond.methodLink RL 73 yX6_nextStroke) (by decide +kernel) rfl, aT_in 469 (w := Cond.instanceMethod yX6_nextStroke) (by decide +kernel) rfl, aT_in 470 (w := Cond.selects (yX6_nextStroke).cls yX6_nextStroke yX6_nextStroke) (by decide +kernel) rfl, aT_in 1 (w := Cond.initialized (yX6_nextStroke).cls) (by decide +kernel) rfl, aT_in 471 (w := Cond.code yX6_nextStroke cX6_nextStroke 2 (some .int)) (by decide +kernel) rfl, by decide +kernel, by decide +kernel, by decide +kernel⟩
theorem clX6_155 : aCalV RX6 155 yX4_firstTimeOf cX4_firstTimeOf 3 (some .int) 1 := ⟨aT_in 472 (w := Cond.methodLink RX6 155 yX4_firstTimeOf) (by decide +kernel) rfl, aT_in 473 (w := Cond.instanceMethod yX4_firstTimeOf) (by decide +kernel) rfl, aT_in 474 (w := Cond.selects (yX4_firstTimeOf).cls yX4_firstTimeOf yX4_firstTimeOf) (by decide +kernel) rfl, aT_in 4 (w := Cond.initialized (yX4_firstTimeOf).cls) (by decide +kernel) rfl, aT_in 475 (w := Cond.code yX4_firstTimeOf cX4_firstTimeOf 3 (some .int)) (by decide +kernel) rfl, by decide +kernel, by decide +kernel, by decide +kernel⟩
theorem clL_77 : aCalV RL 77 yX6_commandTime cX6_commandTime 2 (some .int) 1 := ⟨aT_in 476 (w := Cond.methodLink RL 77 yX6_commandTime) (by decide +kernel) rfl, aT_in 477 (w := Cond.instanceMethod yX6_commandTime) (by decide +kernel) rfl, aT_in 478 (w := Cond.selects (yX6_commandTime).cls yX6_commandTime yX6_commandTime) (by decide +kernel) rfl, aT_in 1 (w := Cond.initialized (yX6_commandTime).cls) (by decide +kernel) rfl, aT_in 479 (w := Cond.code yX6_commandTime cX6_commandTime 2 (some .int)) (by decide +kernel) rfl, by decide +kernel, by decide +kernel, by decide +kernel⟩
theorem clL_81 : aCalV RL 81 yX6_commandBell cX6_commandBell 2 (some .int) 1 := ⟨aT_in 480 (w := Cond.methodLink RL 81 yX6_commandBell) (by decide +kernel) rfl, aT_in 481 (w := Cond.instanceMethod yX6_commandBell) (by decide +kernel) rfl, aT_in 482 (w := Cond.selects (yX6_commandBell).cls yX6_commandBell yX6_commandBell) (by decide +kernel) rfl, aT_in 1 (w := Cond.initialized (yX6_commandBell).cls) (by decide +kernel) rfl, aT_in 483 (w := Cond.code yX6_commandBell cX6_commandBell 2 (some .int)) (by decide +kernel) rfl, by decide +kernel, by decide +kernel, by decide +kernel⟩
theorem clL_85 : aCalV RL 85 yX6_movingHammers cX6_movingHammers 2 (some .int) 1 := ⟨aT_in 484 (w := Cond.methodLink RL 85 yX6_movingHammers) (by decide +kernel) rfl, aT_in 485 (w := Cond.instanceMethod yX6_movingHammers) (by decide +kernel) rfl, aT_in 486 (w := Cond.selects (yX6_movingHammers).cls yX6_movingHammers yX6_movingHammers) (by decide +kernel) rfl, aT_in 1 (w := Cond.initialized (yX6_movingHammers).cls) (by decide +kernel) rfl, aT_in 487 (w := Cond.code yX6_movingHammers cX6_movingHammers 2 (some .int)) (by decide +kernel) rfl, by decide +kernel, by decide +kernel, by decide +kernel⟩
theorem clX6_159 : aCalV RX6 159 yX4_movingAt cX4_movingAt 4 (some .int) 1 := ⟨aT_in 488 (w := Cond.methodLink RX6 159 yX4_movingAt) (by decide +kernel) rfl, aT_in 489 (w := Cond.instanceMethod yX4_movingAt) (by decide +kernel) rfl, aT_in 490 (w := Cond.selects (yX4_movingAt).cls yX4_movingAt yX4_movingAt) (by decide +kernel) rfl, aT_in 4 (w := Cond.initialized (yX4_movingAt).cls) (by decide +kernel) rfl, aT_in 491 (w := Cond.code yX4_movingAt cX4_movingAt 4 (some .int)) (by decide +kernel) rfl, by decide +kernel, by decide +kernel, by decide +kernel⟩
theorem clL_89 : aCalV RL 89 yX6_earliestStroke cX6_earliestStroke 5 (some .int) 2 := ⟨aT_in 492 (w := Cond.methodLink RL 89 yX6_earliestStroke) (by decide +kernel) rfl, aT_in 493 (w := Cond.instanceMethod yX6_earliestStroke) (by decide +kernel) rfl, aT_in 494 (w := Cond.selects (yX6_earliestStroke).cls yX6_earliestStroke yX6_earliestStroke) (by decide +kernel) rfl, aT_in 1 (w := Cond.initialized (yX6_earliestStroke).cls) (by decide +kernel) rfl, aT_in 495 (w := Cond.code yX6_earliestStroke cX6_earliestStroke 5 (some .int)) (by decide +kernel) rfl, by decide +kernel, by decide +kernel, by decide +kernel⟩
theorem clX6_170 : aCalS RX6 170 yJ9_min_7cf53 cJ9_min_7cf53 2 (some .int) 2 := ⟨aT_in 496 (w := Cond.methodLink RX6 170 yJ9_min_7cf53) (by decide +kernel) rfl, aT_in 326 (w := Cond.static yJ9_min_7cf53) (by decide +kernel) rfl, aT_in 10 (w := Cond.initialized (yJ9_min_7cf53).cls) (by decide +kernel) rfl, aT_in 327 (w := Cond.code yJ9_min_7cf53 cJ9_min_7cf53 2 (some .int)) (by decide +kernel) rfl, by decide +kernel, by decide +kernel, by decide +kernel⟩
theorem clL_93 : aCalV RL 93 yX6_appendBytes cX6_appendBytes 6 (some .int) 5 := ⟨aT_in 497 (w := Cond.methodLink RL 93 yX6_appendBytes) (by decide +kernel) rfl, aT_in 498 (w := Cond.instanceMethod yX6_appendBytes) (by decide +kernel) rfl, aT_in 499 (w := Cond.selects (yX6_appendBytes).cls yX6_appendBytes yX6_appendBytes) (by decide +kernel) rfl, aT_in 1 (w := Cond.initialized (yX6_appendBytes).cls) (by decide +kernel) rfl, aT_in 500 (w := Cond.code yX6_appendBytes cX6_appendBytes 6 (some .int)) (by decide +kernel) rfl, by decide +kernel, by decide +kernel, by decide +kernel⟩
theorem clX6_178 : aCalV RX6 178 yX3_append cX3_append 3 none 1 := ⟨aT_in 501 (w := Cond.methodLink RX6 178 yX3_append) (by decide +kernel) rfl, aT_in 502 (w := Cond.instanceMethod yX3_append) (by decide +kernel) rfl, aT_in 503 (w := Cond.selects (yX3_append).cls yX3_append yX3_append) (by decide +kernel) rfl, aT_in 5 (w := Cond.initialized (yX3_append).cls) (by decide +kernel) rfl, aT_in 504 (w := Cond.code yX3_append cX3_append 3 none) (by decide +kernel) rfl, by decide +kernel, by decide +kernel, by decide +kernel⟩
theorem clL_98 : aCalV RL 98 yX6_loadPattern cX6_loadPattern 4 (some .int) 2 := ⟨aT_in 505 (w := Cond.methodLink RL 98 yX6_loadPattern) (by decide +kernel) rfl, aT_in 506 (w := Cond.instanceMethod yX6_loadPattern) (by decide +kernel) rfl, aT_in 507 (w := Cond.selects (yX6_loadPattern).cls yX6_loadPattern yX6_loadPattern) (by decide +kernel) rfl, aT_in 1 (w := Cond.initialized (yX6_loadPattern).cls) (by decide +kernel) rfl, aT_in 508 (w := Cond.code yX6_loadPattern cX6_loadPattern 4 (some .int)) (by decide +kernel) rfl, by decide +kernel, by decide +kernel, by decide +kernel⟩
theorem clX6_181 : aCalS RX6 181 yX6_isPattern cX6_isPattern 1 (some .boolean) 1 := ⟨aT_in 509 (w := Cond.methodLink RX6 181 yX6_isPattern) (by decide +kernel) rfl, aT_in 510 (w := Cond.static yX6_isPattern) (by decide +kernel) rfl, aT_in 1 (w := Cond.initialized (yX6_isPattern).cls) (by decide +kernel) rfl, aT_in 511 (w := Cond.code yX6_isPattern cX6_isPattern 1 (some .boolean)) (by decide +kernel) rfl, by decide +kernel, by decide +kernel, by decide +kernel⟩
theorem clX6_184 : aCalV RX6 184 yX3_read cX3_read 3 none 1 := ⟨aT_in 512 (w := Cond.methodLink RX6 184 yX3_read) (by decide +kernel) rfl, aT_in 513 (w := Cond.instanceMethod yX3_read) (by decide +kernel) rfl, aT_in 514 (w := Cond.selects (yX3_read).cls yX3_read yX3_read) (by decide +kernel) rfl, aT_in 5 (w := Cond.initialized (yX3_read).cls) (by decide +kernel) rfl, aT_in 515 (w := Cond.code yX3_read cX3_read 3 none) (by decide +kernel) rfl, by decide +kernel, by decide +kernel, by decide +kernel⟩
theorem clX3_46 : aCalS RX3 46 yJ9_min_7cf53 cJ9_min_7cf53 2 (some .int) 2 := ⟨aT_in 516 (w := Cond.methodLink RX3 46 yJ9_min_7cf53) (by decide +kernel) rfl, aT_in 326 (w := Cond.static yJ9_min_7cf53) (by decide +kernel) rfl, aT_in 10 (w := Cond.initialized (yJ9_min_7cf53).cls) (by decide +kernel) rfl, aT_in 327 (w := Cond.code yJ9_min_7cf53 cJ9_min_7cf53 2 (some .int)) (by decide +kernel) rfl, by decide +kernel, by decide +kernel, by decide +kernel⟩
theorem clX3_52 : aCalV RX3 52 yX3_readNext cX3_readNext 2 none 0 := ⟨aT_in 517 (w := Cond.methodLink RX3 52 yX3_readNext) (by decide +kernel) rfl, aT_in 519 (w := Cond.instanceMethod yX3_readNext) (by decide +kernel) rfl, aT_selI 13 (n := 11) (by decide +kernel), aT_in 5 (w := Cond.initialized (yX3_readNext).cls) (by decide +kernel) rfl, aT_in 520 (w := Cond.code yX3_readNext cX3_readNext 2 none) (by decide +kernel) rfl, by decide +kernel, by decide +kernel, by decide +kernel⟩
theorem clX3_59 : aCalV RX3 59 yX3_signAt cX3_signAt 2 (some .int) 1 := ⟨aT_in 521 (w := Cond.methodLink RX3 59 yX3_signAt) (by decide +kernel) rfl, aT_in 523 (w := Cond.instanceMethod yX3_signAt) (by decide +kernel) rfl, aT_selI 14 (n := 11) (by decide +kernel), aT_in 5 (w := Cond.initialized (yX3_signAt).cls) (by decide +kernel) rfl, aT_in 524 (w := Cond.code yX3_signAt cX3_signAt 2 (some .int)) (by decide +kernel) rfl, by decide +kernel, by decide +kernel, by decide +kernel⟩
theorem clX3_63 : aCalV RX3 63 yX3_openGroup cX3_openGroup 1 none 0 := ⟨aT_in 525 (w := Cond.methodLink RX3 63 yX3_openGroup) (by decide +kernel) rfl, aT_in 527 (w := Cond.instanceMethod yX3_openGroup) (by decide +kernel) rfl, aT_selI 15 (n := 11) (by decide +kernel), aT_in 5 (w := Cond.initialized (yX3_openGroup).cls) (by decide +kernel) rfl, aT_in 528 (w := Cond.code yX3_openGroup cX3_openGroup 1 none) (by decide +kernel) rfl, by decide +kernel, by decide +kernel, by decide +kernel⟩
theorem clX3_55 : aCalV RX3 55 yX3_fail cX3_fail 3 none 2 := ⟨aT_in 529 (w := Cond.methodLink RX3 55 yX3_fail) (by decide +kernel) rfl, aT_in 531 (w := Cond.instanceMethod yX3_fail) (by decide +kernel) rfl, aT_selI 16 (n := 11) (by decide +kernel), aT_in 5 (w := Cond.initialized (yX3_fail).cls) (by decide +kernel) rfl, aT_in 532 (w := Cond.code yX3_fail cX3_fail 3 none) (by decide +kernel) rfl, by decide +kernel, by decide +kernel, by decide +kernel⟩
theorem clX3_66 : aCalV RX3 66 yX3_closeGroup cX3_closeGroup 2 none 0 := ⟨aT_in 533 (w := Cond.methodLink RX3 66 yX3_closeGroup) (by decide +kernel) rfl, aT_in 535 (w := Cond.instanceMethod yX3_closeGroup) (by decide +kernel) rfl, aT_selI 17 (n := 11) (by decide +kernel), aT_in 5 (w := Cond.initialized (yX3_closeGroup).cls) (by decide +kernel) rfl, aT_in 536 (w := Cond.code yX3_closeGroup cX3_closeGroup 2 none) (by decide +kernel) rfl, by decide +kernel, by decide +kernel, by decide +kernel⟩
theorem clX3_76 : aCalS RX3 76 yX3_isDigit cX3_isDigit 1 (some .boolean) 1 := ⟨aT_in 537 (w := Cond.methodLink RX3 76 yX3_isDigit) (by decide +kernel) rfl, aT_in 538 (w := Cond.static yX3_isDigit) (by decide +kernel) rfl, aT_in 5 (w := Cond.initialized (yX3_isDigit).cls) (by decide +kernel) rfl, aT_in 539 (w := Cond.code yX3_isDigit cX3_isDigit 1 (some .boolean)) (by decide +kernel) rfl, by decide +kernel, by decide +kernel, by decide +kernel⟩
theorem clX3_79 : aCalV RX3 79 yX3_readNumber cX3_readNumber 3 (some .int) 0 := ⟨aT_in 540 (w := Cond.methodLink RX3 79 yX3_readNumber) (by decide +kernel) rfl, aT_in 542 (w := Cond.instanceMethod yX3_readNumber) (by decide +kernel) rfl, aT_selI 18 (n := 11) (by decide +kernel), aT_in 5 (w := Cond.initialized (yX3_readNumber).cls) (by decide +kernel) rfl, aT_in 543 (w := Cond.code yX3_readNumber cX3_readNumber 3 (some .int)) (by decide +kernel) rfl, by decide +kernel, by decide +kernel, by decide +kernel⟩
theorem clX3_83 : aCalV RX3 83 yX3_repeatGroup cX3_repeatGroup 6 none 2 := ⟨aT_in 544 (w := Cond.methodLink RX3 83 yX3_repeatGroup) (by decide +kernel) rfl, aT_in 546 (w := Cond.instanceMethod yX3_repeatGroup) (by decide +kernel) rfl, aT_selI 19 (n := 11) (by decide +kernel), aT_in 5 (w := Cond.initialized (yX3_repeatGroup).cls) (by decide +kernel) rfl, aT_in 547 (w := Cond.code yX3_repeatGroup cX3_repeatGroup 6 none) (by decide +kernel) rfl, by decide +kernel, by decide +kernel, by decide +kernel⟩
theorem clX3_69 : aCalS RX3 69 yX3_isLetter cX3_isLetter 1 (some .boolean) 1 := ⟨aT_in 549 (w := Cond.methodLink RX3 69 yX3_isLetter) (by decide +kernel) rfl, aT_in 550 (w := Cond.static yX3_isLetter) (by decide +kernel) rfl, aT_in 5 (w := Cond.initialized (yX3_isLetter).cls) (by decide +kernel) rfl, aT_in 551 (w := Cond.code yX3_isLetter cX3_isLetter 1 (some .boolean)) (by decide +kernel) rfl, by decide +kernel, by decide +kernel, by decide +kernel⟩
theorem clX3_73 : aCalV RX3 73 yX3_readStep cX3_readStep 5 none 0 := ⟨aT_in 552 (w := Cond.methodLink RX3 73 yX3_readStep) (by decide +kernel) rfl, aT_in 554 (w := Cond.instanceMethod yX3_readStep) (by decide +kernel) rfl, aT_selI 20 (n := 11) (by decide +kernel), aT_in 5 (w := Cond.initialized (yX3_readStep).cls) (by decide +kernel) rfl, aT_in 555 (w := Cond.code yX3_readStep cX3_readStep 5 none) (by decide +kernel) rfl, by decide +kernel, by decide +kernel, by decide +kernel⟩
theorem clL_102 : aCalV RL 102 yX6_patternError cX6_patternError 1 (some .int) 0 := ⟨aT_in 557 (w := Cond.methodLink RL 102 yX6_patternError) (by decide +kernel) rfl, aT_in 558 (w := Cond.instanceMethod yX6_patternError) (by decide +kernel) rfl, aT_in 559 (w := Cond.selects (yX6_patternError).cls yX6_patternError yX6_patternError) (by decide +kernel) rfl, aT_in 1 (w := Cond.initialized (yX6_patternError).cls) (by decide +kernel) rfl, aT_in 560 (w := Cond.code yX6_patternError cX6_patternError 1 (some .int)) (by decide +kernel) rfl, by decide +kernel, by decide +kernel, by decide +kernel⟩
theorem clL_106 : aCalV RL 106 yX6_patternErrorPosition cX6_patternErrorPosition 1 (some .int) 0 := ⟨aT_in 561 (w := Cond.methodLink RL 106 yX6_patternErrorPosition) (by decide +kernel) rfl, aT_in 562 (w := Cond.instanceMethod yX6_patternErrorPosition) (by decide +kernel) rfl, aT_in 563 (w := Cond.selects (yX6_patternErrorPosition).cls yX6_patternErrorPosition yX6_patternErrorPosition) (by decide +kernel) rfl, aT_in 1 (w := Cond.initialized (yX6_patternErrorPosition).cls) (by decide +kernel) rfl, aT_in 564 (w := Cond.code yX6_patternErrorPosition cX6_patternErrorPosition 1 (some .int)) (by decide +kernel) rfl, by decide +kernel, by decide +kernel, by decide +kernel⟩
theorem clL_110 : aCalV RL 110 yX6_stepBells cX6_stepBells 4 (some .int) 2 := ⟨aT_in 565 (w := Cond.methodLink RL 110 yX6_stepBells) (by decide +kernel) rfl, aT_in 566 (w := Cond.instanceMethod yX6_stepBells) (by decide +kernel) rfl, aT_in 567 (w := Cond.selects (yX6_stepBells).cls yX6_stepBells yX6_stepBells) (by decide +kernel) rfl, aT_in 1 (w := Cond.initialized (yX6_stepBells).cls) (by decide +kernel) rfl, aT_in 568 (w := Cond.code yX6_stepBells cX6_stepBells 4 (some .int)) (by decide +kernel) rfl, by decide +kernel, by decide +kernel, by decide +kernel⟩
theorem clL_114 : aCalV RL 114 yX6_patternStrokes cX6_patternStrokes 3 (some .int) 1 := ⟨aT_in 569 (w := Cond.methodLink RL 114 yX6_patternStrokes) (by decide +kernel) rfl, aT_in 570 (w := Cond.instanceMethod yX6_patternStrokes) (by decide +kernel) rfl, aT_in 571 (w := Cond.selects (yX6_patternStrokes).cls yX6_patternStrokes yX6_patternStrokes) (by decide +kernel) rfl, aT_in 1 (w := Cond.initialized (yX6_patternStrokes).cls) (by decide +kernel) rfl, aT_in 572 (w := Cond.code yX6_patternStrokes cX6_patternStrokes 3 (some .int)) (by decide +kernel) rfl, by decide +kernel, by decide +kernel, by decide +kernel⟩
theorem clL_118 : aCalV RL 118 yX6_play cX6_play 5 (some .int) 3 := ⟨aT_in 573 (w := Cond.methodLink RL 118 yX6_play) (by decide +kernel) rfl, aT_in 574 (w := Cond.instanceMethod yX6_play) (by decide +kernel) rfl, aT_in 575 (w := Cond.selects (yX6_play).cls yX6_play yX6_play) (by decide +kernel) rfl, aT_in 1 (w := Cond.initialized (yX6_play).cls) (by decide +kernel) rfl, aT_in 576 (w := Cond.code yX6_play cX6_play 5 (some .int)) (by decide +kernel) rfl, by decide +kernel, by decide +kernel, by decide +kernel⟩
theorem clL_123 : aCalV RL 123 yX6_weave cX6_weave 5 (some .int) 4 := ⟨aT_in 577 (w := Cond.methodLink RL 123 yX6_weave) (by decide +kernel) rfl, aT_in 578 (w := Cond.instanceMethod yX6_weave) (by decide +kernel) rfl, aT_in 579 (w := Cond.selects (yX6_weave).cls yX6_weave yX6_weave) (by decide +kernel) rfl, aT_in 1 (w := Cond.initialized (yX6_weave).cls) (by decide +kernel) rfl, aT_in 580 (w := Cond.code yX6_weave cX6_weave 5 (some .int)) (by decide +kernel) rfl, by decide +kernel, by decide +kernel, by decide +kernel⟩
theorem clL_127 : aCalV RL 127 yX6_fastestTicks cX6_fastestTicks 3 (some .int) 1 := ⟨aT_in 581 (w := Cond.methodLink RL 127 yX6_fastestTicks) (by decide +kernel) rfl, aT_in 582 (w := Cond.instanceMethod yX6_fastestTicks) (by decide +kernel) rfl, aT_in 583 (w := Cond.selects (yX6_fastestTicks).cls yX6_fastestTicks yX6_fastestTicks) (by decide +kernel) rfl, aT_in 1 (w := Cond.initialized (yX6_fastestTicks).cls) (by decide +kernel) rfl, aT_in 584 (w := Cond.code yX6_fastestTicks cX6_fastestTicks 3 (some .int)) (by decide +kernel) rfl, by decide +kernel, by decide +kernel, by decide +kernel⟩
theorem clL_131 : aCalV RL 131 yX6_powerNeeded cX6_powerNeeded 6 (some .int) 2 := ⟨aT_in 585 (w := Cond.methodLink RL 131 yX6_powerNeeded) (by decide +kernel) rfl, aT_in 586 (w := Cond.instanceMethod yX6_powerNeeded) (by decide +kernel) rfl, aT_in 587 (w := Cond.selects (yX6_powerNeeded).cls yX6_powerNeeded yX6_powerNeeded) (by decide +kernel) rfl, aT_in 1 (w := Cond.initialized (yX6_powerNeeded).cls) (by decide +kernel) rfl, aT_in 588 (w := Cond.code yX6_powerNeeded cX6_powerNeeded 6 (some .int)) (by decide +kernel) rfl, by decide +kernel, by decide +kernel, by decide +kernel⟩
theorem clX6_230 : aCalV RX6 230 yX6_listMovingBells cX6_listMovingBells 4 none 0 := ⟨aT_in 589 (w := Cond.methodLink RX6 230 yX6_listMovingBells) (by decide +kernel) rfl, aT_in 591 (w := Cond.instanceMethod yX6_listMovingBells) (by decide +kernel) rfl, aT_selI 21 (n := 17) (by decide +kernel), aT_in 1 (w := Cond.initialized (yX6_listMovingBells).cls) (by decide +kernel) rfl, aT_in 592 (w := Cond.code yX6_listMovingBells cX6_listMovingBells 4 none) (by decide +kernel) rfl, by decide +kernel, by decide +kernel, by decide +kernel⟩
theorem clX6_233 : aCalV RX6 233 yX6_movingBefore cX6_movingBefore 7 (some .int) 3 := ⟨aT_in 593 (w := Cond.methodLink RX6 233 yX6_movingBefore) (by decide +kernel) rfl, aT_in 595 (w := Cond.instanceMethod yX6_movingBefore) (by decide +kernel) rfl, aT_selI 22 (n := 17) (by decide +kernel), aT_in 1 (w := Cond.initialized (yX6_movingBefore).cls) (by decide +kernel) rfl, aT_in 596 (w := Cond.code yX6_movingBefore cX6_movingBefore 7 (some .int)) (by decide +kernel) rfl, by decide +kernel, by decide +kernel, by decide +kernel⟩
theorem clX6_342 : aCalS RX6 342 yJ6_bitCount_0f7a4 cJ6_bitCount_0f7a4 1 (some .int) 1 := ⟨aT_in 597 (w := Cond.methodLink RX6 342 yJ6_bitCount_0f7a4) (by decide +kernel) rfl, aT_in 378 (w := Cond.static yJ6_bitCount_0f7a4) (by decide +kernel) rfl, aT_in 11 (w := Cond.initialized (yJ6_bitCount_0f7a4).cls) (by decide +kernel) rfl, aT_in 379 (w := Cond.code yJ6_bitCount_0f7a4 cJ6_bitCount_0f7a4 1 (some .int)) (by decide +kernel) rfl, by decide +kernel, by decide +kernel, by decide +kernel⟩
theorem clL_135 : aCalV RL 135 yX6_addEntry cX6_addEntry 7 (some .int) 5 := ⟨aT_in 598 (w := Cond.methodLink RL 135 yX6_addEntry) (by decide +kernel) rfl, aT_in 599 (w := Cond.instanceMethod yX6_addEntry) (by decide +kernel) rfl, aT_in 600 (w := Cond.selects (yX6_addEntry).cls yX6_addEntry yX6_addEntry) (by decide +kernel) rfl, aT_in 1 (w := Cond.initialized (yX6_addEntry).cls) (by decide +kernel) rfl, aT_in 601 (w := Cond.code yX6_addEntry cX6_addEntry 7 (some .int)) (by decide +kernel) rfl, by decide +kernel, by decide +kernel, by decide +kernel⟩
theorem coX6_239 : Cond.constant RX6 239 (50000) ∈ aT := aT_in 602 (by decide +kernel) rfl
theorem clL_139 : aCalV RL 139 yX6_removeEntry cX6_removeEntry 2 (some .int) 1 := ⟨aT_in 603 (w := Cond.methodLink RL 139 yX6_removeEntry) (by decide +kernel) rfl, aT_in 604 (w := Cond.instanceMethod yX6_removeEntry) (by decide +kernel) rfl, aT_in 605 (w := Cond.selects (yX6_removeEntry).cls yX6_removeEntry yX6_removeEntry) (by decide +kernel) rfl, aT_in 1 (w := Cond.initialized (yX6_removeEntry).cls) (by decide +kernel) rfl, aT_in 606 (w := Cond.code yX6_removeEntry cX6_removeEntry 2 (some .int)) (by decide +kernel) rfl, by decide +kernel, by decide +kernel, by decide +kernel⟩
theorem clX6_258 : aCalV RX6 258 yX6_isEntry cX6_isEntry 2 (some .boolean) 1 := ⟨aT_in 607 (w := Cond.methodLink RX6 258 yX6_isEntry) (by decide +kernel) rfl, aT_in 609 (w := Cond.instanceMethod yX6_isEntry) (by decide +kernel) rfl, aT_selI 23 (n := 17) (by decide +kernel), aT_in 1 (w := Cond.initialized (yX6_isEntry).cls) (by decide +kernel) rfl, aT_in 610 (w := Cond.code yX6_isEntry cX6_isEntry 2 (some .boolean)) (by decide +kernel) rfl, by decide +kernel, by decide +kernel, by decide +kernel⟩
theorem clL_143 : aCalV RL 143 yX6_entryCount cX6_entryCount 1 (some .int) 0 := ⟨aT_in 611 (w := Cond.methodLink RL 143 yX6_entryCount) (by decide +kernel) rfl, aT_in 612 (w := Cond.instanceMethod yX6_entryCount) (by decide +kernel) rfl, aT_in 613 (w := Cond.selects (yX6_entryCount).cls yX6_entryCount yX6_entryCount) (by decide +kernel) rfl, aT_in 1 (w := Cond.initialized (yX6_entryCount).cls) (by decide +kernel) rfl, aT_in 614 (w := Cond.code yX6_entryCount cX6_entryCount 1 (some .int)) (by decide +kernel) rfl, by decide +kernel, by decide +kernel, by decide +kernel⟩
theorem clL_147 : aCalV RL 147 yX6_dueTime cX6_dueTime 2 (some .int) 1 := ⟨aT_in 615 (w := Cond.methodLink RL 147 yX6_dueTime) (by decide +kernel) rfl, aT_in 616 (w := Cond.instanceMethod yX6_dueTime) (by decide +kernel) rfl, aT_in 617 (w := Cond.selects (yX6_dueTime).cls yX6_dueTime yX6_dueTime) (by decide +kernel) rfl, aT_in 1 (w := Cond.initialized (yX6_dueTime).cls) (by decide +kernel) rfl, aT_in 618 (w := Cond.code yX6_dueTime cX6_dueTime 2 (some .int)) (by decide +kernel) rfl, by decide +kernel, by decide +kernel, by decide +kernel⟩
theorem clL_151 : aCalV RL 151 yX6_lastShift cX6_lastShift 2 (some .int) 1 := ⟨aT_in 619 (w := Cond.methodLink RL 151 yX6_lastShift) (by decide +kernel) rfl, aT_in 620 (w := Cond.instanceMethod yX6_lastShift) (by decide +kernel) rfl, aT_in 621 (w := Cond.selects (yX6_lastShift).cls yX6_lastShift yX6_lastShift) (by decide +kernel) rfl, aT_in 1 (w := Cond.initialized (yX6_lastShift).cls) (by decide +kernel) rfl, aT_in 622 (w := Cond.code yX6_lastShift cX6_lastShift 2 (some .int)) (by decide +kernel) rfl, by decide +kernel, by decide +kernel, by decide +kernel⟩
theorem clL_155 : aCalV RL 155 yX6_failureCount cX6_failureCount 1 (some .int) 0 := ⟨aT_in 623 (w := Cond.methodLink RL 155 yX6_failureCount) (by decide +kernel) rfl, aT_in 624 (w := Cond.instanceMethod yX6_failureCount) (by decide +kernel) rfl, aT_in 625 (w := Cond.selects (yX6_failureCount).cls yX6_failureCount yX6_failureCount) (by decide +kernel) rfl, aT_in 1 (w := Cond.initialized (yX6_failureCount).cls) (by decide +kernel) rfl, aT_in 626 (w := Cond.code yX6_failureCount cX6_failureCount 1 (some .int)) (by decide +kernel) rfl, by decide +kernel, by decide +kernel, by decide +kernel⟩
theorem clL_159 : aCalV RL 159 yX6_startSwing cX6_startSwing 3 (some .int) 2 := ⟨aT_in 627 (w := Cond.methodLink RL 159 yX6_startSwing) (by decide +kernel) rfl, aT_in 628 (w := Cond.instanceMethod yX6_startSwing) (by decide +kernel) rfl, aT_in 629 (w := Cond.selects (yX6_startSwing).cls yX6_startSwing yX6_startSwing) (by decide +kernel) rfl, aT_in 1 (w := Cond.initialized (yX6_startSwing).cls) (by decide +kernel) rfl, aT_in 630 (w := Cond.code yX6_startSwing cX6_startSwing 3 (some .int)) (by decide +kernel) rfl, by decide +kernel, by decide +kernel, by decide +kernel⟩
theorem clX6_264 : aCalV RX6 264 yX6_foreseeShakes cX6_foreseeShakes 3 none 1 := ⟨aT_in 631 (w := Cond.methodLink RX6 264 yX6_foreseeShakes) (by decide +kernel) rfl, aT_in 633 (w := Cond.instanceMethod yX6_foreseeShakes) (by decide +kernel) rfl, aT_selI 24 (n := 17) (by decide +kernel), aT_in 1 (w := Cond.initialized (yX6_foreseeShakes).cls) (by decide +kernel) rfl, aT_in 634 (w := Cond.code yX6_foreseeShakes cX6_foreseeShakes 3 none) (by decide +kernel) rfl, by decide +kernel, by decide +kernel, by decide +kernel⟩
theorem clX6_299 : aCalS RX6 299 yX6_clear cX6_clear 2 none 1 := ⟨aT_in 635 (w := Cond.methodLink RX6 299 yX6_clear) (by decide +kernel) rfl, aT_in 636 (w := Cond.static yX6_clear) (by decide +kernel) rfl, aT_in 1 (w := Cond.initialized (yX6_clear).cls) (by decide +kernel) rfl, aT_in 637 (w := Cond.code yX6_clear cX6_clear 2 none) (by decide +kernel) rfl, by decide +kernel, by decide +kernel, by decide +kernel⟩
theorem clX6_267 : aCalV RX6 267 yX0_copyFrom cX0_copyFrom 2 none 1 := ⟨aT_in 638 (w := Cond.methodLink RX6 267 yX0_copyFrom) (by decide +kernel) rfl, aT_in 639 (w := Cond.instanceMethod yX0_copyFrom) (by decide +kernel) rfl, aT_in 640 (w := Cond.selects (yX0_copyFrom).cls yX0_copyFrom yX0_copyFrom) (by decide +kernel) rfl, aT_in 2 (w := Cond.initialized (yX0_copyFrom).cls) (by decide +kernel) rfl, aT_in 641 (w := Cond.code yX0_copyFrom cX0_copyFrom 2 none) (by decide +kernel) rfl, by decide +kernel, by decide +kernel, by decide +kernel⟩
theorem clX6_274 : aCalV RX6 274 yX0_addForces cX0_addForces 5 none 3 := ⟨aT_in 642 (w := Cond.methodLink RX6 274 yX0_addForces) (by decide +kernel) rfl, aT_in 643 (w := Cond.instanceMethod yX0_addForces) (by decide +kernel) rfl, aT_in 644 (w := Cond.selects (yX0_addForces).cls yX0_addForces yX0_addForces) (by decide +kernel) rfl, aT_in 2 (w := Cond.initialized (yX0_addForces).cls) (by decide +kernel) rfl, aT_in 645 (w := Cond.code yX0_addForces cX0_addForces 5 none) (by decide +kernel) rfl, by decide +kernel, by decide +kernel, by decide +kernel⟩
theorem clX0_62 : aCalV RX0 62 yX0_turnsAt cX0_turnsAt 2 (some .boolean) 1 := ⟨aT_in 646 (w := Cond.methodLink RX0 62 yX0_turnsAt) (by decide +kernel) rfl, aT_in 333 (w := Cond.instanceMethod yX0_turnsAt) (by decide +kernel) rfl, aT_in 334 (w := Cond.selects (yX0_turnsAt).cls yX0_turnsAt yX0_turnsAt) (by decide +kernel) rfl, aT_in 2 (w := Cond.initialized (yX0_turnsAt).cls) (by decide +kernel) rfl, aT_in 335 (w := Cond.code yX0_turnsAt cX0_turnsAt 2 (some .boolean)) (by decide +kernel) rfl, by decide +kernel, by decide +kernel, by decide +kernel⟩
theorem clX0_66 : aCalV RX0 66 yX0_turn cX0_turn 1 none 0 := ⟨aT_in 647 (w := Cond.methodLink RX0 66 yX0_turn) (by decide +kernel) rfl, aT_in 341 (w := Cond.instanceMethod yX0_turn) (by decide +kernel) rfl, aT_in 342 (w := Cond.selects (yX0_turn).cls yX0_turn yX0_turn) (by decide +kernel) rfl, aT_in 2 (w := Cond.initialized (yX0_turn).cls) (by decide +kernel) rfl, aT_in 343 (w := Cond.code yX0_turn cX0_turn 1 none) (by decide +kernel) rfl, by decide +kernel, by decide +kernel, by decide +kernel⟩
theorem clX0_69 : aCalV RX0 69 yX0_forceAt cX0_forceAt 3 (some .int) 1 := ⟨aT_in 648 (w := Cond.methodLink RX0 69 yX0_forceAt) (by decide +kernel) rfl, aT_in 649 (w := Cond.instanceMethod yX0_forceAt) (by decide +kernel) rfl, aT_in 650 (w := Cond.selects (yX0_forceAt).cls yX0_forceAt yX0_forceAt) (by decide +kernel) rfl, aT_in 2 (w := Cond.initialized (yX0_forceAt).cls) (by decide +kernel) rfl, aT_in 651 (w := Cond.code yX0_forceAt cX0_forceAt 3 (some .int)) (by decide +kernel) rfl, by decide +kernel, by decide +kernel, by decide +kernel⟩
theorem clX6_270 : aCalV RX6 270 yX0_start cX0_start 3 none 2 := ⟨aT_in 652 (w := Cond.methodLink RX6 270 yX0_start) (by decide +kernel) rfl, aT_in 653 (w := Cond.instanceMethod yX0_start) (by decide +kernel) rfl, aT_in 654 (w := Cond.selects (yX0_start).cls yX0_start yX0_start) (by decide +kernel) rfl, aT_in 2 (w := Cond.initialized (yX0_start).cls) (by decide +kernel) rfl, aT_in 655 (w := Cond.code yX0_start cX0_start 3 none) (by decide +kernel) rfl, by decide +kernel, by decide +kernel, by decide +kernel⟩
theorem clX6_278 : aCalV RX6 278 yX6_greatestUpTo cX6_greatestUpTo 4 (some .int) 1 := ⟨aT_in 656 (w := Cond.methodLink RX6 278 yX6_greatestUpTo) (by decide +kernel) rfl, aT_in 658 (w := Cond.instanceMethod yX6_greatestUpTo) (by decide +kernel) rfl, aT_selI 25 (n := 17) (by decide +kernel), aT_in 1 (w := Cond.initialized (yX6_greatestUpTo).cls) (by decide +kernel) rfl, aT_in 659 (w := Cond.code yX6_greatestUpTo cX6_greatestUpTo 4 (some .int)) (by decide +kernel) rfl, by decide +kernel, by decide +kernel, by decide +kernel⟩
theorem clX6_347 : aCalS RX6 347 yJ9_abs_0f7a4 cJ9_abs_0f7a4 1 (some .int) 1 := ⟨aT_in 660 (w := Cond.methodLink RX6 347 yJ9_abs_0f7a4) (by decide +kernel) rfl, aT_in 661 (w := Cond.static yJ9_abs_0f7a4) (by decide +kernel) rfl, aT_in 10 (w := Cond.initialized (yJ9_abs_0f7a4).cls) (by decide +kernel) rfl, aT_in 662 (w := Cond.code yJ9_abs_0f7a4 cJ9_abs_0f7a4 1 (some .int)) (by decide +kernel) rfl, by decide +kernel, by decide +kernel, by decide +kernel⟩
theorem clX6_281 : aCalV RX6 281 yX0_turnTime cX0_turnTime 1 (some .int) 0 := ⟨aT_in 663 (w := Cond.methodLink RX6 281 yX0_turnTime) (by decide +kernel) rfl, aT_in 337 (w := Cond.instanceMethod yX0_turnTime) (by decide +kernel) rfl, aT_in 338 (w := Cond.selects (yX0_turnTime).cls yX0_turnTime yX0_turnTime) (by decide +kernel) rfl, aT_in 2 (w := Cond.initialized (yX0_turnTime).cls) (by decide +kernel) rfl, aT_in 339 (w := Cond.code yX0_turnTime cX0_turnTime 1 (some .int)) (by decide +kernel) rfl, by decide +kernel, by decide +kernel, by decide +kernel⟩
theorem clL_163 : aCalV RL 163 yX6_stopMotor cX6_stopMotor 2 (some .int) 1 := ⟨aT_in 664 (w := Cond.methodLink RL 163 yX6_stopMotor) (by decide +kernel) rfl, aT_in 665 (w := Cond.instanceMethod yX6_stopMotor) (by decide +kernel) rfl, aT_in 666 (w := Cond.selects (yX6_stopMotor).cls yX6_stopMotor yX6_stopMotor) (by decide +kernel) rfl, aT_in 1 (w := Cond.initialized (yX6_stopMotor).cls) (by decide +kernel) rfl, aT_in 667 (w := Cond.code yX6_stopMotor cX6_stopMotor 2 (some .int)) (by decide +kernel) rfl, by decide +kernel, by decide +kernel, by decide +kernel⟩
theorem clL_167 : aCalV RL 167 yX6_holdClapper cX6_holdClapper 4 (some .int) 2 := ⟨aT_in 668 (w := Cond.methodLink RL 167 yX6_holdClapper) (by decide +kernel) rfl, aT_in 669 (w := Cond.instanceMethod yX6_holdClapper) (by decide +kernel) rfl, aT_in 670 (w := Cond.selects (yX6_holdClapper).cls yX6_holdClapper yX6_holdClapper) (by decide +kernel) rfl, aT_in 1 (w := Cond.initialized (yX6_holdClapper).cls) (by decide +kernel) rfl, aT_in 671 (w := Cond.code yX6_holdClapper cX6_holdClapper 4 (some .int)) (by decide +kernel) rfl, by decide +kernel, by decide +kernel, by decide +kernel⟩
theorem clL_172 : aCalV RL 172 yX6_amplitude cX6_amplitude 2 (some .int) 1 := ⟨aT_in 672 (w := Cond.methodLink RL 172 yX6_amplitude) (by decide +kernel) rfl, aT_in 673 (w := Cond.instanceMethod yX6_amplitude) (by decide +kernel) rfl, aT_in 674 (w := Cond.selects (yX6_amplitude).cls yX6_amplitude yX6_amplitude) (by decide +kernel) rfl, aT_in 1 (w := Cond.initialized (yX6_amplitude).cls) (by decide +kernel) rfl, aT_in 675 (w := Cond.code yX6_amplitude cX6_amplitude 2 (some .int)) (by decide +kernel) rfl, by decide +kernel, by decide +kernel, by decide +kernel⟩
theorem clL_176 : aCalV RL 176 yX6_nextTurn cX6_nextTurn 2 (some .int) 1 := ⟨aT_in 676 (w := Cond.methodLink RL 176 yX6_nextTurn) (by decide +kernel) rfl, aT_in 677 (w := Cond.instanceMethod yX6_nextTurn) (by decide +kernel) rfl, aT_in 678 (w := Cond.selects (yX6_nextTurn).cls yX6_nextTurn yX6_nextTurn) (by decide +kernel) rfl, aT_in 1 (w := Cond.initialized (yX6_nextTurn).cls) (by decide +kernel) rfl, aT_in 679 (w := Cond.code yX6_nextTurn cX6_nextTurn 2 (some .int)) (by decide +kernel) rfl, by decide +kernel, by decide +kernel, by decide +kernel⟩
theorem clL_180 : aCalV RL 180 yX6_amplitudeAfter cX6_amplitudeAfter 4 (some .int) 2 := ⟨aT_in 680 (w := Cond.methodLink RL 180 yX6_amplitudeAfter) (by decide +kernel) rfl, aT_in 681 (w := Cond.instanceMethod yX6_amplitudeAfter) (by decide +kernel) rfl, aT_in 682 (w := Cond.selects (yX6_amplitudeAfter).cls yX6_amplitudeAfter yX6_amplitudeAfter) (by decide +kernel) rfl, aT_in 1 (w := Cond.initialized (yX6_amplitudeAfter).cls) (by decide +kernel) rfl, aT_in 683 (w := Cond.code yX6_amplitudeAfter cX6_amplitudeAfter 4 (some .int)) (by decide +kernel) rfl, by decide +kernel, by decide +kernel, by decide +kernel⟩
theorem clL_184 : aCalV RL 184 yX6_turnsUntilLoud cX6_turnsUntilLoud 3 (some .int) 1 := ⟨aT_in 684 (w := Cond.methodLink RL 184 yX6_turnsUntilLoud) (by decide +kernel) rfl, aT_in 685 (w := Cond.instanceMethod yX6_turnsUntilLoud) (by decide +kernel) rfl, aT_in 686 (w := Cond.selects (yX6_turnsUntilLoud).cls yX6_turnsUntilLoud yX6_turnsUntilLoud) (by decide +kernel) rfl, aT_in 1 (w := Cond.initialized (yX6_turnsUntilLoud).cls) (by decide +kernel) rfl, aT_in 687 (w := Cond.code yX6_turnsUntilLoud cX6_turnsUntilLoud 3 (some .int)) (by decide +kernel) rfl, by decide +kernel, by decide +kernel, by decide +kernel⟩
theorem clL_188 : aCalV RL 188 yX6_force cX6_force 2 (some .int) 1 := ⟨aT_in 688 (w := Cond.methodLink RL 188 yX6_force) (by decide +kernel) rfl, aT_in 689 (w := Cond.instanceMethod yX6_force) (by decide +kernel) rfl, aT_in 690 (w := Cond.selects (yX6_force).cls yX6_force yX6_force) (by decide +kernel) rfl, aT_in 1 (w := Cond.initialized (yX6_force).cls) (by decide +kernel) rfl, aT_in 691 (w := Cond.code yX6_force cX6_force 2 (some .int)) (by decide +kernel) rfl, by decide +kernel, by decide +kernel, by decide +kernel⟩
theorem clX6_296 : aCalV RX6 296 yX0_forceAt cX0_forceAt 3 (some .int) 1 := ⟨aT_in 692 (w := Cond.methodLink RX6 296 yX0_forceAt) (by decide +kernel) rfl, aT_in 649 (w := Cond.instanceMethod yX0_forceAt) (by decide +kernel) rfl, aT_in 650 (w := Cond.selects (yX0_forceAt).cls yX0_forceAt yX0_forceAt) (by decide +kernel) rfl, aT_in 2 (w := Cond.initialized (yX0_forceAt).cls) (by decide +kernel) rfl, aT_in 651 (w := Cond.code yX0_forceAt cX0_forceAt 3 (some .int)) (by decide +kernel) rfl, by decide +kernel, by decide +kernel, by decide +kernel⟩
theorem clL_192 : aCalV RL 192 yX6_shake cX6_shake 2 (some .int) 1 := ⟨aT_in 693 (w := Cond.methodLink RL 192 yX6_shake) (by decide +kernel) rfl, aT_in 694 (w := Cond.instanceMethod yX6_shake) (by decide +kernel) rfl, aT_in 695 (w := Cond.selects (yX6_shake).cls yX6_shake yX6_shake) (by decide +kernel) rfl, aT_in 1 (w := Cond.initialized (yX6_shake).cls) (by decide +kernel) rfl, aT_in 696 (w := Cond.code yX6_shake cX6_shake 2 (some .int)) (by decide +kernel) rfl, by decide +kernel, by decide +kernel, by decide +kernel⟩
theorem clL_196 : aCalV RL 196 yX6_greatestShake cX6_greatestShake 2 (some .int) 1 := ⟨aT_in 697 (w := Cond.methodLink RL 196 yX6_greatestShake) (by decide +kernel) rfl, aT_in 698 (w := Cond.instanceMethod yX6_greatestShake) (by decide +kernel) rfl, aT_in 699 (w := Cond.selects (yX6_greatestShake).cls yX6_greatestShake yX6_greatestShake) (by decide +kernel) rfl, aT_in 1 (w := Cond.initialized (yX6_greatestShake).cls) (by decide +kernel) rfl, aT_in 700 (w := Cond.code yX6_greatestShake cX6_greatestShake 2 (some .int)) (by decide +kernel) rfl, by decide +kernel, by decide +kernel, by decide +kernel⟩
theorem clL_200 : aCalV RL 200 yX6_setShakeLimit cX6_setShakeLimit 3 (some .int) 1 := ⟨aT_in 701 (w := Cond.methodLink RL 200 yX6_setShakeLimit) (by decide +kernel) rfl, aT_in 702 (w := Cond.instanceMethod yX6_setShakeLimit) (by decide +kernel) rfl, aT_in 703 (w := Cond.selects (yX6_setShakeLimit).cls yX6_setShakeLimit yX6_setShakeLimit) (by decide +kernel) rfl, aT_in 1 (w := Cond.initialized (yX6_setShakeLimit).cls) (by decide +kernel) rfl, aT_in 704 (w := Cond.code yX6_setShakeLimit cX6_setShakeLimit 3 (some .int)) (by decide +kernel) rfl, by decide +kernel, by decide +kernel, by decide +kernel⟩
theorem clL_204 : aCalV RL 204 yX6_calmestWait cX6_calmestWait 8 (some .int) 2 := ⟨aT_in 705 (w := Cond.methodLink RL 204 yX6_calmestWait) (by decide +kernel) rfl, aT_in 706 (w := Cond.instanceMethod yX6_calmestWait) (by decide +kernel) rfl, aT_in 707 (w := Cond.selects (yX6_calmestWait).cls yX6_calmestWait yX6_calmestWait) (by decide +kernel) rfl, aT_in 1 (w := Cond.initialized (yX6_calmestWait).cls) (by decide +kernel) rfl, aT_in 708 (w := Cond.code yX6_calmestWait cX6_calmestWait 8 (some .int)) (by decide +kernel) rfl, by decide +kernel, by decide +kernel, by decide +kernel⟩
theorem coX6_303 : Cond.constant RX6 303 (1000000) ∈ aT := aT_in 709 (by decide +kernel) rfl
theorem clX6_304 : aCalV RX6 304 yX6_greatestIfStartedAfter cX6_greatestIfStartedAfter 6 (some .int) 2 := ⟨aT_in 710 (w := Cond.methodLink RX6 304 yX6_greatestIfStartedAfter) (by decide +kernel) rfl, aT_in 712 (w := Cond.instanceMethod yX6_greatestIfStartedAfter) (by decide +kernel) rfl, aT_selI 26 (n := 17) (by decide +kernel), aT_in 1 (w := Cond.initialized (yX6_greatestIfStartedAfter).cls) (by decide +kernel) rfl, aT_in 713 (w := Cond.code yX6_greatestIfStartedAfter cX6_greatestIfStartedAfter 6 (some .int)) (by decide +kernel) rfl, by decide +kernel, by decide +kernel, by decide +kernel⟩
theorem ckL_10 : Cond.classLink RL 10 RX7 ∈ aT := aT_in 714 (by decide +kernel) rfl
theorem ins_RX7 : Cond.instantiable RX7 53 ∈ aT ∧ Cond.initialized RX7 ∈ aT := ⟨aT_in 715 (by decide +kernel) rfl, aT_in 8 (by decide +kernel) rfl⟩
theorem clL_12 : aCalI RL 12 yX7_init cX7_init 1 0 := ⟨aT_in 716 (w := Cond.methodLink RL 12 yX7_init) (by decide +kernel) rfl, aT_in 717 (w := Cond.instanceMethod yX7_init) (by decide +kernel) rfl, aT_in 8 (w := Cond.initialized (yX7_init).cls) (by decide +kernel) rfl, aT_in 718 (w := Cond.code yX7_init cX7_init 1 none) (by decide +kernel) rfl, rfl, by decide +kernel, by decide +kernel, by decide +kernel⟩
theorem flX7_1 : aFld RX7 1 7 0 := ⟨RX7, TX7, 53, rfl, by decide, aT_in 720 (w := Cond.fieldLink RX7 1 RX7 "thrown" "I") (by decide +kernel) rfl⟩
theorem flX7_13 : aFld RX7 13 7 1 := ⟨RX7, TX7, 53, rfl, by decide, aT_in 721 (w := Cond.fieldLink RX7 13 RX7 "delayOf" "[I") (by decide +kernel) rfl⟩
theorem flX7_17 : aFld RX7 17 7 2 := ⟨RX7, TX7, 53, rfl, by decide, aT_in 722 (w := Cond.fieldLink RX7 17 RX7 "recovery" "[I") (by decide +kernel) rfl⟩
theorem flX7_20 : aFld RX7 20 7 3 := ⟨RX7, TX7, 53, rfl, by decide, aT_in 723 (w := Cond.fieldLink RX7 20 RX7 "weight" "[I") (by decide +kernel) rfl⟩
theorem flX7_23 : aFld RX7 23 7 4 := ⟨RX7, TX7, 53, rfl, by decide, aT_in 724 (w := Cond.fieldLink RX7 23 RX7 "half" "[I") (by decide +kernel) rfl⟩
theorem flX7_26 : aFld RX7 26 7 5 := ⟨RX7, TX7, 53, rfl, by decide, aT_in 725 (w := Cond.fieldLink RX7 26 RX7 "occupiedTo" "[I") (by decide +kernel) rfl⟩
theorem flX7_132 : aFld RX7 132 7 6 := ⟨RX7, TX7, 53, rfl, by decide, aT_in 726 (w := Cond.fieldLink RX7 132 RX7 "bells" "I") (by decide +kernel) rfl⟩
theorem flX7_126 : aFld RX7 126 7 7 := ⟨RX7, TX7, 53, rfl, by decide, aT_in 727 (w := Cond.fieldLink RX7 126 RX7 "powerLimit" "I") (by decide +kernel) rfl⟩
theorem flX7_129 : aFld RX7 129 7 8 := ⟨RX7, TX7, 53, rfl, by decide, aT_in 728 (w := Cond.fieldLink RX7 129 RX7 "shakeLimit" "I") (by decide +kernel) rfl⟩
theorem flX7_158 : aFld RX7 158 7 9 := ⟨RX7, TX7, 53, rfl, by decide, aT_in 729 (w := Cond.fieldLink RX7 158 RX7 "now" "I") (by decide +kernel) rfl⟩
theorem flX7_29 : aFld RX7 29 7 10 := ⟨RX7, TX7, 53, rfl, by decide, aT_in 730 (w := Cond.fieldLink RX7 29 RX7 "recordedBell" "[I") (by decide +kernel) rfl⟩
theorem flX7_32 : aFld RX7 32 7 11 := ⟨RX7, TX7, 53, rfl, by decide, aT_in 731 (w := Cond.fieldLink RX7 32 RX7 "recordedTime" "[I") (by decide +kernel) rfl⟩
theorem flX7_35 : aFld RX7 35 7 12 := ⟨RX7, TX7, 53, rfl, by decide, aT_in 732 (w := Cond.fieldLink RX7 35 RX7 "byClapper" "[Z") (by decide +kernel) rfl⟩
theorem flX7_155 : aFld RX7 155 7 13 := ⟨RX7, TX7, 53, rfl, by decide, aT_in 733 (w := Cond.fieldLink RX7 155 RX7 "recorded" "I") (by decide +kernel) rfl⟩
theorem flX7_39 : aFld RX7 39 7 14 := ⟨RX7, TX7, 53, rfl, by decide, aT_in 734 (w := Cond.fieldLink RX7 39 RX7 "strokeBell" "[I") (by decide +kernel) rfl⟩
theorem flX7_42 : aFld RX7 42 7 15 := ⟨RX7, TX7, 53, rfl, by decide, aT_in 735 (w := Cond.fieldLink RX7 42 RX7 "strokeTime" "[I") (by decide +kernel) rfl⟩
theorem flX7_45 : aFld RX7 45 7 16 := ⟨RX7, TX7, 53, rfl, by decide, aT_in 736 (w := Cond.fieldLink RX7 45 RX7 "strokeCommand" "[I") (by decide +kernel) rfl⟩
theorem flX7_48 : aFld RX7 48 7 17 := ⟨RX7, TX7, 53, rfl, by decide, aT_in 737 (w := Cond.fieldLink RX7 48 RX7 "moving" "[I") (by decide +kernel) rfl⟩
theorem flX7_171 : aFld RX7 171 7 18 := ⟨RX7, TX7, 53, rfl, by decide, aT_in 738 (w := Cond.fieldLink RX7 171 RX7 "strokes" "I") (by decide +kernel) rfl⟩
theorem flX7_51 : aFld RX7 51 7 19 := ⟨RX7, TX7, 53, rfl, by decide, aT_in 739 (w := Cond.fieldLink RX7 51 RX7 "buffer" "[I") (by decide +kernel) rfl⟩
theorem flX7_54 : aFld RX7 54 7 20 := ⟨RX7, TX7, 53, rfl, by decide, aT_in 740 (w := Cond.fieldLink RX7 54 RX7 "steps" "[I") (by decide +kernel) rfl⟩
theorem flX7_57 : aFld RX7 57 7 21 := ⟨RX7, TX7, 53, rfl, by decide, aT_in 741 (w := Cond.fieldLink RX7 57 RX7 "stepMany" "[I") (by decide +kernel) rfl⟩
theorem flX7_60 : aFld RX7 60 7 22 := ⟨RX7, TX7, 53, rfl, by decide, aT_in 742 (w := Cond.fieldLink RX7 60 RX7 "fresh" "[I") (by decide +kernel) rfl⟩
theorem flX7_197 : aFld RX7 197 7 23 := ⟨RX7, TX7, 53, rfl, by decide, aT_in 743 (w := Cond.fieldLink RX7 197 RX7 "buffered" "I") (by decide +kernel) rfl⟩
theorem flX7_209 : aFld RX7 209 7 24 := ⟨RX7, TX7, 53, rfl, by decide, aT_in 744 (w := Cond.fieldLink RX7 209 RX7 "size" "I") (by decide +kernel) rfl⟩
theorem flX7_206 : aFld RX7 206 7 25 := ⟨RX7, TX7, 53, rfl, by decide, aT_in 745 (w := Cond.fieldLink RX7 206 RX7 "at" "I") (by decide +kernel) rfl⟩
theorem flX7_244 : aFld RX7 244 7 26 := ⟨RX7, TX7, 53, rfl, by decide, aT_in 746 (w := Cond.fieldLink RX7 244 RX7 "made" "I") (by decide +kernel) rfl⟩
theorem flX7_200 : aFld RX7 200 7 27 := ⟨RX7, TX7, 53, rfl, by decide, aT_in 747 (w := Cond.fieldLink RX7 200 RX7 "wrong" "I") (by decide +kernel) rfl⟩
theorem flX7_203 : aFld RX7 203 7 28 := ⟨RX7, TX7, 53, rfl, by decide, aT_in 748 (w := Cond.fieldLink RX7 203 RX7 "wrongAt" "I") (by decide +kernel) rfl⟩
theorem flX7_255 : aFld RX7 255 7 29 := ⟨RX7, TX7, 53, rfl, by decide, aT_in 749 (w := Cond.fieldLink RX7 255 RX7 "faultKind" "I") (by decide +kernel) rfl⟩
theorem flX7_63 : aFld RX7 63 7 30 := ⟨RX7, TX7, 53, rfl, by decide, aT_in 750 (w := Cond.fieldLink RX7 63 RX7 "faultAt" "I") (by decide +kernel) rfl⟩
theorem flX7_66 : aFld RX7 66 7 31 := ⟨RX7, TX7, 53, rfl, by decide, aT_in 751 (w := Cond.fieldLink RX7 66 RX7 "keptBell" "[I") (by decide +kernel) rfl⟩
theorem flX7_69 : aFld RX7 69 7 32 := ⟨RX7, TX7, 53, rfl, by decide, aT_in 752 (w := Cond.fieldLink RX7 69 RX7 "keptTime" "[I") (by decide +kernel) rfl⟩
theorem flX7_72 : aFld RX7 72 7 33 := ⟨RX7, TX7, 53, rfl, by decide, aT_in 753 (w := Cond.fieldLink RX7 72 RX7 "keptCommand" "[I") (by decide +kernel) rfl⟩
theorem flX7_75 : aFld RX7 75 7 34 := ⟨RX7, TX7, 53, rfl, by decide, aT_in 754 (w := Cond.fieldLink RX7 75 RX7 "keptTo" "[I") (by decide +kernel) rfl⟩
theorem flX7_78 : aFld RX7 78 7 35 := ⟨RX7, TX7, 53, rfl, by decide, aT_in 755 (w := Cond.fieldLink RX7 78 RX7 "keptSwings" "[Z") (by decide +kernel) rfl⟩
theorem flX7_81 : aFld RX7 81 7 36 := ⟨RX7, TX7, 53, rfl, by decide, aT_in 756 (w := Cond.fieldLink RX7 81 RX7 "entryWhich" "[I") (by decide +kernel) rfl⟩
theorem flX7_84 : aFld RX7 84 7 37 := ⟨RX7, TX7, 53, rfl, by decide, aT_in 757 (w := Cond.fieldLink RX7 84 RX7 "entryDue" "[I") (by decide +kernel) rfl⟩
theorem flX7_87 : aFld RX7 87 7 38 := ⟨RX7, TX7, 53, rfl, by decide, aT_in 758 (w := Cond.fieldLink RX7 87 RX7 "entryPeriod" "[I") (by decide +kernel) rfl⟩
theorem flX7_90 : aFld RX7 90 7 39 := ⟨RX7, TX7, 53, rfl, by decide, aT_in 759 (w := Cond.fieldLink RX7 90 RX7 "entryTicks" "[I") (by decide +kernel) rfl⟩
theorem flX7_93 : aFld RX7 93 7 40 := ⟨RX7, TX7, 53, rfl, by decide, aT_in 760 (w := Cond.fieldLink RX7 93 RX7 "entryShift" "[I") (by decide +kernel) rfl⟩
theorem flX7_96 : aFld RX7 96 7 41 := ⟨RX7, TX7, 53, rfl, by decide, aT_in 761 (w := Cond.fieldLink RX7 96 RX7 "entryLast" "[I") (by decide +kernel) rfl⟩
theorem flX7_277 : aFld RX7 277 7 42 := ⟨RX7, TX7, 53, rfl, by decide, aT_in 762 (w := Cond.fieldLink RX7 277 RX7 "entries" "I") (by decide +kernel) rfl⟩
theorem flX7_288 : aFld RX7 288 7 43 := ⟨RX7, TX7, 53, rfl, by decide, aT_in 763 (w := Cond.fieldLink RX7 288 RX7 "failures" "I") (by decide +kernel) rfl⟩
theorem flX7_99 : aFld RX7 99 7 44 := ⟨RX7, TX7, 53, rfl, by decide, aT_in 764 (w := Cond.fieldLink RX7 99 RX7 "swings" "[Z") (by decide +kernel) rfl⟩
theorem flX7_102 : aFld RX7 102 7 45 := ⟨RX7, TX7, 53, rfl, by decide, aT_in 765 (w := Cond.fieldLink RX7 102 RX7 "isHeld" "[Z") (by decide +kernel) rfl⟩
theorem flX7_105 : aFld RX7 105 7 46 := ⟨RX7, TX7, 53, rfl, by decide, aT_in 766 (w := Cond.fieldLink RX7 105 RX7 "hasMotor" "[Z") (by decide +kernel) rfl⟩
theorem flX7_108 : aFld RX7 108 7 47 := ⟨RX7, TX7, 53, rfl, by decide, aT_in 767 (w := Cond.fieldLink RX7 108 RX7 "far" "[I") (by decide +kernel) rfl⟩
theorem flX7_111 : aFld RX7 111 7 48 := ⟨RX7, TX7, 53, rfl, by decide, aT_in 768 (w := Cond.fieldLink RX7 111 RX7 "side" "[I") (by decide +kernel) rfl⟩
theorem flX7_114 : aFld RX7 114 7 49 := ⟨RX7, TX7, 53, rfl, by decide, aT_in 769 (w := Cond.fieldLink RX7 114 RX7 "target" "[I") (by decide +kernel) rfl⟩
theorem flX7_117 : aFld RX7 117 7 50 := ⟨RX7, TX7, 53, rfl, by decide, aT_in 770 (w := Cond.fieldLink RX7 117 RX7 "turn" "[I") (by decide +kernel) rfl⟩
theorem flX7_120 : aFld RX7 120 7 51 := ⟨RX7, TX7, 53, rfl, by decide, aT_in 771 (w := Cond.fieldLink RX7 120 RX7 "shaken" "[I") (by decide +kernel) rfl⟩
theorem flX7_123 : aFld RX7 123 7 52 := ⟨RX7, TX7, 53, rfl, by decide, aT_in 772 (w := Cond.fieldLink RX7 123 RX7 "started" "[I") (by decide +kernel) rfl⟩
theorem clL_17 : aCalV RL 17 yX7_addBell cX7_addBell 5 (some .int) 4 := ⟨aT_in 881 (w := Cond.methodLink RL 17 yX7_addBell) (by decide +kernel) rfl, aT_in 882 (w := Cond.instanceMethod yX7_addBell) (by decide +kernel) rfl, aT_in 883 (w := Cond.selects (yX7_addBell).cls yX7_addBell yX7_addBell) (by decide +kernel) rfl, aT_in 8 (w := Cond.initialized (yX7_addBell).cls) (by decide +kernel) rfl, aT_in 884 (w := Cond.code yX7_addBell cX7_addBell 5 (some .int)) (by decide +kernel) rfl, by decide +kernel, by decide +kernel, by decide +kernel⟩
theorem coX7_139 : Cond.constantLong RX7 139 (50) ∈ aT := aT_in 885 (by decide +kernel) rfl
theorem clX7_135 : aCalS RX7 135 yX7_isIn cX7_isIn 6 (some .boolean) 3 := ⟨aT_in 886 (w := Cond.methodLink RX7 135 yX7_isIn) (by decide +kernel) rfl, aT_in 887 (w := Cond.static yX7_isIn) (by decide +kernel) rfl, aT_in 8 (w := Cond.initialized (yX7_isIn).cls) (by decide +kernel) rfl, aT_in 888 (w := Cond.code yX7_isIn cX7_isIn 6 (some .boolean)) (by decide +kernel) rfl, by decide +kernel, by decide +kernel, by decide +kernel⟩
theorem coX7_141 : Cond.constantLong RX7 141 (100) ∈ aT := aT_in 889 (by decide +kernel) rfl
theorem coX7_143 : Cond.constantLong RX7 143 (99) ∈ aT := aT_in 890 (by decide +kernel) rfl
theorem coX7_145 : Cond.constantLong RX7 145 (10) ∈ aT := aT_in 891 (by decide +kernel) rfl
theorem coX7_147 : Cond.constantLong RX7 147 (60) ∈ aT := aT_in 892 (by decide +kernel) rfl
theorem clL_22 : aCalV RL 22 yX7_bellCount cX7_bellCount 1 (some .int) 0 := ⟨aT_in 893 (w := Cond.methodLink RL 22 yX7_bellCount) (by decide +kernel) rfl, aT_in 894 (w := Cond.instanceMethod yX7_bellCount) (by decide +kernel) rfl, aT_in 895 (w := Cond.selects (yX7_bellCount).cls yX7_bellCount yX7_bellCount) (by decide +kernel) rfl, aT_in 8 (w := Cond.initialized (yX7_bellCount).cls) (by decide +kernel) rfl, aT_in 896 (w := Cond.code yX7_bellCount cX7_bellCount 1 (some .int)) (by decide +kernel) rfl, by decide +kernel, by decide +kernel, by decide +kernel⟩
theorem clL_27 : aCalV RL 27 yX7_delay cX7_delay 2 (some .int) 1 := ⟨aT_in 897 (w := Cond.methodLink RL 27 yX7_delay) (by decide +kernel) rfl, aT_in 898 (w := Cond.instanceMethod yX7_delay) (by decide +kernel) rfl, aT_in 899 (w := Cond.selects (yX7_delay).cls yX7_delay yX7_delay) (by decide +kernel) rfl, aT_in 8 (w := Cond.initialized (yX7_delay).cls) (by decide +kernel) rfl, aT_in 900 (w := Cond.code yX7_delay cX7_delay 2 (some .int)) (by decide +kernel) rfl, by decide +kernel, by decide +kernel, by decide +kernel⟩
theorem clX7_149 : aCalV RX7 149 yX7_isBell cX7_isBell 2 (some .boolean) 1 := ⟨aT_in 901 (w := Cond.methodLink RX7 149 yX7_isBell) (by decide +kernel) rfl, aT_in 903 (w := Cond.instanceMethod yX7_isBell) (by decide +kernel) rfl, aT_selI 27 (n := 53) (by decide +kernel), aT_in 8 (w := Cond.initialized (yX7_isBell).cls) (by decide +kernel) rfl, aT_in 904 (w := Cond.code yX7_isBell cX7_isBell 2 (some .boolean)) (by decide +kernel) rfl, by decide +kernel, by decide +kernel, by decide +kernel⟩
theorem clL_32 : aCalV RL 32 yX7_calibrate cX7_calibrate 3 (some .int) 2 := ⟨aT_in 905 (w := Cond.methodLink RL 32 yX7_calibrate) (by decide +kernel) rfl, aT_in 906 (w := Cond.instanceMethod yX7_calibrate) (by decide +kernel) rfl, aT_in 907 (w := Cond.selects (yX7_calibrate).cls yX7_calibrate yX7_calibrate) (by decide +kernel) rfl, aT_in 8 (w := Cond.initialized (yX7_calibrate).cls) (by decide +kernel) rfl, aT_in 908 (w := Cond.code yX7_calibrate cX7_calibrate 3 (some .int)) (by decide +kernel) rfl, by decide +kernel, by decide +kernel, by decide +kernel⟩
theorem clL_36 : aCalV RL 36 yX7_setPowerLimit cX7_setPowerLimit 3 (some .int) 1 := ⟨aT_in 909 (w := Cond.methodLink RL 36 yX7_setPowerLimit) (by decide +kernel) rfl, aT_in 910 (w := Cond.instanceMethod yX7_setPowerLimit) (by decide +kernel) rfl, aT_in 911 (w := Cond.selects (yX7_setPowerLimit).cls yX7_setPowerLimit yX7_setPowerLimit) (by decide +kernel) rfl, aT_in 8 (w := Cond.initialized (yX7_setPowerLimit).cls) (by decide +kernel) rfl, aT_in 912 (w := Cond.code yX7_setPowerLimit cX7_setPowerLimit 3 (some .int)) (by decide +kernel) rfl, by decide +kernel, by decide +kernel, by decide +kernel⟩
theorem coX7_153 : Cond.constantLong RX7 153 (12) ∈ aT := aT_in 913 (by decide +kernel) rfl
theorem clL_40 : aCalV RL 40 yX7_currentTime cX7_currentTime 1 (some .int) 0 := ⟨aT_in 914 (w := Cond.methodLink RL 40 yX7_currentTime) (by decide +kernel) rfl, aT_in 915 (w := Cond.instanceMethod yX7_currentTime) (by decide +kernel) rfl, aT_in 916 (w := Cond.selects (yX7_currentTime).cls yX7_currentTime yX7_currentTime) (by decide +kernel) rfl, aT_in 8 (w := Cond.initialized (yX7_currentTime).cls) (by decide +kernel) rfl, aT_in 917 (w := Cond.code yX7_currentTime cX7_currentTime 1 (some .int)) (by decide +kernel) rfl, by decide +kernel, by decide +kernel, by decide +kernel⟩
theorem clL_48 : aCalV RL 48 yX7_recordLength cX7_recordLength 1 (some .int) 0 := ⟨aT_in 918 (w := Cond.methodLink RL 48 yX7_recordLength) (by decide +kernel) rfl, aT_in 919 (w := Cond.instanceMethod yX7_recordLength) (by decide +kernel) rfl, aT_in 920 (w := Cond.selects (yX7_recordLength).cls yX7_recordLength yX7_recordLength) (by decide +kernel) rfl, aT_in 8 (w := Cond.initialized (yX7_recordLength).cls) (by decide +kernel) rfl, aT_in 921 (w := Cond.code yX7_recordLength cX7_recordLength 1 (some .int)) (by decide +kernel) rfl, by decide +kernel, by decide +kernel, by decide +kernel⟩
theorem clX7_161 : aCalV RX7 161 yX7_recordMany cX7_recordMany 1 (some .int) 0 := ⟨aT_in 922 (w := Cond.methodLink RX7 161 yX7_recordMany) (by decide +kernel) rfl, aT_in 924 (w := Cond.instanceMethod yX7_recordMany) (by decide +kernel) rfl, aT_selI 28 (n := 53) (by decide +kernel), aT_in 8 (w := Cond.initialized (yX7_recordMany).cls) (by decide +kernel) rfl, aT_in 925 (w := Cond.code yX7_recordMany cX7_recordMany 1 (some .int)) (by decide +kernel) rfl, by decide +kernel, by decide +kernel, by decide +kernel⟩
theorem clL_52 : aCalV RL 52 yX7_recordBell cX7_recordBell 3 (some .int) 1 := ⟨aT_in 926 (w := Cond.methodLink RL 52 yX7_recordBell) (by decide +kernel) rfl, aT_in 927 (w := Cond.instanceMethod yX7_recordBell) (by decide +kernel) rfl, aT_in 928 (w := Cond.selects (yX7_recordBell).cls yX7_recordBell yX7_recordBell) (by decide +kernel) rfl, aT_in 8 (w := Cond.initialized (yX7_recordBell).cls) (by decide +kernel) rfl, aT_in 929 (w := Cond.code yX7_recordBell cX7_recordBell 3 (some .int)) (by decide +kernel) rfl, by decide +kernel, by decide +kernel, by decide +kernel⟩
theorem clX7_165 : aCalV RX7 165 yX7_recordAt cX7_recordAt 2 (some .int) 1 := ⟨aT_in 930 (w := Cond.methodLink RX7 165 yX7_recordAt) (by decide +kernel) rfl, aT_in 932 (w := Cond.instanceMethod yX7_recordAt) (by decide +kernel) rfl, aT_selI 29 (n := 53) (by decide +kernel), aT_in 8 (w := Cond.initialized (yX7_recordAt).cls) (by decide +kernel) rfl, aT_in 933 (w := Cond.code yX7_recordAt cX7_recordAt 2 (some .int)) (by decide +kernel) rfl, by decide +kernel, by decide +kernel, by decide +kernel⟩
theorem clL_56 : aCalV RL 56 yX7_recordTime cX7_recordTime 3 (some .int) 1 := ⟨aT_in 934 (w := Cond.methodLink RL 56 yX7_recordTime) (by decide +kernel) rfl, aT_in 935 (w := Cond.instanceMethod yX7_recordTime) (by decide +kernel) rfl, aT_in 936 (w := Cond.selects (yX7_recordTime).cls yX7_recordTime yX7_recordTime) (by decide +kernel) rfl, aT_in 8 (w := Cond.initialized (yX7_recordTime).cls) (by decide +kernel) rfl, aT_in 937 (w := Cond.code yX7_recordTime cX7_recordTime 3 (some .int)) (by decide +kernel) rfl, by decide +kernel, by decide +kernel, by decide +kernel⟩
theorem clL_60 : aCalV RL 60 yX7_recordClapper cX7_recordClapper 3 (some .int) 1 := ⟨aT_in 938 (w := Cond.methodLink RL 60 yX7_recordClapper) (by decide +kernel) rfl, aT_in 939 (w := Cond.instanceMethod yX7_recordClapper) (by decide +kernel) rfl, aT_in 940 (w := Cond.selects (yX7_recordClapper).cls yX7_recordClapper yX7_recordClapper) (by decide +kernel) rfl, aT_in 8 (w := Cond.initialized (yX7_recordClapper).cls) (by decide +kernel) rfl, aT_in 941 (w := Cond.code yX7_recordClapper cX7_recordClapper 3 (some .int)) (by decide +kernel) rfl, by decide +kernel, by decide +kernel, by decide +kernel⟩
theorem clL_64 : aCalV RL 64 yX7_scheduleStroke cX7_scheduleStroke 4 (some .int) 2 := ⟨aT_in 942 (w := Cond.methodLink RL 64 yX7_scheduleStroke) (by decide +kernel) rfl, aT_in 943 (w := Cond.instanceMethod yX7_scheduleStroke) (by decide +kernel) rfl, aT_in 944 (w := Cond.selects (yX7_scheduleStroke).cls yX7_scheduleStroke yX7_scheduleStroke) (by decide +kernel) rfl, aT_in 8 (w := Cond.initialized (yX7_scheduleStroke).cls) (by decide +kernel) rfl, aT_in 945 (w := Cond.code yX7_scheduleStroke cX7_scheduleStroke 4 (some .int)) (by decide +kernel) rfl, by decide +kernel, by decide +kernel, by decide +kernel⟩
theorem clX7_174 : aCalV RX7 174 yX7_refuses cX7_refuses 9 (some .int) 2 := ⟨aT_in 946 (w := Cond.methodLink RX7 174 yX7_refuses) (by decide +kernel) rfl, aT_in 948 (w := Cond.instanceMethod yX7_refuses) (by decide +kernel) rfl, aT_selI 30 (n := 53) (by decide +kernel), aT_in 8 (w := Cond.initialized (yX7_refuses).cls) (by decide +kernel) rfl, aT_in 949 (w := Cond.code yX7_refuses cX7_refuses 9 (some .int)) (by decide +kernel) rfl, by decide +kernel, by decide +kernel, by decide +kernel⟩
theorem coX7_169 : Cond.constantLong RX7 169 (100000) ∈ aT := aT_in 950 (by decide +kernel) rfl
theorem clX7_178 : aCalV RX7 178 yX7_schedules cX7_schedules 3 none 2 := ⟨aT_in 951 (w := Cond.methodLink RX7 178 yX7_schedules) (by decide +kernel) rfl, aT_in 953 (w := Cond.instanceMethod yX7_schedules) (by decide +kernel) rfl, aT_selI 31 (n := 53) (by decide +kernel), aT_in 8 (w := Cond.initialized (yX7_schedules).cls) (by decide +kernel) rfl, aT_in 954 (w := Cond.code yX7_schedules cX7_schedules 3 none) (by decide +kernel) rfl, by decide +kernel, by decide +kernel, by decide +kernel⟩
theorem clL_68 : aCalV RL 68 yX7_cancelStroke cX7_cancelStroke 4 (some .int) 2 := ⟨aT_in 955 (w := Cond.methodLink RL 68 yX7_cancelStroke) (by decide +kernel) rfl, aT_in 956 (w := Cond.instanceMethod yX7_cancelStroke) (by decide +kernel) rfl, aT_in 957 (w := Cond.selects (yX7_cancelStroke).cls yX7_cancelStroke yX7_cancelStroke) (by decide +kernel) rfl, aT_in 8 (w := Cond.initialized (yX7_cancelStroke).cls) (by decide +kernel) rfl, aT_in 958 (w := Cond.code yX7_cancelStroke cX7_cancelStroke 4 (some .int)) (by decide +kernel) rfl, by decide +kernel, by decide +kernel, by decide +kernel⟩
theorem clX7_182 : aCalV RX7 182 yX7_strokeOf cX7_strokeOf 4 (some .int) 2 := ⟨aT_in 959 (w := Cond.methodLink RX7 182 yX7_strokeOf) (by decide +kernel) rfl, aT_in 961 (w := Cond.instanceMethod yX7_strokeOf) (by decide +kernel) rfl, aT_selI 32 (n := 53) (by decide +kernel), aT_in 8 (w := Cond.initialized (yX7_strokeOf).cls) (by decide +kernel) rfl, aT_in 962 (w := Cond.code yX7_strokeOf cX7_strokeOf 4 (some .int)) (by decide +kernel) rfl, by decide +kernel, by decide +kernel, by decide +kernel⟩
theorem clX7_186 : aCalV RX7 186 yX7_removes cX7_removes 2 none 1 := ⟨aT_in 963 (w := Cond.methodLink RX7 186 yX7_removes) (by decide +kernel) rfl, aT_in 965 (w := Cond.instanceMethod yX7_removes) (by decide +kernel) rfl, aT_selI 33 (n := 53) (by decide +kernel), aT_in 8 (w := Cond.initialized (yX7_removes).cls) (by decide +kernel) rfl, aT_in 966 (w := Cond.code yX7_removes cX7_removes 2 none) (by decide +kernel) rfl, by decide +kernel, by decide +kernel, by decide +kernel⟩
theorem clL_72 : aCalV RL 72 yX7_scheduledCount cX7_scheduledCount 1 (some .int) 0 := ⟨aT_in 967 (w := Cond.methodLink RL 72 yX7_scheduledCount) (by decide +kernel) rfl, aT_in 968 (w := Cond.instanceMethod yX7_scheduledCount) (by decide +kernel) rfl, aT_in 969 (w := Cond.selects (yX7_scheduledCount).cls yX7_scheduledCount yX7_scheduledCount) (by decide +kernel) rfl, aT_in 8 (w := Cond.initialized (yX7_scheduledCount).cls) (by decide +kernel) rfl, aT_in 970 (w := Cond.code yX7_scheduledCount cX7_scheduledCount 1 (some .int)) (by decide +kernel) rfl, by decide +kernel, by decide +kernel, by decide +kernel⟩
theorem clL_76 : aCalV RL 76 yX7_nextStroke cX7_nextStroke 2 (some .int) 1 := ⟨aT_in 971 (w := Cond.methodLink RL 76 yX7_nextStroke) (by decide +kernel) rfl, aT_in 972 (w := Cond.instanceMethod yX7_nextStroke) (by decide +kernel) rfl, aT_in 973 (w := Cond.selects (yX7_nextStroke).cls yX7_nextStroke yX7_nextStroke) (by decide +kernel) rfl, aT_in 8 (w := Cond.initialized (yX7_nextStroke).cls) (by decide +kernel) rfl, aT_in 974 (w := Cond.code yX7_nextStroke cX7_nextStroke 2 (some .int)) (by decide +kernel) rfl, by decide +kernel, by decide +kernel, by decide +kernel⟩
theorem clX7_190 : aCalV RX7 190 yX7_nextOf cX7_nextOf 4 (some .int) 1 := ⟨aT_in 975 (w := Cond.methodLink RX7 190 yX7_nextOf) (by decide +kernel) rfl, aT_in 977 (w := Cond.instanceMethod yX7_nextOf) (by decide +kernel) rfl, aT_selI 34 (n := 53) (by decide +kernel), aT_in 8 (w := Cond.initialized (yX7_nextOf).cls) (by decide +kernel) rfl, aT_in 978 (w := Cond.code yX7_nextOf cX7_nextOf 4 (some .int)) (by decide +kernel) rfl, by decide +kernel, by decide +kernel, by decide +kernel⟩
theorem clL_80 : aCalV RL 80 yX7_commandTime cX7_commandTime 3 (some .int) 1 := ⟨aT_in 979 (w := Cond.methodLink RL 80 yX7_commandTime) (by decide +kernel) rfl, aT_in 980 (w := Cond.instanceMethod yX7_commandTime) (by decide +kernel) rfl, aT_in 981 (w := Cond.selects (yX7_commandTime).cls yX7_commandTime yX7_commandTime) (by decide +kernel) rfl, aT_in 8 (w := Cond.initialized (yX7_commandTime).cls) (by decide +kernel) rfl, aT_in 982 (w := Cond.code yX7_commandTime cX7_commandTime 3 (some .int)) (by decide +kernel) rfl, by decide +kernel, by decide +kernel, by decide +kernel⟩
theorem clX7_193 : aCalV RX7 193 yX7_ranked cX7_ranked 5 (some .int) 1 := ⟨aT_in 983 (w := Cond.methodLink RX7 193 yX7_ranked) (by decide +kernel) rfl, aT_in 985 (w := Cond.instanceMethod yX7_ranked) (by decide +kernel) rfl, aT_selI 35 (n := 53) (by decide +kernel), aT_in 8 (w := Cond.initialized (yX7_ranked).cls) (by decide +kernel) rfl, aT_in 986 (w := Cond.code yX7_ranked cX7_ranked 5 (some .int)) (by decide +kernel) rfl, by decide +kernel, by decide +kernel, by decide +kernel⟩
theorem clL_84 : aCalV RL 84 yX7_commandBell cX7_commandBell 3 (some .int) 1 := ⟨aT_in 987 (w := Cond.methodLink RL 84 yX7_commandBell) (by decide +kernel) rfl, aT_in 988 (w := Cond.instanceMethod yX7_commandBell) (by decide +kernel) rfl, aT_in 989 (w := Cond.selects (yX7_commandBell).cls yX7_commandBell yX7_commandBell) (by decide +kernel) rfl, aT_in 8 (w := Cond.initialized (yX7_commandBell).cls) (by decide +kernel) rfl, aT_in 990 (w := Cond.code yX7_commandBell cX7_commandBell 3 (some .int)) (by decide +kernel) rfl, by decide +kernel, by decide +kernel, by decide +kernel⟩
theorem clL_88 : aCalV RL 88 yX7_movingHammers cX7_movingHammers 4 (some .int) 1 := ⟨aT_in 991 (w := Cond.methodLink RL 88 yX7_movingHammers) (by decide +kernel) rfl, aT_in 992 (w := Cond.instanceMethod yX7_movingHammers) (by decide +kernel) rfl, aT_in 993 (w := Cond.selects (yX7_movingHammers).cls yX7_movingHammers yX7_movingHammers) (by decide +kernel) rfl, aT_in 8 (w := Cond.initialized (yX7_movingHammers).cls) (by decide +kernel) rfl, aT_in 994 (w := Cond.code yX7_movingHammers cX7_movingHammers 4 (some .int)) (by decide +kernel) rfl, by decide +kernel, by decide +kernel, by decide +kernel⟩
theorem clL_92 : aCalV RL 92 yX7_earliestStroke cX7_earliestStroke 4 (some .int) 2 := ⟨aT_in 995 (w := Cond.methodLink RL 92 yX7_earliestStroke) (by decide +kernel) rfl, aT_in 996 (w := Cond.instanceMethod yX7_earliestStroke) (by decide +kernel) rfl, aT_in 997 (w := Cond.selects (yX7_earliestStroke).cls yX7_earliestStroke yX7_earliestStroke) (by decide +kernel) rfl, aT_in 8 (w := Cond.initialized (yX7_earliestStroke).cls) (by decide +kernel) rfl, aT_in 998 (w := Cond.code yX7_earliestStroke cX7_earliestStroke 4 (some .int)) (by decide +kernel) rfl, by decide +kernel, by decide +kernel, by decide +kernel⟩
theorem coX7_196 : Cond.constant RX7 196 (100000) ∈ aT := aT_in 999 (by decide +kernel) rfl
theorem clL_97 : aCalV RL 97 yX7_appendBytes cX7_appendBytes 8 (some .int) 5 := ⟨aT_in 1000 (w := Cond.methodLink RL 97 yX7_appendBytes) (by decide +kernel) rfl, aT_in 1001 (w := Cond.instanceMethod yX7_appendBytes) (by decide +kernel) rfl, aT_in 1002 (w := Cond.selects (yX7_appendBytes).cls yX7_appendBytes yX7_appendBytes) (by decide +kernel) rfl, aT_in 8 (w := Cond.initialized (yX7_appendBytes).cls) (by decide +kernel) rfl, aT_in 1003 (w := Cond.code yX7_appendBytes cX7_appendBytes 8 (some .int)) (by decide +kernel) rfl, by decide +kernel, by decide +kernel, by decide +kernel⟩
theorem clL_101 : aCalV RL 101 yX7_loadPattern cX7_loadPattern 4 (some .int) 2 := ⟨aT_in 1004 (w := Cond.methodLink RL 101 yX7_loadPattern) (by decide +kernel) rfl, aT_in 1005 (w := Cond.instanceMethod yX7_loadPattern) (by decide +kernel) rfl, aT_in 1006 (w := Cond.selects (yX7_loadPattern).cls yX7_loadPattern yX7_loadPattern) (by decide +kernel) rfl, aT_in 8 (w := Cond.initialized (yX7_loadPattern).cls) (by decide +kernel) rfl, aT_in 1007 (w := Cond.code yX7_loadPattern cX7_loadPattern 4 (some .int)) (by decide +kernel) rfl, by decide +kernel, by decide +kernel, by decide +kernel⟩
theorem clX7_252 : aCalS RX7 252 yX7_isPattern cX7_isPattern 1 (some .boolean) 1 := ⟨aT_in 1008 (w := Cond.methodLink RX7 252 yX7_isPattern) (by decide +kernel) rfl, aT_in 1009 (w := Cond.static yX7_isPattern) (by decide +kernel) rfl, aT_in 8 (w := Cond.initialized (yX7_isPattern).cls) (by decide +kernel) rfl, aT_in 1010 (w := Cond.code yX7_isPattern cX7_isPattern 1 (some .boolean)) (by decide +kernel) rfl, by decide +kernel, by decide +kernel, by decide +kernel⟩
theorem coX7_250 : Cond.constantLong RX7 250 (4) ∈ aT := aT_in 1011 (by decide +kernel) rfl
theorem clX7_247 : aCalV RX7 247 yX7_readsItems cX7_readsItems 2 none 1 := ⟨aT_in 1012 (w := Cond.methodLink RX7 247 yX7_readsItems) (by decide +kernel) rfl, aT_in 1014 (w := Cond.instanceMethod yX7_readsItems) (by decide +kernel) rfl, aT_selI 36 (n := 53) (by decide +kernel), aT_in 8 (w := Cond.initialized (yX7_readsItems).cls) (by decide +kernel) rfl, aT_in 1015 (w := Cond.code yX7_readsItems cX7_readsItems 2 none) (by decide +kernel) rfl, by decide +kernel, by decide +kernel, by decide +kernel⟩
theorem clX7_212 : aCalV RX7 212 yX7_here cX7_here 1 (some .int) 0 := ⟨aT_in 1016 (w := Cond.methodLink RX7 212 yX7_here) (by decide +kernel) rfl, aT_in 1018 (w := Cond.instanceMethod yX7_here) (by decide +kernel) rfl, aT_selI 37 (n := 53) (by decide +kernel), aT_in 8 (w := Cond.initialized (yX7_here).cls) (by decide +kernel) rfl, aT_in 1019 (w := Cond.code yX7_here cX7_here 1 (some .int)) (by decide +kernel) rfl, by decide +kernel, by decide +kernel, by decide +kernel⟩
theorem clX7_227 : aCalV RX7 227 yX7_fails cX7_fails 3 none 2 := ⟨aT_in 1020 (w := Cond.methodLink RX7 227 yX7_fails) (by decide +kernel) rfl, aT_in 1022 (w := Cond.instanceMethod yX7_fails) (by decide +kernel) rfl, aT_selI 38 (n := 53) (by decide +kernel), aT_in 8 (w := Cond.initialized (yX7_fails).cls) (by decide +kernel) rfl, aT_in 1023 (w := Cond.code yX7_fails cX7_fails 3 none) (by decide +kernel) rfl, by decide +kernel, by decide +kernel, by decide +kernel⟩
theorem clX7_232 : aCalV RX7 232 yX7_readsItem cX7_readsItem 6 none 1 := ⟨aT_in 1024 (w := Cond.methodLink RX7 232 yX7_readsItem) (by decide +kernel) rfl, aT_in 1026 (w := Cond.instanceMethod yX7_readsItem) (by decide +kernel) rfl, aT_selI 39 (n := 53) (by decide +kernel), aT_in 8 (w := Cond.initialized (yX7_readsItem).cls) (by decide +kernel) rfl, aT_in 1027 (w := Cond.code yX7_readsItem cX7_readsItem 6 none) (by decide +kernel) rfl, by decide +kernel, by decide +kernel, by decide +kernel⟩
theorem clX7_235 : aCalV RX7 235 yX7_readsGroup cX7_readsGroup 7 none 1 := ⟨aT_in 1028 (w := Cond.methodLink RX7 235 yX7_readsGroup) (by decide +kernel) rfl, aT_in 1030 (w := Cond.instanceMethod yX7_readsGroup) (by decide +kernel) rfl, aT_selI 40 (n := 53) (by decide +kernel), aT_in 8 (w := Cond.initialized (yX7_readsGroup).cls) (by decide +kernel) rfl, aT_in 1031 (w := Cond.code yX7_readsGroup cX7_readsGroup 7 none) (by decide +kernel) rfl, by decide +kernel, by decide +kernel, by decide +kernel⟩
theorem clX7_241 : aCalV RX7 241 yX7_number cX7_number 4 (some .int) 0 := ⟨aT_in 1032 (w := Cond.methodLink RX7 241 yX7_number) (by decide +kernel) rfl, aT_in 1034 (w := Cond.instanceMethod yX7_number) (by decide +kernel) rfl, aT_selI 41 (n := 53) (by decide +kernel), aT_in 8 (w := Cond.initialized (yX7_number).cls) (by decide +kernel) rfl, aT_in 1035 (w := Cond.code yX7_number cX7_number 4 (some .int)) (by decide +kernel) rfl, by decide +kernel, by decide +kernel, by decide +kernel⟩
theorem clX7_223 : aCalV RX7 223 yX7_isDigit cX7_isDigit 1 (some .boolean) 0 := ⟨aT_in 1036 (w := Cond.methodLink RX7 223 yX7_isDigit) (by decide +kernel) rfl, aT_in 1038 (w := Cond.instanceMethod yX7_isDigit) (by decide +kernel) rfl, aT_selI 42 (n := 53) (by decide +kernel), aT_in 8 (w := Cond.initialized (yX7_isDigit).cls) (by decide +kernel) rfl, aT_in 1039 (w := Cond.code yX7_isDigit cX7_isDigit 1 (some .boolean)) (by decide +kernel) rfl, by decide +kernel, by decide +kernel, by decide +kernel⟩
theorem coX7_215 : Cond.constantLong RX7 215 (48) ∈ aT := aT_in 1040 (by decide +kernel) rfl
theorem coX7_217 : Cond.constantLong RX7 217 (57) ∈ aT := aT_in 1041 (by decide +kernel) rfl
theorem coX7_230 : Cond.constantLong RX7 230 (20) ∈ aT := aT_in 1042 (by decide +kernel) rfl
theorem clX7_238 : aCalV RX7 238 yX7_isLetter cX7_isLetter 1 (some .boolean) 0 := ⟨aT_in 1043 (w := Cond.methodLink RX7 238 yX7_isLetter) (by decide +kernel) rfl, aT_in 1045 (w := Cond.instanceMethod yX7_isLetter) (by decide +kernel) rfl, aT_selI 43 (n := 53) (by decide +kernel), aT_in 8 (w := Cond.initialized (yX7_isLetter).cls) (by decide +kernel) rfl, aT_in 1046 (w := Cond.code yX7_isLetter cX7_isLetter 1 (some .boolean)) (by decide +kernel) rfl, by decide +kernel, by decide +kernel, by decide +kernel⟩
theorem coX7_219 : Cond.constantLong RX7 219 (97) ∈ aT := aT_in 1047 (by decide +kernel) rfl
theorem coX7_221 : Cond.constantLong RX7 221 (108) ∈ aT := aT_in 1048 (by decide +kernel) rfl
theorem clL_105 : aCalV RL 105 yX7_patternError cX7_patternError 1 (some .int) 0 := ⟨aT_in 1049 (w := Cond.methodLink RL 105 yX7_patternError) (by decide +kernel) rfl, aT_in 1050 (w := Cond.instanceMethod yX7_patternError) (by decide +kernel) rfl, aT_in 1051 (w := Cond.selects (yX7_patternError).cls yX7_patternError yX7_patternError) (by decide +kernel) rfl, aT_in 8 (w := Cond.initialized (yX7_patternError).cls) (by decide +kernel) rfl, aT_in 1052 (w := Cond.code yX7_patternError cX7_patternError 1 (some .int)) (by decide +kernel) rfl, by decide +kernel, by decide +kernel, by decide +kernel⟩
theorem clL_109 : aCalV RL 109 yX7_patternErrorPosition cX7_patternErrorPosition 1 (some .int) 0 := ⟨aT_in 1053 (w := Cond.methodLink RL 109 yX7_patternErrorPosition) (by decide +kernel) rfl, aT_in 1054 (w := Cond.instanceMethod yX7_patternErrorPosition) (by decide +kernel) rfl, aT_in 1055 (w := Cond.selects (yX7_patternErrorPosition).cls yX7_patternErrorPosition yX7_patternErrorPosition) (by decide +kernel) rfl, aT_in 8 (w := Cond.initialized (yX7_patternErrorPosition).cls) (by decide +kernel) rfl, aT_in 1056 (w := Cond.code yX7_patternErrorPosition cX7_patternErrorPosition 1 (some .int)) (by decide +kernel) rfl, by decide +kernel, by decide +kernel, by decide +kernel⟩
theorem clL_113 : aCalV RL 113 yX7_stepBells cX7_stepBells 3 (some .int) 2 := ⟨aT_in 1057 (w := Cond.methodLink RL 113 yX7_stepBells) (by decide +kernel) rfl, aT_in 1058 (w := Cond.instanceMethod yX7_stepBells) (by decide +kernel) rfl, aT_in 1059 (w := Cond.selects (yX7_stepBells).cls yX7_stepBells yX7_stepBells) (by decide +kernel) rfl, aT_in 8 (w := Cond.initialized (yX7_stepBells).cls) (by decide +kernel) rfl, aT_in 1060 (w := Cond.code yX7_stepBells cX7_stepBells 3 (some .int)) (by decide +kernel) rfl, by decide +kernel, by decide +kernel, by decide +kernel⟩
theorem clL_117 : aCalV RL 117 yX7_patternStrokes cX7_patternStrokes 5 (some .int) 1 := ⟨aT_in 1061 (w := Cond.methodLink RL 117 yX7_patternStrokes) (by decide +kernel) rfl, aT_in 1062 (w := Cond.instanceMethod yX7_patternStrokes) (by decide +kernel) rfl, aT_in 1063 (w := Cond.selects (yX7_patternStrokes).cls yX7_patternStrokes yX7_patternStrokes) (by decide +kernel) rfl, aT_in 8 (w := Cond.initialized (yX7_patternStrokes).cls) (by decide +kernel) rfl, aT_in 1064 (w := Cond.code yX7_patternStrokes cX7_patternStrokes 5 (some .int)) (by decide +kernel) rfl, by decide +kernel, by decide +kernel, by decide +kernel⟩
theorem clL_122 : aCalV RL 122 yX7_play cX7_play 4 (some .int) 3 := ⟨aT_in 1065 (w := Cond.methodLink RL 122 yX7_play) (by decide +kernel) rfl, aT_in 1066 (w := Cond.instanceMethod yX7_play) (by decide +kernel) rfl, aT_in 1067 (w := Cond.selects (yX7_play).cls yX7_play yX7_play) (by decide +kernel) rfl, aT_in 8 (w := Cond.initialized (yX7_play).cls) (by decide +kernel) rfl, aT_in 1068 (w := Cond.code yX7_play cX7_play 4 (some .int)) (by decide +kernel) rfl, by decide +kernel, by decide +kernel, by decide +kernel⟩
theorem coX7_258 : Cond.constantLong RX7 258 (200) ∈ aT := aT_in 1069 (by decide +kernel) rfl
theorem clX7_260 : aCalV RX7 260 yX7_plays cX7_plays 8 (some .int) 3 := ⟨aT_in 1070 (w := Cond.methodLink RX7 260 yX7_plays) (by decide +kernel) rfl, aT_in 1072 (w := Cond.instanceMethod yX7_plays) (by decide +kernel) rfl, aT_selI 44 (n := 53) (by decide +kernel), aT_in 8 (w := Cond.initialized (yX7_plays).cls) (by decide +kernel) rfl, aT_in 1073 (w := Cond.code yX7_plays cX7_plays 8 (some .int)) (by decide +kernel) rfl, by decide +kernel, by decide +kernel, by decide +kernel⟩
theorem clL_126 : aCalV RL 126 yX7_weave cX7_weave 5 (some .int) 4 := ⟨aT_in 1074 (w := Cond.methodLink RL 126 yX7_weave) (by decide +kernel) rfl, aT_in 1075 (w := Cond.instanceMethod yX7_weave) (by decide +kernel) rfl, aT_in 1076 (w := Cond.selects (yX7_weave).cls yX7_weave yX7_weave) (by decide +kernel) rfl, aT_in 8 (w := Cond.initialized (yX7_weave).cls) (by decide +kernel) rfl, aT_in 1077 (w := Cond.code yX7_weave cX7_weave 5 (some .int)) (by decide +kernel) rfl, by decide +kernel, by decide +kernel, by decide +kernel⟩
theorem coX7_264 : Cond.constantLong RX7 264 (500) ∈ aT := aT_in 1078 (by decide +kernel) rfl
theorem clX7_266 : aCalV RX7 266 yX7_weaves cX7_weaves 6 (some .int) 4 := ⟨aT_in 1079 (w := Cond.methodLink RX7 266 yX7_weaves) (by decide +kernel) rfl, aT_in 1081 (w := Cond.instanceMethod yX7_weaves) (by decide +kernel) rfl, aT_selI 45 (n := 53) (by decide +kernel), aT_in 8 (w := Cond.initialized (yX7_weaves).cls) (by decide +kernel) rfl, aT_in 1082 (w := Cond.code yX7_weaves cX7_weaves 6 (some .int)) (by decide +kernel) rfl, by decide +kernel, by decide +kernel, by decide +kernel⟩
theorem clL_130 : aCalV RL 130 yX7_fastestTicks cX7_fastestTicks 6 (some .int) 1 := ⟨aT_in 1083 (w := Cond.methodLink RL 130 yX7_fastestTicks) (by decide +kernel) rfl, aT_in 1084 (w := Cond.instanceMethod yX7_fastestTicks) (by decide +kernel) rfl, aT_in 1085 (w := Cond.selects (yX7_fastestTicks).cls yX7_fastestTicks yX7_fastestTicks) (by decide +kernel) rfl, aT_in 8 (w := Cond.initialized (yX7_fastestTicks).cls) (by decide +kernel) rfl, aT_in 1086 (w := Cond.code yX7_fastestTicks cX7_fastestTicks 6 (some .int)) (by decide +kernel) rfl, by decide +kernel, by decide +kernel, by decide +kernel⟩
theorem clX7_270 : aCalV RX7 270 yX7_isPlayable cX7_isPlayable 3 (some .boolean) 2 := ⟨aT_in 1087 (w := Cond.methodLink RX7 270 yX7_isPlayable) (by decide +kernel) rfl, aT_in 1089 (w := Cond.instanceMethod yX7_isPlayable) (by decide +kernel) rfl, aT_selI 46 (n := 53) (by decide +kernel), aT_in 8 (w := Cond.initialized (yX7_isPlayable).cls) (by decide +kernel) rfl, aT_in 1090 (w := Cond.code yX7_isPlayable cX7_isPlayable 3 (some .boolean)) (by decide +kernel) rfl, by decide +kernel, by decide +kernel, by decide +kernel⟩
theorem clL_134 : aCalV RL 134 yX7_powerNeeded cX7_powerNeeded 7 (some .int) 2 := ⟨aT_in 1091 (w := Cond.methodLink RL 134 yX7_powerNeeded) (by decide +kernel) rfl, aT_in 1092 (w := Cond.instanceMethod yX7_powerNeeded) (by decide +kernel) rfl, aT_in 1093 (w := Cond.selects (yX7_powerNeeded).cls yX7_powerNeeded yX7_powerNeeded) (by decide +kernel) rfl, aT_in 8 (w := Cond.initialized (yX7_powerNeeded).cls) (by decide +kernel) rfl, aT_in 1094 (w := Cond.code yX7_powerNeeded cX7_powerNeeded 7 (some .int)) (by decide +kernel) rfl, by decide +kernel, by decide +kernel, by decide +kernel⟩
theorem clX7_274 : aCalV RX7 274 yX7_movesAt cX7_movesAt 7 (some .int) 3 := ⟨aT_in 1095 (w := Cond.methodLink RX7 274 yX7_movesAt) (by decide +kernel) rfl, aT_in 1097 (w := Cond.instanceMethod yX7_movesAt) (by decide +kernel) rfl, aT_selI 47 (n := 53) (by decide +kernel), aT_in 8 (w := Cond.initialized (yX7_movesAt).cls) (by decide +kernel) rfl, aT_in 1098 (w := Cond.code yX7_movesAt cX7_movesAt 7 (some .int)) (by decide +kernel) rfl, by decide +kernel, by decide +kernel, by decide +kernel⟩
theorem clL_138 : aCalV RL 138 yX7_addEntry cX7_addEntry 6 (some .int) 5 := ⟨aT_in 1099 (w := Cond.methodLink RL 138 yX7_addEntry) (by decide +kernel) rfl, aT_in 1100 (w := Cond.instanceMethod yX7_addEntry) (by decide +kernel) rfl, aT_in 1101 (w := Cond.selects (yX7_addEntry).cls yX7_addEntry yX7_addEntry) (by decide +kernel) rfl, aT_in 8 (w := Cond.initialized (yX7_addEntry).cls) (by decide +kernel) rfl, aT_in 1102 (w := Cond.code yX7_addEntry cX7_addEntry 6 (some .int)) (by decide +kernel) rfl, by decide +kernel, by decide +kernel, by decide +kernel⟩
theorem coX7_280 : Cond.constantLong RX7 280 (50000) ∈ aT := aT_in 1103 (by decide +kernel) rfl
theorem clL_142 : aCalV RL 142 yX7_removeEntry cX7_removeEntry 2 (some .int) 1 := ⟨aT_in 1104 (w := Cond.methodLink RL 142 yX7_removeEntry) (by decide +kernel) rfl, aT_in 1105 (w := Cond.instanceMethod yX7_removeEntry) (by decide +kernel) rfl, aT_in 1106 (w := Cond.selects (yX7_removeEntry).cls yX7_removeEntry yX7_removeEntry) (by decide +kernel) rfl, aT_in 8 (w := Cond.initialized (yX7_removeEntry).cls) (by decide +kernel) rfl, aT_in 1107 (w := Cond.code yX7_removeEntry cX7_removeEntry 2 (some .int)) (by decide +kernel) rfl, by decide +kernel, by decide +kernel, by decide +kernel⟩
theorem clX7_282 : aCalV RX7 282 yX7_isEntry cX7_isEntry 2 (some .boolean) 1 := ⟨aT_in 1108 (w := Cond.methodLink RX7 282 yX7_isEntry) (by decide +kernel) rfl, aT_in 1110 (w := Cond.instanceMethod yX7_isEntry) (by decide +kernel) rfl, aT_selI 48 (n := 53) (by decide +kernel), aT_in 8 (w := Cond.initialized (yX7_isEntry).cls) (by decide +kernel) rfl, aT_in 1111 (w := Cond.code yX7_isEntry cX7_isEntry 2 (some .boolean)) (by decide +kernel) rfl, by decide +kernel, by decide +kernel, by decide +kernel⟩
theorem clX7_285 : aCalV RX7 285 yX7_dropsEntry cX7_dropsEntry 3 none 1 := ⟨aT_in 1112 (w := Cond.methodLink RX7 285 yX7_dropsEntry) (by decide +kernel) rfl, aT_in 1114 (w := Cond.instanceMethod yX7_dropsEntry) (by decide +kernel) rfl, aT_selI 49 (n := 53) (by decide +kernel), aT_in 8 (w := Cond.initialized (yX7_dropsEntry).cls) (by decide +kernel) rfl, aT_in 1115 (w := Cond.code yX7_dropsEntry cX7_dropsEntry 3 none) (by decide +kernel) rfl, by decide +kernel, by decide +kernel, by decide +kernel⟩
theorem clL_146 : aCalV RL 146 yX7_entryCount cX7_entryCount 1 (some .int) 0 := ⟨aT_in 1116 (w := Cond.methodLink RL 146 yX7_entryCount) (by decide +kernel) rfl, aT_in 1117 (w := Cond.instanceMethod yX7_entryCount) (by decide +kernel) rfl, aT_in 1118 (w := Cond.selects (yX7_entryCount).cls yX7_entryCount yX7_entryCount) (by decide +kernel) rfl, aT_in 8 (w := Cond.initialized (yX7_entryCount).cls) (by decide +kernel) rfl, aT_in 1119 (w := Cond.code yX7_entryCount cX7_entryCount 1 (some .int)) (by decide +kernel) rfl, by decide +kernel, by decide +kernel, by decide +kernel⟩
theorem clL_150 : aCalV RL 150 yX7_dueTime cX7_dueTime 2 (some .int) 1 := ⟨aT_in 1120 (w := Cond.methodLink RL 150 yX7_dueTime) (by decide +kernel) rfl, aT_in 1121 (w := Cond.instanceMethod yX7_dueTime) (by decide +kernel) rfl, aT_in 1122 (w := Cond.selects (yX7_dueTime).cls yX7_dueTime yX7_dueTime) (by decide +kernel) rfl, aT_in 8 (w := Cond.initialized (yX7_dueTime).cls) (by decide +kernel) rfl, aT_in 1123 (w := Cond.code yX7_dueTime cX7_dueTime 2 (some .int)) (by decide +kernel) rfl, by decide +kernel, by decide +kernel, by decide +kernel⟩
theorem clL_154 : aCalV RL 154 yX7_lastShift cX7_lastShift 2 (some .int) 1 := ⟨aT_in 1124 (w := Cond.methodLink RL 154 yX7_lastShift) (by decide +kernel) rfl, aT_in 1125 (w := Cond.instanceMethod yX7_lastShift) (by decide +kernel) rfl, aT_in 1126 (w := Cond.selects (yX7_lastShift).cls yX7_lastShift yX7_lastShift) (by decide +kernel) rfl, aT_in 8 (w := Cond.initialized (yX7_lastShift).cls) (by decide +kernel) rfl, aT_in 1127 (w := Cond.code yX7_lastShift cX7_lastShift 2 (some .int)) (by decide +kernel) rfl, by decide +kernel, by decide +kernel, by decide +kernel⟩
theorem clL_158 : aCalV RL 158 yX7_failureCount cX7_failureCount 1 (some .int) 0 := ⟨aT_in 1128 (w := Cond.methodLink RL 158 yX7_failureCount) (by decide +kernel) rfl, aT_in 1129 (w := Cond.instanceMethod yX7_failureCount) (by decide +kernel) rfl, aT_in 1130 (w := Cond.selects (yX7_failureCount).cls yX7_failureCount yX7_failureCount) (by decide +kernel) rfl, aT_in 8 (w := Cond.initialized (yX7_failureCount).cls) (by decide +kernel) rfl, aT_in 1131 (w := Cond.code yX7_failureCount cX7_failureCount 1 (some .int)) (by decide +kernel) rfl, by decide +kernel, by decide +kernel, by decide +kernel⟩
theorem clL_44 : aCalV RL 44 yX7_advance cX7_advance 5 (some .int) 1 := ⟨aT_in 1132 (w := Cond.methodLink RL 44 yX7_advance) (by decide +kernel) rfl, aT_in 1133 (w := Cond.instanceMethod yX7_advance) (by decide +kernel) rfl, aT_in 1134 (w := Cond.selects (yX7_advance).cls yX7_advance yX7_advance) (by decide +kernel) rfl, aT_in 8 (w := Cond.initialized (yX7_advance).cls) (by decide +kernel) rfl, aT_in 1135 (w := Cond.code yX7_advance cX7_advance 5 (some .int)) (by decide +kernel) rfl, by decide +kernel, by decide +kernel, by decide +kernel⟩
theorem coX7_302 : Cond.constantLong RX7 302 (2000) ∈ aT := aT_in 1136 (by decide +kernel) rfl
theorem clX7_304 : aCalV RX7 304 yX7_sounds cX7_sounds 3 none 1 := ⟨aT_in 1137 (w := Cond.methodLink RX7 304 yX7_sounds) (by decide +kernel) rfl, aT_in 1139 (w := Cond.instanceMethod yX7_sounds) (by decide +kernel) rfl, aT_selI 50 (n := 53) (by decide +kernel), aT_in 8 (w := Cond.initialized (yX7_sounds).cls) (by decide +kernel) rfl, aT_in 1140 (w := Cond.code yX7_sounds cX7_sounds 3 none) (by decide +kernel) rfl, by decide +kernel, by decide +kernel, by decide +kernel⟩
theorem clX7_298 : aCalV RX7 298 yX7_records cX7_records 3 none 2 := ⟨aT_in 1141 (w := Cond.methodLink RX7 298 yX7_records) (by decide +kernel) rfl, aT_in 1143 (w := Cond.instanceMethod yX7_records) (by decide +kernel) rfl, aT_selI 51 (n := 53) (by decide +kernel), aT_in 8 (w := Cond.initialized (yX7_records).cls) (by decide +kernel) rfl, aT_in 1144 (w := Cond.code yX7_records cX7_records 3 none) (by decide +kernel) rfl, by decide +kernel, by decide +kernel, by decide +kernel⟩
theorem clX7_307 : aCalV RX7 307 yX7_turns cX7_turns 2 none 1 := ⟨aT_in 1145 (w := Cond.methodLink RX7 307 yX7_turns) (by decide +kernel) rfl, aT_in 1147 (w := Cond.instanceMethod yX7_turns) (by decide +kernel) rfl, aT_selI 52 (n := 53) (by decide +kernel), aT_in 8 (w := Cond.initialized (yX7_turns).cls) (by decide +kernel) rfl, aT_in 1148 (w := Cond.code yX7_turns cX7_turns 2 none) (by decide +kernel) rfl, by decide +kernel, by decide +kernel, by decide +kernel⟩
theorem clX7_294 : aCalS RX7 294 yX7_turned cX7_turned 4 (some .int) 3 := ⟨aT_in 1149 (w := Cond.methodLink RX7 294 yX7_turned) (by decide +kernel) rfl, aT_in 1150 (w := Cond.static yX7_turned) (by decide +kernel) rfl, aT_in 8 (w := Cond.initialized (yX7_turned).cls) (by decide +kernel) rfl, aT_in 1151 (w := Cond.code yX7_turned cX7_turned 4 (some .int)) (by decide +kernel) rfl, by decide +kernel, by decide +kernel, by decide +kernel⟩
theorem clX7_310 : aCalV RX7 310 yX7_looksAtEntries cX7_looksAtEntries 2 none 0 := ⟨aT_in 1152 (w := Cond.methodLink RX7 310 yX7_looksAtEntries) (by decide +kernel) rfl, aT_in 1154 (w := Cond.instanceMethod yX7_looksAtEntries) (by decide +kernel) rfl, aT_selI 53 (n := 53) (by decide +kernel), aT_in 8 (w := Cond.initialized (yX7_looksAtEntries).cls) (by decide +kernel) rfl, aT_in 1155 (w := Cond.code yX7_looksAtEntries cX7_looksAtEntries 2 none) (by decide +kernel) rfl, by decide +kernel, by decide +kernel, by decide +kernel⟩
theorem clX7_291 : aCalV RX7 291 yX7_carriesOut cX7_carriesOut 2 (some .boolean) 1 := ⟨aT_in 1156 (w := Cond.methodLink RX7 291 yX7_carriesOut) (by decide +kernel) rfl, aT_in 1158 (w := Cond.instanceMethod yX7_carriesOut) (by decide +kernel) rfl, aT_selI 54 (n := 53) (by decide +kernel), aT_in 8 (w := Cond.initialized (yX7_carriesOut).cls) (by decide +kernel) rfl, aT_in 1159 (w := Cond.code yX7_carriesOut cX7_carriesOut 2 (some .boolean)) (by decide +kernel) rfl, by decide +kernel, by decide +kernel, by decide +kernel⟩
theorem clL_162 : aCalV RL 162 yX7_startSwing cX7_startSwing 3 (some .int) 2 := ⟨aT_in 1160 (w := Cond.methodLink RL 162 yX7_startSwing) (by decide +kernel) rfl, aT_in 1161 (w := Cond.instanceMethod yX7_startSwing) (by decide +kernel) rfl, aT_in 1162 (w := Cond.selects (yX7_startSwing).cls yX7_startSwing yX7_startSwing) (by decide +kernel) rfl, aT_in 8 (w := Cond.initialized (yX7_startSwing).cls) (by decide +kernel) rfl, aT_in 1163 (w := Cond.code yX7_startSwing cX7_startSwing 3 (some .int)) (by decide +kernel) rfl, by decide +kernel, by decide +kernel, by decide +kernel⟩
theorem coX7_319 : Cond.constantLong RX7 319 (1000) ∈ aT := aT_in 1164 (by decide +kernel) rfl
theorem clX7_321 : aCalV RX7 321 yX7_laysShake cX7_laysShake 8 none 1 := ⟨aT_in 1165 (w := Cond.methodLink RX7 321 yX7_laysShake) (by decide +kernel) rfl, aT_in 1167 (w := Cond.instanceMethod yX7_laysShake) (by decide +kernel) rfl, aT_selI 55 (n := 53) (by decide +kernel), aT_in 8 (w := Cond.initialized (yX7_laysShake).cls) (by decide +kernel) rfl, aT_in 1168 (w := Cond.code yX7_laysShake cX7_laysShake 8 none) (by decide +kernel) rfl, by decide +kernel, by decide +kernel, by decide +kernel⟩
theorem clX7_313 : aCalV RX7 313 yX7_forceBy cX7_forceBy 5 (some .int) 4 := ⟨aT_in 1169 (w := Cond.methodLink RX7 313 yX7_forceBy) (by decide +kernel) rfl, aT_in 1171 (w := Cond.instanceMethod yX7_forceBy) (by decide +kernel) rfl, aT_selI 56 (n := 53) (by decide +kernel), aT_in 8 (w := Cond.initialized (yX7_forceBy).cls) (by decide +kernel) rfl, aT_in 1172 (w := Cond.code yX7_forceBy cX7_forceBy 5 (some .int)) (by decide +kernel) rfl, by decide +kernel, by decide +kernel, by decide +kernel⟩
theorem clX7_324 : aCalV RX7 324 yX7_laysStarted cX7_laysStarted 7 none 2 := ⟨aT_in 1173 (w := Cond.methodLink RX7 324 yX7_laysStarted) (by decide +kernel) rfl, aT_in 1175 (w := Cond.instanceMethod yX7_laysStarted) (by decide +kernel) rfl, aT_selI 57 (n := 53) (by decide +kernel), aT_in 8 (w := Cond.initialized (yX7_laysStarted).cls) (by decide +kernel) rfl, aT_in 1176 (w := Cond.code yX7_laysStarted cX7_laysStarted 7 none) (by decide +kernel) rfl, by decide +kernel, by decide +kernel, by decide +kernel⟩
theorem clX7_327 : aCalV RX7 327 yX7_worstBy cX7_worstBy 5 (some .int) 1 := ⟨aT_in 1177 (w := Cond.methodLink RX7 327 yX7_worstBy) (by decide +kernel) rfl, aT_in 1179 (w := Cond.instanceMethod yX7_worstBy) (by decide +kernel) rfl, aT_selI 58 (n := 53) (by decide +kernel), aT_in 8 (w := Cond.initialized (yX7_worstBy).cls) (by decide +kernel) rfl, aT_in 1180 (w := Cond.code yX7_worstBy cX7_worstBy 5 (some .int)) (by decide +kernel) rfl, by decide +kernel, by decide +kernel, by decide +kernel⟩
theorem clX7_316 : aCalS RX7 316 yX7_sizeOf cX7_sizeOf 1 (some .int) 1 := ⟨aT_in 1181 (w := Cond.methodLink RX7 316 yX7_sizeOf) (by decide +kernel) rfl, aT_in 1182 (w := Cond.static yX7_sizeOf) (by decide +kernel) rfl, aT_in 8 (w := Cond.initialized (yX7_sizeOf).cls) (by decide +kernel) rfl, aT_in 1183 (w := Cond.code yX7_sizeOf cX7_sizeOf 1 (some .int)) (by decide +kernel) rfl, by decide +kernel, by decide +kernel, by decide +kernel⟩
theorem clL_166 : aCalV RL 166 yX7_stopMotor cX7_stopMotor 2 (some .int) 1 := ⟨aT_in 1184 (w := Cond.methodLink RL 166 yX7_stopMotor) (by decide +kernel) rfl, aT_in 1185 (w := Cond.instanceMethod yX7_stopMotor) (by decide +kernel) rfl, aT_in 1186 (w := Cond.selects (yX7_stopMotor).cls yX7_stopMotor yX7_stopMotor) (by decide +kernel) rfl, aT_in 8 (w := Cond.initialized (yX7_stopMotor).cls) (by decide +kernel) rfl, aT_in 1187 (w := Cond.code yX7_stopMotor cX7_stopMotor 2 (some .int)) (by decide +kernel) rfl, by decide +kernel, by decide +kernel, by decide +kernel⟩
theorem clL_171 : aCalV RL 171 yX7_holdClapper cX7_holdClapper 4 (some .int) 2 := ⟨aT_in 1188 (w := Cond.methodLink RL 171 yX7_holdClapper) (by decide +kernel) rfl, aT_in 1189 (w := Cond.instanceMethod yX7_holdClapper) (by decide +kernel) rfl, aT_in 1190 (w := Cond.selects (yX7_holdClapper).cls yX7_holdClapper yX7_holdClapper) (by decide +kernel) rfl, aT_in 8 (w := Cond.initialized (yX7_holdClapper).cls) (by decide +kernel) rfl, aT_in 1191 (w := Cond.code yX7_holdClapper cX7_holdClapper 4 (some .int)) (by decide +kernel) rfl, by decide +kernel, by decide +kernel, by decide +kernel⟩
theorem clL_175 : aCalV RL 175 yX7_amplitude cX7_amplitude 2 (some .int) 1 := ⟨aT_in 1192 (w := Cond.methodLink RL 175 yX7_amplitude) (by decide +kernel) rfl, aT_in 1193 (w := Cond.instanceMethod yX7_amplitude) (by decide +kernel) rfl, aT_in 1194 (w := Cond.selects (yX7_amplitude).cls yX7_amplitude yX7_amplitude) (by decide +kernel) rfl, aT_in 8 (w := Cond.initialized (yX7_amplitude).cls) (by decide +kernel) rfl, aT_in 1195 (w := Cond.code yX7_amplitude cX7_amplitude 2 (some .int)) (by decide +kernel) rfl, by decide +kernel, by decide +kernel, by decide +kernel⟩
theorem clL_179 : aCalV RL 179 yX7_nextTurn cX7_nextTurn 2 (some .int) 1 := ⟨aT_in 1196 (w := Cond.methodLink RL 179 yX7_nextTurn) (by decide +kernel) rfl, aT_in 1197 (w := Cond.instanceMethod yX7_nextTurn) (by decide +kernel) rfl, aT_in 1198 (w := Cond.selects (yX7_nextTurn).cls yX7_nextTurn yX7_nextTurn) (by decide +kernel) rfl, aT_in 8 (w := Cond.initialized (yX7_nextTurn).cls) (by decide +kernel) rfl, aT_in 1199 (w := Cond.code yX7_nextTurn cX7_nextTurn 2 (some .int)) (by decide +kernel) rfl, by decide +kernel, by decide +kernel, by decide +kernel⟩
theorem clL_183 : aCalV RL 183 yX7_amplitudeAfter cX7_amplitudeAfter 3 (some .int) 2 := ⟨aT_in 1200 (w := Cond.methodLink RL 183 yX7_amplitudeAfter) (by decide +kernel) rfl, aT_in 1201 (w := Cond.instanceMethod yX7_amplitudeAfter) (by decide +kernel) rfl, aT_in 1202 (w := Cond.selects (yX7_amplitudeAfter).cls yX7_amplitudeAfter yX7_amplitudeAfter) (by decide +kernel) rfl, aT_in 8 (w := Cond.initialized (yX7_amplitudeAfter).cls) (by decide +kernel) rfl, aT_in 1203 (w := Cond.code yX7_amplitudeAfter cX7_amplitudeAfter 3 (some .int)) (by decide +kernel) rfl, by decide +kernel, by decide +kernel, by decide +kernel⟩
theorem clX7_330 : aCalV RX7 330 yX7_farBehind cX7_farBehind 5 (some .int) 2 := ⟨aT_in 1204 (w := Cond.methodLink RX7 330 yX7_farBehind) (by decide +kernel) rfl, aT_in 1206 (w := Cond.instanceMethod yX7_farBehind) (by decide +kernel) rfl, aT_selI 59 (n := 53) (by decide +kernel), aT_in 8 (w := Cond.initialized (yX7_farBehind).cls) (by decide +kernel) rfl, aT_in 1207 (w := Cond.code yX7_farBehind cX7_farBehind 5 (some .int)) (by decide +kernel) rfl, by decide +kernel, by decide +kernel, by decide +kernel⟩
theorem clL_187 : aCalV RL 187 yX7_turnsUntilLoud cX7_turnsUntilLoud 3 (some .int) 1 := ⟨aT_in 1208 (w := Cond.methodLink RL 187 yX7_turnsUntilLoud) (by decide +kernel) rfl, aT_in 1209 (w := Cond.instanceMethod yX7_turnsUntilLoud) (by decide +kernel) rfl, aT_in 1210 (w := Cond.selects (yX7_turnsUntilLoud).cls yX7_turnsUntilLoud yX7_turnsUntilLoud) (by decide +kernel) rfl, aT_in 8 (w := Cond.initialized (yX7_turnsUntilLoud).cls) (by decide +kernel) rfl, aT_in 1211 (w := Cond.code yX7_turnsUntilLoud cX7_turnsUntilLoud 3 (some .int)) (by decide +kernel) rfl, by decide +kernel, by decide +kernel, by decide +kernel⟩
theorem clL_191 : aCalV RL 191 yX7_force cX7_force 2 (some .int) 1 := ⟨aT_in 1212 (w := Cond.methodLink RL 191 yX7_force) (by decide +kernel) rfl, aT_in 1213 (w := Cond.instanceMethod yX7_force) (by decide +kernel) rfl, aT_in 1214 (w := Cond.selects (yX7_force).cls yX7_force yX7_force) (by decide +kernel) rfl, aT_in 8 (w := Cond.initialized (yX7_force).cls) (by decide +kernel) rfl, aT_in 1215 (w := Cond.code yX7_force cX7_force 2 (some .int)) (by decide +kernel) rfl, by decide +kernel, by decide +kernel, by decide +kernel⟩
theorem clL_195 : aCalV RL 195 yX7_shake cX7_shake 2 (some .int) 1 := ⟨aT_in 1216 (w := Cond.methodLink RL 195 yX7_shake) (by decide +kernel) rfl, aT_in 1217 (w := Cond.instanceMethod yX7_shake) (by decide +kernel) rfl, aT_in 1218 (w := Cond.selects (yX7_shake).cls yX7_shake yX7_shake) (by decide +kernel) rfl, aT_in 8 (w := Cond.initialized (yX7_shake).cls) (by decide +kernel) rfl, aT_in 1219 (w := Cond.code yX7_shake cX7_shake 2 (some .int)) (by decide +kernel) rfl, by decide +kernel, by decide +kernel, by decide +kernel⟩
theorem coX7_333 : Cond.constantLong RX7 333 (600) ∈ aT := aT_in 1220 (by decide +kernel) rfl
theorem clL_199 : aCalV RL 199 yX7_greatestShake cX7_greatestShake 4 (some .int) 1 := ⟨aT_in 1221 (w := Cond.methodLink RL 199 yX7_greatestShake) (by decide +kernel) rfl, aT_in 1222 (w := Cond.instanceMethod yX7_greatestShake) (by decide +kernel) rfl, aT_in 1223 (w := Cond.selects (yX7_greatestShake).cls yX7_greatestShake yX7_greatestShake) (by decide +kernel) rfl, aT_in 8 (w := Cond.initialized (yX7_greatestShake).cls) (by decide +kernel) rfl, aT_in 1224 (w := Cond.code yX7_greatestShake cX7_greatestShake 4 (some .int)) (by decide +kernel) rfl, by decide +kernel, by decide +kernel, by decide +kernel⟩
theorem clL_203 : aCalV RL 203 yX7_setShakeLimit cX7_setShakeLimit 3 (some .int) 1 := ⟨aT_in 1225 (w := Cond.methodLink RL 203 yX7_setShakeLimit) (by decide +kernel) rfl, aT_in 1226 (w := Cond.instanceMethod yX7_setShakeLimit) (by decide +kernel) rfl, aT_in 1227 (w := Cond.selects (yX7_setShakeLimit).cls yX7_setShakeLimit yX7_setShakeLimit) (by decide +kernel) rfl, aT_in 8 (w := Cond.initialized (yX7_setShakeLimit).cls) (by decide +kernel) rfl, aT_in 1228 (w := Cond.code yX7_setShakeLimit cX7_setShakeLimit 3 (some .int)) (by decide +kernel) rfl, by decide +kernel, by decide +kernel, by decide +kernel⟩
theorem clL_207 : aCalV RL 207 yX7_calmestWait cX7_calmestWait 7 (some .int) 2 := ⟨aT_in 1229 (w := Cond.methodLink RL 207 yX7_calmestWait) (by decide +kernel) rfl, aT_in 1230 (w := Cond.instanceMethod yX7_calmestWait) (by decide +kernel) rfl, aT_in 1231 (w := Cond.selects (yX7_calmestWait).cls yX7_calmestWait yX7_calmestWait) (by decide +kernel) rfl, aT_in 8 (w := Cond.initialized (yX7_calmestWait).cls) (by decide +kernel) rfl, aT_in 1232 (w := Cond.code yX7_calmestWait cX7_calmestWait 7 (some .int)) (by decide +kernel) rfl, by decide +kernel, by decide +kernel, by decide +kernel⟩
theorem arc_int : Cond.arrayClass .int ∈ aT := aT_in 99 (by decide +kernel) rfl
theorem nat_copy : Cond.native arraycopyName ∈ aT ∧ Cond.static arraycopyName ∈ aT ∧ Cond.initialized "java/lang/System" ∈ aT := ⟨aT_in 320 (by decide +kernel) rfl, aT_in 319 (by decide +kernel) rfl, aT_in 9 (by decide +kernel) rfl⟩
theorem arc_boolean : Cond.arrayClass .boolean ∈ aT := aT_in 880 (by decide +kernel) rfl
theorem obj_ini : Cond.instanceMethod objectInit ∈ aT ∧ Cond.code objectInit ⟨#[0xb1]⟩ 1 none ∈ aT := ⟨aT_in 18 (by decide +kernel) rfl, aT_in 19 (by decide +kernel) rfl⟩
theorem obX6_3 : Cond.methodLink RX6 3 objectInit ∈ aT := aT_in 17 (by decide +kernel) rfl
theorem obX0_3 : Cond.methodLink RX0 3 objectInit ∈ aT := aT_in 26 (by decide +kernel) rfl
theorem obX5_3 : Cond.methodLink RX5 3 objectInit ∈ aT := aT_in 78 (by decide +kernel) rfl
theorem obX4_3 : Cond.methodLink RX4 3 objectInit ∈ aT := aT_in 105 (by decide +kernel) rfl
theorem obX3_3 : Cond.methodLink RX3 3 objectInit ∈ aT := aT_in 130 (by decide +kernel) rfl
theorem obX2_3 : Cond.methodLink RX2 3 objectInit ∈ aT := aT_in 178 (by decide +kernel) rfl
theorem obX1_3 : Cond.methodLink RX1 3 objectInit ∈ aT := aT_in 192 (by decide +kernel) rfl
theorem acX4_28 : Cond.methodLink RX4 28 arraycopyName ∈ aT := aT_in 318 (by decide +kernel) rfl
theorem acX3_86 : Cond.methodLink RX3 86 arraycopyName ∈ aT := aT_in 548 (by decide +kernel) rfl
theorem acX6_195 : Cond.methodLink RX6 195 arraycopyName ∈ aT := aT_in 556 (by decide +kernel) rfl
theorem obX7_7 : Cond.methodLink RX7 7 objectInit ∈ aT := aT_in 719 (by decide +kernel) rfl
/-- the words that are handed on beside aT -/
def aN (U : State) : Prop := (∀ w ∈ tables_1, (∃ own idx y host, w = Cond.methodLinkNest own idx y host) → va_Nw w U) ∧ va_AO RX0 U ∧ va_AO RX2 U ∧ va_AO RX1 U
theorem aAO : Cond.arrayOver (.object RX0) ∈ tables_1 ∧ Cond.arrayOver (.object RX2) ∈ tables_1 ∧ Cond.arrayOver (.object RX1) ∈ tables_1 := ⟨List.mem_of_getElem? (i := 21) (by decide +kernel), List.mem_of_getElem? (i := 171) (by decide +kernel), List.mem_of_getElem? (i := 173) (by decide +kernel)⟩
end
section
-- part 02: the abstract machine over integers (printed by wip/whole/gen/gen02.py)
/-! Every object and array of a run has a number (its place in the order of making, from 1 on; 0 is the script). A number's kind is SH. Ints of all cells: mi (cell, place) as integers; references: mr. AW says: from this frame the method comes to a return that meets Po. -/
abbrev aM : Type := Nat → Int → Int
abbrev aR : Type := Nat → Int → Option Nat
def iI (x : Int) : Value := .int (Int32.ofInt x)
def lL (x : Int) : Value := .long (Int64.ofInt x)
def adr (b base k : Nat) : Nat := match k with
  | 0 => b
  | k + 1 => base + k
def cv (b base : Nat) (v : Value) : Value := match v with
  | .ref k => .ref (adr b base k)
  | v => v
def clv (b base : Nat) (lv : List (Nat × Value)) : List (Nat × Value) := lv.map (fun q => (q.1, cv b base q.2))
def aup {α : Type} (f : Nat → Int → α) (a : Nat) (k : Int) (v : α) : Nat → Int → α := fun x j => if x = a ∧ j = k then v else f x j
def SHL : List (Nat × Nat) := [(99, 0), (0, 6), (3, 12), (0, 0), (0, 5), (1, 200), (1, 200), (1, 200), (0, 4), (1, 300), (1, 300), (1, 300), (1, 51), (0, 4), (1, 300), (1, 300), (1, 300), (1, 51), (0, 3), (1, 300), (1, 100), (1, 3), (1, 3), (4, 5), (5, 8), (1, 720), (1, 601), (1, 51), (0, 0), (0, 0), (0, 0), (0, 0), (0, 0), (0, 0), (0, 0), (0, 0), (0, 0), (0, 0), (0, 0), (0, 0), (0, 2), (1, 100), (0, 2), (1, 100), (0, 2), (1, 100), (0, 2), (1, 100), (0, 2), (1, 100), (0, 1), (0, 1), (0, 1), (0, 1), (0, 1), (0, 1), (0, 1), (0, 1), (0, 7), (1, 12), (1, 12), (1, 12), (1, 12), (1, 12), (1, 200), (1, 200), (2, 200), (1, 300), (1, 300), (1, 300), (1, 52), (1, 300), (1, 500), (1, 5), (1, 100), (1, 300), (1, 300), (1, 300), (1, 12), (2, 12), (1, 8), (1, 8), (1, 8), (1, 8), (1, 8), (1, 8), (2, 12), (2, 12), (2, 12), (1, 12), (1, 12), (1, 12), (1, 12), (1, 720), (1, 601)]
def SH (a : Nat) : Nat × Nat := SHL.getD a (99, 0)
theorem SH_len (a : Nat) : (SH a).2 ≤ 1000 := by
  unfold SH
  by_cases h : a < SHL.length
  · have key : ∀ q ∈ SHL, q.2 ≤ 1000 := by decide +kernel
    have e : SHL.getD a (99, 0) ∈ SHL := by
      rw [List.getD_eq_getElem?_getD, List.getElem?_eq_getElem h]
      exact List.getElem_mem h
    exact key _ e
  · rw [List.getD_eq_getElem?_getD, List.getElem?_eq_none (by omega)]
    exact Nat.zero_le _
abbrev aTys (cA : Nat → ClassId) : List (ClassId × FieldType) := [(cA 0, .int), (cA 1, .boolean), (cA 2, .object RX0), (cA 3, .object RX2), (cA 4, .object RX1)]
def fval (mi : aM) (mr : aR) (b base a ci k : Nat) : Value := if (fty ci k).isReference = true then va_rf ((mr a k).map (adr b base)) else .int (Int32.ofInt (mi a k))
def cel (cA : Nat → ClassId) (mi : aM) (mr : aR) (b base a : Nat) : va_E := match SH a with
  | (0, ci) => .inr (ci, (List.range (nF ci)).map (fval mi mr b base a ci))
  | (1, n) => .inl (cA 0, n, .inl (fun j => Int32.ofInt (mi a j)))
  | (2, n) => .inl (cA 1, n, .inl (fun j => Int32.ofInt (mi a j)))
  | (t + 3, n) => .inl (cA (t + 2), n, .inr (.inr (.inr (.inr (fun j => (mr a j).map (adr b base))))))
def wld (cA : Nat → ClassId) (mi : aM) (mr : aR) (b base n : Nat) : va_W := (List.range n).map (fun k => (base + k, cel cA mi mr b base (k + 1)))
def aI (D : va_G) (cA : Nat → ClassId) (b base n : Nat) (mi : aM) (mr : aR) (H : Heap) : Prop :=
  H.size = base + n ∧ va_P D vwCl (wld cA mi mr b base n) H ∧ (∀ (a : Nat) (k : Int), -2147483648 ≤ mi a k ∧ mi a k ≤ 2147483647) ∧ (∀ (a : Nat) (k : Int), n < a → mi a k = 0 ∧ mr a k = none)
theorem aOwn {ci N : Nat} {C : String} {F : u_T} (h : vwCl[ci]? = some (C, F, N)) : ∀ k, k < N → (F k).1 = C := by
  match ci, h with
  | 0, h => cases h; decide +kernel
  | 1, h => cases h; decide +kernel
  | 2, h => cases h; decide +kernel
  | 3, h => cases h; decide +kernel
  | 4, h => cases h; decide +kernel
  | 5, h => cases h; decide +kernel
  | 6, h => cases h; decide +kernel
  | 7, h => cases h; decide +kernel
  | k + 8, h => simp [vwCl] at h
theorem cv_cat (b base : Nat) (v : Value) : (cv b base v).category = v.category := by cases v <;> rfl
theorem clv_at {b base : Nat} {lv : List (Nat × Value)} {k i : Nat} {v : Value} (h : lv[k]? = some (i, v)) : (clv b base lv)[k]? = some (i, cv b base v) := by simp [clv, h]
theorem clv_store (b base i : Nat) (v : Value) (lv : List (Nat × Value)) : (i, cv b base v) :: (clv b base lv).filter (fun q => !(q.1 == i) && !(q.1 + 1 == i && q.2.category == 2)) = clv b base ((i, v) :: lv.filter (fun q => !(q.1 == i) && !(q.1 + 1 == i && q.2.category == 2))) := by
  simp [clv, List.filter_map, Function.comp_def, cv_cat]
theorem clv_store2 (b base i : Nat) (v : Value) (lv : List (Nat × Value)) : (i, cv b base v) :: (clv b base lv).filter (fun q => !(q.1 == i) && (!(q.1 == i + 1) && !(q.1 + 1 == i && q.2.category == 2))) = clv b base ((i, v) :: lv.filter (fun q => !(q.1 == i) && (!(q.1 == i + 1) && !(q.1 + 1 == i && q.2.category == 2)))) := by
  simp [clv, List.filter_map, Function.comp_def, cv_cat]
theorem clv_pick (b base : Nat) (lv : List (Nat × Value)) (ks : List Nat) : lv_pick (clv b base lv) ks = clv b base (lv_pick lv ks) := by
  induction ks with
  | nil => rfl
  | cons k ks ih =>
    simp only [lv_pick, clv, List.filterMap_cons, List.getElem?_map] at ih ⊢
    cases h : lv[k]? <;> simp [ih]
theorem clv_args (b base : Nat) (av : List Value) : ∀ i, lv_args i (av.map (cv b base)) = clv b base (lv_args i av) := by
  induction av with
  | nil => intro i; rfl
  | cons v t ih =>
    intro i
    simp only [List.map_cons, lv_args, cv_cat, ih, clv, List.map_cons]
theorem sl_len (b base : Nat) (av : List Value) : (lg_sl (av.map (cv b base))).length = (lg_sl av).length := by
  induction av with
  | nil => rfl
  | cons v t ih =>
    simp only [lg_sl, List.map_cons, List.flatMap_cons, List.length_append] at ih ⊢
    rw [ih, cv_cat]
    by_cases h : v.category = 2 <;> simp [h]
theorem cat_sum (b base : Nat) (st : List Value) : ((st.map (cv b base)).map fun v => v.category).sum = (st.map fun v => v.category).sum := by
  induction st with
  | nil => rfl
  | cons v t ih => simp only [List.map_cons, List.sum_cons, ih, cv_cat]
theorem wld_at {cA : Nat → ClassId} {mi : aM} {mr : aR} {b base n a : Nat} (h : 0 < a ∧ a ≤ n) : (wld cA mi mr b base n)[a - 1]? = some (adr b base a, cel cA mi mr b base a) := by
  obtain ⟨k, rfl⟩ : ∃ k, a = k + 1 := ⟨a - 1, by omega⟩
  have hk : k < n := by omega
  simp [wld, hk, adr]
theorem wld_D (cA : Nat → ClassId) (mi : aM) (mr : aR) (b base n : Nat) : va_D (fun q => base ≤ q) (wld cA mi mr b base n) := by
  have key : ∀ (k : Nat) (q : Nat × va_E), (wld cA mi mr b base n)[k]? = some q → q.1 = base + k := by
    intro k q h
    simp only [wld, List.getElem?_map, Option.map_eq_some_iff] at h
    obtain ⟨j, h1, rfl⟩ := h
    have := List.getElem?_eq_some_iff.mp h1
    obtain ⟨h2, h3⟩ := this
    simp at h3
    simp [h3]
  refine ⟨fun i j p q h1 h2 h3 => ?_, fun k q h => ?_⟩
  · have e1 := key i p h1
    have e2 := key j q h2
    omega
  · have e1 := key k q h
    show base ≤ q.1
    omega
theorem cel_eq {cA : Nat → ClassId} {mi mi' : aM} {mr mr' : aR} {b base a : Nat} (h : ∀ j : Int, mi' a j = mi a j ∧ mr' a j = mr a j) : cel cA mi' mr' b base a = cel cA mi mr b base a := by
  have e1 : ∀ j : Int, mi' a j = mi a j := fun j => (h j).1
  have e2 : ∀ j : Int, mr' a j = mr a j := fun j => (h j).2
  unfold cel fval
  simp only [e1, e2]
theorem wld_set {cA : Nat → ClassId} {mi mi' : aM} {mr mr' : aR} {b base n a : Nat} {e : va_E} (ha : 0 < a ∧ a ≤ n) (hm : ∀ (x : Nat) (j : Int), x ≠ a → mi' x j = mi x j ∧ mr' x j = mr x j) (he : e = cel cA mi' mr' b base a) :
    (wld cA mi mr b base n).set (a - 1) (adr b base a, e) = wld cA mi' mr' b base n := by
  obtain ⟨k, rfl⟩ : ∃ k, a = k + 1 := ⟨a - 1, by omega⟩
  have hk : k < n := by omega
  apply List.ext_getElem?
  intro j
  simp only [Nat.add_sub_cancel, List.getElem?_set]
  by_cases hj : k = j
  · subst hj
    simp [wld, hk, adr, he]
  · simp only [hj, if_false, wld, List.getElem?_map]
    cases hr : (List.range n)[j]? with
    | none => simp
    | some x =>
      have hx : x = j := by
        obtain ⟨h2, h3⟩ := List.getElem?_eq_some_iff.mp hr
        simpa using h3.symm
      subst hx
      simp only [Option.map_some]
      rw [cel_eq (mi := mi) (mi' := mi') (mr := mr) (mr' := mr') (fun q => hm (x + 1) q (by omega))]
theorem oI_toInt {x : Int} (h : -2147483648 ≤ x ∧ x ≤ 2147483647) : (Int32.ofInt x).toInt = x := Int32.toInt_ofInt_of_le (by omega) (by omega)
theorem oI_lt {x y : Int} (hx : -2147483648 ≤ x ∧ x ≤ 2147483647) (hy : -2147483648 ≤ y ∧ y ≤ 2147483647) : Int32.ofInt x < Int32.ofInt y ↔ x < y := by rw [Int32.lt_iff_toInt_lt, oI_toInt hx, oI_toInt hy]
theorem oI_le {x y : Int} (hx : -2147483648 ≤ x ∧ x ≤ 2147483647) (hy : -2147483648 ≤ y ∧ y ≤ 2147483647) : Int32.ofInt x ≤ Int32.ofInt y ↔ x ≤ y := by rw [Int32.le_iff_toInt_le, oI_toInt hx, oI_toInt hy]
theorem oI_eq {x y : Int} (hx : -2147483648 ≤ x ∧ x ≤ 2147483647) (hy : -2147483648 ≤ y ∧ y ≤ 2147483647) : Int32.ofInt x = Int32.ofInt y ↔ x = y := by rw [← Int32.toInt_inj, oI_toInt hx, oI_toInt hy]
theorem oI_0 : Int32.ofInt 0 = 0 := by decide
theorem oL_toInt {x : Int} (h : -9000000000000000000 ≤ x ∧ x ≤ 9000000000000000000) : (Int64.ofInt x).toInt = x := Int64.toInt_ofInt_of_le (by omega) (by omega)
theorem oI_in {i : Int} {n : Nat} (h : 0 ≤ i ∧ i < n) (hn : n ≤ 1000) : vp_in (Int32.ofInt i) n := by rw [vp_in_iff, oI_toInt (by omega)]; exact h
theorem oI_clamp {i : Int} (h : 0 ≤ i) (h2 : i ≤ 2147483647) : (((Int32.ofInt i).toNatClampNeg : Nat) : Int) = i := by
  rw [Int32.toNatClampNeg_ofInt_of_le (by omega) (by omega)]
  omega
theorem oI_neg {x : Int} (h : 0 ≤ x ∧ x ≤ 2147483647) : ¬ Int32.ofInt x < 0 := by
  rw [← oI_0, oI_lt (by omega) (by omega)]
  omega
theorem tdiv_rng {x y : Int} (hx : -2147483648 ≤ x ∧ x ≤ 2147483647) (h1 : y ≠ -1) : -2147483648 ≤ x.tdiv y ∧ x.tdiv y ≤ 2147483647 := by
  have e : (x.tdiv y).natAbs = x.natAbs / y.natAbs := Int.natAbs_tdiv x y
  by_cases h2 : y = 1
  · subst h2; rw [Int.tdiv_one]; exact hx
  · by_cases h3 : y = 0
    · subst h3; rw [Int.tdiv_zero]; omega
    · have h4 : x.natAbs / y.natAbs ≤ x.natAbs / 2 := Nat.div_le_div_left (by omega) (by omega)
      omega
def aRet (v : Option Int) : Instr × Nat := match v with
  | none => (.return_, 1)
  | some _ => (.ireturn, 1)
def aStk (v : Option Int) : List Value := match v with
  | none => []
  | some x => [iI x]
def aC (own : String) (cc : ByteArray) (nL d : Nat) (ini : Bool) (kc ks : Nat) (xo : Option (Nat × (Int → Int))) (D : va_G) (cA : Nat → ClassId) (b base : Nat) (p : Program) (R : Room) (s : State) (m : MethodId) (args : Array Value) (meth : Method) (c : Code) : Prop :=
  p.tables.exec = Jvm.exec ∧ c.code = cc ∧ c.maxLocals = nL ∧ s.vm.findClass own = some m.cls ∧ (∀ w ∈ aT, w.before args s = true) ∧ va_K D vwCl (aTys cA) s ∧ aN s ∧ (ini = true → meth.name = "<init>") ∧ (d ≤ R.frames ∧ 60 * d ≤ R.locals ∧ kc ≤ R.cells ∧ ks ≤ R.slots) ∧ base ≤ s.heap.size ∧ (∀ L xs, xo = some (L, xs) → b < base ∧ base = s.heap.size ∧ va_X b L (fun j => Int32.ofInt (xs j)) s s.heap)
def aRT (cc : ByteArray) (kc ks : Nat) (Po : Option Int → Nat → aM → aR → Prop) (D : va_G) (cA : Nat → ClassId) (b base : Nat) (p : Program) (l : Launch) (e : Env) (R : Room) (s : State) (m : MethodId) (args : Array Value) (below : List Frame) (meth : Method) (c : Code) (Q : State → Prop) : Prop :=
  ∀ (v : Option Int) (n' : Nat) (mi' : aM) (mr' : aR) (ck' sk' : Nat) (H' : Heap) (locs' : List Loc) (pc' : Nat) (ls' : Array Slot), Po v n' mi' mr' → aI D cA b base n' mi' mr' H' → va_S (fun q => base ≤ q) s.heap H' locs' → ck' ≤ kc → sk' ≤ ks → decode cc pc' = .ok (aRet v) → W p l e R s m args below meth c H' locs' ck' sk' Q (F0 m pc' ls' (aStk v))
def AW (own : String) (cc : ByteArray) (nL d : Nat) (ini : Bool) (kc ks : Nat) (xo : Option (Nat × (Int → Int))) (Po : Option Int → Nat → aM → aR → Prop) (n pc : Nat) (lv : List (Nat × Value)) (st : List Value) (mi : aM) (mr : aR) (ck sk : Nat) : Prop :=
  ∀ (p : Program) (l : Launch) (e : Env) (R : Room) (s : State) (m : MethodId) (args : Array Value) (below : List Frame) (meth : Method) (c : Code) (H : Heap) (locs : List Loc) (ls : Array Slot) (D : va_G) (cA : Nat → ClassId) (b base : Nat) (Q : State → Prop),
    aC own cc nL d ini kc ks xo D cA b base p R s m args meth c → aI D cA b base n mi mr H → va_S (fun q => base ≤ q) s.heap H locs → lv_has ls nL (clv b base lv) → aRT cc kc ks Po D cA b base p l e R s m args below meth c Q → W p l e R s m args below meth c H locs ck sk Q (F0 m pc ls (st.map (cv b base)))
theorem aI_put {D : va_G} {cA : Nat → ClassId} {b base n a : Nat} {mi mi' : aM} {mr mr' : aR} {H H1 : Heap} {e : va_E} (I : aI D cA b base n mi mr H) (ha : 0 < a ∧ a ≤ n) (hP : va_P D vwCl ((wld cA mi mr b base n).set (a - 1) (adr b base a, e)) H1) (hz : H1.size = H.size)
    (hm : ∀ (x : Nat) (j : Int), x ≠ a → mi' x j = mi x j ∧ mr' x j = mr x j) (he : e = cel cA mi' mr' b base a) (hr : ∀ j : Int, -2147483648 ≤ mi' a j ∧ mi' a j ≤ 2147483647) : aI D cA b base n mi' mr' H1 := by
  refine ⟨by rw [hz]; exact I.1, by rw [← wld_set ha hm he]; exact hP, fun x k => ?_, fun x k hx => ?_⟩
  · by_cases h : x = a
    · subst h; exact hr k
    · rw [(hm x k h).1]; exact I.2.2.1 x k
  · have hne : x ≠ a := by omega
    rw [(hm x k hne).1, (hm x k hne).2]
    exact I.2.2.2 x k hx
theorem aup_rng {mi : aM} {a : Nat} {k v : Int} (h : ∀ (a : Nat) (k : Int), -2147483648 ≤ mi a k ∧ mi a k ≤ 2147483647) (hv : -2147483648 ≤ v ∧ v ≤ 2147483647) (x : Nat) (j : Int) : -2147483648 ≤ aup mi a k v x j ∧ aup mi a k v x j ≤ 2147483647 := by
  unfold aup
  split
  · exact hv
  · exact h x j
section AWR
variable {own : String} {cc : ByteArray} {nL d : Nat} {ini : Bool} {kc ks : Nat} {xo : Option (Nat × (Int → Int))} {Po : Option Int → Nat → aM → aR → Prop} {n pc : Nat} {lv : List (Nat × Value)} {st : List Value} {mi : aM} {mr : aR} {ck sk : Nat}

theorem aw_iconst {i : Int} (hd : decode cc pc = .ok (.iconst i, 1)) (k : AW own cc nL d ini kc ks xo Po n (pc + 1) lv (iI i :: st) mi mr ck sk) : AW own cc nL d ini kc ks xo Po n pc lv st mi mr ck sk := by
  intro p l e R s m args below meth c H locs ls D cA b base Q C I S L T
  exact lv_iconst (v := Int32.ofInt i) C.1 C.2.1 hd rfl (k p l e R s m args below meth c H locs ls D cA b base Q C I S L T)
theorem aw_bipush {i x : Int} (hd : decode cc pc = .ok (.bipush i, 2)) (hx : (Int8.ofInt i).toInt32 = Int32.ofInt x) (k : AW own cc nL d ini kc ks xo Po n (pc + 2) lv (iI x :: st) mi mr ck sk) : AW own cc nL d ini kc ks xo Po n pc lv st mi mr ck sk := by
  intro p l e R s m args below meth c H locs ls D cA b base Q C I S L T
  exact lv_bipush (v := Int32.ofInt x) C.1 C.2.1 hd hx (k p l e R s m args below meth c H locs ls D cA b base Q C I S L T)
theorem aw_sipush {i x : Int} (hd : decode cc pc = .ok (.sipush i, 3)) (hx : (Int16.ofInt i).toInt32 = Int32.ofInt x) (k : AW own cc nL d ini kc ks xo Po n (pc + 3) lv (iI x :: st) mi mr ck sk) : AW own cc nL d ini kc ks xo Po n pc lv st mi mr ck sk := by
  intro p l e R s m args below meth c H locs ls D cA b base Q C I S L T
  exact lv_sipush (v := Int32.ofInt x) C.1 C.2.1 hd hx (k p l e R s m args below meth c H locs ls D cA b base Q C I S L T)
theorem aw_lconst {i : Fin 2} {x : Int} (hd : decode cc pc = .ok (.lconst i, 1)) (hx : Int64.ofNat (i : Nat) = Int64.ofInt x) (k : AW own cc nL d ini kc ks xo Po n (pc + 1) lv (lL x :: st) mi mr ck sk) : AW own cc nL d ini kc ks xo Po n pc lv st mi mr ck sk := by
  intro p l e R s m args below meth c H locs ls D cA b base Q C I S L T
  exact lv_lconst (v := Int64.ofInt x) C.1 C.2.1 hd hx (k p l e R s m args below meth c H locs ls D cA b base Q C I S L T)
theorem aw_ldc {i : Nat} {v : Int32} {x : Int} (hc : Cond.constant own i v ∈ aT) (hx : v = Int32.ofInt x) (hd : decode cc pc = .ok (.ldc i, 2)) (k : AW own cc nL d ini kc ks xo Po n (pc + 2) lv (iI x :: st) mi mr ck sk) : AW own cc nL d ini kc ks xo Po n pc lv st mi mr ck sk := by
  intro p l e R s m args below meth c H locs ls D cA b base Q C I S L T
  subst hx
  exact lv_ldc C.1 C.2.1 C.2.2.2.1 (C.2.2.2.2.1 _ hc) hd (k p l e R s m args below meth c H locs ls D cA b base Q C I S L T)
theorem aw_ldcw {i : Nat} {v : Int32} {x : Int} (hc : Cond.constant own i v ∈ aT) (hx : v = Int32.ofInt x) (hd : decode cc pc = .ok (.ldc_w i, 3)) (k : AW own cc nL d ini kc ks xo Po n (pc + 3) lv (iI x :: st) mi mr ck sk) : AW own cc nL d ini kc ks xo Po n pc lv st mi mr ck sk := by
  intro p l e R s m args below meth c H locs ls D cA b base Q C I S L T
  subst hx
  exact lv_ldcw C.1 C.2.1 C.2.2.2.1 (C.2.2.2.2.1 _ hc) hd (k p l e R s m args below meth c H locs ls D cA b base Q C I S L T)
theorem aw_ldc2 {i : Nat} {v : Int64} {x : Int} (hc : Cond.constantLong own i v ∈ aT) (hx : v = Int64.ofInt x) (hd : decode cc pc = .ok (.ldc2_w i, 3)) (k : AW own cc nL d ini kc ks xo Po n (pc + 3) lv (lL x :: st) mi mr ck sk) : AW own cc nL d ini kc ks xo Po n pc lv st mi mr ck sk := by
  intro p l e R s m args below meth c H locs ls D cA b base Q C I S L T
  subst hx
  exact lv_ldc2 C.1 C.2.1 C.2.2.2.1 (C.2.2.2.2.1 _ hc) hd (k p l e R s m args below meth c H locs ls D cA b base Q C I S L T)
theorem aw_iload_n {f : Fin 4} {i q : Nat} {x : Int} (hd : decode cc pc = .ok (.iload_n f, 1)) (hi : (f : Nat) = i) (hq : lv[q]? = some (i, iI x)) (k : AW own cc nL d ini kc ks xo Po n (pc + 1) lv (iI x :: st) mi mr ck sk) : AW own cc nL d ini kc ks xo Po n pc lv st mi mr ck sk := by
  intro p l e R s m args below meth c H locs ls D cA b base Q C I S L T
  exact lv_iload_n C.1 C.2.1 hd hi (lv_at L q (clv_at hq)) (k p l e R s m args below meth c H locs ls D cA b base Q C I S L T)
theorem aw_iload {i q : Nat} {x : Int} (hd : decode cc pc = .ok (.iload i, 2)) (hq : lv[q]? = some (i, iI x)) (k : AW own cc nL d ini kc ks xo Po n (pc + 2) lv (iI x :: st) mi mr ck sk) : AW own cc nL d ini kc ks xo Po n pc lv st mi mr ck sk := by
  intro p l e R s m args below meth c H locs ls D cA b base Q C I S L T
  exact lv_iload C.1 C.2.1 hd (lv_at L q (clv_at hq)) (k p l e R s m args below meth c H locs ls D cA b base Q C I S L T)
theorem aw_lload_n {f : Fin 4} {i q : Nat} {x : Int} (hd : decode cc pc = .ok (.lload_n f, 1)) (hi : (f : Nat) = i) (hq : lv[q]? = some (i, lL x)) (k : AW own cc nL d ini kc ks xo Po n (pc + 1) lv (lL x :: st) mi mr ck sk) : AW own cc nL d ini kc ks xo Po n pc lv st mi mr ck sk := by
  intro p l e R s m args below meth c H locs ls D cA b base Q C I S L T
  exact lv_lload_n C.1 C.2.1 hd hi (lv_at L q (clv_at hq)) (k p l e R s m args below meth c H locs ls D cA b base Q C I S L T)
theorem aw_lload {i q : Nat} {x : Int} (hd : decode cc pc = .ok (.lload i, 2)) (hq : lv[q]? = some (i, lL x)) (k : AW own cc nL d ini kc ks xo Po n (pc + 2) lv (lL x :: st) mi mr ck sk) : AW own cc nL d ini kc ks xo Po n pc lv st mi mr ck sk := by
  intro p l e R s m args below meth c H locs ls D cA b base Q C I S L T
  exact lv_lload C.1 C.2.1 hd (lv_at L q (clv_at hq)) (k p l e R s m args below meth c H locs ls D cA b base Q C I S L T)
theorem aw_aload_n {f : Fin 4} {i q : Nat} {x : Nat} (hd : decode cc pc = .ok (.aload_n f, 1)) (hi : (f : Nat) = i) (hq : lv[q]? = some (i, .ref x)) (k : AW own cc nL d ini kc ks xo Po n (pc + 1) lv (.ref x :: st) mi mr ck sk) : AW own cc nL d ini kc ks xo Po n pc lv st mi mr ck sk := by
  intro p l e R s m args below meth c H locs ls D cA b base Q C I S L T
  exact lv_aload_n C.1 C.2.1 hd hi (lv_at L q (clv_at hq)) (k p l e R s m args below meth c H locs ls D cA b base Q C I S L T)
theorem aw_aload {i q : Nat} {x : Nat} (hd : decode cc pc = .ok (.aload i, 2)) (hq : lv[q]? = some (i, .ref x)) (k : AW own cc nL d ini kc ks xo Po n (pc + 2) lv (.ref x :: st) mi mr ck sk) : AW own cc nL d ini kc ks xo Po n pc lv st mi mr ck sk := by
  intro p l e R s m args below meth c H locs ls D cA b base Q C I S L T
  exact lv_aload C.1 C.2.1 hd (lv_at L q (clv_at hq)) (k p l e R s m args below meth c H locs ls D cA b base Q C I S L T)
theorem aw_istore_n {f : Fin 4} {i : Nat} {lv' : List (Nat × Value)} {x : Int} (zs : List Nat) (hd : decode cc pc = .ok (.istore_n f, 1)) (hi : (f : Nat) = i) (hn : i < nL) (hl : lv_pick ((i, iI x) :: lv.filter (fun q => !(q.1 == i) && !(q.1 + 1 == i && q.2.category == 2))) zs = lv') (k : AW own cc nL d ini kc ks xo Po n (pc + 1) lv' st mi mr ck sk) : AW own cc nL d ini kc ks xo Po n pc lv (iI x :: st) mi mr ck sk := by
  intro p l e R s m args below meth c H locs ls D cA b base Q C I S L T
  exact lv_istore_n (x := Int32.ofInt x) C.1 C.2.1 hd hi L hn (clv_store b base i (iI x) lv) (fun ls' h' => k p l e R s m args below meth c H locs ls' D cA b base Q C I S (by have h2 := lv_sub h' zs (clv_pick b base _ zs); rw [hl] at h2; exact h2) T)
theorem aw_istore {i : Nat} {lv' : List (Nat × Value)} {x : Int} (zs : List Nat) (hd : decode cc pc = .ok (.istore i, 2)) (hn : i < nL) (hl : lv_pick ((i, iI x) :: lv.filter (fun q => !(q.1 == i) && !(q.1 + 1 == i && q.2.category == 2))) zs = lv') (k : AW own cc nL d ini kc ks xo Po n (pc + 2) lv' st mi mr ck sk) : AW own cc nL d ini kc ks xo Po n pc lv (iI x :: st) mi mr ck sk := by
  intro p l e R s m args below meth c H locs ls D cA b base Q C I S L T
  exact lv_istore (x := Int32.ofInt x) C.1 C.2.1 hd L hn (clv_store b base i (iI x) lv) (fun ls' h' => k p l e R s m args below meth c H locs ls' D cA b base Q C I S (by have h2 := lv_sub h' zs (clv_pick b base _ zs); rw [hl] at h2; exact h2) T)
theorem aw_astore_n {f : Fin 4} {i : Nat} {lv' : List (Nat × Value)} {x : Nat} (zs : List Nat) (hd : decode cc pc = .ok (.astore_n f, 1)) (hi : (f : Nat) = i) (hn : i < nL) (hl : lv_pick ((i, .ref x) :: lv.filter (fun q => !(q.1 == i) && !(q.1 + 1 == i && q.2.category == 2))) zs = lv') (k : AW own cc nL d ini kc ks xo Po n (pc + 1) lv' st mi mr ck sk) : AW own cc nL d ini kc ks xo Po n pc lv (.ref x :: st) mi mr ck sk := by
  intro p l e R s m args below meth c H locs ls D cA b base Q C I S L T
  exact lv_astore_n (x := adr b base x) C.1 C.2.1 hd hi L hn (clv_store b base i (.ref x) lv) (fun ls' h' => k p l e R s m args below meth c H locs ls' D cA b base Q C I S (by have h2 := lv_sub h' zs (clv_pick b base _ zs); rw [hl] at h2; exact h2) T)
theorem aw_astore {i : Nat} {lv' : List (Nat × Value)} {x : Nat} (zs : List Nat) (hd : decode cc pc = .ok (.astore i, 2)) (hn : i < nL) (hl : lv_pick ((i, .ref x) :: lv.filter (fun q => !(q.1 == i) && !(q.1 + 1 == i && q.2.category == 2))) zs = lv') (k : AW own cc nL d ini kc ks xo Po n (pc + 2) lv' st mi mr ck sk) : AW own cc nL d ini kc ks xo Po n pc lv (.ref x :: st) mi mr ck sk := by
  intro p l e R s m args below meth c H locs ls D cA b base Q C I S L T
  exact lv_astore (x := adr b base x) C.1 C.2.1 hd L hn (clv_store b base i (.ref x) lv) (fun ls' h' => k p l e R s m args below meth c H locs ls' D cA b base Q C I S (by have h2 := lv_sub h' zs (clv_pick b base _ zs); rw [hl] at h2; exact h2) T)
theorem aw_lstore_n {f : Fin 4} {i : Nat} {lv' : List (Nat × Value)} {x : Int} (zs : List Nat) (hd : decode cc pc = .ok (.lstore_n f, 1)) (hi : (f : Nat) = i) (hn : i + 1 < nL) (hl : lv_pick ((i, lL x) :: lv.filter (fun q => !(q.1 == i) && (!(q.1 == i + 1) && !(q.1 + 1 == i && q.2.category == 2)))) zs = lv') (k : AW own cc nL d ini kc ks xo Po n (pc + 1) lv' st mi mr ck sk) : AW own cc nL d ini kc ks xo Po n pc lv (lL x :: st) mi mr ck sk := by
  intro p l e R s m args below meth c H locs ls D cA b base Q C I S L T
  exact lv_lstore_n (x := Int64.ofInt x) C.1 C.2.1 hd hi L hn (clv_store2 b base i (lL x) lv) (fun ls' h' => k p l e R s m args below meth c H locs ls' D cA b base Q C I S (by have h2 := lv_sub h' zs (clv_pick b base _ zs); rw [hl] at h2; exact h2) T)
theorem aw_lstore {i : Nat} {lv' : List (Nat × Value)} {x : Int} (zs : List Nat) (hd : decode cc pc = .ok (.lstore i, 2)) (hn : i + 1 < nL) (hl : lv_pick ((i, lL x) :: lv.filter (fun q => !(q.1 == i) && (!(q.1 == i + 1) && !(q.1 + 1 == i && q.2.category == 2)))) zs = lv') (k : AW own cc nL d ini kc ks xo Po n (pc + 2) lv' st mi mr ck sk) : AW own cc nL d ini kc ks xo Po n pc lv (lL x :: st) mi mr ck sk := by
  intro p l e R s m args below meth c H locs ls D cA b base Q C I S L T
  exact lv_lstore (x := Int64.ofInt x) C.1 C.2.1 hd L hn (clv_store2 b base i (lL x) lv) (fun ls' h' => k p l e R s m args below meth c H locs ls' D cA b base Q C I S (by have h2 := lv_sub h' zs (clv_pick b base _ zs); rw [hl] at h2; exact h2) T)
theorem aw_iinc {i q : Nat} {z x : Int} {lv' : List (Nat × Value)} (zs : List Nat) (hd : decode cc pc = .ok (.iinc i z, 3)) (hq : lv[q]? = some (i, iI x)) (hn : i < nL) (hl : lv_pick ((i, iI (x + z)) :: lv.filter (fun q => !(q.1 == i) && !(q.1 + 1 == i && q.2.category == 2))) zs = lv') (k : AW own cc nL d ini kc ks xo Po n (pc + 3) lv' st mi mr ck sk) : AW own cc nL d ini kc ks xo Po n pc lv st mi mr ck sk := by
  intro p l e R s m args below meth c H locs ls D cA b base Q C I S L T
  exact lv_iinc (v := Int32.ofInt (x + z)) C.1 C.2.1 hd L (clv_at hq) (Int32.ofInt_add x z).symm hn (clv_store b base i (iI (x + z)) lv) (fun ls' h' => k p l e R s m args below meth c H locs ls' D cA b base Q C I S (by have h2 := lv_sub h' zs (clv_pick b base _ zs); rw [hl] at h2; exact h2) T)
theorem aw_iadd {x y : Int} (hd : decode cc pc = .ok (.iadd, 1)) (k : AW own cc nL d ini kc ks xo Po n (pc + 1) lv (iI (x + y) :: st) mi mr ck sk) : AW own cc nL d ini kc ks xo Po n pc lv (iI y :: iI x :: st) mi mr ck sk := by
  intro p l e R s m args below meth c H locs ls D cA b base Q C I S L T
  refine lv_iadd (x := Int32.ofInt x) (y := Int32.ofInt y) (rest := (st.map (cv b base))) C.1 C.2.1 hd ?_
  rw [← Int32.ofInt_add]
  exact k p l e R s m args below meth c H locs ls D cA b base Q C I S L T
theorem aw_isub {x y : Int} (hd : decode cc pc = .ok (.isub, 1)) (k : AW own cc nL d ini kc ks xo Po n (pc + 1) lv (iI (x - y) :: st) mi mr ck sk) : AW own cc nL d ini kc ks xo Po n pc lv (iI y :: iI x :: st) mi mr ck sk := by
  intro p l e R s m args below meth c H locs ls D cA b base Q C I S L T
  refine lv_isub (x := Int32.ofInt x) (y := Int32.ofInt y) (rest := (st.map (cv b base))) C.1 C.2.1 hd ?_
  rw [← Int32.ofInt_sub]
  exact k p l e R s m args below meth c H locs ls D cA b base Q C I S L T
theorem aw_imul {x y : Int} (hd : decode cc pc = .ok (.imul, 1)) (k : AW own cc nL d ini kc ks xo Po n (pc + 1) lv (iI (x * y) :: st) mi mr ck sk) : AW own cc nL d ini kc ks xo Po n pc lv (iI y :: iI x :: st) mi mr ck sk := by
  intro p l e R s m args below meth c H locs ls D cA b base Q C I S L T
  refine lv_imul (x := Int32.ofInt x) (y := Int32.ofInt y) (rest := (st.map (cv b base))) C.1 C.2.1 hd ?_
  rw [← Int32.ofInt_mul]
  exact k p l e R s m args below meth c H locs ls D cA b base Q C I S L T
theorem aw_ineg {x : Int} (hd : decode cc pc = .ok (.ineg, 1)) (k : AW own cc nL d ini kc ks xo Po n (pc + 1) lv (iI (-x) :: st) mi mr ck sk) : AW own cc nL d ini kc ks xo Po n pc lv (iI x :: st) mi mr ck sk := by
  intro p l e R s m args below meth c H locs ls D cA b base Q C I S L T
  refine lv_ineg (x := Int32.ofInt x) (rest := (st.map (cv b base))) C.1 C.2.1 hd ?_
  rw [← Int32.ofInt_neg]
  exact k p l e R s m args below meth c H locs ls D cA b base Q C I S L T
theorem aw_idiv {x y : Int} (hd : decode cc pc = .ok (.idiv, 1)) (hx : -2147483648 ≤ x ∧ x ≤ 2147483647) (hy : -2147483648 ≤ y ∧ y ≤ 2147483647) (h0 : y ≠ 0) (h1 : y ≠ -1) (k : AW own cc nL d ini kc ks xo Po n (pc + 1) lv (iI (x.tdiv y) :: st) mi mr ck sk) : AW own cc nL d ini kc ks xo Po n pc lv (iI y :: iI x :: st) mi mr ck sk := by
  intro p l e R s m args below meth c H locs ls D cA b base Q C I S L T
  refine lv_idiv (x := Int32.ofInt x) (y := Int32.ofInt y) (rest := (st.map (cv b base))) C.1 C.2.1 hd (fun q => h0 ((oI_eq hy (by omega)).mp (by rw [q, oI_0]))) ?_
  have e9 : Int32.ofInt x / Int32.ofInt y = Int32.ofInt (x.tdiv y) := by
    rw [← Int32.toInt_inj, Int32.toInt_div_of_ne_right _ _ (fun q => h1 ((oI_eq hy (by omega)).mp (by rw [q]; decide))), oI_toInt hx, oI_toInt hy, oI_toInt (tdiv_rng hx h1)]
  rw [e9]
  exact k p l e R s m args below meth c H locs ls D cA b base Q C I S L T
theorem aw_irem {x y : Int} (hd : decode cc pc = .ok (.irem, 1)) (hx : -2147483648 ≤ x ∧ x ≤ 2147483647) (hy : -2147483648 ≤ y ∧ y ≤ 2147483647) (h0 : y ≠ 0) (h1 : y ≠ -1) (k : AW own cc nL d ini kc ks xo Po n (pc + 1) lv (iI (x - x.tdiv y * y) :: st) mi mr ck sk) : AW own cc nL d ini kc ks xo Po n pc lv (iI y :: iI x :: st) mi mr ck sk := by
  intro p l e R s m args below meth c H locs ls D cA b base Q C I S L T
  refine lv_irem (x := Int32.ofInt x) (y := Int32.ofInt y) (rest := (st.map (cv b base))) C.1 C.2.1 hd (fun q => h0 ((oI_eq hy (by omega)).mp (by rw [q, oI_0]))) ?_
  have e9 : Int32.ofInt x / Int32.ofInt y = Int32.ofInt (x.tdiv y) := by
    rw [← Int32.toInt_inj, Int32.toInt_div_of_ne_right _ _ (fun q => h1 ((oI_eq hy (by omega)).mp (by rw [q]; decide))), oI_toInt hx, oI_toInt hy, oI_toInt (tdiv_rng hx h1)]
  rw [e9, ← Int32.ofInt_mul, ← Int32.ofInt_sub]
  exact k p l e R s m args below meth c H locs ls D cA b base Q C I S L T
theorem aw_iand {x y z : Int} (hd : decode cc pc = .ok (.iand, 1)) (hz : Int32.ofInt x &&& Int32.ofInt y = Int32.ofInt z) (k : AW own cc nL d ini kc ks xo Po n (pc + 1) lv (iI z :: st) mi mr ck sk) : AW own cc nL d ini kc ks xo Po n pc lv (iI y :: iI x :: st) mi mr ck sk := by
  intro p l e R s m args below meth c H locs ls D cA b base Q C I S L T
  refine lv_iand (x := Int32.ofInt x) (y := Int32.ofInt y) (rest := (st.map (cv b base))) C.1 C.2.1 hd ?_
  rw [hz]
  exact k p l e R s m args below meth c H locs ls D cA b base Q C I S L T
theorem aw_ior {x y z : Int} (hd : decode cc pc = .ok (.ior, 1)) (hz : Int32.ofInt x ||| Int32.ofInt y = Int32.ofInt z) (k : AW own cc nL d ini kc ks xo Po n (pc + 1) lv (iI z :: st) mi mr ck sk) : AW own cc nL d ini kc ks xo Po n pc lv (iI y :: iI x :: st) mi mr ck sk := by
  intro p l e R s m args below meth c H locs ls D cA b base Q C I S L T
  refine lv_ior (x := Int32.ofInt x) (y := Int32.ofInt y) (rest := (st.map (cv b base))) C.1 C.2.1 hd ?_
  rw [hz]
  exact k p l e R s m args below meth c H locs ls D cA b base Q C I S L T
theorem aw_ishl {x y z : Int} (hd : decode cc pc = .ok (.ishl, 1)) (hz : Int32.ofInt x <<< (Int32.ofInt y &&& 31) = Int32.ofInt z) (k : AW own cc nL d ini kc ks xo Po n (pc + 1) lv (iI z :: st) mi mr ck sk) : AW own cc nL d ini kc ks xo Po n pc lv (iI y :: iI x :: st) mi mr ck sk := by
  intro p l e R s m args below meth c H locs ls D cA b base Q C I S L T
  refine lv_ishl (x := Int32.ofInt x) (y := Int32.ofInt y) (rest := (st.map (cv b base))) C.1 C.2.1 hd ?_
  rw [hz]
  exact k p l e R s m args below meth c H locs ls D cA b base Q C I S L T
theorem aw_ishr {x y z : Int} (hd : decode cc pc = .ok (.ishr, 1)) (hz : Int32.ofInt x >>> (Int32.ofInt y &&& 31) = Int32.ofInt z) (k : AW own cc nL d ini kc ks xo Po n (pc + 1) lv (iI z :: st) mi mr ck sk) : AW own cc nL d ini kc ks xo Po n pc lv (iI y :: iI x :: st) mi mr ck sk := by
  intro p l e R s m args below meth c H locs ls D cA b base Q C I S L T
  refine lv_ishr (x := Int32.ofInt x) (y := Int32.ofInt y) (rest := (st.map (cv b base))) C.1 C.2.1 hd ?_
  rw [hz]
  exact k p l e R s m args below meth c H locs ls D cA b base Q C I S L T
theorem aw_iushr {x y z : Int} (hd : decode cc pc = .ok (.iushr, 1)) (hz : ((Int32.ofInt x).toUInt32 >>> ((Int32.ofInt y).toUInt32 &&& Int32.toUInt32 31)).toInt32 = Int32.ofInt z) (k : AW own cc nL d ini kc ks xo Po n (pc + 1) lv (iI z :: st) mi mr ck sk) : AW own cc nL d ini kc ks xo Po n pc lv (iI y :: iI x :: st) mi mr ck sk := by
  intro p l e R s m args below meth c H locs ls D cA b base Q C I S L T
  exact lv_iushr (x := Int32.ofInt x) (y := Int32.ofInt y) (v := Int32.ofInt z) (rest := (st.map (cv b base))) C.1 C.2.1 hd hz (k p l e R s m args below meth c H locs ls D cA b base Q C I S L T)
theorem aw_i2l {x : Int} (hd : decode cc pc = .ok (.i2l, 1)) (hx : -2147483648 ≤ x ∧ x ≤ 2147483647) (k : AW own cc nL d ini kc ks xo Po n (pc + 1) lv (lL x :: st) mi mr ck sk) : AW own cc nL d ini kc ks xo Po n pc lv (iI x :: st) mi mr ck sk := by
  intro p l e R s m args below meth c H locs ls D cA b base Q C I S L T
  exact lv_i2l (x := Int32.ofInt x) (v := Int64.ofInt x) (rest := (st.map (cv b base))) C.1 C.2.1 hd (Int32.toInt64_ofInt (by rw [show Int32.minValue.toInt = -2147483648 by decide]; omega) (by rw [show Int32.maxValue.toInt = 2147483647 by decide]; omega)) (k p l e R s m args below meth c H locs ls D cA b base Q C I S L T)
theorem aw_l2i {x : Int} (hd : decode cc pc = .ok (.l2i, 1)) (k : AW own cc nL d ini kc ks xo Po n (pc + 1) lv (iI x :: st) mi mr ck sk) : AW own cc nL d ini kc ks xo Po n pc lv (lL x :: st) mi mr ck sk := by
  intro p l e R s m args below meth c H locs ls D cA b base Q C I S L T
  exact lv_l2i (x := Int64.ofInt x) (v := Int32.ofInt x) (rest := (st.map (cv b base))) C.1 C.2.1 hd Int64.toInt32_ofInt (k p l e R s m args below meth c H locs ls D cA b base Q C I S L T)
theorem aw_lcmp {x y : Int} (hd : decode cc pc = .ok (.lcmp, 1)) (hx : -9000000000000000000 ≤ x ∧ x ≤ 9000000000000000000) (hy : -9000000000000000000 ≤ y ∧ y ≤ 9000000000000000000) (k : AW own cc nL d ini kc ks xo Po n (pc + 1) lv (iI (if y < x then 1 else if x = y then 0 else -1) :: st) mi mr ck sk) : AW own cc nL d ini kc ks xo Po n pc lv (lL y :: lL x :: st) mi mr ck sk := by
  intro p l e R s m args below meth c H locs ls D cA b base Q C I S L T
  refine W.lcmp (x := Int64.ofInt x) (y := Int64.ofInt y) (rest := (st.map (cv b base))) C.1 C.2.1 hd ?_
  have e9 : lg_cmp (Int64.ofInt x) (Int64.ofInt y) = Int32.ofInt (if y < x then 1 else if x = y then 0 else -1) := by
    unfold lg_cmp
    simp only [gt_iff_lt, Int64.lt_iff_toInt_lt, ← Int64.toInt_inj, oL_toInt hx, oL_toInt hy]
    by_cases h1 : y < x
    · simp only [h1, if_true]; decide
    · by_cases h2 : x = y
      · simp only [h2, Int.lt_irrefl, if_false, if_true]; decide
      · simp only [h1, h2, if_false]; decide
  rw [e9]
  exact k p l e R s m args below meth c H locs ls D cA b base Q C I S L T
theorem aw_dup {v : Value} (hd : decode cc pc = .ok (.dup, 1)) (hv : v.category = 1) (k : AW own cc nL d ini kc ks xo Po n (pc + 1) lv (v :: v :: st) mi mr ck sk) : AW own cc nL d ini kc ks xo Po n pc lv (v :: st) mi mr ck sk := by
  intro p l e R s m args below meth c H locs ls D cA b base Q C I S L T
  exact lv_dup (va := cv b base v) (rest := (st.map (cv b base))) C.1 C.2.1 hd (by rw [cv_cat]; exact hv) (k p l e R s m args below meth c H locs ls D cA b base Q C I S L T)
theorem aw_dup_x1 {v w : Value} (hd : decode cc pc = .ok (.dup_x1, 1)) (hv : v.category = 1) (hw : w.category = 1) (k : AW own cc nL d ini kc ks xo Po n (pc + 1) lv (v :: w :: v :: st) mi mr ck sk) : AW own cc nL d ini kc ks xo Po n pc lv (v :: w :: st) mi mr ck sk := by
  intro p l e R s m args below meth c H locs ls D cA b base Q C I S L T
  exact lv_dup_x1 (va := cv b base v) (vb := cv b base w) (rest := (st.map (cv b base))) C.1 C.2.1 hd (by rw [cv_cat]; exact hv) (by rw [cv_cat]; exact hw) (k p l e R s m args below meth c H locs ls D cA b base Q C I S L T)
theorem aw_dup2 {v w : Value} (hd : decode cc pc = .ok (.dup2, 1)) (hv : v.category = 1) (hw : w.category = 1) (k : AW own cc nL d ini kc ks xo Po n (pc + 1) lv (v :: w :: v :: w :: st) mi mr ck sk) : AW own cc nL d ini kc ks xo Po n pc lv (v :: w :: st) mi mr ck sk := by
  intro p l e R s m args below meth c H locs ls D cA b base Q C I S L T
  exact lv_dup2_11 (va := cv b base v) (vb := cv b base w) (rest := (st.map (cv b base))) C.1 C.2.1 hd (by rw [cv_cat]; exact hv) (by rw [cv_cat]; exact hw) (k p l e R s m args below meth c H locs ls D cA b base Q C I S L T)
theorem aw_pop {v : Value} (hd : decode cc pc = .ok (.pop, 1)) (hv : v.category = 1) (k : AW own cc nL d ini kc ks xo Po n (pc + 1) lv st mi mr ck sk) : AW own cc nL d ini kc ks xo Po n pc lv (v :: st) mi mr ck sk := by
  intro p l e R s m args below meth c H locs ls D cA b base Q C I S L T
  exact lv_pop (va := cv b base v) (rest := (st.map (cv b base))) C.1 C.2.1 hd (by rw [cv_cat]; exact hv) (k p l e R s m args below meth c H locs ls D cA b base Q C I S L T)
theorem aw_goto {off : Int} {tgt : Nat} (hd : decode cc pc = .ok (.goto off, 3)) (ht : (pc : Int) + off = (tgt : Int)) (k : AW own cc nL d ini kc ks xo Po n tgt lv st mi mr ck sk) : AW own cc nL d ini kc ks xo Po n pc lv st mi mr ck sk := by
  intro p l e R s m args below meth c H locs ls D cA b base Q C I S L T
  exact lv_goto C.1 C.2.1 hd ht (k p l e R s m args below meth c H locs ls D cA b base Q C I S L T)
theorem aw_icmp_eq {x y off : Int} {tgt : Nat} (hd : decode cc pc = .ok (.if_icmp .eq off, 3)) (ht : (pc : Int) + off = (tgt : Int)) (hx : -2147483648 ≤ x ∧ x ≤ 2147483647) (hy : -2147483648 ≤ y ∧ y ≤ 2147483647) (kt : x = y → AW own cc nL d ini kc ks xo Po n tgt lv st mi mr ck sk) (kf : x ≠ y → AW own cc nL d ini kc ks xo Po n (pc + 3) lv st mi mr ck sk) : AW own cc nL d ini kc ks xo Po n pc lv (iI y :: iI x :: st) mi mr ck sk := by
  intro p l e R s m args below meth c H locs ls D cA b base Q C I S L T
  refine lv_icmp_eq (x := Int32.ofInt x) (y := Int32.ofInt y) (rest := (st.map (cv b base))) C.1 C.2.1 hd ht (fun q => kt ?_ p l e R s m args below meth c H locs ls D cA b base Q C I S L T) (fun q => kf ?_ p l e R s m args below meth c H locs ls D cA b base Q C I S L T) <;> (simp only [ge_iff_le, gt_iff_lt, oI_lt hx hy, oI_lt hy hx, oI_le hx hy, oI_le hy hx, oI_eq hx hy, Int32.not_lt, Int32.not_le] at q; first | exact q | omega)
theorem aw_if_eq {x off : Int} {tgt : Nat} (hd : decode cc pc = .ok (.ifCond .eq off, 3)) (ht : (pc : Int) + off = (tgt : Int)) (hx : -2147483648 ≤ x ∧ x ≤ 2147483647) (kt : x = 0 → AW own cc nL d ini kc ks xo Po n tgt lv st mi mr ck sk) (kf : x ≠ 0 → AW own cc nL d ini kc ks xo Po n (pc + 3) lv st mi mr ck sk) : AW own cc nL d ini kc ks xo Po n pc lv (iI x :: st) mi mr ck sk := by
  intro p l e R s m args below meth c H locs ls D cA b base Q C I S L T
  have hy : -2147483648 ≤ (0 : Int) ∧ (0 : Int) ≤ 2147483647 := by omega
  refine lv_if_eq (x := Int32.ofInt x) (rest := (st.map (cv b base))) C.1 C.2.1 hd ht (fun q => kt ?_ p l e R s m args below meth c H locs ls D cA b base Q C I S L T) (fun q => kf ?_ p l e R s m args below meth c H locs ls D cA b base Q C I S L T) <;> (rw [← oI_0] at q; simp only [ge_iff_le, gt_iff_lt, oI_lt hx hy, oI_lt hy hx, oI_le hx hy, oI_le hy hx, oI_eq hx hy, Int32.not_lt, Int32.not_le] at q; first | exact q | omega)
theorem aw_icmp_ne {x y off : Int} {tgt : Nat} (hd : decode cc pc = .ok (.if_icmp .ne off, 3)) (ht : (pc : Int) + off = (tgt : Int)) (hx : -2147483648 ≤ x ∧ x ≤ 2147483647) (hy : -2147483648 ≤ y ∧ y ≤ 2147483647) (kt : x ≠ y → AW own cc nL d ini kc ks xo Po n tgt lv st mi mr ck sk) (kf : x = y → AW own cc nL d ini kc ks xo Po n (pc + 3) lv st mi mr ck sk) : AW own cc nL d ini kc ks xo Po n pc lv (iI y :: iI x :: st) mi mr ck sk := by
  intro p l e R s m args below meth c H locs ls D cA b base Q C I S L T
  refine lv_icmp_ne (x := Int32.ofInt x) (y := Int32.ofInt y) (rest := (st.map (cv b base))) C.1 C.2.1 hd ht (fun q => kt ?_ p l e R s m args below meth c H locs ls D cA b base Q C I S L T) (fun q => kf ?_ p l e R s m args below meth c H locs ls D cA b base Q C I S L T) <;> (simp only [ge_iff_le, gt_iff_lt, oI_lt hx hy, oI_lt hy hx, oI_le hx hy, oI_le hy hx, oI_eq hx hy, Int32.not_lt, Int32.not_le] at q; first | exact q | omega)
theorem aw_if_ne {x off : Int} {tgt : Nat} (hd : decode cc pc = .ok (.ifCond .ne off, 3)) (ht : (pc : Int) + off = (tgt : Int)) (hx : -2147483648 ≤ x ∧ x ≤ 2147483647) (kt : x ≠ 0 → AW own cc nL d ini kc ks xo Po n tgt lv st mi mr ck sk) (kf : x = 0 → AW own cc nL d ini kc ks xo Po n (pc + 3) lv st mi mr ck sk) : AW own cc nL d ini kc ks xo Po n pc lv (iI x :: st) mi mr ck sk := by
  intro p l e R s m args below meth c H locs ls D cA b base Q C I S L T
  have hy : -2147483648 ≤ (0 : Int) ∧ (0 : Int) ≤ 2147483647 := by omega
  refine lv_if_ne (x := Int32.ofInt x) (rest := (st.map (cv b base))) C.1 C.2.1 hd ht (fun q => kt ?_ p l e R s m args below meth c H locs ls D cA b base Q C I S L T) (fun q => kf ?_ p l e R s m args below meth c H locs ls D cA b base Q C I S L T) <;> (rw [← oI_0] at q; simp only [ge_iff_le, gt_iff_lt, oI_lt hx hy, oI_lt hy hx, oI_le hx hy, oI_le hy hx, oI_eq hx hy, Int32.not_lt, Int32.not_le] at q; first | exact q | omega)
theorem aw_icmp_lt {x y off : Int} {tgt : Nat} (hd : decode cc pc = .ok (.if_icmp .lt off, 3)) (ht : (pc : Int) + off = (tgt : Int)) (hx : -2147483648 ≤ x ∧ x ≤ 2147483647) (hy : -2147483648 ≤ y ∧ y ≤ 2147483647) (kt : x < y → AW own cc nL d ini kc ks xo Po n tgt lv st mi mr ck sk) (kf : y ≤ x → AW own cc nL d ini kc ks xo Po n (pc + 3) lv st mi mr ck sk) : AW own cc nL d ini kc ks xo Po n pc lv (iI y :: iI x :: st) mi mr ck sk := by
  intro p l e R s m args below meth c H locs ls D cA b base Q C I S L T
  refine lv_icmp_lt (x := Int32.ofInt x) (y := Int32.ofInt y) (rest := (st.map (cv b base))) C.1 C.2.1 hd ht (fun q => kt ?_ p l e R s m args below meth c H locs ls D cA b base Q C I S L T) (fun q => kf ?_ p l e R s m args below meth c H locs ls D cA b base Q C I S L T) <;> (simp only [ge_iff_le, gt_iff_lt, oI_lt hx hy, oI_lt hy hx, oI_le hx hy, oI_le hy hx, oI_eq hx hy, Int32.not_lt, Int32.not_le] at q; first | exact q | omega)
theorem aw_if_lt {x off : Int} {tgt : Nat} (hd : decode cc pc = .ok (.ifCond .lt off, 3)) (ht : (pc : Int) + off = (tgt : Int)) (hx : -2147483648 ≤ x ∧ x ≤ 2147483647) (kt : x < 0 → AW own cc nL d ini kc ks xo Po n tgt lv st mi mr ck sk) (kf : 0 ≤ x → AW own cc nL d ini kc ks xo Po n (pc + 3) lv st mi mr ck sk) : AW own cc nL d ini kc ks xo Po n pc lv (iI x :: st) mi mr ck sk := by
  intro p l e R s m args below meth c H locs ls D cA b base Q C I S L T
  have hy : -2147483648 ≤ (0 : Int) ∧ (0 : Int) ≤ 2147483647 := by omega
  refine lv_if_lt (x := Int32.ofInt x) (rest := (st.map (cv b base))) C.1 C.2.1 hd ht (fun q => kt ?_ p l e R s m args below meth c H locs ls D cA b base Q C I S L T) (fun q => kf ?_ p l e R s m args below meth c H locs ls D cA b base Q C I S L T) <;> (rw [← oI_0] at q; simp only [ge_iff_le, gt_iff_lt, oI_lt hx hy, oI_lt hy hx, oI_le hx hy, oI_le hy hx, oI_eq hx hy, Int32.not_lt, Int32.not_le] at q; first | exact q | omega)
theorem aw_icmp_ge {x y off : Int} {tgt : Nat} (hd : decode cc pc = .ok (.if_icmp .ge off, 3)) (ht : (pc : Int) + off = (tgt : Int)) (hx : -2147483648 ≤ x ∧ x ≤ 2147483647) (hy : -2147483648 ≤ y ∧ y ≤ 2147483647) (kt : y ≤ x → AW own cc nL d ini kc ks xo Po n tgt lv st mi mr ck sk) (kf : x < y → AW own cc nL d ini kc ks xo Po n (pc + 3) lv st mi mr ck sk) : AW own cc nL d ini kc ks xo Po n pc lv (iI y :: iI x :: st) mi mr ck sk := by
  intro p l e R s m args below meth c H locs ls D cA b base Q C I S L T
  refine lv_icmp_ge (x := Int32.ofInt x) (y := Int32.ofInt y) (rest := (st.map (cv b base))) C.1 C.2.1 hd ht (fun q => kt ?_ p l e R s m args below meth c H locs ls D cA b base Q C I S L T) (fun q => kf ?_ p l e R s m args below meth c H locs ls D cA b base Q C I S L T) <;> (simp only [ge_iff_le, gt_iff_lt, oI_lt hx hy, oI_lt hy hx, oI_le hx hy, oI_le hy hx, oI_eq hx hy, Int32.not_lt, Int32.not_le] at q; first | exact q | omega)
theorem aw_if_ge {x off : Int} {tgt : Nat} (hd : decode cc pc = .ok (.ifCond .ge off, 3)) (ht : (pc : Int) + off = (tgt : Int)) (hx : -2147483648 ≤ x ∧ x ≤ 2147483647) (kt : 0 ≤ x → AW own cc nL d ini kc ks xo Po n tgt lv st mi mr ck sk) (kf : x < 0 → AW own cc nL d ini kc ks xo Po n (pc + 3) lv st mi mr ck sk) : AW own cc nL d ini kc ks xo Po n pc lv (iI x :: st) mi mr ck sk := by
  intro p l e R s m args below meth c H locs ls D cA b base Q C I S L T
  have hy : -2147483648 ≤ (0 : Int) ∧ (0 : Int) ≤ 2147483647 := by omega
  refine lv_if_ge (x := Int32.ofInt x) (rest := (st.map (cv b base))) C.1 C.2.1 hd ht (fun q => kt ?_ p l e R s m args below meth c H locs ls D cA b base Q C I S L T) (fun q => kf ?_ p l e R s m args below meth c H locs ls D cA b base Q C I S L T) <;> (rw [← oI_0] at q; simp only [ge_iff_le, gt_iff_lt, oI_lt hx hy, oI_lt hy hx, oI_le hx hy, oI_le hy hx, oI_eq hx hy, Int32.not_lt, Int32.not_le] at q; first | exact q | omega)
theorem aw_icmp_gt {x y off : Int} {tgt : Nat} (hd : decode cc pc = .ok (.if_icmp .gt off, 3)) (ht : (pc : Int) + off = (tgt : Int)) (hx : -2147483648 ≤ x ∧ x ≤ 2147483647) (hy : -2147483648 ≤ y ∧ y ≤ 2147483647) (kt : y < x → AW own cc nL d ini kc ks xo Po n tgt lv st mi mr ck sk) (kf : x ≤ y → AW own cc nL d ini kc ks xo Po n (pc + 3) lv st mi mr ck sk) : AW own cc nL d ini kc ks xo Po n pc lv (iI y :: iI x :: st) mi mr ck sk := by
  intro p l e R s m args below meth c H locs ls D cA b base Q C I S L T
  refine lv_icmp_gt (x := Int32.ofInt x) (y := Int32.ofInt y) (rest := (st.map (cv b base))) C.1 C.2.1 hd ht (fun q => kt ?_ p l e R s m args below meth c H locs ls D cA b base Q C I S L T) (fun q => kf ?_ p l e R s m args below meth c H locs ls D cA b base Q C I S L T) <;> (simp only [ge_iff_le, gt_iff_lt, oI_lt hx hy, oI_lt hy hx, oI_le hx hy, oI_le hy hx, oI_eq hx hy, Int32.not_lt, Int32.not_le] at q; first | exact q | omega)
theorem aw_if_gt {x off : Int} {tgt : Nat} (hd : decode cc pc = .ok (.ifCond .gt off, 3)) (ht : (pc : Int) + off = (tgt : Int)) (hx : -2147483648 ≤ x ∧ x ≤ 2147483647) (kt : 0 < x → AW own cc nL d ini kc ks xo Po n tgt lv st mi mr ck sk) (kf : x ≤ 0 → AW own cc nL d ini kc ks xo Po n (pc + 3) lv st mi mr ck sk) : AW own cc nL d ini kc ks xo Po n pc lv (iI x :: st) mi mr ck sk := by
  intro p l e R s m args below meth c H locs ls D cA b base Q C I S L T
  have hy : -2147483648 ≤ (0 : Int) ∧ (0 : Int) ≤ 2147483647 := by omega
  refine lv_if_gt (x := Int32.ofInt x) (rest := (st.map (cv b base))) C.1 C.2.1 hd ht (fun q => kt ?_ p l e R s m args below meth c H locs ls D cA b base Q C I S L T) (fun q => kf ?_ p l e R s m args below meth c H locs ls D cA b base Q C I S L T) <;> (rw [← oI_0] at q; simp only [ge_iff_le, gt_iff_lt, oI_lt hx hy, oI_lt hy hx, oI_le hx hy, oI_le hy hx, oI_eq hx hy, Int32.not_lt, Int32.not_le] at q; first | exact q | omega)
theorem aw_icmp_le {x y off : Int} {tgt : Nat} (hd : decode cc pc = .ok (.if_icmp .le off, 3)) (ht : (pc : Int) + off = (tgt : Int)) (hx : -2147483648 ≤ x ∧ x ≤ 2147483647) (hy : -2147483648 ≤ y ∧ y ≤ 2147483647) (kt : x ≤ y → AW own cc nL d ini kc ks xo Po n tgt lv st mi mr ck sk) (kf : y < x → AW own cc nL d ini kc ks xo Po n (pc + 3) lv st mi mr ck sk) : AW own cc nL d ini kc ks xo Po n pc lv (iI y :: iI x :: st) mi mr ck sk := by
  intro p l e R s m args below meth c H locs ls D cA b base Q C I S L T
  refine lv_icmp_le (x := Int32.ofInt x) (y := Int32.ofInt y) (rest := (st.map (cv b base))) C.1 C.2.1 hd ht (fun q => kt ?_ p l e R s m args below meth c H locs ls D cA b base Q C I S L T) (fun q => kf ?_ p l e R s m args below meth c H locs ls D cA b base Q C I S L T) <;> (simp only [ge_iff_le, gt_iff_lt, oI_lt hx hy, oI_lt hy hx, oI_le hx hy, oI_le hy hx, oI_eq hx hy, Int32.not_lt, Int32.not_le] at q; first | exact q | omega)
theorem aw_if_le {x off : Int} {tgt : Nat} (hd : decode cc pc = .ok (.ifCond .le off, 3)) (ht : (pc : Int) + off = (tgt : Int)) (hx : -2147483648 ≤ x ∧ x ≤ 2147483647) (kt : x ≤ 0 → AW own cc nL d ini kc ks xo Po n tgt lv st mi mr ck sk) (kf : 0 < x → AW own cc nL d ini kc ks xo Po n (pc + 3) lv st mi mr ck sk) : AW own cc nL d ini kc ks xo Po n pc lv (iI x :: st) mi mr ck sk := by
  intro p l e R s m args below meth c H locs ls D cA b base Q C I S L T
  have hy : -2147483648 ≤ (0 : Int) ∧ (0 : Int) ≤ 2147483647 := by omega
  refine lv_if_le (x := Int32.ofInt x) (rest := (st.map (cv b base))) C.1 C.2.1 hd ht (fun q => kt ?_ p l e R s m args below meth c H locs ls D cA b base Q C I S L T) (fun q => kf ?_ p l e R s m args below meth c H locs ls D cA b base Q C I S L T) <;> (rw [← oI_0] at q; simp only [ge_iff_le, gt_iff_lt, oI_lt hx hy, oI_lt hy hx, oI_le hx hy, oI_le hy hx, oI_eq hx hy, Int32.not_lt, Int32.not_le] at q; first | exact q | omega)
theorem aw_tabOut {dflt lo hi : Int} {offs : Array Int} {len : Nat} {x : Int} {tgt : Nat} (hd : decode cc pc = .ok (.tableswitch dflt lo hi offs, len)) (hx : -2147483648 ≤ x ∧ x ≤ 2147483647) (h : x < lo ∨ hi < x) (ht : (pc : Int) + dflt = (tgt : Int)) (k : AW own cc nL d ini kc ks xo Po n tgt lv st mi mr ck sk) : AW own cc nL d ini kc ks xo Po n pc lv (iI x :: st) mi mr ck sk := by
  intro p l e R s m args below meth c H locs ls D cA b base Q C I S L T
  exact lv_tableOut (x := Int32.ofInt x) (rest := (st.map (cv b base))) C.1 C.2.1 hd (by rw [oI_toInt hx]; exact h) ht (k p l e R s m args below meth c H locs ls D cA b base Q C I S L T)
theorem aw_tabIn {dflt lo hi : Int} {offs : Array Int} {len : Nat} {x off : Int} {tgt : Nat} (hd : decode cc pc = .ok (.tableswitch dflt lo hi offs, len)) (hx : -2147483648 ≤ x ∧ x ≤ 2147483647) (h1 : lo ≤ x) (h2 : x ≤ hi) (ho : offs[(x - lo).toNat]? = some off) (ht : (pc : Int) + off = (tgt : Int)) (k : AW own cc nL d ini kc ks xo Po n tgt lv st mi mr ck sk) : AW own cc nL d ini kc ks xo Po n pc lv (iI x :: st) mi mr ck sk := by
  intro p l e R s m args below meth c H locs ls D cA b base Q C I S L T
  exact lv_tableIn (x := Int32.ofInt x) (rest := (st.map (cv b base))) C.1 C.2.1 hd (by rw [oI_toInt hx]; omega) (by rw [oI_toInt hx]; omega) (by rw [oI_toInt hx]; exact ho) ht (k p l e R s m args below meth c H locs ls D cA b base Q C I S L T)
theorem aw_sub {lv' : List (Nat × Value)} (zs : List Nat) (hl : lv_pick lv zs = lv') (k : AW own cc nL d ini kc ks xo Po n pc lv' st mi mr ck sk) : AW own cc nL d ini kc ks xo Po n pc lv st mi mr ck sk := by
  intro p l e R s m args below meth c H locs ls D cA b base Q C I S L T
  exact k p l e R s m args below meth c H locs ls D cA b base Q C I S (by have h2 := lv_sub L zs (clv_pick b base _ zs); rw [hl] at h2; exact h2) T
theorem aw_getI {idx ci f a : Nat} (hf : aFld own idx ci f) (hs : SH a = (0, ci)) (ha : 0 < a ∧ a ≤ n) (hr : (fty ci f).isReference = false) (hd : decode cc pc = .ok (.getfield idx, 3)) (k : -2147483648 ≤ mi a f ∧ mi a f ≤ 2147483647 → AW own cc nL d ini kc ks xo Po n (pc + 3) lv (iI (mi a f) :: st) mi mr ck sk) : AW own cc nL d ini kc ks xo Po n pc lv (.ref a :: st) mi mr ck sk := by
  intro p l e R s m args below meth c H locs ls D cA b base Q C I S L T
  obtain ⟨CN, F, N, hc, hk, hl⟩ := hf
  obtain ⟨g1, g2, g3, g4⟩ := aIn hc
  have he := wld_at (cA := cA) (mi := mi) (mr := mr) (b := b) (base := base) ha
  have hcel : cel cA mi mr b base a = .inr (ci, (List.range (nF ci)).map (fval mi mr b base a ci)) := by unfold cel; rw [hs]
  rw [hcel] at he
  have hv : ((List.range (nF ci)).map (fval mi mr b base a ci))[f]? = some (fval mi mr b base a ci f) := by simp [← g4, hk]
  have hw : fval mi mr b base a ci f = .int (Int32.ofInt (mi a f)) := by unfold fval; rw [if_neg (by rw [hr]; decide)]
  rw [hw] at hv
  exact va_get (v := .int (Int32.ofInt (mi a f))) C.1 C.2.1 C.2.2.2.2.1 g1 C.2.2.2.1 C.2.2.2.2.2.1 I.2.1 (a - 1) he hc f hk (C.2.2.2.2.1 _ hl) (fun _ h => by rw [aOwn hc f hk] at h; exact h) hv hd (k (I.2.2.1 a f) p l e R s m args below meth c H locs ls D cA b base Q C I S L T)
theorem aw_getR {idx ci f a : Nat} {r : Nat} (hf : aFld own idx ci f) (hs : SH a = (0, ci)) (ha : 0 < a ∧ a ≤ n) (hr : (fty ci f).isReference = true) (hv9 : mr a f = some r) (hd : decode cc pc = .ok (.getfield idx, 3)) (k : AW own cc nL d ini kc ks xo Po n (pc + 3) lv (.ref r :: st) mi mr ck sk) : AW own cc nL d ini kc ks xo Po n pc lv (.ref a :: st) mi mr ck sk := by
  intro p l e R s m args below meth c H locs ls D cA b base Q C I S L T
  obtain ⟨CN, F, N, hc, hk, hl⟩ := hf
  obtain ⟨g1, g2, g3, g4⟩ := aIn hc
  have he := wld_at (cA := cA) (mi := mi) (mr := mr) (b := b) (base := base) ha
  have hcel : cel cA mi mr b base a = .inr (ci, (List.range (nF ci)).map (fval mi mr b base a ci)) := by unfold cel; rw [hs]
  rw [hcel] at he
  have hv : ((List.range (nF ci)).map (fval mi mr b base a ci))[f]? = some (fval mi mr b base a ci f) := by simp [← g4, hk]
  have hw : fval mi mr b base a ci f = .ref (adr b base r) := by unfold fval; rw [if_pos hr, hv9]; rfl
  rw [hw] at hv
  exact va_get (v := .ref (adr b base r)) C.1 C.2.1 C.2.2.2.2.1 g1 C.2.2.2.1 C.2.2.2.2.2.1 I.2.1 (a - 1) he hc f hk (C.2.2.2.2.1 _ hl) (fun _ h => by rw [aOwn hc f hk] at h; exact h) hv hd (k p l e R s m args below meth c H locs ls D cA b base Q C I S L T)
theorem fval_set {mi mi' : aM} {mr mr' : aR} {b base a ci f : Nat} {w : Value} (hi : ∀ j : Nat, j ≠ f → mi' a j = mi a j ∧ mr' a j = mr a j) (hw : w = fval mi' mr' b base a ci f) : ((List.range (nF ci)).map (fval mi mr b base a ci)).set f w = (List.range (nF ci)).map (fval mi' mr' b base a ci) := by
  apply List.ext_getElem?
  intro j
  simp only [List.getElem?_set, List.length_map, List.length_range, List.getElem?_map]
  by_cases hj : f = j
  · subst hj
    by_cases hl : f < nF ci
    · simp [hl, hw]
    · simp [hl]
  · simp only [hj, if_false]
    cases hr : (List.range (nF ci))[j]? with
    | none => rfl
    | some x =>
      have hx : x = j := by
        obtain ⟨h2, h3⟩ := List.getElem?_eq_some_iff.mp hr
        simpa using h3.symm
      subst hx
      have e := hi x (fun h => hj h.symm)
      simp only [Option.map_some, fval, e.1, e.2]
theorem aw_putG {idx ci f a : Nat} {w : Value} {mi' : aM} {mr' : aR} (hf : aFld own idx ci f) (hs : SH a = (0, ci)) (ha : 0 < a ∧ a ≤ n) (hfin : aFin ci f = false ∨ (aFin ci f = true ∧ ini = true ∧ ∀ q, vwCl[ci]? = some q → (q.2.1 f).1 = own))
  (hoth : ∀ (x : Nat) (j : Int), x ≠ a → mi' x j = mi x j ∧ mr' x j = mr x j) (hnf : ∀ j : Nat, j ≠ f → mi' a j = mi a j ∧ mr' a j = mr a j) (hrg : ∀ j : Int, -2147483648 ≤ mi' a j ∧ mi' a j ≤ 2147483647)
  (hw : ∀ b base : Nat, cv b base w = fval mi' mr' b base a ci f) (hnar : ∀ b base : Nat, narrow (fty ci f) (cv b base w) = cv b base w) (hfit : ∀ b base : Nat, fits (fty ci f) (cv b base w) = true)
  (hd : decode cc pc = .ok (.putfield idx, 3)) (k : AW own cc nL d ini kc ks xo Po n (pc + 3) lv st mi' mr' ck sk) : AW own cc nL d ini kc ks xo Po n pc lv (w :: .ref a :: st) mi mr ck sk := by
  intro p l e R s m args below meth c H locs ls D cA b base Q C I S L T
  obtain ⟨CN, F, N, hc, hk, hl⟩ := hf
  obtain ⟨g1, g2, g3, g4⟩ := aIn hc
  have he := wld_at (cA := cA) (mi := mi) (mr := mr) (b := b) (base := base) ha
  have hcel : cel cA mi mr b base a = .inr (ci, (List.range (nF ci)).map (fval mi mr b base a ci)) := by unfold cel; rw [hs]
  rw [hcel] at he
  obtain ⟨r, h1, cell, q1, q2, q3, q4⟩ := I.2.1 (a - 1) _ he
  have hr : r = (CN, F, N) := Option.some.inj (h1.symm.trans hc)
  subst hr
  have hKc := C.2.2.2.2.2.1.1 ci _ hc
  obtain ⟨hS9, hfc, kC, hkC, hkind⟩ := hKc
  obtain ⟨cf, kf, fi, fd, hi, hsl⟩ := hS9 f hk
  have hi9 : s.fieldFound? CN (F f).2.1 (F f).2.2.1 = some (cf, kf, fi, fd) := by have h9 := hi; dsimp only at h9; rw [aOwn hc f hk] at h9; exact h9
  have hts := C.2.2.2.2.1
  have hap := va_apart (own := own) hts g1 (fty ci) g2 g3 C.2.2.2.2.2.1 hc
  have hst := (u_facts hfc hkC (u_lays hts g1 hk) hi).1
  have hlen : f < ((List.range (nF ci)).map (fval mi mr b base a ci)).length := by simp [← g4, hk]
  have hsz : fd.slot < cell.slots.size := by rw [hsl]; exact k2_hasslot (q4 f hk)
  have hcel2 : cel cA mi' mr' b base a = .inr (ci, ((List.range (nF ci)).map (fval mi mr b base a ci)).set f (cv b base w)) := by
    rw [fval_set (ci := ci) (f := f) hnf (hw b base)]
    unfold cel; rw [hs]
  have fin2 : ∀ H' : Heap, H'[adr b base a]? = some (cell.setSlot fd.slot (cv b base w)) → H'.size = H.size → (∀ q, q ≠ adr b base a → H'[q]? = H[q]?) → W p l e R s m args below meth c H' (locs ++ [⟨adr b base a, fd.slot⟩]) ck sk Q (F0 m (pc + 3) ls (st.map (cv b base))) := by
    intro H' e1 e2 e3
    rw [hsl] at e1 ⊢
    have hP := I.2.1.set (p := a - 1) (e := .inr (ci, ((List.range (nF ci)).map (fval mi mr b base a ci)).set f (cv b base w))) (wld_D cA mi mr b base n) he ⟨_, hc, t_OB.to (V := updV (vp_V ((List.range (nF ci)).map (fval mi mr b base a ci))) f (cv b base w)) ⟨_, e1, q2, q3, t_set q4 hap hk (cv b base w)⟩ (fun j _ => vp_updV_set hlen (cv b base w) j)⟩ e3
    exact k p l e R s m args below meth c H' _ ls D cA b base Q C (aI_put I ha hP e2 hoth hcel2.symm hrg) (S.put e2 e3 ((wld_D cA mi mr b base n).2 (a - 1) _ he)) L T
  rcases hfin with hfin | ⟨hfin, hini, hdecl⟩
  · have hlay := hts _ (g1 _ (u_in_lay hk))
    unfold u_lay at hlay
    have hfin2 : (F f).2.2.2 = false := by unfold aFin at hfin; rw [hc] at hfin; exact hfin
    rw [if_neg (by rw [hfin2]; decide)] at hlay
    have h6 := u_store hfc hkC hkind hlay hi (g2 f hk) (hnar b base) (hfit b base)
    exact W.putK (v := cv b base w) (rest := st.map (cv b base)) C.1 C.2.1 (f := fd) ⟨C.2.2.2.1, hts _ hl, ⟨_, _, _, hi9⟩, hst⟩ (by rw [q2]; exact h6) q1 q3 hsz rfl rfl hd fin2
  · have hlay := hts _ (g1 _ (u_in_lay hk))
    unfold u_lay at hlay
    have hfin2 : (F f).2.2.2 = true := by unfold aFin at hfin; rw [hc] at hfin; exact hfin
    rw [if_pos hfin2] at hlay
    have hcf : m.cls = cf := by
      obtain ⟨_, _, c9, _, _, _, -, -, hf9, -, -, -, hown2, -⟩ := Cond.laysFinal_spec hlay
      have e1 : c9 = cf := by have := hi.symm.trans hf9; simp at this; exact this.1.symm
      have hdecl2 : (F f).1 = own := hdecl _ hc
      rw [hdecl2] at hown2
      rw [← e1]; exact Option.some.inj (C.2.2.2.1.symm.trans hown2)
    have h6 := u_fits hfc hkC hkind (Or.inr hlay) hi (g2 f hk) (hnar b base) (hfit b base)
    exact W.putFinK (v := cv b base w) (rest := st.map (cv b base)) C.1 C.2.1 C.2.2.2.1 (hts _ hl) hi9 hst hcf (C.2.2.2.2.2.2.2.1 hini) (by rw [q2]; exact h6) q1 q3 hsz rfl rfl hd fin2
theorem aw_putI {idx ci f a : Nat} {v : Int} (hf : aFld own idx ci f) (hs : SH a = (0, ci)) (ha : 0 < a ∧ a ≤ n) (hfin : aFin ci f = false) (hty : fty ci f = .int) (hv : -2147483648 ≤ v ∧ v ≤ 2147483647) (hd : decode cc pc = .ok (.putfield idx, 3)) (k : AW own cc nL d ini kc ks xo Po n (pc + 3) lv st (aup mi a f v) mr ck sk) : AW own cc nL d ini kc ks xo Po n pc lv (iI v :: .ref a :: st) mi mr ck sk := by
  intro p l e R s m args below meth c H locs ls D cA b base Q C I
  refine aw_putG (mi' := aup mi a f v) (mr' := mr) hf hs ha (Or.inl hfin) (fun x j hx => by simp [aup, hx]) (fun j hj => ?_) (fun j => aup_rng I.2.2.1 hv a j) (fun b base => ?_) (fun b base => by rw [hty]; rfl) (fun b base => by rw [hty]; rfl) hd k p l e R s m args below meth c H locs ls D cA b base Q C I
  · have hj2 : ¬ ((j : Int) = (f : Int)) := by omega
    simp [aup, hj2]
  · have e : aup mi a f v a f = v := by simp [aup]
    unfold fval
    rw [if_neg (by rw [hty]; decide), e]
    rfl
theorem aw_putZ {idx ci f a : Nat} {v : Int} (hf : aFld own idx ci f) (hs : SH a = (0, ci)) (ha : 0 < a ∧ a ≤ n) (hfin : aFin ci f = false) (hty : fty ci f = .boolean) (hv : v = 0 ∨ v = 1) (hd : decode cc pc = .ok (.putfield idx, 3)) (k : AW own cc nL d ini kc ks xo Po n (pc + 3) lv st (aup mi a f v) mr ck sk) : AW own cc nL d ini kc ks xo Po n pc lv (iI v :: .ref a :: st) mi mr ck sk := by
  intro p l e R s m args below meth c H locs ls D cA b base Q C I
  refine aw_putG (mi' := aup mi a f v) (mr' := mr) hf hs ha (Or.inl hfin) (fun x j hx => by simp [aup, hx]) (fun j hj => ?_) (fun j => aup_rng I.2.2.1 (by omega) a j) (fun b base => ?_) (fun b base => ?_) (fun b base => by rw [hty]; rcases hv with rfl | rfl <;> rfl) hd k p l e R s m args below meth c H locs ls D cA b base Q C I
  · have hj2 : ¬ ((j : Int) = (f : Int)) := by omega
    simp [aup, hj2]
  · have e : aup mi a f v a f = v := by simp [aup]
    unfold fval
    rw [if_neg (by rw [hty]; decide), e]
    rfl
  · rw [hty]
    rcases hv with rfl | rfl
    · exact (by decide : narrow FieldType.boolean (Value.int (Int32.ofInt 0)) = Value.int (Int32.ofInt 0))
    · exact (by decide : narrow FieldType.boolean (Value.int (Int32.ofInt 1)) = Value.int (Int32.ofInt 1))
theorem aw_putR {idx ci f a r : Nat} (hf : aFld own idx ci f) (hs : SH a = (0, ci)) (ha : 0 < a ∧ a ≤ n) (hfin : aFin ci f = true) (hini : ini = true) (hdc : ∀ q, vwCl[ci]? = some q → (q.2.1 f).1 = own) (hty : (fty ci f).isReference = true) (hd : decode cc pc = .ok (.putfield idx, 3)) (k : AW own cc nL d ini kc ks xo Po n (pc + 3) lv st mi (aup mr a f (some r)) ck sk) : AW own cc nL d ini kc ks xo Po n pc lv (.ref r :: .ref a :: st) mi mr ck sk := by
  intro p l e R s m args below meth c H locs ls D cA b base Q C I
  refine aw_putG (mi' := mi) (mr' := aup mr a f (some r)) hf hs ha (Or.inr ⟨hfin, hini, hdc⟩) (fun x j hx => by simp [aup, hx]) (fun j hj => ?_) (fun j => I.2.2.1 a j) (fun b base => ?_) (fun b base => ?_) (fun b base => ?_) hd k p l e R s m args below meth c H locs ls D cA b base Q C I
  · have hj2 : ¬ ((j : Int) = (f : Int)) := by omega
    simp [aup, hj2]
  · have e : aup mr a f (some r) a f = some r := by simp [aup]
    unfold fval
    rw [if_pos hty, e]
    rfl
  · show narrow (fty ci f) (.ref (adr b base r)) = .ref (adr b base r)
    generalize fty ci f = t at hty
    cases t <;> simp [FieldType.isReference] at hty <;> rfl
  · show fits (fty ci f) (.ref (adr b base r)) = true
    generalize fty ci f = t at hty
    cases t <;> simp [FieldType.isReference] at hty <;> rfl
theorem aw_iald {a z : Nat} {i : Int} (hs : SH a = (1, z)) (ha : 0 < a ∧ a ≤ n) (hi : 0 ≤ i ∧ i < z) (hd : decode cc pc = .ok (.iaload, 1)) (k : -2147483648 ≤ mi a i ∧ mi a i ≤ 2147483647 → AW own cc nL d ini kc ks xo Po n (pc + 1) lv (iI (mi a i) :: st) mi mr ck sk) : AW own cc nL d ini kc ks xo Po n pc lv (iI i :: .ref a :: st) mi mr ck sk := by
  intro p l e R s m args below meth c H locs ls D cA b base Q C I S L T
  have he := wld_at (cA := cA) (mi := mi) (mr := mr) (b := b) (base := base) ha
  have hcel : cel cA mi mr b base a = .inl (cA 0, z, .inl (fun j => Int32.ofInt (mi a j))) := by unfold cel; rw [hs]
  rw [hcel] at he
  have hz9 : z ≤ 1000 := by have := SH_len a; rw [hs] at this; exact this
  refine va_iald (i := Int32.ofInt i) (rest := (st.map (cv b base))) C.1 C.2.1 C.2.2.2.2.2.1 I.2.1 (a - 1) 0 he rfl (oI_in hi hz9) hd ?_
  rw [oI_clamp hi.1 (by omega)]
  exact k (I.2.2.1 a i) p l e R s m args below meth c H locs ls D cA b base Q C I S L T
theorem aw_zald {a z : Nat} {i : Int} (hs : SH a = (2, z)) (ha : 0 < a ∧ a ≤ n) (hi : 0 ≤ i ∧ i < z) (hd : decode cc pc = .ok (.baload, 1)) (k : -2147483648 ≤ mi a i ∧ mi a i ≤ 2147483647 → AW own cc nL d ini kc ks xo Po n (pc + 1) lv (iI (mi a i) :: st) mi mr ck sk) : AW own cc nL d ini kc ks xo Po n pc lv (iI i :: .ref a :: st) mi mr ck sk := by
  intro p l e R s m args below meth c H locs ls D cA b base Q C I S L T
  have he := wld_at (cA := cA) (mi := mi) (mr := mr) (b := b) (base := base) ha
  have hcel : cel cA mi mr b base a = .inl (cA 1, z, .inl (fun j => Int32.ofInt (mi a j))) := by unfold cel; rw [hs]
  rw [hcel] at he
  have hz9 : z ≤ 1000 := by have := SH_len a; rw [hs] at this; exact this
  refine va_zald (i := Int32.ofInt i) (rest := (st.map (cv b base))) C.1 C.2.1 C.2.2.2.2.2.1 I.2.1 (a - 1) 1 he rfl (oI_in hi hz9) hd ?_
  rw [oI_clamp hi.1 (by omega)]
  exact k (I.2.2.1 a i) p l e R s m args below meth c H locs ls D cA b base Q C I S L T
theorem aw_iast {a z : Nat} {i v : Int} (hs : SH a = (1, z)) (ha : 0 < a ∧ a ≤ n) (hi : 0 ≤ i ∧ i < z) (hv : -2147483648 ≤ v ∧ v ≤ 2147483647) (hd : decode cc pc = .ok (.iastore, 1)) (k : AW own cc nL d ini kc ks xo Po n (pc + 1) lv st (aup mi a i v) mr ck sk) : AW own cc nL d ini kc ks xo Po n pc lv (iI v :: iI i :: .ref a :: st) mi mr ck sk := by
  intro p l e R s m args below meth c H locs ls D cA b base Q C I S L T
  have he := wld_at (cA := cA) (mi := mi) (mr := mr) (b := b) (base := base) ha
  have hcel : cel cA mi mr b base a = .inl (cA 0, z, .inl (fun j => Int32.ofInt (mi a j))) := by unfold cel; rw [hs]
  rw [hcel] at he
  have hz9 : z ≤ 1000 := by have := SH_len a; rw [hs] at this; exact this
  have hin := oI_in hi hz9
  refine W.iast (x := Int32.ofInt v) (j := Int32.ofInt i) (rest := (st.map (cv b base))) C.1 C.2.1 (I.2.1 (a - 1) _ he) ((C.2.2.2.2.2.1.2 0 _ rfl).1 z (fun j => .int (Int32.ofInt (mi a j)))) (fun q => by cases q) (by show ¬ (Int32.ofInt i < 0 ∨ (arrV _ _ _).slots.size ≤ _); rw [arrV_size]; exact hin) rfl rfl hd fun H1 e1 e2 e3 => ?_
  have hcel2 : cel cA (aup mi a i v) mr b base a = .inl (cA 0, z, .inl (upd (fun j => Int32.ofInt (mi a j)) (Int32.ofInt i).toNatClampNeg (Int32.ofInt v))) := by
    unfold cel; rw [hs]
    show (Sum.inl (cA 0, z, Sum.inl (fun j : Nat => Int32.ofInt (aup mi a i v a j))) : va_E) = _
    congr 4
    funext j
    have e := oI_clamp hi.1 (by omega)
    unfold upd aup
    by_cases hj : j = (Int32.ofInt i).toNatClampNeg
    · have hj2 : (j : Int) = i := by omega
      simp [hj, e]
    · have hj2 : ¬ ((j : Int) = i) := by omega
      simp [hj, hj2]
  have hP := I.2.1.set (p := a - 1) (e := .inl (cA 0, z, .inl (upd (fun j => Int32.ofInt (mi a j)) (Int32.ofInt i).toNatClampNeg (Int32.ofInt v)))) (wld_D cA mi mr b base n) he (by
    show H1[adr b base a]? = some (vp_cell _ _)
    rw [e1, vp_cell_i, vp_cell_i, arrV_store]
    congr 2
    funext q
    by_cases hq : q = (Int32.ofInt i).toNatClampNeg
    · subst hq
      simp [updV, upd]
      try rfl
    · simp [updV, upd, hq]) e3
  exact k p l e R s m args below meth c H1 _ ls D cA b base Q C (aI_put I ha hP e2 (fun x j hx => by simp [aup, hx]) hcel2.symm (fun j => aup_rng I.2.2.1 hv a j)) (S.put e2 e3 ((wld_D cA mi mr b base n).2 (a - 1) _ he)) L T
theorem aw_zast {a z : Nat} {i v : Int} (hs : SH a = (2, z)) (ha : 0 < a ∧ a ≤ n) (hi : 0 ≤ i ∧ i < z) (hv9 : v = 0 ∨ v = 1) (hd : decode cc pc = .ok (.bastore, 1)) (k : AW own cc nL d ini kc ks xo Po n (pc + 1) lv st (aup mi a i v) mr ck sk) : AW own cc nL d ini kc ks xo Po n pc lv (iI v :: iI i :: .ref a :: st) mi mr ck sk := by
  intro p l e R s m args below meth c H locs ls D cA b base Q C I S L T
  have he := wld_at (cA := cA) (mi := mi) (mr := mr) (b := b) (base := base) ha
  have hcel : cel cA mi mr b base a = .inl (cA 1, z, .inl (fun j => Int32.ofInt (mi a j))) := by unfold cel; rw [hs]
  rw [hcel] at he
  have hz9 : z ≤ 1000 := by have := SH_len a; rw [hs] at this; exact this
  have hin := oI_in hi hz9
  have hv : -2147483648 ≤ v ∧ v ≤ 2147483647 := by omega
  have hnr : narrow .boolean (.int (Int32.ofInt v)) = .int (Int32.ofInt v) := by rcases hv9 with rfl | rfl <;> decide
  refine W.zast (x := Int32.ofInt v) (j := Int32.ofInt i) (rest := (st.map (cv b base))) C.1 C.2.1 (I.2.1 (a - 1) _ he) ((C.2.2.2.2.2.1.2 1 _ rfl).1 z (fun j => .int (Int32.ofInt (mi a j)))) (fun q => by cases q) (by show ¬ (Int32.ofInt i < 0 ∨ (arrV _ _ _).slots.size ≤ _); rw [arrV_size]; exact hin) rfl rfl hd fun H1 e1 e2 e3 => ?_
  have hcel2 : cel cA (aup mi a i v) mr b base a = .inl (cA 1, z, .inl (upd (fun j => Int32.ofInt (mi a j)) (Int32.ofInt i).toNatClampNeg (Int32.ofInt v))) := by
    unfold cel; rw [hs]
    show (Sum.inl (cA 1, z, Sum.inl (fun j : Nat => Int32.ofInt (aup mi a i v a j))) : va_E) = _
    congr 4
    funext j
    have e := oI_clamp hi.1 (by omega)
    unfold upd aup
    by_cases hj : j = (Int32.ofInt i).toNatClampNeg
    · have hj2 : (j : Int) = i := by omega
      simp [hj, e]
    · have hj2 : ¬ ((j : Int) = i) := by omega
      simp [hj, hj2]
  have hP := I.2.1.set (p := a - 1) (e := .inl (cA 1, z, .inl (upd (fun j => Int32.ofInt (mi a j)) (Int32.ofInt i).toNatClampNeg (Int32.ofInt v)))) (wld_D cA mi mr b base n) he (by
    show H1[adr b base a]? = some (vp_cell _ _)
    rw [e1, vp_cell_i, vp_cell_i, arrV_store]
    congr 2
    funext q
    by_cases hq : q = (Int32.ofInt i).toNatClampNeg
    · subst hq
      simp [updV, upd, hnr]
      try rfl
    · simp [updV, upd, hq]) e3
  exact k p l e R s m args below meth c H1 _ ls D cA b base Q C (aI_put I ha hP e2 (fun x j hx => by simp [aup, hx]) hcel2.symm (fun j => aup_rng I.2.2.1 hv a j)) (S.put e2 e3 ((wld_D cA mi mr b base n).2 (a - 1) _ he)) L T
def tyq (t : Nat) : Nat := match t with
  | 0 => 0
  | 1 => 2
  | _ => 1
theorem tys_q {cA : Nat → ClassId} {t : Nat} (ht : t < 3) : ∃ C F N, (aTys cA)[t + 2]? = some (cA (t + 2), .object C) ∧ vwCl[tyq t]? = some (C, F, N) := by
  match t, ht with
  | 0, _ => exact ⟨RX0, TX0, 12, rfl, rfl⟩
  | 1, _ => exact ⟨RX2, TX2, 2, rfl, rfl⟩
  | 2, _ => exact ⟨RX1, TX1, 6, rfl, rfl⟩
theorem aw_aald {a z t r : Nat} {i : Int} (hs : SH a = (t + 3, z)) (ht : t < 3) (ha : 0 < a ∧ a ≤ n) (hi : 0 ≤ i ∧ i < z) (hr : mr a i = some r) (hd : decode cc pc = .ok (.aaload, 1)) (k : AW own cc nL d ini kc ks xo Po n (pc + 1) lv (.ref r :: st) mi mr ck sk) : AW own cc nL d ini kc ks xo Po n pc lv (iI i :: .ref a :: st) mi mr ck sk := by
  intro p l e R s m args below meth c H locs ls D cA b base Q C I S L T
  have he := wld_at (cA := cA) (mi := mi) (mr := mr) (b := b) (base := base) ha
  have hcel : cel cA mi mr b base a = .inl (cA (t + 2), z, .inr (.inr (.inr (.inr (fun j => (mr a j).map (adr b base)))))) := by unfold cel; rw [hs]
  rw [hcel] at he
  have hz9 : z ≤ 1000 := by have := SH_len a; rw [hs] at this; exact this
  obtain ⟨CN, F, N, hty, hcl⟩ := tys_q (cA := cA) ht
  refine va_aldq (i := Int32.ofInt i) (rest := (st.map (cv b base))) C.1 C.2.1 C.2.2.2.2.2.1 I.2.1 (a - 1) (t + 2) he hty (oI_in hi hz9) hd ?_
  rw [oI_clamp hi.1 (by omega), hr]
  exact k p l e R s m args below meth c H locs ls D cA b base Q C I S L T
theorem aw_aast {a z t v : Nat} {i : Int} (hs : SH a = (t + 3, z)) (ht : t < 3) (ha : 0 < a ∧ a ≤ n) (hi : 0 ≤ i ∧ i < z) (hsv : SH v = (0, tyq t)) (hv : 0 < v ∧ v ≤ n) (hd : decode cc pc = .ok (.aastore, 1)) (k : AW own cc nL d ini kc ks xo Po n (pc + 1) lv st mi (aup mr a i (some v)) ck sk) : AW own cc nL d ini kc ks xo Po n pc lv (.ref v :: iI i :: .ref a :: st) mi mr ck sk := by
  intro p l e R s m args below meth c H locs ls D cA b base Q C I S L T
  have he := wld_at (cA := cA) (mi := mi) (mr := mr) (b := b) (base := base) ha
  have hcel : cel cA mi mr b base a = .inl (cA (t + 2), z, .inr (.inr (.inr (.inr (fun j => (mr a j).map (adr b base)))))) := by unfold cel; rw [hs]
  rw [hcel] at he
  have hz9 : z ≤ 1000 := by have := SH_len a; rw [hs] at this; exact this
  obtain ⟨CN, F, N, hty, hcl⟩ := tys_q (cA := cA) ht
  have hin := oI_in hi hz9
  have hev := wld_at (cA := cA) (mi := mi) (mr := mr) (b := b) (base := base) hv
  have hcv : cel cA mi mr b base v = .inr (tyq t, (List.range (nF (tyq t))).map (fval mi mr b base v (tyq t))) := by unfold cel; rw [hsv]
  rw [hcv] at hev
  obtain ⟨r', hr', cellV, g1, g2, g3, -⟩ := I.2.1 (v - 1) _ hev
  have hcls := (C.2.2.2.2.2.1.1 _ _ hcl).2
  obtain ⟨kA, comp, k1, k2, k3, -⟩ := (C.2.2.2.2.2.1.2 _ _ hty).2
  have hcomp : comp = D.1 (tyq t) := Option.some.inj (k3.symm.trans hcls.1)
  subst hcomp
  obtain ⟨kC, hkC, -⟩ := hcls.2
  have h0 : ¬ Int32.ofInt i < 0 := fun q => hin (Or.inl q)
  have hlt : (Int32.ofInt i).toNatClampNeg < z := Nat.not_le.mp fun q => hin (Or.inr q)
  refine W.aast (v := adr b base v) (j := Int32.ofInt i) (rest := (st.map (cv b base))) C.1 C.2.1 (I.2.1 (a - 1) _ he) (fun q h => by cases h) (fun h => by cases h) k1 k2 rfl hkC ⟨h0, by show _ < (arrV _ _ _).slots.size; rw [arrV_size]; exact hlt⟩ g1 (fun q h => by rw [g3] at h; cases h) (by rw [g2]; exact hkC) (by rw [g2]; exact va_assign hcls) rfl rfl hd fun H1 e1 e2 e3 => ?_
  have hcel2 : cel cA mi (aup mr a i (some v)) b base a = .inl (cA (t + 2), z, .inr (.inr (.inr (.inr (va_up (fun j => (mr a j).map (adr b base)) (Int32.ofInt i).toNatClampNeg (some (adr b base v))))))) := by
    unfold cel; rw [hs]
    show (Sum.inl (cA (t + 2), z, Sum.inr (Sum.inr (Sum.inr (Sum.inr (fun j : Nat => (aup mr a i (some v) a j).map (adr b base)))))) : va_E) = _
    congr 7
    funext j
    have e := oI_clamp hi.1 (by omega)
    unfold va_up aup
    by_cases hj : j = (Int32.ofInt i).toNatClampNeg
    · simp [hj, e]
    · have hj2 : ¬ ((j : Int) = i) := by omega
      simp [hj, hj2]
  have hP := I.2.1.set (p := a - 1) (e := .inl (cA (t + 2), z, .inr (.inr (.inr (.inr (va_up (fun j => (mr a j).map (adr b base)) (Int32.ofInt i).toNatClampNeg (some (adr b base v)))))))) (wld_D cA mi mr b base n) he (by
    show H1[adr b base a]? = some (vp_cell _ _)
    rw [e1, vp_cell_q, vp_cell_q, arrV_store]
    congr 2
    funext q
    by_cases hq : q = (Int32.ofInt i).toNatClampNeg
    · subst hq
      simp [updV, va_up, va_rf]
    · simp [updV, va_up, hq]) e3
  exact k p l e R s m args below meth c H1 _ ls D cA b base Q C (aI_put I ha hP e2 (fun x j hx => by simp [aup, hx]) hcel2.symm (fun j => I.2.2.1 a j)) (S.put e2 e3 ((wld_D cA mi mr b base n).2 (a - 1) _ he)) L T
theorem aw_alen0 {a z : Nat} (hs : SH a = (1, z)) (ha : 0 < a ∧ a ≤ n) (hd : decode cc pc = .ok (.arraylength, 1)) (k : AW own cc nL d ini kc ks xo Po n (pc + 1) lv (iI (z : Int) :: st) mi mr ck sk) : AW own cc nL d ini kc ks xo Po n pc lv (.ref a :: st) mi mr ck sk := by
  intro p l e R s m args below meth c H locs ls D cA b base Q C I S L T
  have he := wld_at (cA := cA) (mi := mi) (mr := mr) (b := b) (base := base) ha
  have hcel : cel cA mi mr b base a = .inl (cA 0, z, .inl (fun j => Int32.ofInt (mi a j))) := by unfold cel; rw [hs]
  rw [hcel] at he
  have hz9 : z ≤ 1000 := by have := SH_len a; rw [hs] at this; exact this
  exact va_alen (rest := (st.map (cv b base))) (v := Int32.ofInt (z : Int)) C.1 C.2.1 C.2.2.2.2.2.1 I.2.1 (a - 1) 0 he rfl (Int32.ofInt_eq_ofNat).symm hd (k p l e R s m args below meth c H locs ls D cA b base Q C I S L T)
theorem aw_alen1 {a z : Nat} (hs : SH a = (2, z)) (ha : 0 < a ∧ a ≤ n) (hd : decode cc pc = .ok (.arraylength, 1)) (k : AW own cc nL d ini kc ks xo Po n (pc + 1) lv (iI (z : Int) :: st) mi mr ck sk) : AW own cc nL d ini kc ks xo Po n pc lv (.ref a :: st) mi mr ck sk := by
  intro p l e R s m args below meth c H locs ls D cA b base Q C I S L T
  have he := wld_at (cA := cA) (mi := mi) (mr := mr) (b := b) (base := base) ha
  have hcel : cel cA mi mr b base a = .inl (cA 1, z, .inl (fun j => Int32.ofInt (mi a j))) := by unfold cel; rw [hs]
  rw [hcel] at he
  have hz9 : z ≤ 1000 := by have := SH_len a; rw [hs] at this; exact this
  exact va_alen (rest := (st.map (cv b base))) (v := Int32.ofInt (z : Int)) C.1 C.2.1 C.2.2.2.2.2.1 I.2.1 (a - 1) 1 he rfl (Int32.ofInt_eq_ofNat).symm hd (k p l e R s m args below meth c H locs ls D cA b base Q C I S L T)
theorem aw_sld {Ls : Nat} {xs : Int → Int} {i : Int} (hxo : xo = some (Ls, xs)) (hi : 0 ≤ i ∧ i < Ls) (hl : Ls ≤ 2147483647) (hd : decode cc pc = .ok (.iaload, 1)) (k : AW own cc nL d ini kc ks xo Po n (pc + 1) lv (iI (xs i) :: st) mi mr ck sk) : AW own cc nL d ini kc ks xo Po n pc lv (iI i :: .ref 0 :: st) mi mr ck sk := by
  intro p l e R s m args below meth c H locs ls D cA b base Q C I S L T
  obtain ⟨hb0, hb1, hX⟩ := C.2.2.2.2.2.2.2.2.2.2 Ls xs hxo
  have hin : vp_in (Int32.ofInt i) Ls := by rw [vp_in_iff, oI_toInt (by omega)]; exact hi
  refine va_sld (b := b) (i := Int32.ofInt i) (rest := (st.map (cv b base))) C.1 C.2.1 hX (by omega) (by omega) S hin hd ?_
  rw [oI_clamp hi.1 (by omega)]
  exact k p l e R s m args below meth c H locs ls D cA b base Q C I S L T
theorem aw_slen {Ls : Nat} {xs : Int → Int} (hxo : xo = some (Ls, xs)) (hd : decode cc pc = .ok (.arraylength, 1)) (k : AW own cc nL d ini kc ks xo Po n (pc + 1) lv (iI (Ls : Int) :: st) mi mr ck sk) : AW own cc nL d ini kc ks xo Po n pc lv (.ref 0 :: st) mi mr ck sk := by
  intro p l e R s m args below meth c H locs ls D cA b base Q C I S L T
  obtain ⟨hb0, hb1, hX⟩ := C.2.2.2.2.2.2.2.2.2.2 Ls xs hxo
  refine va_slen (b := b) (rest := (st.map (cv b base))) C.1 C.2.1 hX (by omega) (by omega) S hd ?_
  rw [← Int32.ofInt_eq_ofNat]
  exact k p l e R s m args below meth c H locs ls D cA b base Q C I S L T
theorem wld_push (cA : Nat → ClassId) (mi : aM) (mr : aR) (b base n : Nat) : wld cA mi mr b base (n + 1) = wld cA mi mr b base n ++ [(base + n, cel cA mi mr b base (n + 1))] := by
  simp [wld, List.range_succ]
theorem aI_push {D : va_G} {cA : Nat → ClassId} {b base n : Nat} {mi : aM} {mr : aR} {H H1 : Heap} (I : aI D cA b base n mi mr H) (hz : H1.size = H.size + 1) (ho : ∀ q, q < H.size → H1[q]? = H[q]?) (he : va_at D vwCl (base + n, cel cA mi mr b base (n + 1)) H1) : aI D cA b base (n + 1) mi mr H1 := by
  refine ⟨by rw [hz, I.1]; rfl, ?_, I.2.2.1, fun a k ha => I.2.2.2 a k (by omega)⟩
  rw [wld_push]
  refine (I.2.1.kept (fun k x hx => ho x.1 ((I.2.1 k x hx).lt))).app (fun k x hx => ?_)
  have hz2 : k < 1 := (List.getElem?_eq_some_iff.mp hx).1
  rw [show k = 0 by omega] at hx
  cases hx
  exact he
theorem va_S_push {A : Nat → Prop} {H0 H H1 : Heap} {locs : List Loc} (hS : va_S A H0 H locs) (hz : H1.size = H.size + 1) (ho : ∀ q, q < H.size → H1[q]? = H[q]?) : va_S A H0 H1 locs := ⟨Nat.le_trans hS.1 (by omega), fun x h1 h2 => (ho x (Nat.lt_of_lt_of_le h1 hS.1)).trans (hS.2.1 x h1 h2), hS.2.2⟩
theorem aw_new {idx ci N : Nat} {CN : String} {F : u_T} (hs : SH (n + 1) = (0, ci)) (hc : vwCl[ci]? = some (CN, F, N)) (hcl : Cond.classLink own idx CN ∈ aT) (hin : Cond.instantiable CN N ∈ aT ∧ Cond.initialized CN ∈ aT) (hdf : ∀ j, j < N → defaultValue (fty ci j) = if (fty ci j).isReference = true then .null else .int 0) (hck : ck + 1 ≤ kc) (hsk : sk + N ≤ ks) (hd : decode cc pc = .ok (.new idx, 3)) (k : AW own cc nL d ini kc ks xo Po (n + 1) (pc + 3) lv (.ref (n + 1) :: st) mi mr (ck + 1) (sk + N)) : AW own cc nL d ini kc ks xo Po n pc lv st mi mr ck sk := by
  intro p l e R s m args below meth c H locs ls D cA b base Q C I S L T
  obtain ⟨g1, g2, g3, g4⟩ := aIn hc
  have hts := C.2.2.2.2.1
  have hKn := C.2.2.2.2.2.1.1 ci _ hc
  have hR := C.2.2.2.2.2.2.2.2.1
  refine W.newcK C.1 C.2.1 C.2.2.2.1 (hts _ hcl) (hts _ hin.1) (hts _ hin.2) rfl hd (by omega) (by omega) hKn.2.1 I.1 fun H1 kC hkC e1 z1 o1 => ?_
  rw [← I.1] at o1 z1
  have hcel : cel cA mi mr b base (n + 1) = .inr (ci, (List.range (nF ci)).map (fval mi mr b base (n + 1) ci)) := by unfold cel; rw [hs]
  refine k p l e R s m args below meth c H1 locs ls D cA b base Q C (aI_push I z1 o1 ?_) (va_S_push S z1 o1) L T
  rw [hcel]
  refine ⟨_, hc, (u_born (fty ci) hts g1 hKn hkC e1 g2).to (fun j hj => ?_)⟩
  have hj2 : j < nF ci := by rw [← g4]; exact hj
  have h3 := I.2.2.2 (n + 1) j (by omega)
  simp only [vp_V, List.getD_eq_getElem?_getD, List.getElem?_map, List.getElem?_range hj2, Option.map_some, Option.getD_some, fval, h3.1, h3.2, hdf j hj]
  by_cases hq : (fty ci j).isReference = true
  · rw [if_pos hq, if_pos hq]; rfl
  · rw [if_neg hq, if_neg hq]; rfl
theorem aw_newI {z : Nat} (hs : SH (n + 1) = (1, z)) (hck : ck + 1 ≤ kc) (hsk : sk + z ≤ ks) (hd : decode cc pc = .ok (.newarray .int, 2)) (k : AW own cc nL d ini kc ks xo Po (n + 1) (pc + 2) lv (.ref (n + 1) :: st) mi mr (ck + 1) (sk + z)) : AW own cc nL d ini kc ks xo Po n pc lv (iI (z : Int) :: st) mi mr ck sk := by
  intro p l e R s m args below meth c H locs ls D cA b base Q C I S L T
  have hR := C.2.2.2.2.2.2.2.2.1
  have hz9 : z ≤ 1000 := by have := SH_len (n + 1); rw [hs] at this; exact this
  have hcl : (Int32.ofInt (z : Int)).toNatClampNeg = z := by
    have := oI_clamp (i := (z : Int)) (by omega) (by omega)
    omega
  refine va_newaK (atype := .int) (n := Int32.ofInt (z : Int)) (N := z) (rest := (st.map (cv b base))) C.1 C.2.1 (C.2.2.2.2.1 _ arc_int) rfl hd rfl (oI_neg (by omega)) hcl (by show z * 4 ≤ _; omega) (by omega) (by omega) I.1 fun H1 cB e1 z1 o1 hAr hNm => ?_
  rw [← I.1] at o1 z1
  have hcB : cB = cA 0 := by
    have h2 := (C.2.2.2.2.2.1.2 0 _ rfl).2
    exact Option.some.inj (hNm.symm.trans h2)
  subst hcB
  refine k p l e R s m args below meth c H1 locs ls D cA b base Q C (aI_push I z1 o1 ?_) (va_S_push S z1 o1) L T
  have hcel : cel cA mi mr b base (n + 1) = .inl (cA 0, z, .inl (fun j => Int32.ofInt (mi (n + 1) j))) := by unfold cel; rw [hs]
  rw [hcel]
  show H1[base + n]? = some (vp_cell _ _)
  rw [e1, vp_cell_i]
  have e0 : (fun j : Nat => Value.int (Int32.ofInt (mi (n + 1) j))) = fun _ => defaultValue .int := by
    funext j
    rw [(I.2.2.2 (n + 1) j (by omega)).1]
    rfl
  rw [e0]
  rfl
theorem aw_newZ {z : Nat} (hs : SH (n + 1) = (2, z)) (hck : ck + 1 ≤ kc) (hsk : sk + z ≤ ks) (hd : decode cc pc = .ok (.newarray .boolean, 2)) (k : AW own cc nL d ini kc ks xo Po (n + 1) (pc + 2) lv (.ref (n + 1) :: st) mi mr (ck + 1) (sk + z)) : AW own cc nL d ini kc ks xo Po n pc lv (iI (z : Int) :: st) mi mr ck sk := by
  intro p l e R s m args below meth c H locs ls D cA b base Q C I S L T
  have hR := C.2.2.2.2.2.2.2.2.1
  have hz9 : z ≤ 1000 := by have := SH_len (n + 1); rw [hs] at this; exact this
  have hcl : (Int32.ofInt (z : Int)).toNatClampNeg = z := by
    have := oI_clamp (i := (z : Int)) (by omega) (by omega)
    omega
  refine va_newaK (atype := .boolean) (n := Int32.ofInt (z : Int)) (N := z) (rest := (st.map (cv b base))) C.1 C.2.1 (C.2.2.2.2.1 _ arc_boolean) rfl hd rfl (oI_neg (by omega)) hcl (by show z * 1 ≤ _; omega) (by omega) (by omega) I.1 fun H1 cB e1 z1 o1 hAr hNm => ?_
  rw [← I.1] at o1 z1
  have hcB : cB = cA 1 := by
    have h2 := (C.2.2.2.2.2.1.2 1 _ rfl).2
    exact Option.some.inj (hNm.symm.trans h2)
  subst hcB
  refine k p l e R s m args below meth c H1 locs ls D cA b base Q C (aI_push I z1 o1 ?_) (va_S_push S z1 o1) L T
  have hcel : cel cA mi mr b base (n + 1) = .inl (cA 1, z, .inl (fun j => Int32.ofInt (mi (n + 1) j))) := by unfold cel; rw [hs]
  rw [hcel]
  show H1[base + n]? = some (vp_cell _ _)
  rw [e1, vp_cell_i]
  have e0 : (fun j : Nat => Value.int (Int32.ofInt (mi (n + 1) j))) = fun _ => defaultValue .boolean := by
    funext j
    rw [(I.2.2.2 (n + 1) j (by omega)).1]
    rfl
  rw [e0]
  rfl
theorem aw_newQ {idx z t : Nat} {CN : String} {F : u_T} {N : Nat} (hs : SH (n + 1) = (t + 3, z)) (ht : t < 3) (hc : vwCl[tyq t]? = some (CN, F, N)) (hcl : Cond.classLink own idx CN ∈ aT) (hck : ck + 1 ≤ kc) (hsk : sk + z ≤ ks) (hd : decode cc pc = .ok (.anewarray idx, 3)) (k : AW own cc nL d ini kc ks xo Po (n + 1) (pc + 3) lv (.ref (n + 1) :: st) mi mr (ck + 1) (sk + z)) : AW own cc nL d ini kc ks xo Po n pc lv (iI (z : Int) :: st) mi mr ck sk := by
  intro p l e R s m args below meth c H locs ls D cA b base Q C I S L T
  have hR := C.2.2.2.2.2.2.2.2.1
  have hz9 : z ≤ 1000 := by have := SH_len (n + 1); rw [hs] at this; exact this
  have hcl2 : (Int32.ofInt (z : Int)).toNatClampNeg = z := by
    have := oI_clamp (i := (z : Int)) (by omega) (by omega)
    omega
  obtain ⟨CN2, F2, N2, hty, hc2⟩ := tys_q (cA := cA) ht
  have hCN : CN2 = CN := by rw [hc] at hc2; cases hc2; rfl
  subst hCN
  have hAO : va_AO CN2 s := by
    have hN9 := C.2.2.2.2.2.2.1
    match t, ht, hc2 with
    | 0, _, hc2 => cases hc2; exact hN9.2.1
    | 1, _, hc2 => cases hc2; exact hN9.2.2.1
    | 2, _, hc2 => cases hc2; exact hN9.2.2.2
  refine W.anew (n := Int32.ofInt (z : Int)) (rest := (st.map (cv b base))) C.1 C.2.1 C.2.2.2.1 (C.2.2.2.2.1 _ hcl) (va_AO.use hAO) rfl hd rfl (oI_neg (by omega)) (by rw [hcl2]; omega) (by omega) (by rw [hcl2]; omega) fun cB kA comp f1 f2 f3 f4 => ?_
  rw [hcl2]
  generalize hH1 : H.push ({ cls := cB, slots := Array.replicate z .null, vm := .none } : Cell) = H1
  have z1 : H1.size = H.size + 1 := by rw [← hH1, Array.size_push]
  have e1 : H1[H.size]? = some (arrV cB z (fun _ => .null)) := by rw [← hH1, Array.getElem?_push_size, ← arrV_new]
  have o1 : ∀ q : Nat, q < H.size → H1[q]? = H[q]? := fun q hq => by rw [← hH1, Array.getElem?_push, if_neg (Nat.ne_of_lt hq)]
  have hcB : cB = cA (t + 2) := by
    obtain ⟨kA2, comp2, j1, j2, j3, j4⟩ := (C.2.2.2.2.2.1.2 _ _ hty).2
    exact Option.some.inj (f1.symm.trans j4)
  subst hcB
  have hadr : (Value.ref H.size) = cv b base (.ref (n + 1)) := by rw [I.1]; rfl
  rw [hadr]
  refine k p l e R s m args below meth c H1 locs ls D cA b base Q C (aI_push I z1 o1 ?_) (va_S_push S z1 o1) L T
  have hcel : cel cA mi mr b base (n + 1) = .inl (cA (t + 2), z, .inr (.inr (.inr (.inr (fun j => (mr (n + 1) j).map (adr b base)))))) := by unfold cel; rw [hs]
  rw [hcel]
  show H1[base + n]? = some (vp_cell _ _)
  rw [← I.1, e1, vp_cell_q]
  have e0 : (fun j : Nat => va_rf ((mr (n + 1) j).map (adr b base))) = fun _ => Value.null := by
    funext j
    rw [(I.2.2.2 (n + 1) j (by omega)).2]
    rfl
  rw [e0]
theorem aw_obj {idx a : Nat} (hm : Cond.methodLink own idx objectInit ∈ aT) (hr : (st.map fun v => v.category).sum ≤ 8) (hd1 : 1 ≤ d) (hd : decode cc pc = .ok (.invokespecial idx, 3)) (k : AW own cc nL d ini kc ks xo Po n (pc + 3) lv st mi mr ck sk) : AW own cc nL d ini kc ks xo Po n pc lv (.ref a :: st) mi mr ck sk := by
  intro p l e R s m args below meth c H locs ls D cA b base Q C I S L T
  have hts := C.2.2.2.2.1
  have hR := C.2.2.2.2.2.2.2.2.1
  refine W.objInit (a := adr b base a) (rest := (st.map (cv b base))) C.1 C.2.1 C.2.2.2.1 (hts _ hm) (hts _ obj_ini.1) (hts _ obj_ini.2) rfl (by rw [C.2.2.1]; exact L.1) rfl hd (by omega) ?_ (k p l e R s m args below meth c H locs ls D cA b base Q C I S L T)
  have e := cat_sum b base st
  show 2 * 0 + _ + 12 ≤ _
  omega
def acp (mi : aM) (a0 : Nat) (sp : Int) (a : Nat) (dp w : Int) : aM := fun x j => if x = a ∧ dp ≤ j ∧ j < dp + w then mi a0 (sp + (j - dp)) else mi x j
theorem oI_nn {x : Int} (h : 0 ≤ x ∧ x ≤ 2147483647) : ((Int32.ofInt x).toNatClampNeg : Nat) = x.toNat := by
  have := oI_clamp h.1 h.2
  omega
theorem aw_copy {idx a0 a z0 z1 : Nat} {sp dp w : Int} (hm : Cond.methodLink own idx arraycopyName ∈ aT) (hs0 : SH a0 = (1, z0)) (ha0 : 0 < a0 ∧ a0 ≤ n) (hs : SH a = (1, z1)) (ha : 0 < a ∧ a ≤ n) (hsp : 0 ≤ sp) (hdp : 0 ≤ dp) (hw : 0 ≤ w) (h4 : sp + w ≤ z0) (h5 : dp + w ≤ z1) (hr : (st.map fun v => v.category).sum ≤ 8) (hd1 : 1 ≤ d) (hd : decode cc pc = .ok (.invokestatic idx, 3)) (k : AW own cc nL d ini kc ks xo Po n (pc + 3) lv st (acp mi a0 sp a dp w) mr ck sk) : AW own cc nL d ini kc ks xo Po n pc lv (iI w :: iI dp :: .ref a :: iI sp :: .ref a0 :: st) mi mr ck sk := by
  intro p l e R s m args below meth c H locs ls D cA b base Q C I S L T
  have hts := C.2.2.2.2.1
  have hR := C.2.2.2.2.2.2.2.2.1
  have he0 := wld_at (cA := cA) (mi := mi) (mr := mr) (b := b) (base := base) ha0
  have he := wld_at (cA := cA) (mi := mi) (mr := mr) (b := b) (base := base) ha
  have hcel0 : cel cA mi mr b base a0 = .inl (cA 0, z0, .inl (fun j => Int32.ofInt (mi a0 j))) := by unfold cel; rw [hs0]
  have hcel : cel cA mi mr b base a = .inl (cA 0, z1, .inl (fun j => Int32.ofInt (mi a j))) := by unfold cel; rw [hs]
  rw [hcel0] at he0
  rw [hcel] at he
  have hz0 : z0 ≤ 1000 := by have := SH_len a0; rw [hs0] at this; exact this
  have hz1 : z1 ≤ 1000 := by have := SH_len a; rw [hs] at this; exact this
  have t0 : (Int32.ofInt sp).toInt = sp := oI_toInt (by omega)
  have t1 : (Int32.ofInt dp).toInt = dp := oI_toInt (by omega)
  have t2 : (Int32.ofInt w).toInt = w := oI_toInt (by omega)
  have n0 := oI_nn (x := sp) (by omega)
  have n1 := oI_nn (x := dp) (by omega)
  have n2 := oI_nn (x := w) (by omega)
  have hc0 : H[adr b base a0]? = some (vp_cell (cA 0) (z0, .inl (fun j => Int32.ofInt (mi a0 j)))) := I.2.1 (a0 - 1) _ he0
  have hc1 : H[adr b base a]? = some (vp_cell (cA 0) (z1, .inl (fun j => Int32.ofInt (mi a j)))) := I.2.1 (a - 1) _ he
  obtain ⟨-, k0, hk0, cm0, hkk0⟩ := (C.2.2.2.2.2.1.2 0 _ rfl).1 z0 (fun j => .int (Int32.ofInt (mi a0 j)))
  have hcat := cat_sum b base st
  have hnf : nativeFrameWords "java/lang/System" "arraycopy" 5 = 7 := by decide
  intro T0 hT X
  obtain ⟨vm', X', step⟩ := X.arraycopy C.1 C.2.2.2.1 (hts _ hm) (hts _ nat_copy.1) (hts _ nat_copy.2.1) (hts _ nat_copy.2.2) (src := adr b base a0) (dst := adr b base a) (cs := vp_cell (cA 0) (z0, .inl (fun j => Int32.ofInt (mi a0 j)))) (cd := vp_cell (cA 0) (z1, .inl (fun j => Int32.ofInt (mi a j)))) (srcPos := Int32.ofInt sp) (destPos := Int32.ofInt dp) (n := Int32.ofInt w) (by rw [hT]; exact hc0) (by rw [hT]; exact hc1)
    (fun _ h => by cases h) (fun _ h => by cases h) (fun h => by cases h) (fun h => by cases h) hk0 hk0 hkk0 hkk0 (by simp [refKind]) (oI_neg (by omega)) (oI_neg (by omega)) (oI_neg (by omega))
    (by rw [t0, t2]; show ¬ _ > ((arrV (cA 0) z0 (fun j => .int (Int32.ofInt (mi a0 j)))).slots.size : Int); rw [arrV_size]; omega)
    (by rw [t1, t2]; show ¬ _ > ((arrV (cA 0) z1 (fun j => .int (Int32.ofInt (mi a j)))).slots.size : Int); rw [arrV_size]; omega)
    (fun vm₁ _ i hi => by
      have e : (vp_cell (cA 0) (z0, .inl (fun j => Int32.ofInt (mi a0 j)))).slots.getD ((Int32.ofInt sp).toNatClampNeg + i) .null = .int (Int32.ofInt (mi a0 (((Int32.ofInt sp).toNatClampNeg + i : Nat) : Int))) := by
        show (arrV (cA 0) z0 (fun j => .int (Int32.ofInt (mi a0 j)))).slots.getD _ _ = _
        rw [Array.getD_eq_getD_getElem?, arrV_read _ _ (by omega)]
        rfl
      refine ⟨?_, ?_⟩
      · rw [e]
        rfl
      · rw [e]
        exact trivial)
    (g := F0 m pc ls ((iI w :: iI dp :: Value.ref a :: iI sp :: Value.ref a0 :: st).map (cv b base))) rfl (by rw [C.2.2.1]; exact L.1) (rest := st.map (cv b base)) rfl (by rw [C.2.1]; exact hd) (by omega) (by show 2 * 0 + _ + _ ≤ _; rw [hnf, hcat]; omega)
  have e1 : copied (vp_cell (cA 0) (z0, .inl (fun j => Int32.ofInt (mi a0 j)))) (vp_cell (cA 0) (z1, .inl (fun j => Int32.ofInt (mi a j)))) (Int32.ofInt sp) (Int32.ofInt dp) (Int32.ofInt w) = vp_cell (cA 0) (z1, .inl (va_cpy (fun j => Int32.ofInt (mi a0 j)) (fun j => Int32.ofInt (mi a j)) (Int32.ofInt sp).toNatClampNeg (Int32.ofInt dp).toNatClampNeg (Int32.ofInt w).toNatClampNeg)) := va_copied (fun z => .int z) (cA 0) (cA 0) (fun j => Int32.ofInt (mi a0 j)) (fun j => Int32.ofInt (mi a j)) (by omega)
  rw [e1] at X' step
  have hl : adr b base a < H.size := (Array.getElem?_eq_some_iff.mp hc1).1
  have hcel2 : cel cA (acp mi a0 sp a dp w) mr b base a = .inl (cA 0, z1, .inl (va_cpy (fun j => Int32.ofInt (mi a0 j)) (fun j => Int32.ofInt (mi a j)) (Int32.ofInt sp).toNatClampNeg (Int32.ofInt dp).toNatClampNeg (Int32.ofInt w).toNatClampNeg)) := by
    unfold cel; rw [hs]
    show (Sum.inl (cA 0, z1, Sum.inl (fun j : Nat => Int32.ofInt (acp mi a0 sp a dp w a j))) : va_E) = _
    congr 4
    funext j
    rw [n0, n1, n2]
    unfold va_cpy acp
    by_cases hj : dp.toNat ≤ j ∧ j < dp.toNat + w.toNat
    · rw [if_pos hj, if_pos ⟨rfl, by omega, by omega⟩]
      congr 2
      omega
    · rw [if_neg hj, if_neg (by omega)]
  generalize hC2 : vp_cell (cA 0) (z1, .inl (va_cpy (fun j => Int32.ofInt (mi a0 j)) (fun j => Int32.ofInt (mi a j)) (Int32.ofInt sp).toNatClampNeg (Int32.ofInt dp).toNatClampNeg (Int32.ofInt w).toNatClampNeg)) = C2 at X' step
  have hheap : ((T0.setVm vm').setCell (adr b base a) C2).heap = H.setIfInBounds (adr b base a) C2 := by rw [← hT]; rfl
  have oq : ∀ q : Nat, q ≠ adr b base a → (H.setIfInBounds (adr b base a) C2)[q]? = H[q]? := fun q hq => by simp [Array.getElem?_setIfInBounds, Ne.symm hq]
  have hP := I.2.1.set (p := a - 1) (wld_D cA mi mr b base n) he (show va_at D vwCl (adr b base a, .inl (cA 0, z1, .inl (va_cpy (fun j => Int32.ofInt (mi a0 j)) (fun j => Int32.ofInt (mi a j)) (Int32.ofInt sp).toNatClampNeg (Int32.ofInt dp).toNatClampNeg (Int32.ofInt w).toNatClampNeg))) (H.setIfInBounds (adr b base a) C2) from by
    show (H.setIfInBounds (adr b base a) C2)[adr b base a]? = some (vp_cell _ _)
    rw [hC2]
    simp [Array.getElem?_setIfInBounds, hl]) oq
  have hA := (wld_D cA mi mr b base n).2 (a - 1) _ he
  have kk := fun (L9 : List Loc) (hL9 : ∀ q ∈ L9, base ≤ q.base) => k p l e R s m args below meth c (H.setIfInBounds (adr b base a) C2) L9 ls D cA b base Q C (aI_put I ha hP (by simp) (fun x j hx => by simp [acp, hx]) hcel2.symm (fun j => by unfold acp; split <;> exact I.2.2.1 _ _)) ⟨by simp; exact S.1, fun q g1 g2 => by
      rw [oq q (fun e => g2 (by rw [e]; exact hA))]
      exact S.2.1 q g1 g2, hL9⟩ L T
  obtain ⟨t, a1, b1⟩ := kk _ (fun q hq => by
      rcases List.mem_append.mp hq with h | h
      · exact S.2.2 q h
      · obtain ⟨z, -, hz⟩ := List.mem_map.mp h
        rw [← hz]
        exact hA) _ hheap X'
  exact ⟨t, step t a1, b1⟩
theorem aw_iret {x : Int} (hP : Po (some x) n mi mr) (hck : ck ≤ kc) (hsk : sk ≤ ks) (hd : decode cc pc = .ok (.ireturn, 1)) : AW own cc nL d ini kc ks xo Po n pc lv [iI x] mi mr ck sk := by
  intro p l e R s m args below meth c H locs ls D cA b base Q C I S L T
  exact T (some x) n mi mr ck sk H locs pc ls hP I S hck hsk hd
theorem aw_vret (hP : Po none n mi mr) (hck : ck ≤ kc) (hsk : sk ≤ ks) (hd : decode cc pc = .ok (.return_, 1)) : AW own cc nL d ini kc ks xo Po n pc lv [] mi mr ck sk := by
  intro p l e R s m args below meth c H locs ls D cA b base Q C I S L T
  exact T none n mi mr ck sk H locs pc ls hP I S hck hsk hd
theorem aw_post {Po' : Option Int → Nat → aM → aR → Prop} (hP : ∀ v n' mi' mr', Po' v n' mi' mr' → Po v n' mi' mr') (k : AW own cc nL d ini kc ks xo Po' n pc lv st mi mr ck sk) : AW own cc nL d ini kc ks xo Po n pc lv st mi mr ck sk := by
  intro p l e R s m args below meth c H locs ls D cA b base Q C I S L T
  exact k p l e R s m args below meth c H locs ls D cA b base Q C I S L (fun v n' mi' mr' ck' sk' H' locs' pc' ls' h => T v n' mi' mr' ck' sk' H' locs' pc' ls' (hP v n' mi' mr' h))
theorem aw_rng (k : (∀ (a : Nat) (j : Int), -2147483648 ≤ mi a j ∧ mi a j ≤ 2147483647) → AW own cc nL d ini kc ks xo Po n pc lv st mi mr ck sk) : AW own cc nL d ini kc ks xo Po n pc lv st mi mr ck sk := by
  intro p l e R s m args below meth c H locs ls D cA b base Q C I S L T
  exact k I.2.2.1 p l e R s m args below meth c H locs ls D cA b base Q C I S L T
def rmq (d mc ms : Nat) : Room := { frames := d, cells := mc, slots := ms, locals := 60 * d }
def aPc (av : List Value) (D : va_G) (cA : Nat → ClassId) (b base n : Nat) (mi : aM) (mr : aR) : Array Value → State → Prop := va_Pc (av.map (cv b base)) (fun U => aI D cA b base n mi mr U.heap ∧ va_K D vwCl (aTys cA) U ∧ aN U)
def aQ (D : va_G) (cA : Nat → ClassId) (b base : Nat) (Po : Option Int → Nat → aM → aR → Prop) : Array Value → State → Outcome → State → Prop := fun _ st oc t => (∃ v n' mi' mr', oc = .returned (v.map (fun x : Int => Value.int (Int32.ofInt x))) ∧ Po v n' mi' mr' ∧ aI D cA b base n' mi' mr' t.heap) ∧ va_F (fun q => base ≤ q) st t
/-- the contract of a method, whatever calls it: level d, making at most mc cells of ms slots -/
def SP (y : MethodName) (cc : ByteArray) (nL : Nat) (rt : Option FieldType) (d mc ms n : Nat) (av : List Value) (mi : aM) (mr : aR) (Po : Option Int → Nat → aM → aR → Prop) : Prop :=
  ∀ (l : Launch) (D : va_G) (cA : Nat → ClassId) (b base : Nat), Met l y (.code y cc nL rt :: aT) (rmq d mc ms) (aPc av D cA b base n mi mr) (aQ D cA b base Po) mc ms (fun q => base ≤ q)
theorem aN_moved {u U : State} (hvm : u.vm.Alike U.vm) (hN : ∀ w ∈ tables_1, (∃ own idx y host, w = Cond.methodLinkNest own idx y host) → va_Nw w u → va_Nw w U) (h : aN u) : aN U :=
  ⟨fun w hw hx => hN w hw hx (h.1 w hw hx), va_AO.moved hvm h.2.1, va_AO.moved hvm h.2.2.1, va_AO.moved hvm h.2.2.2⟩
theorem aN_warm {s U : State} (hW : s.WarmedH U.vm) (h : aN s) : aN U := aN_moved hW.alike (fun w _ hx hz => by
  obtain ⟨own, idx, y, host, rfl⟩ := hx
  exact va_Nw.warmM hW hz) h
theorem aN_same {u U : State} (hv : u.vm = U.vm) (h : aN u) : aN U := aN_moved (by rw [hv]; exact Vm.Alike.refl _) (fun w _ hx hz => by
  obtain ⟨own, idx, y, host, rfl⟩ := hx
  exact va_Nw.same rfl hv hz) h
theorem aPc_blind (av : List Value) (D : va_G) (cA : Nat → ClassId) (b base n : Nat) (mi : aM) (mr : aR) : FrameBlind (aPc av D cA b base n mi mr) :=
  fun a U g mk q => ⟨q.1, q.2.1, va_K.moved (u := U) (U := U.calling g mk a) (Vm.Alike.refl U.vm) q.2.2.1, aN_same (u := U) (U := U.calling g mk a) rfl q.2.2.2⟩
theorem SP.of {y : MethodName} {rt : Option FieldType} {own : String} {cc : ByteArray} {nL d mc ms n : Nat} {av : List Value} {mi : aM} {mr : aR} {Po : Option Int → Nat → aM → aR → Prop} (ini : Bool) (hown : y.cls = own) (hini : ini = true → y.name = "<init>") (hpl : plainName y.cls = true) (hargs : (lg_sl av).length ≤ nL)
    (hrt : (rt = some .int ∧ ∀ n' mi' mr', ¬ Po none n' mi' mr') ∨ (rt = some .boolean ∧ (∀ n' mi' mr', ¬ Po none n' mi' mr') ∧ ∀ v n' mi' mr', Po (some v) n' mi' mr' → v = 0 ∨ v = 1) ∨ (rt = none ∧ ∀ v n' mi' mr', ¬ Po (some v) n' mi' mr'))
    (h : AW own cc nL d ini mc ms none Po n 0 (lv_args 0 av) [] mi mr 0 0) : SP y cc nL rt d mc ms n av mi mr Po := by
  intro l D cA b base
  refine Met.ofW (cc := cc) (maxL := nL) (ret := rt) hpl rfl ?_
  intro p e s m args below meth c s₁ B hml hv
  obtain ⟨rfl, hI, hK, hN⟩ := hv
  have hts := atoms_spec (ws := .code y cc nL rt :: aT) B.pre
  have hown2 : s.vm.findClass own = some m.cls := by rw [← hown]; exact findClass_of_methodNamed B.named
  have hl := lv_entry (av.map (cv b base)) (n := nL) (by rw [sl_len]; exact hargs)
  rw [lg_entry_eq]
  generalize (lg_sl (av.map (cv b base)) ++ List.replicate (nL - (lg_sl (av.map (cv b base))).length) Slot.unset).toArray = ls at hl ⊢
  rw [clv_args] at hl
  have hsz : base ≤ s.heap.size := by rw [hI.1]; omega
  have hlocks := B.notSynchronized
  refine h p l e _ s m _ below meth c s.heap [] ls D cA b base _ ⟨B.exec, B.bytes, hml, hown2, fun w hw => hts w (List.mem_cons_of_mem _ hw), hK, hN, fun hi => ?_, ⟨Nat.le_refl _, Nat.le_refl _, Nat.le_refl _, Nat.le_refl _⟩, hsz, fun L xs hx => by cases hx⟩ hI va_S.rf hl ?_
  · have := (name_of_methodNamed B.named B.method).1
    rw [this]; exact hini hi
  · intro v n' mi' mr' ck' sk' H' locs' pc' ls' hPo hI' hS' hck hsk hd
    refine W.widen hck hsk ?_
    have hq : ∀ t : State, t.heap = H' → s.WarmedH t.vm → aQ D cA b base Po (av.map (cv b base)).toArray s (.returned (v.map (fun x : Int => Value.int (Int32.ofInt x)))) t := fun t ht _ => ⟨⟨v, n', mi', mr', rfl, hPo, by rw [ht]; exact hI'⟩, hS'.F ht⟩
    cases v with
    | none =>
      rcases hrt with ⟨h1, h2⟩ | ⟨h1, h2, -⟩ | ⟨h1, h2⟩
      · exact absurd hPo (h2 n' mi' mr')
      · exact absurd hPo (h2 n' mi' mr')
      · exact W.vret B.exec B.bytes (by rw [B.returns, h1]) hq hS'.2.2 hd
    | some x =>
      rcases hrt with ⟨h1, h2⟩ | ⟨h1, h2, h3⟩ | ⟨h1, h2⟩
      · exact W.iret B.exec B.bytes (by rw [B.returns, h1]) hq hS'.2.2 hd
      · refine W.zret B.exec B.bytes (by rw [B.returns, h1]) ?_ hq hS'.2.2 hd
        rcases h3 x n' mi' mr' hPo with rfl | rfl <;> decide
      · exact absurd hPo (h2 x n' mi' mr')
theorem aw_callV {y : MethodName} {ccg : ByteArray} {nLg dg mc ms idx na : Nat} {rtg : Option FieldType} {a ci N : Nat} {F : u_T} {As st0 : List Value} {Pg : Option Int → Nat → aM → aR → Prop} (hcal : aCalV own idx y ccg nLg rtg na) (hM : SP y ccg nLg rtg dg mc ms n (.ref a :: As) mi mr Pg) (hs : SH a = (0, ci)) (hc : vwCl[ci]? = some (y.cls, F, N)) (ha : 0 < a ∧ a ≤ n) (hna : As.length = na) (hst9 : st0 = As.reverse ++ .ref a :: st) (hr : (st.map fun v => v.category).sum ≤ 8) (hdd : dg + 1 ≤ d) (hnl : nLg ≤ 40) (hck : ck + mc ≤ kc) (hsk : sk + ms ≤ ks) (hd : decode cc pc = .ok (.invokevirtual idx, 3)) (k : ∀ v n' mi' mr', Pg v n' mi' mr' → AW own cc nL d ini kc ks xo Po n' (pc + 3) lv (aStk v ++ st) mi' mr' (ck + mc) (sk + ms)) : AW own cc nL d ini kc ks xo Po n pc lv st0 mi mr ck sk := by
  intro p l e R s m args below meth c H locs ls D cA b base Q C I S L T
  obtain ⟨hml, hin, hsel, hini, hcode, hy1, hy2, hpd⟩ := hcal
  have hts := C.2.2.2.2.1
  have hR := C.2.2.2.2.2.2.2.2.1
  have hfits : ck + mc ≤ R.cells ∧ sk + ms ≤ R.slots := by omega
  have hG : GoodIn aT (Cond.code y ccg nLg rtg :: aT) := fun w hw => by
    rcases List.mem_cons.mp hw with rfl | hw
    · exact ⟨hcode, good_of_word (aT_good _ hcode)⟩
    · exact ⟨hw, good_of_word (aT_good _ hw)⟩
  have he := wld_at (cA := cA) (mi := mi) (mr := mr) (b := b) (base := base) ha
  have hcel : cel cA mi mr b base a = .inr (ci, (List.range (nF ci)).map (fval mi mr b base a ci)) := by unfold cel; rw [hs]
  rw [hcel] at he
  have hr := va_runV (e := e) (below := below) (meth := meth) (b := adr b base a) (As := As.map (cv b base)) (rest := st.map (cv b base)) (g := F0 m pc ls (st0.map (cv b base))) (H := H) (locs := locs) (cells := ck) (slots := sk) (own := own) (index := idx) (n := na) ⟨C.1, C.2.1, C.2.2.1, C.2.2.2.1, hts⟩ (hM l D cA b base) ⟨callB_of na hts hG rfl rfl rfl (hts _ hini) (hts _ hml) ⟨hy1, hy2, hpd⟩ ⟨by show dg + 1 ≤ R.frames; omega, by show 8 + (nLg + 11) + 60 * dg ≤ R.locals; omega⟩, hts _ hin, hts _ hsel⟩ ⟨aPc_blind _ D cA b base n mi mr, va_recv C.2.2.2.2.2.1 I.2.1 hc he, fun U hU hW => ⟨rfl, by rw [hU]; exact I, va_K.moved hW.alike C.2.2.2.2.2.1, aN_warm hW C.2.2.2.2.2.2.1⟩⟩ rfl (by rw [List.length_map]; exact hna) L.1 (by rw [hst9]; simp [cv]) (lv_room (by rw [cat_sum]; exact hr)) hd hfits
  revert hr
  generalize hU0 : (Value.ref (adr b base a) :: As.map (cv b base)).toArray = U0
  revert U0
  intro U0 hU0 hr T0 hT X
  obtain ⟨v, st₀, t, T1, L1, h0, X1, hL1, e1, e2, ⟨⟨v9, n1, mi1, mr1, ho, hPo, hI1⟩, hF⟩, hst⟩ := hr T0 hT X
  have hv9 : v = v9.map (fun x : Int => Value.int (Int32.ofInt x)) := by cases ho; rfl
  have hS1 : va_S (fun q => base ≤ q) s.heap T1.heap (locs ++ L1) := by
    unfold va_F at hF
    rw [h0] at hF
    rw [e1]
    refine ⟨Nat.le_trans S.1 hF.1, fun q h1 h2 => ?_, fun q hq => ?_⟩
    · rw [hF.2 q (Nat.lt_of_lt_of_le h1 S.1) h2]
      exact S.2.1 q h1 h2
    · rcases List.mem_append.mp hq with h | h
      · exact S.2.2 q h
      · exact hL1 q h
  have kk := k v9 n1 mi1 mr1 hPo p l e R s m args below meth c T1.heap (locs ++ L1) ls D cA b base Q C (by rw [e1]; exact hI1) hS1 L T
  obtain ⟨t2, a1, b1⟩ := kk T1 rfl X1
  refine ⟨t2, hst t2 ?_, b1⟩
  rw [hv9]
  cases v9 <;> exact a1

theorem aw_callS {y : MethodName} {ccg : ByteArray} {nLg dg mc ms idx na : Nat} {rtg : Option FieldType} {As st0 : List Value} {Pg : Option Int → Nat → aM → aR → Prop} (hcal : aCalS own idx y ccg nLg rtg na) (hM : SP y ccg nLg rtg dg mc ms n As mi mr Pg) (hna : As.length = na) (hst9 : st0 = As.reverse ++  st) (hr : (st.map fun v => v.category).sum ≤ 8) (hdd : dg + 1 ≤ d) (hnl : nLg ≤ 40) (hck : ck + mc ≤ kc) (hsk : sk + ms ≤ ks) (hd : decode cc pc = .ok (.invokestatic idx, 3)) (k : ∀ v n' mi' mr', Pg v n' mi' mr' → AW own cc nL d ini kc ks xo Po n' (pc + 3) lv (aStk v ++ st) mi' mr' (ck + mc) (sk + ms)) : AW own cc nL d ini kc ks xo Po n pc lv st0 mi mr ck sk := by
  intro p l e R s m args below meth c H locs ls D cA b base Q C I S L T
  obtain ⟨hml, hsta, hini, hcode, hy1, hy2, hpd⟩ := hcal
  have hts := C.2.2.2.2.1
  have hR := C.2.2.2.2.2.2.2.2.1
  have hfits : ck + mc ≤ R.cells ∧ sk + ms ≤ R.slots := by omega
  have hG : GoodIn aT (Cond.code y ccg nLg rtg :: aT) := fun w hw => by
    rcases List.mem_cons.mp hw with rfl | hw
    · exact ⟨hcode, good_of_word (aT_good _ hcode)⟩
    · exact ⟨hw, good_of_word (aT_good _ hw)⟩
  have hr := va_runS (e := e) (below := below) (meth := meth) (As := As.map (cv b base)) (rest := st.map (cv b base)) (g := F0 m pc ls (st0.map (cv b base))) (H := H) (locs := locs) (cells := ck) (slots := sk) (own := own) (index := idx) (n := na) ⟨C.1, C.2.1, C.2.2.1, C.2.2.2.1, hts⟩ (hM l D cA b base) ⟨callB_of na hts hG rfl rfl rfl (hts _ hini) (hts _ hml) ⟨hy1, hy2, hpd⟩ ⟨by show dg + 1 ≤ R.frames; omega, by show 8 + (nLg + 11) + 60 * dg ≤ R.locals; omega⟩, hts _ hsta⟩ ⟨aPc_blind _ D cA b base n mi mr, fun U hU hW => ⟨rfl, by rw [hU]; exact I, va_K.moved hW.alike C.2.2.2.2.2.1, aN_warm hW C.2.2.2.2.2.2.1⟩⟩ rfl (by rw [List.length_map]; exact hna) L.1 (by rw [hst9]; simp) (lv_room (by rw [cat_sum]; exact hr)) hd hfits
  revert hr
  generalize hU0 : (As.map (cv b base)).toArray = U0
  revert U0
  intro U0 hU0 hr T0 hT X
  obtain ⟨v, st₀, t, T1, L1, h0, X1, hL1, e1, e2, ⟨⟨v9, n1, mi1, mr1, ho, hPo, hI1⟩, hF⟩, hst⟩ := hr T0 hT X
  have hv9 : v = v9.map (fun x : Int => Value.int (Int32.ofInt x)) := by cases ho; rfl
  have hS1 : va_S (fun q => base ≤ q) s.heap T1.heap (locs ++ L1) := by
    unfold va_F at hF
    rw [h0] at hF
    rw [e1]
    refine ⟨Nat.le_trans S.1 hF.1, fun q h1 h2 => ?_, fun q hq => ?_⟩
    · rw [hF.2 q (Nat.lt_of_lt_of_le h1 S.1) h2]
      exact S.2.1 q h1 h2
    · rcases List.mem_append.mp hq with h | h
      · exact S.2.2 q h
      · exact hL1 q h
  have kk := k v9 n1 mi1 mr1 hPo p l e R s m args below meth c T1.heap (locs ++ L1) ls D cA b base Q C (by rw [e1]; exact hI1) hS1 L T
  obtain ⟨t2, a1, b1⟩ := kk T1 rfl X1
  refine ⟨t2, hst t2 ?_, b1⟩
  rw [hv9]
  cases v9 <;> exact a1

theorem aw_callI {y : MethodName} {ccg : ByteArray} {nLg dg mc ms idx na : Nat} {a : Nat} {As st0 : List Value} {Pg : Option Int → Nat → aM → aR → Prop} (hcal : aCalI own idx y ccg nLg na) (hM : SP y ccg nLg none dg mc ms n (.ref a :: As) mi mr Pg) (hna : As.length = na) (hst9 : st0 = As.reverse ++ .ref a :: st) (hr : (st.map fun v => v.category).sum ≤ 8) (hdd : dg + 1 ≤ d) (hnl : nLg ≤ 40) (hck : ck + mc ≤ kc) (hsk : sk + ms ≤ ks) (hd : decode cc pc = .ok (.invokespecial idx, 3)) (k : ∀ v n' mi' mr', Pg v n' mi' mr' → AW own cc nL d ini kc ks xo Po n' (pc + 3) lv (aStk v ++ st) mi' mr' (ck + mc) (sk + ms)) : AW own cc nL d ini kc ks xo Po n pc lv st0 mi mr ck sk := by
  intro p l e R s m args below meth c H locs ls D cA b base Q C I S L T
  obtain ⟨hml, hin, hini, hcode, hnm, hy1, hy2, hpd⟩ := hcal
  have hts := C.2.2.2.2.1
  have hR := C.2.2.2.2.2.2.2.2.1
  have hfits : ck + mc ≤ R.cells ∧ sk + ms ≤ R.slots := by omega
  have hG : GoodIn aT (Cond.code y ccg nLg none :: aT) := fun w hw => by
    rcases List.mem_cons.mp hw with rfl | hw
    · exact ⟨hcode, good_of_word (aT_good _ hcode)⟩
    · exact ⟨hw, good_of_word (aT_good _ hw)⟩
  have hr := va_runI (e := e) (below := below) (meth := meth) (b := adr b base a) (As := As.map (cv b base)) (rest := st.map (cv b base)) (g := F0 m pc ls (st0.map (cv b base))) (H := H) (locs := locs) (cells := ck) (slots := sk) (own := own) (index := idx) (n := na) ⟨C.1, C.2.1, C.2.2.1, C.2.2.2.1, hts⟩ (hM l D cA b base) ⟨callB_of na hts hG rfl rfl rfl (hts _ hini) (hts _ hml) ⟨hy1, hy2, hpd⟩ ⟨by show dg + 1 ≤ R.frames; omega, by show 8 + (nLg + 11) + 60 * dg ≤ R.locals; omega⟩, hnm, hts _ hin⟩ ⟨aPc_blind _ D cA b base n mi mr, fun U hU hW => ⟨rfl, by rw [hU]; exact I, va_K.moved hW.alike C.2.2.2.2.2.1, aN_warm hW C.2.2.2.2.2.2.1⟩⟩ rfl (by rw [List.length_map]; exact hna) L.1 (by rw [hst9]; simp [cv]) (lv_room (by rw [cat_sum]; exact hr)) hd hfits
  revert hr
  generalize hU0 : (Value.ref (adr b base a) :: As.map (cv b base)).toArray = U0
  revert U0
  intro U0 hU0 hr T0 hT X
  obtain ⟨v, st₀, t, T1, L1, h0, X1, hL1, e1, e2, ⟨⟨v9, n1, mi1, mr1, ho, hPo, hI1⟩, hF⟩, hst⟩ := hr T0 hT X
  have hv9 : v = v9.map (fun x : Int => Value.int (Int32.ofInt x)) := by cases ho; rfl
  have hS1 : va_S (fun q => base ≤ q) s.heap T1.heap (locs ++ L1) := by
    unfold va_F at hF
    rw [h0] at hF
    rw [e1]
    refine ⟨Nat.le_trans S.1 hF.1, fun q h1 h2 => ?_, fun q hq => ?_⟩
    · rw [hF.2 q (Nat.lt_of_lt_of_le h1 S.1) h2]
      exact S.2.1 q h1 h2
    · rcases List.mem_append.mp hq with h | h
      · exact S.2.2 q h
      · exact hL1 q h
  have kk := k v9 n1 mi1 mr1 hPo p l e R s m args below meth c T1.heap (locs ++ L1) ls D cA b base Q C (by rw [e1]; exact hI1) hS1 L T
  obtain ⟨t2, a1, b1⟩ := kk T1 rfl X1
  refine ⟨t2, hst t2 ?_, b1⟩
  rw [hv9]
  cases v9 <;> exact a1

theorem aw_callN {y : MethodName} {ccg : ByteArray} {nLg dg mc ms idx na : Nat} {a : Nat} {host : String} {As st0 : List Value} {Pg : Option Int → Nat → aM → aR → Prop} (hcal : aCalN own idx y host ccg nLg na) (hM : SP y ccg nLg none dg mc ms n (.ref a :: As) mi mr Pg) (hna : As.length = na) (hst9 : st0 = As.reverse ++ .ref a :: st) (hr : (st.map fun v => v.category).sum ≤ 8) (hdd : dg + 1 ≤ d) (hnl : nLg ≤ 40) (hck : ck + mc ≤ kc) (hsk : sk + ms ≤ ks) (hd : decode cc pc = .ok (.invokespecial idx, 3)) (k : ∀ v n' mi' mr', Pg v n' mi' mr' → AW own cc nL d ini kc ks xo Po n' (pc + 3) lv (aStk v ++ st) mi' mr' (ck + mc) (sk + ms)) : AW own cc nL d ini kc ks xo Po n pc lv st0 mi mr ck sk := by
  intro p l e R s m args below meth c H locs ls D cA b base Q C I S L T
  obtain ⟨hml, hin, hini, hcode, hnm, hy1, hy2, hpd⟩ := hcal
  have hts := C.2.2.2.2.1
  have hR := C.2.2.2.2.2.2.2.2.1
  have hfits : ck + mc ≤ R.cells ∧ sk + ms ≤ R.slots := by omega
  have hG : GoodIn aT (Cond.code y ccg nLg none :: aT) := fun w hw => by
    rcases List.mem_cons.mp hw with rfl | hw
    · exact ⟨hcode, good_of_word (aT_good _ hcode)⟩
    · exact ⟨hw, good_of_word (aT_good _ hw)⟩
  have hr := va_runIN (e := e) (below := below) (meth := meth) (b := adr b base a) (As := As.map (cv b base)) (rest := st.map (cv b base)) (g := F0 m pc ls (st0.map (cv b base))) (H := H) (locs := locs) (cells := ck) (slots := sk) (own := own) (index := idx) (n := na) ⟨C.1, C.2.1, C.2.2.1, C.2.2.2.1, hts⟩ (hM l D cA b base) ⟨va_cnB na hts hG rfl rfl rfl (C.2.2.2.2.2.2.1.1 _ hml ⟨_, _, _, _, rfl⟩) (hts _ hini) ⟨hy1, hy2, hpd⟩ ⟨by show dg + 1 ≤ R.frames; omega, by show 8 + (nLg + 11) + 60 * dg ≤ R.locals; omega⟩, hnm, hts _ hin⟩ ⟨aPc_blind _ D cA b base n mi mr, fun U hU hW => ⟨rfl, by rw [hU]; exact I, va_K.moved hW.alike C.2.2.2.2.2.1, aN_warm hW C.2.2.2.2.2.2.1⟩⟩ rfl (by rw [List.length_map]; exact hna) L.1 (by rw [hst9]; simp [cv]) (lv_room (by rw [cat_sum]; exact hr)) hd hfits
  revert hr
  generalize hU0 : (Value.ref (adr b base a) :: As.map (cv b base)).toArray = U0
  revert U0
  intro U0 hU0 hr T0 hT X
  obtain ⟨v, st₀, t, T1, L1, h0, X1, hL1, e1, e2, ⟨⟨v9, n1, mi1, mr1, ho, hPo, hI1⟩, hF⟩, hst⟩ := hr T0 hT X
  have hv9 : v = v9.map (fun x : Int => Value.int (Int32.ofInt x)) := by cases ho; rfl
  have hS1 : va_S (fun q => base ≤ q) s.heap T1.heap (locs ++ L1) := by
    unfold va_F at hF
    rw [h0] at hF
    rw [e1]
    refine ⟨Nat.le_trans S.1 hF.1, fun q h1 h2 => ?_, fun q hq => ?_⟩
    · rw [hF.2 q (Nat.lt_of_lt_of_le h1 S.1) h2]
      exact S.2.1 q h1 h2
    · rcases List.mem_append.mp hq with h | h
      · exact S.2.2 q h
      · exact hL1 q h
  have kk := k v9 n1 mi1 mr1 hPo p l e R s m args below meth c T1.heap (locs ++ L1) ls D cA b base Q C (by rw [e1]; exact hI1) hS1 L T
  obtain ⟨t2, a1, b1⟩ := kk T1 rfl X1
  refine ⟨t2, hst t2 ?_, b1⟩
  rw [hv9]
  cases v9 <;> exact a1

end AWR
end
