section
-- ===== PART A: goes FIRST, ahead of the names: the tables' words, and 'selects' of the private methods out of them =====
/-- a private method of a class that the tables say can be made, by its rows of tables_1 -/
def lw_okq (q : MethodName × Nat) : Prop := (q.1.cls ≠ "java/lang/invoke/MethodHandle" ∧ q.1.cls ≠ "java/lang/invoke/VarHandle") ∧ Cond.instantiable q.1.cls q.2 ∈ tables_1 ∧ Cond.privateMethod q.1 ∈ tables_1 ∧ Cond.instanceMethod q.1 ∈ tables_1
theorem lw_p0 : lw_okq (⟨"java/lang/Throwable", "fillInStackTrace", "(I)Ljava/lang/Throwable;"⟩, 6) := ⟨⟨by decide +kernel, by decide +kernel⟩, List.mem_of_getElem? (i := 256) (by decide +kernel), List.mem_of_getElem? (i := 254) (by decide +kernel), List.mem_of_getElem? (i := 255) (by decide +kernel)⟩
theorem lw_p1 : lw_okq (⟨"CaptionHouse$Film", "renumber", "(I)V"⟩, 7) := ⟨⟨by decide +kernel, by decide +kernel⟩, List.mem_of_getElem? (i := 28) (by decide +kernel), List.mem_of_getElem? (i := 323) (by decide +kernel), List.mem_of_getElem? (i := 324) (by decide +kernel)⟩
theorem lw_p2 : lw_okq (⟨"CaptionHouse", "needPlace", "(I)V"⟩, 14) := ⟨⟨by decide +kernel, by decide +kernel⟩, List.mem_of_getElem? (i := 20) (by decide +kernel), List.mem_of_getElem? (i := 335) (by decide +kernel), List.mem_of_getElem? (i := 336) (by decide +kernel)⟩
theorem lw_p3 : lw_okq (⟨"CaptionHouse$Times", "turn", "(III)V"⟩, 5) := ⟨⟨by decide +kernel, by decide +kernel⟩, List.mem_of_getElem? (i := 57) (by decide +kernel), List.mem_of_getElem? (i := 380) (by decide +kernel), List.mem_of_getElem? (i := 381) (by decide +kernel)⟩
theorem lw_p4 : lw_okq (⟨"CaptionHouse$Times", "endRun", "(II)V"⟩, 5) := ⟨⟨by decide +kernel, by decide +kernel⟩, List.mem_of_getElem? (i := 57) (by decide +kernel), List.mem_of_getElem? (i := 391) (by decide +kernel), List.mem_of_getElem? (i := 392) (by decide +kernel)⟩
theorem lw_p5 : lw_okq (⟨"CaptionHouse$Times", "takeLongest", "()I"⟩, 5) := ⟨⟨by decide +kernel, by decide +kernel⟩, List.mem_of_getElem? (i := 57) (by decide +kernel), List.mem_of_getElem? (i := 396) (by decide +kernel), List.mem_of_getElem? (i := 397) (by decide +kernel)⟩
theorem lw_p6 : lw_okq (⟨"CaptionHouse", "needFrame", "(II)V"⟩, 14) := ⟨⟨by decide +kernel, by decide +kernel⟩, List.mem_of_getElem? (i := 20) (by decide +kernel), List.mem_of_getElem? (i := 434) (by decide +kernel), List.mem_of_getElem? (i := 435) (by decide +kernel)⟩
theorem lw_p7 : lw_okq (⟨"CaptionHouse", "needRun", "(II)V"⟩, 14) := ⟨⟨by decide +kernel, by decide +kernel⟩, List.mem_of_getElem? (i := 20) (by decide +kernel), List.mem_of_getElem? (i := 487) (by decide +kernel), List.mem_of_getElem? (i := 488) (by decide +kernel)⟩
theorem lw_p8 : lw_okq (⟨"CaptionHouse", "needCaption", "(I)V"⟩, 14) := ⟨⟨by decide +kernel, by decide +kernel⟩, List.mem_of_getElem? (i := 20) (by decide +kernel), List.mem_of_getElem? (i := 506) (by decide +kernel), List.mem_of_getElem? (i := 507) (by decide +kernel)⟩
theorem lw_p9 : lw_okq (⟨"CaptionHouse", "forgetAllNames", "(I)V"⟩, 14) := ⟨⟨by decide +kernel, by decide +kernel⟩, List.mem_of_getElem? (i := 20) (by decide +kernel), List.mem_of_getElem? (i := 516) (by decide +kernel), List.mem_of_getElem? (i := 517) (by decide +kernel)⟩
theorem lw_p10 : lw_okq (⟨"CaptionHouse", "forgetNames", "(I)V"⟩, 14) := ⟨⟨by decide +kernel, by decide +kernel⟩, List.mem_of_getElem? (i := 20) (by decide +kernel), List.mem_of_getElem? (i := 523) (by decide +kernel), List.mem_of_getElem? (i := 524) (by decide +kernel)⟩
theorem lw_p11 : lw_okq (⟨"CaptionHouse", "orderCaptions", "()I"⟩, 14) := ⟨⟨by decide +kernel, by decide +kernel⟩, List.mem_of_getElem? (i := 20) (by decide +kernel), List.mem_of_getElem? (i := 569) (by decide +kernel), List.mem_of_getElem? (i := 570) (by decide +kernel)⟩
theorem lw_p12 : lw_okq (⟨"CaptionHouse", "insertCaption", "(II)V"⟩, 14) := ⟨⟨by decide +kernel, by decide +kernel⟩, List.mem_of_getElem? (i := 20) (by decide +kernel), List.mem_of_getElem? (i := 577) (by decide +kernel), List.mem_of_getElem? (i := 578) (by decide +kernel)⟩
theorem lw_p13 : lw_okq (⟨"CaptionHouse", "needText", "(II)I"⟩, 14) := ⟨⟨by decide +kernel, by decide +kernel⟩, List.mem_of_getElem? (i := 20) (by decide +kernel), List.mem_of_getElem? (i := 588) (by decide +kernel), List.mem_of_getElem? (i := 589) (by decide +kernel)⟩
theorem lw_p14 : lw_okq (⟨"CaptionHouse", "noteChange", "(II)V"⟩, 14) := ⟨⟨by decide +kernel, by decide +kernel⟩, List.mem_of_getElem? (i := 20) (by decide +kernel), List.mem_of_getElem? (i := 615) (by decide +kernel), List.mem_of_getElem? (i := 616) (by decide +kernel)⟩
theorem lw_p15 : lw_okq (⟨"CaptionHouse", "setBehind", "(IZ)V"⟩, 14) := ⟨⟨by decide +kernel, by decide +kernel⟩, List.mem_of_getElem? (i := 20) (by decide +kernel), List.mem_of_getElem? (i := 619) (by decide +kernel), List.mem_of_getElem? (i := 620) (by decide +kernel)⟩
def lw_privs_1 : List (MethodName × Nat) := [(⟨"java/lang/Throwable", "fillInStackTrace", "(I)Ljava/lang/Throwable;"⟩, 6), (⟨"CaptionHouse$Film", "renumber", "(I)V"⟩, 7), (⟨"CaptionHouse", "needPlace", "(I)V"⟩, 14), (⟨"CaptionHouse$Times", "turn", "(III)V"⟩, 5), (⟨"CaptionHouse$Times", "endRun", "(II)V"⟩, 5), (⟨"CaptionHouse$Times", "takeLongest", "()I"⟩, 5), (⟨"CaptionHouse", "needFrame", "(II)V"⟩, 14), (⟨"CaptionHouse", "needRun", "(II)V"⟩, 14), (⟨"CaptionHouse", "needCaption", "(I)V"⟩, 14), (⟨"CaptionHouse", "forgetAllNames", "(I)V"⟩, 14), (⟨"CaptionHouse", "forgetNames", "(I)V"⟩, 14), (⟨"CaptionHouse", "orderCaptions", "()I"⟩, 14), (⟨"CaptionHouse", "insertCaption", "(II)V"⟩, 14), (⟨"CaptionHouse", "needText", "(II)I"⟩, 14), (⟨"CaptionHouse", "noteChange", "(II)V"⟩, 14), (⟨"CaptionHouse", "setBehind", "(IZ)V"⟩, 14)]
theorem lw_r1 : ∀ q ∈ lw_privs_1, lw_okq q := List.forall_mem_cons.mpr ⟨lw_p0, List.forall_mem_cons.mpr ⟨lw_p1, List.forall_mem_cons.mpr ⟨lw_p2, List.forall_mem_cons.mpr ⟨lw_p3, List.forall_mem_cons.mpr ⟨lw_p4, List.forall_mem_cons.mpr ⟨lw_p5, List.forall_mem_cons.mpr ⟨lw_p6, List.forall_mem_cons.mpr ⟨lw_p7, List.forall_mem_cons.mpr ⟨lw_p8, List.forall_mem_cons.mpr ⟨lw_p9, List.forall_mem_cons.mpr ⟨lw_p10, List.forall_mem_cons.mpr ⟨lw_p11, List.forall_mem_cons.mpr ⟨lw_p12, List.forall_mem_cons.mpr ⟨lw_p13, List.forall_mem_cons.mpr ⟨lw_p14, List.forall_mem_cons.mpr ⟨lw_p15, fun _ h => absurd h List.not_mem_nil⟩⟩⟩⟩⟩⟩⟩⟩⟩⟩⟩⟩⟩⟩⟩⟩
theorem lw_p16 : lw_okq (⟨"CaptionHouse", "textWidth", "(I)I"⟩, 14) := ⟨⟨by decide +kernel, by decide +kernel⟩, List.mem_of_getElem? (i := 20) (by decide +kernel), List.mem_of_getElem? (i := 662) (by decide +kernel), List.mem_of_getElem? (i := 663) (by decide +kernel)⟩
theorem lw_p17 : lw_okq (⟨"CaptionHouse$Layout", "measure", "(LCaptionHouse$Texts;I)V"⟩, 5) := ⟨⟨by decide +kernel, by decide +kernel⟩, List.mem_of_getElem? (i := 117) (by decide +kernel), List.mem_of_getElem? (i := 683) (by decide +kernel), List.mem_of_getElem? (i := 684) (by decide +kernel)⟩
theorem lw_p18 : lw_okq (⟨"CaptionHouse$Layout", "dividePart", "(LCaptionHouse$Texts;IIII)V"⟩, 5) := ⟨⟨by decide +kernel, by decide +kernel⟩, List.mem_of_getElem? (i := 117) (by decide +kernel), List.mem_of_getElem? (i := 690) (by decide +kernel), List.mem_of_getElem? (i := 691) (by decide +kernel)⟩
theorem lw_p19 : lw_okq (⟨"CaptionHouse$Layout", "widthBetween", "(II)I"⟩, 5) := ⟨⟨by decide +kernel, by decide +kernel⟩, List.mem_of_getElem? (i := 117) (by decide +kernel), List.mem_of_getElem? (i := 694) (by decide +kernel), List.mem_of_getElem? (i := 695) (by decide +kernel)⟩
theorem lw_p20 : lw_okq (⟨"CaptionHouse$Layout", "bestSpace", "(LCaptionHouse$Texts;IIII)I"⟩, 5) := ⟨⟨by decide +kernel, by decide +kernel⟩, List.mem_of_getElem? (i := 117) (by decide +kernel), List.mem_of_getElem? (i := 699) (by decide +kernel), List.mem_of_getElem? (i := 700) (by decide +kernel)⟩
theorem lw_p21 : lw_okq (⟨"CaptionHouse$Layout", "keepRow", "(II)V"⟩, 5) := ⟨⟨by decide +kernel, by decide +kernel⟩, List.mem_of_getElem? (i := 117) (by decide +kernel), List.mem_of_getElem? (i := 709) (by decide +kernel), List.mem_of_getElem? (i := 710) (by decide +kernel)⟩
theorem lw_p22 : lw_okq (⟨"CaptionHouse", "memoryOf", "(I)LCaptionHouse$Memory;"⟩, 14) := ⟨⟨by decide +kernel, by decide +kernel⟩, List.mem_of_getElem? (i := 20) (by decide +kernel), List.mem_of_getElem? (i := 756) (by decide +kernel), List.mem_of_getElem? (i := 757) (by decide +kernel)⟩
theorem lw_p23 : lw_okq (⟨"CaptionHouse$Memory", "find", "(LCaptionHouse$Texts;I)I"⟩, 5) := ⟨⟨by decide +kernel, by decide +kernel⟩, List.mem_of_getElem? (i := 95) (by decide +kernel), List.mem_of_getElem? (i := 764) (by decide +kernel), List.mem_of_getElem? (i := 765) (by decide +kernel)⟩
theorem lw_p24 : lw_okq (⟨"CaptionHouse$Memory", "freeSlot", "()I"⟩, 5) := ⟨⟨by decide +kernel, by decide +kernel⟩, List.mem_of_getElem? (i := 95) (by decide +kernel), List.mem_of_getElem? (i := 772) (by decide +kernel), List.mem_of_getElem? (i := 773) (by decide +kernel)⟩
theorem lw_p25 : lw_okq (⟨"CaptionHouse$Memory", "use", "(I)V"⟩, 5) := ⟨⟨by decide +kernel, by decide +kernel⟩, List.mem_of_getElem? (i := 95) (by decide +kernel), List.mem_of_getElem? (i := 782) (by decide +kernel), List.mem_of_getElem? (i := 783) (by decide +kernel)⟩
theorem lw_p26 : lw_okq (⟨"CaptionHouse", "isBehind", "(I)Z"⟩, 14) := ⟨⟨by decide +kernel, by decide +kernel⟩, List.mem_of_getElem? (i := 20) (by decide +kernel), List.mem_of_getElem? (i := 798) (by decide +kernel), List.mem_of_getElem? (i := 799) (by decide +kernel)⟩
theorem lw_p27 : lw_okq (⟨"CaptionHouse", "isOutdated", "(I)Z"⟩, 14) := ⟨⟨by decide +kernel, by decide +kernel⟩, List.mem_of_getElem? (i := 20) (by decide +kernel), List.mem_of_getElem? (i := 813) (by decide +kernel), List.mem_of_getElem? (i := 814) (by decide +kernel)⟩
theorem lw_p28 : lw_okq (⟨"CaptionHouse", "brokenRules", "(II)I"⟩, 14) := ⟨⟨by decide +kernel, by decide +kernel⟩, List.mem_of_getElem? (i := 20) (by decide +kernel), List.mem_of_getElem? (i := 831) (by decide +kernel), List.mem_of_getElem? (i := 832) (by decide +kernel)⟩
theorem lw_p29 : lw_okq (⟨"CaptionHouse", "hangs", "(I)Z"⟩, 14) := ⟨⟨by decide +kernel, by decide +kernel⟩, List.mem_of_getElem? (i := 20) (by decide +kernel), List.mem_of_getElem? (i := 839) (by decide +kernel), List.mem_of_getElem? (i := 840) (by decide +kernel)⟩
theorem lw_p30 : lw_okq (⟨"CaptionHouse", "isClose", "(I)Z"⟩, 14) := ⟨⟨by decide +kernel, by decide +kernel⟩, List.mem_of_getElem? (i := 20) (by decide +kernel), List.mem_of_getElem? (i := 847) (by decide +kernel), List.mem_of_getElem? (i := 848) (by decide +kernel)⟩
theorem lw_p31 : lw_okq (⟨"CaptionHouse", "followsClosely", "(II)Z"⟩, 14) := ⟨⟨by decide +kernel, by decide +kernel⟩, List.mem_of_getElem? (i := 20) (by decide +kernel), List.mem_of_getElem? (i := 851) (by decide +kernel), List.mem_of_getElem? (i := 852) (by decide +kernel)⟩
def lw_privs_2 : List (MethodName × Nat) := [(⟨"CaptionHouse", "textWidth", "(I)I"⟩, 14), (⟨"CaptionHouse$Layout", "measure", "(LCaptionHouse$Texts;I)V"⟩, 5), (⟨"CaptionHouse$Layout", "dividePart", "(LCaptionHouse$Texts;IIII)V"⟩, 5), (⟨"CaptionHouse$Layout", "widthBetween", "(II)I"⟩, 5), (⟨"CaptionHouse$Layout", "bestSpace", "(LCaptionHouse$Texts;IIII)I"⟩, 5), (⟨"CaptionHouse$Layout", "keepRow", "(II)V"⟩, 5), (⟨"CaptionHouse", "memoryOf", "(I)LCaptionHouse$Memory;"⟩, 14), (⟨"CaptionHouse$Memory", "find", "(LCaptionHouse$Texts;I)I"⟩, 5), (⟨"CaptionHouse$Memory", "freeSlot", "()I"⟩, 5), (⟨"CaptionHouse$Memory", "use", "(I)V"⟩, 5), (⟨"CaptionHouse", "isBehind", "(I)Z"⟩, 14), (⟨"CaptionHouse", "isOutdated", "(I)Z"⟩, 14), (⟨"CaptionHouse", "brokenRules", "(II)I"⟩, 14), (⟨"CaptionHouse", "hangs", "(I)Z"⟩, 14), (⟨"CaptionHouse", "isClose", "(I)Z"⟩, 14), (⟨"CaptionHouse", "followsClosely", "(II)Z"⟩, 14)]
theorem lw_r2 : ∀ q ∈ lw_privs_2, lw_okq q := List.forall_mem_cons.mpr ⟨lw_p16, List.forall_mem_cons.mpr ⟨lw_p17, List.forall_mem_cons.mpr ⟨lw_p18, List.forall_mem_cons.mpr ⟨lw_p19, List.forall_mem_cons.mpr ⟨lw_p20, List.forall_mem_cons.mpr ⟨lw_p21, List.forall_mem_cons.mpr ⟨lw_p22, List.forall_mem_cons.mpr ⟨lw_p23, List.forall_mem_cons.mpr ⟨lw_p24, List.forall_mem_cons.mpr ⟨lw_p25, List.forall_mem_cons.mpr ⟨lw_p26, List.forall_mem_cons.mpr ⟨lw_p27, List.forall_mem_cons.mpr ⟨lw_p28, List.forall_mem_cons.mpr ⟨lw_p29, List.forall_mem_cons.mpr ⟨lw_p30, List.forall_mem_cons.mpr ⟨lw_p31, fun _ h => absurd h List.not_mem_nil⟩⟩⟩⟩⟩⟩⟩⟩⟩⟩⟩⟩⟩⟩⟩⟩
theorem lw_p32 : lw_okq (⟨"CaptionHouse", "lacksVoices", "(I)Z"⟩, 14) := ⟨⟨by decide +kernel, by decide +kernel⟩, List.mem_of_getElem? (i := 20) (by decide +kernel), List.mem_of_getElem? (i := 855) (by decide +kernel), List.mem_of_getElem? (i := 856) (by decide +kernel)⟩
theorem lw_p33 : lw_okq (⟨"CaptionHouse", "namedRules", "(I)I"⟩, 14) := ⟨⟨by decide +kernel, by decide +kernel⟩, List.mem_of_getElem? (i := 20) (by decide +kernel), List.mem_of_getElem? (i := 886) (by decide +kernel), List.mem_of_getElem? (i := 887) (by decide +kernel)⟩
theorem lw_p34 : lw_okq (⟨"CaptionHouse", "writeAll", "(II)V"⟩, 14) := ⟨⟨by decide +kernel, by decide +kernel⟩, List.mem_of_getElem? (i := 20) (by decide +kernel), List.mem_of_getElem? (i := 907) (by decide +kernel), List.mem_of_getElem? (i := 908) (by decide +kernel)⟩
theorem lw_p35 : lw_okq (⟨"CaptionHouse", "writeNumbered", "(III)V"⟩, 14) := ⟨⟨by decide +kernel, by decide +kernel⟩, List.mem_of_getElem? (i := 20) (by decide +kernel), List.mem_of_getElem? (i := 915) (by decide +kernel), List.mem_of_getElem? (i := 916) (by decide +kernel)⟩
theorem lw_p36 : lw_okq (⟨"CaptionHouse$Page", "writeUnit", "(I)V"⟩, 2) := ⟨⟨by decide +kernel, by decide +kernel⟩, List.mem_of_getElem? (i := 139) (by decide +kernel), List.mem_of_getElem? (i := 923) (by decide +kernel), List.mem_of_getElem? (i := 924) (by decide +kernel)⟩
theorem lw_p37 : lw_okq (⟨"CaptionHouse", "writeTime", "(I)V"⟩, 14) := ⟨⟨by decide +kernel, by decide +kernel⟩, List.mem_of_getElem? (i := 20) (by decide +kernel), List.mem_of_getElem? (i := 934) (by decide +kernel), List.mem_of_getElem? (i := 935) (by decide +kernel)⟩
theorem lw_p38 : lw_okq (⟨"CaptionHouse", "writeRows", "(II)V"⟩, 14) := ⟨⟨by decide +kernel, by decide +kernel⟩, List.mem_of_getElem? (i := 20) (by decide +kernel), List.mem_of_getElem? (i := 942) (by decide +kernel), List.mem_of_getElem? (i := 943) (by decide +kernel)⟩
theorem lw_p39 : lw_okq (⟨"CaptionHouse", "writeBraced", "(II)V"⟩, 14) := ⟨⟨by decide +kernel, by decide +kernel⟩, List.mem_of_getElem? (i := 20) (by decide +kernel), List.mem_of_getElem? (i := 946) (by decide +kernel), List.mem_of_getElem? (i := 947) (by decide +kernel)⟩
theorem lw_p40 : lw_okq (⟨"CaptionHouse", "writeInBraces", "(I)V"⟩, 14) := ⟨⟨by decide +kernel, by decide +kernel⟩, List.mem_of_getElem? (i := 20) (by decide +kernel), List.mem_of_getElem? (i := 950) (by decide +kernel), List.mem_of_getElem? (i := 951) (by decide +kernel)⟩
theorem lw_p41 : lw_okq (⟨"CaptionHouseModel", "settles", "()V"⟩, 32) := ⟨⟨by decide +kernel, by decide +kernel⟩, List.mem_of_getElem? (i := 970) (by decide +kernel), List.mem_of_getElem? (i := 1084) (by decide +kernel), List.mem_of_getElem? (i := 1085) (by decide +kernel)⟩
theorem lw_p42 : lw_okq (⟨"CaptionHouseModel", "findsPlaces", "()V"⟩, 32) := ⟨⟨by decide +kernel, by decide +kernel⟩, List.mem_of_getElem? (i := 970) (by decide +kernel), List.mem_of_getElem? (i := 1088) (by decide +kernel), List.mem_of_getElem? (i := 1089) (by decide +kernel)⟩
theorem lw_p43 : lw_okq (⟨"CaptionHouseModel", "findsTime", "(I)V"⟩, 32) := ⟨⟨by decide +kernel, by decide +kernel⟩, List.mem_of_getElem? (i := 970) (by decide +kernel), List.mem_of_getElem? (i := 1092) (by decide +kernel), List.mem_of_getElem? (i := 1093) (by decide +kernel)⟩
theorem lw_p44 : lw_okq (⟨"CaptionHouseModel", "isPlace", "(I)Z"⟩, 32) := ⟨⟨by decide +kernel, by decide +kernel⟩, List.mem_of_getElem? (i := 970) (by decide +kernel), List.mem_of_getElem? (i := 1100) (by decide +kernel), List.mem_of_getElem? (i := 1101) (by decide +kernel)⟩
theorem lw_p45 : lw_okq (⟨"CaptionHouseModel", "areFrames", "(II)Z"⟩, 32) := ⟨⟨by decide +kernel, by decide +kernel⟩, List.mem_of_getElem? (i := 970) (by decide +kernel), List.mem_of_getElem? (i := 1104) (by decide +kernel), List.mem_of_getElem? (i := 1105) (by decide +kernel)⟩
theorem lw_p46 : lw_okq (⟨"CaptionHouseModel", "takes", "(II)V"⟩, 32) := ⟨⟨by decide +kernel, by decide +kernel⟩, List.mem_of_getElem? (i := 970) (by decide +kernel), List.mem_of_getElem? (i := 1108) (by decide +kernel), List.mem_of_getElem? (i := 1109) (by decide +kernel)⟩
theorem lw_p47 : lw_okq (⟨"CaptionHouseModel", "puts", "(II)V"⟩, 32) := ⟨⟨by decide +kernel, by decide +kernel⟩, List.mem_of_getElem? (i := 970) (by decide +kernel), List.mem_of_getElem? (i := 1116) (by decide +kernel), List.mem_of_getElem? (i := 1117) (by decide +kernel)⟩
def lw_privs_3 : List (MethodName × Nat) := [(⟨"CaptionHouse", "lacksVoices", "(I)Z"⟩, 14), (⟨"CaptionHouse", "namedRules", "(I)I"⟩, 14), (⟨"CaptionHouse", "writeAll", "(II)V"⟩, 14), (⟨"CaptionHouse", "writeNumbered", "(III)V"⟩, 14), (⟨"CaptionHouse$Page", "writeUnit", "(I)V"⟩, 2), (⟨"CaptionHouse", "writeTime", "(I)V"⟩, 14), (⟨"CaptionHouse", "writeRows", "(II)V"⟩, 14), (⟨"CaptionHouse", "writeBraced", "(II)V"⟩, 14), (⟨"CaptionHouse", "writeInBraces", "(I)V"⟩, 14), (⟨"CaptionHouseModel", "settles", "()V"⟩, 32), (⟨"CaptionHouseModel", "findsPlaces", "()V"⟩, 32), (⟨"CaptionHouseModel", "findsTime", "(I)V"⟩, 32), (⟨"CaptionHouseModel", "isPlace", "(I)Z"⟩, 32), (⟨"CaptionHouseModel", "areFrames", "(II)Z"⟩, 32), (⟨"CaptionHouseModel", "takes", "(II)V"⟩, 32), (⟨"CaptionHouseModel", "puts", "(II)V"⟩, 32)]
theorem lw_r3 : ∀ q ∈ lw_privs_3, lw_okq q := List.forall_mem_cons.mpr ⟨lw_p32, List.forall_mem_cons.mpr ⟨lw_p33, List.forall_mem_cons.mpr ⟨lw_p34, List.forall_mem_cons.mpr ⟨lw_p35, List.forall_mem_cons.mpr ⟨lw_p36, List.forall_mem_cons.mpr ⟨lw_p37, List.forall_mem_cons.mpr ⟨lw_p38, List.forall_mem_cons.mpr ⟨lw_p39, List.forall_mem_cons.mpr ⟨lw_p40, List.forall_mem_cons.mpr ⟨lw_p41, List.forall_mem_cons.mpr ⟨lw_p42, List.forall_mem_cons.mpr ⟨lw_p43, List.forall_mem_cons.mpr ⟨lw_p44, List.forall_mem_cons.mpr ⟨lw_p45, List.forall_mem_cons.mpr ⟨lw_p46, List.forall_mem_cons.mpr ⟨lw_p47, fun _ h => absurd h List.not_mem_nil⟩⟩⟩⟩⟩⟩⟩⟩⟩⟩⟩⟩⟩⟩⟩⟩
theorem lw_p48 : lw_okq (⟨"CaptionHouseModel", "isFrame", "(II)Z"⟩, 32) := ⟨⟨by decide +kernel, by decide +kernel⟩, List.mem_of_getElem? (i := 970) (by decide +kernel), List.mem_of_getElem? (i := 1124) (by decide +kernel), List.mem_of_getElem? (i := 1125) (by decide +kernel)⟩
theorem lw_p49 : lw_okq (⟨"CaptionHouseModel", "isBoundaryAt", "(I)Z"⟩, 32) := ⟨⟨by decide +kernel, by decide +kernel⟩, List.mem_of_getElem? (i := 970) (by decide +kernel), List.mem_of_getElem? (i := 1144) (by decide +kernel), List.mem_of_getElem? (i := 1145) (by decide +kernel)⟩
theorem lw_p50 : lw_okq (⟨"CaptionHouseModel", "lays", "(III)V"⟩, 32) := ⟨⟨by decide +kernel, by decide +kernel⟩, List.mem_of_getElem? (i := 970) (by decide +kernel), List.mem_of_getElem? (i := 1152) (by decide +kernel), List.mem_of_getElem? (i := 1153) (by decide +kernel)⟩
theorem lw_p51 : lw_okq (⟨"CaptionHouseModel", "isCaption", "(I)Z"⟩, 32) := ⟨⟨by decide +kernel, by decide +kernel⟩, List.mem_of_getElem? (i := 970) (by decide +kernel), List.mem_of_getElem? (i := 1160) (by decide +kernel), List.mem_of_getElem? (i := 1161) (by decide +kernel)⟩
theorem lw_p52 : lw_okq (⟨"CaptionHouseModel", "forgetsAll", "(I)V"⟩, 32) := ⟨⟨by decide +kernel, by decide +kernel⟩, List.mem_of_getElem? (i := 970) (by decide +kernel), List.mem_of_getElem? (i := 1164) (by decide +kernel), List.mem_of_getElem? (i := 1165) (by decide +kernel)⟩
theorem lw_p53 : lw_okq (⟨"CaptionHouseModel", "forgets", "(II)V"⟩, 32) := ⟨⟨by decide +kernel, by decide +kernel⟩, List.mem_of_getElem? (i := 970) (by decide +kernel), List.mem_of_getElem? (i := 1168) (by decide +kernel), List.mem_of_getElem? (i := 1169) (by decide +kernel)⟩
theorem lw_p54 : lw_okq (⟨"CaptionHouseModel", "asksCaption", "(I)Z"⟩, 32) := ⟨⟨by decide +kernel, by decide +kernel⟩, List.mem_of_getElem? (i := 970) (by decide +kernel), List.mem_of_getElem? (i := 1184) (by decide +kernel), List.mem_of_getElem? (i := 1185) (by decide +kernel)⟩
theorem lw_p55 : lw_okq (⟨"CaptionHouseModel", "captionAt", "(I)I"⟩, 32) := ⟨⟨by decide +kernel, by decide +kernel⟩, List.mem_of_getElem? (i := 970) (by decide +kernel), List.mem_of_getElem? (i := 1200) (by decide +kernel), List.mem_of_getElem? (i := 1201) (by decide +kernel)⟩
theorem lw_p56 : lw_okq (⟨"CaptionHouseModel", "isAhead", "(II)Z"⟩, 32) := ⟨⟨by decide +kernel, by decide +kernel⟩, List.mem_of_getElem? (i := 970) (by decide +kernel), List.mem_of_getElem? (i := 1204) (by decide +kernel), List.mem_of_getElem? (i := 1205) (by decide +kernel)⟩
theorem lw_p57 : lw_okq (⟨"CaptionHouseModel", "isText", "(II)Z"⟩, 32) := ⟨⟨by decide +kernel, by decide +kernel⟩, List.mem_of_getElem? (i := 970) (by decide +kernel), List.mem_of_getElem? (i := 1212) (by decide +kernel), List.mem_of_getElem? (i := 1213) (by decide +kernel)⟩
theorem lw_p58 : lw_okq (⟨"CaptionHouseModel", "marks", "(II)V"⟩, 32) := ⟨⟨by decide +kernel, by decide +kernel⟩, List.mem_of_getElem? (i := 970) (by decide +kernel), List.mem_of_getElem? (i := 1222) (by decide +kernel), List.mem_of_getElem? (i := 1223) (by decide +kernel)⟩
theorem lw_p59 : lw_okq (⟨"CaptionHouseModel", "asks", "(II)Z"⟩, 32) := ⟨⟨by decide +kernel, by decide +kernel⟩, List.mem_of_getElem? (i := 970) (by decide +kernel), List.mem_of_getElem? (i := 1234) (by decide +kernel), List.mem_of_getElem? (i := 1235) (by decide +kernel)⟩
theorem lw_p60 : lw_okq (⟨"CaptionHouseModel", "widthFrom", "(III)I"⟩, 32) := ⟨⟨by decide +kernel, by decide +kernel⟩, List.mem_of_getElem? (i := 970) (by decide +kernel), List.mem_of_getElem? (i := 1246) (by decide +kernel), List.mem_of_getElem? (i := 1247) (by decide +kernel)⟩
theorem lw_p61 : lw_okq (⟨"CaptionHouseModel", "laysRows", "(I)V"⟩, 32) := ⟨⟨by decide +kernel, by decide +kernel⟩, List.mem_of_getElem? (i := 970) (by decide +kernel), List.mem_of_getElem? (i := 1259) (by decide +kernel), List.mem_of_getElem? (i := 1260) (by decide +kernel)⟩
theorem lw_p62 : lw_okq (⟨"CaptionHouseModel", "laysPart", "(III)V"⟩, 32) := ⟨⟨by decide +kernel, by decide +kernel⟩, List.mem_of_getElem? (i := 970) (by decide +kernel), List.mem_of_getElem? (i := 1263) (by decide +kernel), List.mem_of_getElem? (i := 1264) (by decide +kernel)⟩
theorem lw_p63 : lw_okq (⟨"CaptionHouseModel", "spaceOf", "(III)I"⟩, 32) := ⟨⟨by decide +kernel, by decide +kernel⟩, List.mem_of_getElem? (i := 970) (by decide +kernel), List.mem_of_getElem? (i := 1267) (by decide +kernel), List.mem_of_getElem? (i := 1268) (by decide +kernel)⟩
def lw_privs_4 : List (MethodName × Nat) := [(⟨"CaptionHouseModel", "isFrame", "(II)Z"⟩, 32), (⟨"CaptionHouseModel", "isBoundaryAt", "(I)Z"⟩, 32), (⟨"CaptionHouseModel", "lays", "(III)V"⟩, 32), (⟨"CaptionHouseModel", "isCaption", "(I)Z"⟩, 32), (⟨"CaptionHouseModel", "forgetsAll", "(I)V"⟩, 32), (⟨"CaptionHouseModel", "forgets", "(II)V"⟩, 32), (⟨"CaptionHouseModel", "asksCaption", "(I)Z"⟩, 32), (⟨"CaptionHouseModel", "captionAt", "(I)I"⟩, 32), (⟨"CaptionHouseModel", "isAhead", "(II)Z"⟩, 32), (⟨"CaptionHouseModel", "isText", "(II)Z"⟩, 32), (⟨"CaptionHouseModel", "marks", "(II)V"⟩, 32), (⟨"CaptionHouseModel", "asks", "(II)Z"⟩, 32), (⟨"CaptionHouseModel", "widthFrom", "(III)I"⟩, 32), (⟨"CaptionHouseModel", "laysRows", "(I)V"⟩, 32), (⟨"CaptionHouseModel", "laysPart", "(III)V"⟩, 32), (⟨"CaptionHouseModel", "spaceOf", "(III)I"⟩, 32)]
theorem lw_r4 : ∀ q ∈ lw_privs_4, lw_okq q := List.forall_mem_cons.mpr ⟨lw_p48, List.forall_mem_cons.mpr ⟨lw_p49, List.forall_mem_cons.mpr ⟨lw_p50, List.forall_mem_cons.mpr ⟨lw_p51, List.forall_mem_cons.mpr ⟨lw_p52, List.forall_mem_cons.mpr ⟨lw_p53, List.forall_mem_cons.mpr ⟨lw_p54, List.forall_mem_cons.mpr ⟨lw_p55, List.forall_mem_cons.mpr ⟨lw_p56, List.forall_mem_cons.mpr ⟨lw_p57, List.forall_mem_cons.mpr ⟨lw_p58, List.forall_mem_cons.mpr ⟨lw_p59, List.forall_mem_cons.mpr ⟨lw_p60, List.forall_mem_cons.mpr ⟨lw_p61, List.forall_mem_cons.mpr ⟨lw_p62, List.forall_mem_cons.mpr ⟨lw_p63, fun _ h => absurd h List.not_mem_nil⟩⟩⟩⟩⟩⟩⟩⟩⟩⟩⟩⟩⟩⟩⟩⟩
theorem lw_p64 : lw_okq (⟨"CaptionHouseModel", "addsRow", "(II)V"⟩, 32) := ⟨⟨by decide +kernel, by decide +kernel⟩, List.mem_of_getElem? (i := 970) (by decide +kernel), List.mem_of_getElem? (i := 1274) (by decide +kernel), List.mem_of_getElem? (i := 1275) (by decide +kernel)⟩
theorem lw_p65 : lw_okq (⟨"CaptionHouseModel", "keeps", "(III)V"⟩, 32) := ⟨⟨by decide +kernel, by decide +kernel⟩, List.mem_of_getElem? (i := 970) (by decide +kernel), List.mem_of_getElem? (i := 1290) (by decide +kernel), List.mem_of_getElem? (i := 1291) (by decide +kernel)⟩
theorem lw_p66 : lw_okq (⟨"CaptionHouseModel", "keptFor", "(II)I"⟩, 32) := ⟨⟨by decide +kernel, by decide +kernel⟩, List.mem_of_getElem? (i := 970) (by decide +kernel), List.mem_of_getElem? (i := 1294) (by decide +kernel), List.mem_of_getElem? (i := 1295) (by decide +kernel)⟩
theorem lw_p67 : lw_okq (⟨"CaptionHouseModel", "oldest", "(I)I"⟩, 32) := ⟨⟨by decide +kernel, by decide +kernel⟩, List.mem_of_getElem? (i := 970) (by decide +kernel), List.mem_of_getElem? (i := 1298) (by decide +kernel), List.mem_of_getElem? (i := 1299) (by decide +kernel)⟩
theorem lw_p68 : lw_okq (⟨"CaptionHouseModel", "movesDown", "(II)V"⟩, 32) := ⟨⟨by decide +kernel, by decide +kernel⟩, List.mem_of_getElem? (i := 970) (by decide +kernel), List.mem_of_getElem? (i := 1302) (by decide +kernel), List.mem_of_getElem? (i := 1303) (by decide +kernel)⟩
theorem lw_p69 : lw_okq (⟨"CaptionHouseModel", "isStaleNow", "(II)Z"⟩, 32) := ⟨⟨by decide +kernel, by decide +kernel⟩, List.mem_of_getElem? (i := 970) (by decide +kernel), List.mem_of_getElem? (i := 1310) (by decide +kernel), List.mem_of_getElem? (i := 1311) (by decide +kernel)⟩
theorem lw_p70 : lw_okq (⟨"CaptionHouseModel", "gets", "(III)V"⟩, 32) := ⟨⟨by decide +kernel, by decide +kernel⟩, List.mem_of_getElem? (i := 970) (by decide +kernel), List.mem_of_getElem? (i := 1314) (by decide +kernel), List.mem_of_getElem? (i := 1315) (by decide +kernel)⟩
theorem lw_p71 : lw_okq (⟨"CaptionHouseModel", "brokenBy", "(II)I"⟩, 32) := ⟨⟨by decide +kernel, by decide +kernel⟩, List.mem_of_getElem? (i := 970) (by decide +kernel), List.mem_of_getElem? (i := 1330) (by decide +kernel), List.mem_of_getElem? (i := 1331) (by decide +kernel)⟩
theorem lw_p72 : lw_okq (⟨"CaptionHouseModel", "isWide", "(I)Z"⟩, 32) := ⟨⟨by decide +kernel, by decide +kernel⟩, List.mem_of_getElem? (i := 970) (by decide +kernel), List.mem_of_getElem? (i := 1334) (by decide +kernel), List.mem_of_getElem? (i := 1335) (by decide +kernel)⟩
theorem lw_p73 : lw_okq (⟨"CaptionHouseModel", "hangs", "(I)Z"⟩, 32) := ⟨⟨by decide +kernel, by decide +kernel⟩, List.mem_of_getElem? (i := 970) (by decide +kernel), List.mem_of_getElem? (i := 1338) (by decide +kernel), List.mem_of_getElem? (i := 1339) (by decide +kernel)⟩
theorem lw_p74 : lw_okq (⟨"CaptionHouseModel", "isClose", "(I)Z"⟩, 32) := ⟨⟨by decide +kernel, by decide +kernel⟩, List.mem_of_getElem? (i := 970) (by decide +kernel), List.mem_of_getElem? (i := 1342) (by decide +kernel), List.mem_of_getElem? (i := 1343) (by decide +kernel)⟩
theorem lw_p75 : lw_okq (⟨"CaptionHouseModel", "areVoices", "(I)Z"⟩, 32) := ⟨⟨by decide +kernel, by decide +kernel⟩, List.mem_of_getElem? (i := 970) (by decide +kernel), List.mem_of_getElem? (i := 1346) (by decide +kernel), List.mem_of_getElem? (i := 1347) (by decide +kernel)⟩
theorem lw_p76 : lw_okq (⟨"CaptionHouseModel", "writesAll", "(II)V"⟩, 32) := ⟨⟨by decide +kernel, by decide +kernel⟩, List.mem_of_getElem? (i := 970) (by decide +kernel), List.mem_of_getElem? (i := 1366) (by decide +kernel), List.mem_of_getElem? (i := 1367) (by decide +kernel)⟩
theorem lw_p77 : lw_okq (⟨"CaptionHouseModel", "writesLong", "(III)V"⟩, 32) := ⟨⟨by decide +kernel, by decide +kernel⟩, List.mem_of_getElem? (i := 970) (by decide +kernel), List.mem_of_getElem? (i := 1370) (by decide +kernel), List.mem_of_getElem? (i := 1371) (by decide +kernel)⟩
theorem lw_p78 : lw_okq (⟨"CaptionHouseModel", "writesNumber", "(I)V"⟩, 32) := ⟨⟨by decide +kernel, by decide +kernel⟩, List.mem_of_getElem? (i := 970) (by decide +kernel), List.mem_of_getElem? (i := 1374) (by decide +kernel), List.mem_of_getElem? (i := 1375) (by decide +kernel)⟩
theorem lw_p79 : lw_okq (⟨"CaptionHouseModel", "writes", "(I)V"⟩, 32) := ⟨⟨by decide +kernel, by decide +kernel⟩, List.mem_of_getElem? (i := 970) (by decide +kernel), List.mem_of_getElem? (i := 1378) (by decide +kernel), List.mem_of_getElem? (i := 1379) (by decide +kernel)⟩
def lw_privs_5 : List (MethodName × Nat) := [(⟨"CaptionHouseModel", "addsRow", "(II)V"⟩, 32), (⟨"CaptionHouseModel", "keeps", "(III)V"⟩, 32), (⟨"CaptionHouseModel", "keptFor", "(II)I"⟩, 32), (⟨"CaptionHouseModel", "oldest", "(I)I"⟩, 32), (⟨"CaptionHouseModel", "movesDown", "(II)V"⟩, 32), (⟨"CaptionHouseModel", "isStaleNow", "(II)Z"⟩, 32), (⟨"CaptionHouseModel", "gets", "(III)V"⟩, 32), (⟨"CaptionHouseModel", "brokenBy", "(II)I"⟩, 32), (⟨"CaptionHouseModel", "isWide", "(I)Z"⟩, 32), (⟨"CaptionHouseModel", "hangs", "(I)Z"⟩, 32), (⟨"CaptionHouseModel", "isClose", "(I)Z"⟩, 32), (⟨"CaptionHouseModel", "areVoices", "(I)Z"⟩, 32), (⟨"CaptionHouseModel", "writesAll", "(II)V"⟩, 32), (⟨"CaptionHouseModel", "writesLong", "(III)V"⟩, 32), (⟨"CaptionHouseModel", "writesNumber", "(I)V"⟩, 32), (⟨"CaptionHouseModel", "writes", "(I)V"⟩, 32)]
theorem lw_r5 : ∀ q ∈ lw_privs_5, lw_okq q := List.forall_mem_cons.mpr ⟨lw_p64, List.forall_mem_cons.mpr ⟨lw_p65, List.forall_mem_cons.mpr ⟨lw_p66, List.forall_mem_cons.mpr ⟨lw_p67, List.forall_mem_cons.mpr ⟨lw_p68, List.forall_mem_cons.mpr ⟨lw_p69, List.forall_mem_cons.mpr ⟨lw_p70, List.forall_mem_cons.mpr ⟨lw_p71, List.forall_mem_cons.mpr ⟨lw_p72, List.forall_mem_cons.mpr ⟨lw_p73, List.forall_mem_cons.mpr ⟨lw_p74, List.forall_mem_cons.mpr ⟨lw_p75, List.forall_mem_cons.mpr ⟨lw_p76, List.forall_mem_cons.mpr ⟨lw_p77, List.forall_mem_cons.mpr ⟨lw_p78, List.forall_mem_cons.mpr ⟨lw_p79, fun _ h => absurd h List.not_mem_nil⟩⟩⟩⟩⟩⟩⟩⟩⟩⟩⟩⟩⟩⟩⟩⟩
theorem lw_p80 : lw_okq (⟨"CaptionHouseModel", "writesTime", "(I)V"⟩, 32) := ⟨⟨by decide +kernel, by decide +kernel⟩, List.mem_of_getElem? (i := 970) (by decide +kernel), List.mem_of_getElem? (i := 1382) (by decide +kernel), List.mem_of_getElem? (i := 1383) (by decide +kernel)⟩
theorem lw_p81 : lw_okq (⟨"CaptionHouseModel", "writesTwo", "(I)V"⟩, 32) := ⟨⟨by decide +kernel, by decide +kernel⟩, List.mem_of_getElem? (i := 970) (by decide +kernel), List.mem_of_getElem? (i := 1386) (by decide +kernel), List.mem_of_getElem? (i := 1387) (by decide +kernel)⟩
theorem lw_p82 : lw_okq (⟨"CaptionHouseModel", "writesRow", "(II)V"⟩, 32) := ⟨⟨by decide +kernel, by decide +kernel⟩, List.mem_of_getElem? (i := 970) (by decide +kernel), List.mem_of_getElem? (i := 1390) (by decide +kernel), List.mem_of_getElem? (i := 1391) (by decide +kernel)⟩
theorem lw_p83 : lw_okq (⟨"CaptionHouseModel", "writesSign", "(I)V"⟩, 32) := ⟨⟨by decide +kernel, by decide +kernel⟩, List.mem_of_getElem? (i := 970) (by decide +kernel), List.mem_of_getElem? (i := 1394) (by decide +kernel), List.mem_of_getElem? (i := 1395) (by decide +kernel)⟩
theorem lw_p84 : lw_okq (⟨"CaptionHouseModel", "writesShort", "(II)V"⟩, 32) := ⟨⟨by decide +kernel, by decide +kernel⟩, List.mem_of_getElem? (i := 970) (by decide +kernel), List.mem_of_getElem? (i := 1400) (by decide +kernel), List.mem_of_getElem? (i := 1401) (by decide +kernel)⟩
def lw_privs_6 : List (MethodName × Nat) := [(⟨"CaptionHouseModel", "writesTime", "(I)V"⟩, 32), (⟨"CaptionHouseModel", "writesTwo", "(I)V"⟩, 32), (⟨"CaptionHouseModel", "writesRow", "(II)V"⟩, 32), (⟨"CaptionHouseModel", "writesSign", "(I)V"⟩, 32), (⟨"CaptionHouseModel", "writesShort", "(II)V"⟩, 32)]
theorem lw_r6 : ∀ q ∈ lw_privs_6, lw_okq q := List.forall_mem_cons.mpr ⟨lw_p80, List.forall_mem_cons.mpr ⟨lw_p81, List.forall_mem_cons.mpr ⟨lw_p82, List.forall_mem_cons.mpr ⟨lw_p83, List.forall_mem_cons.mpr ⟨lw_p84, fun _ h => absurd h List.not_mem_nil⟩⟩⟩⟩⟩
def lw_privs : List (MethodName × Nat) := lw_privs_1 ++ (lw_privs_2 ++ (lw_privs_3 ++ (lw_privs_4 ++ (lw_privs_5 ++ (lw_privs_6)))))
def lw_tbl : List Cond := k2_sels lw_privs ++ tables_1
theorem lw_privs_ok : ∀ q ∈ lw_privs, lw_okq q := by
  show ∀ q ∈ lw_privs_1 ++ (lw_privs_2 ++ (lw_privs_3 ++ (lw_privs_4 ++ (lw_privs_5 ++ (lw_privs_6))))), lw_okq q
  exact List.forall_mem_append.mpr ⟨lw_r1, List.forall_mem_append.mpr ⟨lw_r2, List.forall_mem_append.mpr ⟨lw_r3, List.forall_mem_append.mpr ⟨lw_r4, List.forall_mem_append.mpr ⟨lw_r5, lw_r6⟩⟩⟩⟩⟩
/-! ===== BEGIN words of one list among another's, by their places ===== -/
theorem goodIn_r {big : List Cond} (ws : List Cond) (ps : List Nat) (hp : ws = ps.filterMap (fun i => big[i]?)) (h : ws.all goodWord = true) : GoodIn big ws := by
  intro w hw
  have h1 := List.all_eq_true.mp h w hw
  rw [hp] at hw
  obtain ⟨i, -, hi⟩ := List.mem_filterMap.mp hw
  have hm : w ∈ big := by first | exact List.mem_of_getElem? hi | exact List.getElem?_mem hi
  exact ⟨hm, good_of_word h1⟩
theorem goodIn_app {big a b : List Cond} (ha : GoodIn big a) (hb : GoodIn big b) : GoodIn big (a ++ b) := fun w h => (List.mem_append.mp h).elim (ha w) (hb w)
theorem goodIn_ca {big a b : List Cond} {c : Cond} (ha : GoodIn big (c :: a)) (hb : GoodIn big b) : GoodIn big (c :: (a ++ b)) := fun w h => (List.mem_cons.mp h).elim (fun e => ha w (List.mem_cons.mpr (Or.inl e))) (fun h => (List.mem_append.mp h).elim (fun h => ha w (List.mem_cons.mpr (Or.inr h))) (hb w))
theorem goodIn_sub {big ws : List Cond} (hm : ∀ w ∈ ws, w ∈ big) (h : ws.all goodWord = true) : GoodIn big ws := fun w hw => ⟨hm w hw, good_of_word (List.all_eq_true.mp h w hw)⟩
/-! ===== END ===== -/
/-! ===== BEGIN exceptions that leave a method, and their catching by the caller (launches without stack traces) ===== -/
section VXA
/-! The laws vx_back, vx_callV, vx_callS, vx_callSW, vx_throw0, vx_throwS follow proofs of the library, with one case more: JvmDerived/Free/Laws.lean (Back.of_free), Shelf42/LK1.lean (callV, callS), Shelf/KitTraced.lean (throwNew0V, throwNewS). -/
/-- where a method has thrown q: the class by its name, the cell, what was written, the world -/
def vx_T (XC : String → State → State → Prop) (st : State) (q : Addr) (t : State) (mc ms : Nat) (free : Addr → Prop) : Prop :=
  ∃ (E : String) (ce : Cell) (L : List Loc), XC E st t ∧ t.heap[q]? = some ce ∧ ce.vm = .none ∧ st.vm.findClass E = some ce.cls ∧ st.WarmedH t.vm ∧ st.sameButNew ({ t with vm := st.vm } : State) L mc ms ∧ ∀ z ∈ L, free z.base
def vx_Q (Qc : Array Value → State → Outcome → State → Prop) (XC : String → State → State → Prop) (mc ms : Nat) (free : Addr → Prop) : Array Value → State → Outcome → State → Prop := fun a st o t =>
  (Qc a st o t ∧ ∃ L, FrameEnd st o t L mc ms ∧ ∀ q ∈ L, free q.base) ∨ ∃ q, o = .threw q ∧ vx_T XC st q t mc ms free
/-- a callee that returns or throws -/
def vx_Met (l : Launch) (y : MethodName) (ws : List Cond) (rm : Room) (Pc : Array Value → State → Prop) (Qc : Array Value → State → Outcome → State → Prop) (XC : String → State → State → Prop) (mc ms : Nat) (free : Addr → Prop) : Prop :=
  MetFree l y (headSpec ws rm) Pc (fun _ _ _ _ _ => True) (vx_Q Qc XC mc ms free)
def vx_Post (XC : String → State → State → Prop) (mc ms : Nat) (free : Addr → Prop) : Pt → Array Value → Addr → Pt → Prop := fun A a q B =>
  ∃ (g : JFrame) (mk : MethodId) (t : State) (L : List Loc) (E : String) (ce : Cell), B.U.heap = t.heap ∧ B.U.vm = t.vm ∧ XC E (A.U.calling g mk a) t ∧ t.heap[q]? = some ce ∧ ce.vm = .none ∧ A.U.vm.findClass E = some ce.cls ∧ B.locs = A.locs ++ L ∧ (∀ z ∈ L, free z.base) ∧ B.cells = A.cells + mc ∧ B.slots = A.slots + ms
def vx_Back (l : Launch) (R : Room) (p : Program) (e : Env) (below : List Frame) (s : State) (sargs : Array Value) (y : MethodName) (len W9 : Nat)
    (Pre : Pt → Array Value → Prop) (Post : Pt → Array Value → Option Value → Pt → Prop) (PostX : Pt → Array Value → Addr → Pt → Prop) : Prop :=
  ∀ (m : MethodId) (meth : Method) (c : Code) (A : Pt) (g : JFrame) (ig : Instr) (mk : MethodId) (a : Array Value),
    Stand p l e R s m sargs below meth c A.U A.locs A.cells A.slots → g.method = m → g.locals.size = c.maxLocals → decode c.code g.pc = .ok (ig, len) →
    2 * g.monitorRoom + (g.stack.map fun v => v.category).sum ≤ W9 → A.U.methodNamed? y = some mk → Pre A a →
    (∃ (v : Option Value) (B : Pt), Stand p l e R s m sargs below meth c B.U B.locs B.cells B.slots ∧ Post A a v B ∧
      Steps p.tables e below (doInvoke e (A.U.setTop g) [] mk a).1 (B.U.setTop { g with pc := g.pc + len, stack := v.toList ++ g.stack })) ∨
    (∃ (q : Addr) (B : Pt), Stand p l e R s m sargs below meth c B.U B.locs B.cells B.slots ∧ PostX A a q B ∧
      Steps p.tables e below (doInvoke e (A.U.setTop g) [] mk a).1 ((B.U.setTop g).pushFrame (.throwing q)))
section Payer
variable {l : Launch} {R : Room} {p : Program} {e : Env} {below : List Frame} {s : State} {sargs : Array Value} {y : MethodName} {len W9 : Nat}
theorem vx_back {ws : List Cond} {rm : Room} {Pc : Array Value → State → Prop} {Qc : Array Value → State → Outcome → State → Prop} {XC : String → State → State → Prop} {mc ms : Nat} {free : Addr → Prop} {bytes : ByteArray} {maxL : Nat} {ret : Option FieldType}
    (hM : vx_Met l y ws rm Pc Qc XC mc ms free) (hblind : FrameBlind Pc) (hrc : rm.cells = mc) (hrs : rm.slots = ms)
    (hframes : rm.frames + 1 ≤ R.frames) (hlocals : W9 + (maxL + 11) + rm.locals ≤ R.locals)
    (hws : ∀ w ∈ ws, ∀ a' U, s.WarmedH U.vm → w.before a' U = true) (hcode : Cond.code y bytes maxL ret ∈ ws) (hinit : ∀ a' U, s.WarmedH U.vm → (Cond.initialized y.cls).before a' U = true) :
    vx_Back l R p e below s sargs y len W9 (PreOf R mc ms Pc) (PostOf Qc mc ms free) (vx_Post XC mc ms free) := by
  intro m meth c A g ig mk a X hg hsize hdg hW hn hp
  have h1 : (headSpec ws rm).pre.before a A.U = true := atoms_intro fun w hw => hws w hw _ _ X.warmed
  have h2 : (Cond.code y bytes maxL ret).before a A.U = true := hws _ hcode _ _ X.warmed
  have h3 : (Cond.initialized y.cls).before a A.U = true := hinit _ _ X.warmed
  have h4 : A.cells + (headSpec ws rm).room.cells ≤ R.cells := by rw [show (headSpec ws rm).room.cells = mc from hrc]; exact hp.1
  have h5 : A.slots + (headSpec ws rm).room.slots ≤ R.slots := by rw [show (headSpec ws rm).room.slots = ms from hrs]; exact hp.2.1
  have hPc : Pc a (A.U.calling g mk a) := hblind _ _ _ _ hp.2.2
  obtain ⟨U, Ls, c0, s0⟩ := A
  dsimp only [Pt.U, Pt.locs, Pt.cells, Pt.slots] at h1 h2 h3 h4 h5 X hn hPc ⊢
  obtain ⟨methY, cY, hmY, hcY, -, hlY, -, -, -, -⟩ := Cond.code_spec hn h2
  obtain ⟨kY, hkY, -⟩ := className_of_methodNamed hn
  have hinitY : kY.init = .initialized := Cond.initialized_spec (findClass_of_methodNamed hn) hkY h3
  have h : At U g.method c below := by rw [hg]; exact X.here
  have hlocals9 : W9 + (maxL + 11) + (headSpec ws rm).room.locals ≤ R.locals := hlocals
  have happ : (headSpec ws rm).appliesLoose y e.platform (U.calling g mk a) = true :=
    Spec.appliesLoose_calling (g := g) h hdg hn hkY hinitY
      (X.room_calling (g := g) (R' := (headSpec ws rm).room) hsize hmY hcY hframes (by rw [hlY]; omega) h4 h5) h1
  obtain ⟨mid, hmid⟩ := h.above
  have hfr : (U.setTop g).frames = (.java g :: mid) ++ below := by rw [State.frames_setTop' g h.top, hmid]; rfl
  obtain ⟨o, s₂, hsteps, -, hend, hq⟩ := Steps.callFree hM p X.admits X.cas X.clock (acts := []) hfr happ hPc trivial
  have hq' : vx_Q Qc XC mc ms free a (U.calling g mk a) o s₂ := hq
  rw [State.frames_setTop' g h.top] at hend
  obtain ⟨g₀, hg0⟩ := Option.isSome_iff_exists.mp h.top
  obtain ⟨r, hr⟩ := State.topJava?_eq_some.mp hg0
  have hr' : (({ U with heap := s₂.heap, slotsUsed := s₂.slotsUsed } : State).setVm s₂.vm).frames = .java g₀ :: r := hr
  rcases hq' with ⟨hqc, L, hfe, hL⟩ | ⟨q, rfl, E, ce, L, hx, hce, hcv, hcl, hW₂, hsm, hL⟩
  · obtain ⟨⟨v, rfl⟩, hW₂, e2, q2, q3, q4, q5, q6⟩ := id hfe
    have e3 : s₂ = ({ (U.calling g mk a).setFrames s₂.frames with heap := s₂.heap, slotsUsed := s₂.slotsUsed } : State).setVm s₂.vm := by
      have : s₂ = ({ s₂ with vm := (U.calling g mk a).vm } : State).setVm s₂.vm := rfl
      rw [e2] at this
      exact this
    obtain ⟨c₂, i₂, len₂, hc₂, hd₂, hf₂⟩ := hend
    have hW' : U.WarmedH s₂.vm := hW₂
    have hcc : c₂ = c := by
      have h1 : s₂.code? g.method = U.code? g.method := by
        rw [State.code?_eq, State.code?_eq, hW'.alike.method?]
      exact Option.some.inj (hc₂.symm.trans (h1.trans h.code))
    subst hcc
    have hlen : len₂ = len := by rw [hdg] at hd₂; cases hd₂; rfl
    subst hlen
    have hs₂ : s₂ = (({ U with heap := s₂.heap, slotsUsed := s₂.slotsUsed } : State).setVm s₂.vm).setTop { g with pc := g.pc + len₂, stack := v.toList ++ g.stack } := by
      refine e3.trans ?_
      rw [hf₂, State.calling_eq h.top, State.setFrames_setFrames, State.setTop_of_frames _ hr', hr]
      rfl
    have hsame : U.sameButNew ({ U with heap := s₂.heap, slotsUsed := s₂.slotsUsed } : State) L mc ms := by
      refine ⟨?_, q2, q3, q4, q5, q6⟩
      obtain ⟨t, ht, -⟩ := State.frames_cons hr
      show ({ U with heap := s₂.heap, slotsUsed := s₂.slotsUsed } : State) = { U.setFrames U.frames with heap := s₂.heap, slotsUsed := s₂.slotsUsed }
      rw [State.setFrames_self ht]
    subst hg
    refine Or.inl ⟨v, ⟨(({ U with heap := s₂.heap, slotsUsed := s₂.slotsUsed } : State).setVm s₂.vm), Ls ++ L, c0 + mc, s0 + ms⟩,
      ⟨X.admits, X.cas, X.clock, X.frames, X.room, X.hears, X.method, X.code, (X.here.setHeapUsed s₂.heap s₂.slotsUsed).setVm hW'.alike, X.tail, State.WarmedH.trans X.warmed hW', X.limits, X.bytes, X.same.trans (hsame.setVm s.vm)⟩,
      ⟨g, mk, s₂, L, rfl, rfl, hqc, rfl, hL, rfl, rfl⟩, ?_⟩
    show Steps p.tables e below _ ((({ U with heap := s₂.heap, slotsUsed := s₂.slotsUsed } : State).setVm s₂.vm).setTop { g with pc := g.pc + len₂, stack := v.toList ++ g.stack })
    rw [← hs₂]
    exact hsteps
  · obtain ⟨e2, q2, q3, q4, q5, q6⟩ := id hsm
    have e3 : s₂ = ({ (U.calling g mk a).setFrames s₂.frames with heap := s₂.heap, slotsUsed := s₂.slotsUsed } : State).setVm s₂.vm := by
      have : s₂ = ({ s₂ with vm := (U.calling g mk a).vm } : State).setVm s₂.vm := rfl
      rw [e2] at this
      exact this
    have hf₂ : s₂.frames = .throwing q :: .java g :: U.frames.tail := hend
    have hW' : U.WarmedH s₂.vm := hW₂
    have hs₂ : s₂ = ((({ U with heap := s₂.heap, slotsUsed := s₂.slotsUsed } : State).setVm s₂.vm).setTop g).pushFrame (.throwing q) := by
      refine e3.trans ?_
      rw [hf₂, State.calling_eq h.top, State.setFrames_setFrames, State.pushFrame, State.frames_setTop _ hr', State.setTop_of_frames _ hr', State.setFrames_setFrames, hr]
      rfl
    have hsame : U.sameButNew ({ U with heap := s₂.heap, slotsUsed := s₂.slotsUsed } : State) L mc ms := by
      refine ⟨?_, q2, q3, q4, q5, q6⟩
      obtain ⟨t, ht, -⟩ := State.frames_cons hr
      show ({ U with heap := s₂.heap, slotsUsed := s₂.slotsUsed } : State) = { U.setFrames U.frames with heap := s₂.heap, slotsUsed := s₂.slotsUsed }
      rw [State.setFrames_self ht]
    subst hg
    refine Or.inr ⟨q, ⟨(({ U with heap := s₂.heap, slotsUsed := s₂.slotsUsed } : State).setVm s₂.vm), Ls ++ L, c0 + mc, s0 + ms⟩,
      ⟨X.admits, X.cas, X.clock, X.frames, X.room, X.hears, X.method, X.code, (X.here.setHeapUsed s₂.heap s₂.slotsUsed).setVm hW'.alike, X.tail, State.WarmedH.trans X.warmed hW', X.limits, X.bytes, X.same.trans (hsame.setVm s.vm)⟩,
      ⟨g, mk, s₂, L, E, ce, rfl, rfl, hx, hce, hcv, hcl, rfl, hL, rfl, rfl⟩, ?_⟩
    show Steps p.tables e below _ (((({ U with heap := s₂.heap, slotsUsed := s₂.slotsUsed } : State).setVm s₂.vm).setTop g).pushFrame (.throwing q))
    rw [← hs₂]
    exact hsteps
end Payer
section Calls
variable {p : Program} {l : Launch} {e : Env} {R : Room} {s : State} {m : MethodId} {args : Array Value} {below : List Frame} {meth : Method} {c : Code} {T : State} {locs : List Loc} {cells slots : Nat}
theorem vx_callV (X : Stand p l e R s m args below meth c T locs cells slots) (hexec : p.tables.exec = Jvm.exec) {own C : String} {index : Nat} {y : MethodName} {bytes : ByteArray} {maxL : Nat} {ret : Option FieldType}
    (hown : s.vm.findClass own = some m.cls) (hlink : (Cond.methodLink own index y).before args s = true) (hinst : (Cond.instanceMethod y).before args s = true) (hsel : (Cond.selects C y y).before args s = true)
    (hcode : (Cond.code y bytes maxL ret).before args s = true) (hy : y.cls ≠ "java/lang/invoke/MethodHandle" ∧ y.cls ≠ "java/lang/invoke/VarHandle")
    {W9 : Nat} {Pre : Pt → Array Value → Prop} {Post : Pt → Array Value → Option Value → Pt → Prop} {PostX : Pt → Array Value → Addr → Pt → Prop} (hK : vx_Back l R p e below s args y 3 W9 Pre Post PostX)
    {b : Addr} {cellB : Cell} (hcell : T.heap[b]? = some cellB) (hobj : cellB.vm.isStatics = false) (hcls : s.vm.findClass C = some cellB.cls)
    {g : JFrame} (hg : g.method = m) (hsize : g.locals.size = c.maxLocals) {argsL rest : List Value} (hlen : ∀ sig, parseMethodDescriptor y.desc = some sig → argsL.length = sig.parameters.length)
    (hstack : g.stack = argsL.reverse ++ .ref b :: rest) (hW : 2 * g.monitorRoom + (rest.map fun v => v.category).sum ≤ W9) (hdg : decode c.code g.pc = .ok (.invokevirtual index, 3))
    (hpre : ∀ vm₁, s.WarmedH vm₁ → Pre ⟨T.setVm vm₁, locs, cells, slots⟩ (Value.ref b :: argsL).toArray) :
    (∃ (v : Option Value) (vm₁ : Vm) (B : Pt), s.WarmedH vm₁ ∧ Stand p l e R s m args below meth c B.U B.locs B.cells B.slots ∧ Post ⟨T.setVm vm₁, locs, cells, slots⟩ (Value.ref b :: argsL).toArray v B ∧
      ∀ target, Steps p.tables e below (B.U.setTop { g with pc := g.pc + 3, stack := v.toList ++ rest }) target → Steps p.tables e below (T.setTop g) target) ∨
    (∃ (q : Addr) (vm₁ : Vm) (B : Pt), s.WarmedH vm₁ ∧ Stand p l e R s m args below meth c B.U B.locs B.cells B.slots ∧ PostX ⟨T.setVm vm₁, locs, cells, slots⟩ (Value.ref b :: argsL).toArray q B ∧
      Steps p.tables e below (T.setTop g) ((B.U.setTop { g with stack := rest }).pushFrame (.throwing q))) := by
  obtain ⟨mk, methM, hnamed, hmethM, hstM, habM⟩ := Cond.instanceMethod_spec hinst
  obtain ⟨methM', cM, hmethM', -, -, -, -, -, -, hsigM⟩ := Cond.code_spec hnamed hcode
  cases hmethM.symm.trans hmethM'
  obtain ⟨c2, r2, m2, q1, q2, q3, q4, kP, hkP, hkPi⟩ := Cond.selects_spec hsel
  cases hcls.symm.trans q1
  cases (State.methodFound?_of_named hnamed hy).symm.trans q2
  cases hnamed.symm.trans q3
  have hselP : selectMethod e.platform s.vm cellB.cls mk = .method mk := by rw [Launch.admits_selectMethod X.admits]; exact q4
  obtain ⟨vm₁, X₁, hstep₁⟩ := X.invokevirtual hexec hown hlink hnamed hmethM hstM hkP hkPi hy (a := b) (cell := cellB) hcell
    (fun z h => by rw [h] at hobj; cases hobj) hselP hmethM habM hkP hkPi (g := g) hg (argsL := argsL) (rest := rest) (hlen _ hsigM) hstack hdg
  rcases hK m meth c ⟨T.setVm vm₁, locs, cells, slots⟩ { g with stack := rest } (.invokevirtual index) mk (Value.ref b :: argsL).toArray X₁ hg hsize hdg hW (X₁.named hnamed) (hpre vm₁ X₁.warmed) with ⟨v, B, X', hpost, hsteps⟩ | ⟨q, B, X', hpost, hsteps⟩
  · exact Or.inl ⟨v, vm₁, B, X₁.warmed, X', hpost, fun target h => hstep₁ _ fun acts => by rw [doInvoke_state]; exact hsteps.trans h⟩
  · exact Or.inr ⟨q, vm₁, B, X₁.warmed, X', hpost, hstep₁ _ fun acts => by rw [doInvoke_state]; exact hsteps⟩
theorem vx_callS (X : Stand p l e R s m args below meth c T locs cells slots) (hexec : p.tables.exec = Jvm.exec) {own : String} {index : Nat} {y : MethodName} {bytes : ByteArray} {maxL : Nat} {ret : Option FieldType}
    (hown : s.vm.findClass own = some m.cls) (hlink : (Cond.methodLink own index y).before args s = true) (hstat : (Cond.static y).before args s = true) (hinit : (Cond.initialized y.cls).before args s = true)
    (hcode : (Cond.code y bytes maxL ret).before args s = true) (hy : y.cls ≠ "java/lang/invoke/MethodHandle" ∧ y.cls ≠ "java/lang/invoke/VarHandle")
    {W9 : Nat} {Pre : Pt → Array Value → Prop} {Post : Pt → Array Value → Option Value → Pt → Prop} {PostX : Pt → Array Value → Addr → Pt → Prop} (hK : vx_Back l R p e below s args y 3 W9 Pre Post PostX)
    {g : JFrame} (hg : g.method = m) (hsize : g.locals.size = c.maxLocals) {argsL rest : List Value} (hlen : ∀ sig, parseMethodDescriptor y.desc = some sig → argsL.length = sig.parameters.length)
    (hstack : g.stack = argsL.reverse ++ rest) (hW : 2 * g.monitorRoom + (rest.map fun v => v.category).sum ≤ W9) (hdg : decode c.code g.pc = .ok (.invokestatic index, 3))
    (hpre : ∀ vm₁, s.WarmedH vm₁ → Pre ⟨T.setVm vm₁, locs, cells, slots⟩ argsL.toArray) :
    (∃ (v : Option Value) (vm₁ : Vm) (B : Pt), s.WarmedH vm₁ ∧ Stand p l e R s m args below meth c B.U B.locs B.cells B.slots ∧ Post ⟨T.setVm vm₁, locs, cells, slots⟩ argsL.toArray v B ∧
      ∀ target, Steps p.tables e below (B.U.setTop { g with pc := g.pc + 3, stack := v.toList ++ rest }) target → Steps p.tables e below (T.setTop g) target) ∨
    (∃ (q : Addr) (vm₁ : Vm) (B : Pt), s.WarmedH vm₁ ∧ Stand p l e R s m args below meth c B.U B.locs B.cells B.slots ∧ PostX ⟨T.setVm vm₁, locs, cells, slots⟩ argsL.toArray q B ∧
      Steps p.tables e below (T.setTop g) ((B.U.setTop { g with stack := rest }).pushFrame (.throwing q))) := by
  obtain ⟨mk, hnamed⟩ := Cond.code_named hcode
  obtain ⟨methM, cM, hmethM, -, -, -, -, -, -, hsigM⟩ := Cond.code_spec hnamed hcode
  have hstatic : methM.isStatic = true := Cond.static_spec hnamed hmethM hstat
  obtain ⟨kP, hkP, -⟩ := className_of_methodNamed hnamed
  have hinitP : kP.init = .initialized := Cond.initialized_spec (findClass_of_methodNamed hnamed) hkP hinit
  obtain ⟨vm₁, X₁, hstep₁⟩ := X.invokestatic hexec hown hlink hnamed hmethM hstatic hkP hinitP hy (g := g) hg (argsL := argsL) (rest := rest) (hlen _ hsigM) hstack hdg
  rcases hK m meth c ⟨T.setVm vm₁, locs, cells, slots⟩ { g with stack := rest } (.invokestatic index) mk argsL.toArray X₁ hg hsize hdg hW (X₁.named hnamed) (hpre vm₁ X₁.warmed) with ⟨v, B, X', hpost, hsteps⟩ | ⟨q, B, X', hpost, hsteps⟩
  · exact Or.inl ⟨v, vm₁, B, X₁.warmed, X', hpost, fun target h => hstep₁ _ fun acts => by rw [doInvoke_state]; exact hsteps.trans h⟩
  · exact Or.inr ⟨q, vm₁, B, X₁.warmed, X', hpost, hstep₁ _ fun acts => by rw [doInvoke_state]; exact hsteps⟩
end Calls
theorem vx_cls {s : State} {T : State} {vm₁ : Vm} {E : String} {k : ClassId} (hW : s.WarmedH vm₁) (h : (T.setVm vm₁).vm.findClass E = some k) : s.vm.findClass E = some k := by
  have h1 : vm₁.findClass E = some k := h
  rw [hW.alike.findClass] at h1
  exact h1
/-- the method's frame g, with q thrown over it -/
def vx_W (p : Program) (l : Launch) (e : Env) (R : Room) (s : State) (m : MethodId) (args : Array Value) (below : List Frame) (meth : Method) (c : Code) (H : Heap) (locs : List Loc) (cells slots : Nat) (Q : State → Prop) (g : JFrame) (q : Addr) : Prop :=
  ∀ T : State, T.heap = H → Stand p l e R s m args below meth c T locs cells slots → ∃ t, Steps p.tables e below ((T.setTop g).pushFrame (.throwing q)) t ∧ Q t
def vx_Run (p : Program) (l : Launch) (e : Env) (R : Room) (s : State) (m : MethodId) (args : Array Value) (below : List Frame) (meth : Method) (c : Code) (H : Heap) (locs : List Loc) (cells slots mc ms : Nat) (g : JFrame) (rest : List Value) (Qa : State → Outcome → State → Prop) (XC : String → State → State → Prop) (free : Addr → Prop) : Prop :=
  ∀ T : State, T.heap = H → Stand p l e R s m args below meth c T locs cells slots →
    (∃ (v : Option Value) (st₀ t T' : State) (L : List Loc), st₀.heap = H ∧ Stand p l e R s m args below meth c T' (locs ++ L) (cells + mc) (slots + ms) ∧ (∀ q ∈ L, free q.base) ∧ T'.heap = t.heap ∧ T'.vm = t.vm ∧ Qa st₀ (.returned v) t ∧
      Goes p e below T g T' { g with pc := g.pc + 3, stack := v.toList ++ rest }) ∨
    (∃ (q : Addr) (st₀ t T' : State) (L : List Loc) (E : String) (ce : Cell), st₀.heap = H ∧ Stand p l e R s m args below meth c T' (locs ++ L) (cells + mc) (slots + ms) ∧ (∀ z ∈ L, free z.base) ∧ T'.heap = t.heap ∧ T'.vm = t.vm ∧ XC E st₀ t ∧ t.heap[q]? = some ce ∧ ce.vm = .none ∧ s.vm.findClass E = some ce.cls ∧
      Steps p.tables e below (T.setTop g) ((T'.setTop { g with stack := rest }).pushFrame (.throwing q)))
def vx_X {S : Type} (px : S → Prop) (B : String → S → State → Prop) (A : Nat → Prop) : String → State → State → Prop := fun E st t => ∃ u : S, px u ∧ B E u t ∧ va_F A st t
section Runs
variable {p : Program} {l : Launch} {e : Env} {R : Room} {s : State} {m : MethodId} {args : Array Value} {below : List Frame} {meth : Method} {c : Code} {H : Heap} {locs : List Loc} {cells slots : Nat}
variable {y : MethodName} {bytes cc : ByteArray} {maxL nL mc ms n index : Nat} {ret : Option FieldType} {ws : List Cond} {rm : Room} {Pc : Array Value → State → Prop} {Qc : Array Value → State → Outcome → State → Prop} {XC : String → State → State → Prop} {free : Addr → Prop} {Ts : List Cond} {own C : String} {b : Addr} {As rest : List Value} {g : JFrame}
theorem vx_callBack (cb : CallB R s args own index y bytes maxL ret ws rm mc ms n) (hM : vx_Met l y ws rm Pc Qc XC mc ms free) (hbl : FrameBlind Pc) : vx_Back l R p e below s args y 3 8 (PreOf R mc ms Pc) (PostOf Qc mc ms free) (vx_Post XC mc ms free) := by
  obtain ⟨hrc, hrs, hfr, hlo, hws, hcw, -, hini, -⟩ := cb
  exact vx_back (bytes := bytes) (maxL := maxL) (ret := ret) hM hbl hrc hrs hfr hlo hws hcw (fun a' U hW => word_at hW (Or.inl (by first | rfl | simp [Cond.onTables, Cond.keeps, Cond.steady])) hini)
theorem vx_runV (S : CallFix p m c cc nL s args Ts own) (hM : vx_Met l y ws rm Pc Qc XC mc ms free) (cw : CallW R s args own C index y bytes maxL ret ws rm mc ms n) (hp : PreV s H C b Pc As)
    (hg : g.method = m) (hn : As.length = n) (hsize : g.locals.size = nL) (hstack : g.stack = As.reverse ++ .ref b :: rest) (hW : 2 * g.monitorRoom + (rest.map fun v => v.category).sum ≤ 8) (hdg : decode cc g.pc = .ok (.invokevirtual index, 3)) (hf : cells + mc ≤ R.cells ∧ slots + ms ≤ R.slots) :
    vx_Run p l e R s m args below meth c H locs cells slots mc ms g rest (Qc (Value.ref b :: As).toArray) XC free := by
  have hK : vx_Back l R p e below s args y 3 8 (PreOf R mc ms Pc) (PostOf Qc mc ms free) (vx_Post XC mc ms free) := vx_callBack cw.1 hM hp.1
  obtain ⟨⟨-, -, -, -, -, -, hcode, -, hy, hlen, hl⟩, hin, hse⟩ := cw
  obtain ⟨hx, hb, hml, ho, -⟩ := S
  obtain ⟨-, ⟨cellB, hcB, hoB, hclB⟩, hPc⟩ := hp
  intro T hT X
  rcases vx_callV X hx (C := C) (bytes := bytes) (maxL := maxL) (ret := ret) ho hl hin hse hcode hy hK (by rw [hT]; exact hcB) hoB hclB hg (hsize.trans hml.symm) (argsL := As) (rest := rest) (fun sig h => hn.trans (hlen sig h)) hstack hW (by rw [hb]; exact hdg)
    (fun vm₁ hW₁ => ⟨hf.1, hf.2, hPc (T.setVm vm₁) hT hW₁⟩) with ⟨v, vm₁, ⟨U', l2, c2, s2⟩, hW₁, X', ⟨g', mk, t, L, e1, e2, hq, h1, hL, h2, h3⟩, st⟩ | ⟨q, vm₁, ⟨U', l2, c2, s2⟩, hW₁, X', ⟨g', mk, t, L, E, ce, e1, e2, hq, hce, hcv, hcl, h1, hL, h2, h3⟩, st⟩
  · dsimp only [Pt.U, Pt.locs, Pt.cells, Pt.slots] at X' e1 e2 h1 h2 h3 st
    subst h1; subst h2; subst h3
    exact Or.inl ⟨v, (T.setVm vm₁).calling g' mk (Value.ref b :: As).toArray, t, U', L, hT, X', hL, e1, e2, hq, st⟩
  · dsimp only [Pt.U, Pt.locs, Pt.cells, Pt.slots] at X' e1 e2 h1 h2 h3 st hcl
    subst h1; subst h2; subst h3
    exact Or.inr ⟨q, (T.setVm vm₁).calling g' mk (Value.ref b :: As).toArray, t, U', L, E, ce, hT, X', hL, e1, e2, hq, hce, hcv, vx_cls hW₁ hcl, st⟩
theorem vx_runS (S : CallFix p m c cc nL s args Ts own) (hM : vx_Met l y ws rm Pc Qc XC mc ms free) (cw : CallB R s args own index y bytes maxL ret ws rm mc ms n ∧ (Cond.static y).before args s = true) (hp : PreS s H Pc As)
    (hg : g.method = m) (hn : As.length = n) (hsize : g.locals.size = nL) (hstack : g.stack = As.reverse ++ rest) (hW : 2 * g.monitorRoom + (rest.map fun v => v.category).sum ≤ 8) (hdg : decode cc g.pc = .ok (.invokestatic index, 3)) (hf : cells + mc ≤ R.cells ∧ slots + ms ≤ R.slots) :
    vx_Run p l e R s m args below meth c H locs cells slots mc ms g rest (Qc As.toArray) XC free := by
  have hK : vx_Back l R p e below s args y 3 8 (PreOf R mc ms Pc) (PostOf Qc mc ms free) (vx_Post XC mc ms free) := vx_callBack cw.1 hM hp.1
  obtain ⟨⟨-, -, -, -, -, -, hcode, hini, hy, hlen, hl⟩, hstt⟩ := cw
  obtain ⟨hx, hb, hml, ho, -⟩ := S
  intro T hT X
  rcases vx_callS X hx (bytes := bytes) (maxL := maxL) (ret := ret) ho hl hstt hini hcode hy hK hg (hsize.trans hml.symm) (argsL := As) (rest := rest) (fun sig h => hn.trans (hlen sig h)) hstack hW (by rw [hb]; exact hdg)
    (fun vm₁ hW₁ => ⟨hf.1, hf.2, hp.2 (T.setVm vm₁) hT hW₁⟩) with ⟨v, vm₁, ⟨U', l2, c2, s2⟩, hW₁, X', ⟨g', mk, t, L, e1, e2, hq, h1, hL, h2, h3⟩, st⟩ | ⟨q, vm₁, ⟨U', l2, c2, s2⟩, hW₁, X', ⟨g', mk, t, L, E, ce, e1, e2, hq, hce, hcv, hcl, h1, hL, h2, h3⟩, st⟩
  · dsimp only [Pt.U, Pt.locs, Pt.cells, Pt.slots] at X' e1 e2 h1 h2 h3 st
    subst h1; subst h2; subst h3
    exact Or.inl ⟨v, (T.setVm vm₁).calling g' mk As.toArray, t, U', L, hT, X', hL, e1, e2, hq, st⟩
  · dsimp only [Pt.U, Pt.locs, Pt.cells, Pt.slots] at X' e1 e2 h1 h2 h3 st hcl
    subst h1; subst h2; subst h3
    exact Or.inr ⟨q, (T.setVm vm₁).calling g' mk As.toArray, t, U', L, E, ce, hT, X', hL, e1, e2, hq, hce, hcv, vx_cls hW₁ hcl, st⟩
end Runs
section Rows
variable {p : Program} {l : Launch} {e : Env} {R : Room} {s : State} {m : MethodId} {args : Array Value} {below : List Frame} {meth : Method} {c : Code} {H : Heap} {locs : List Loc} {cells slots : Nat} {Q : State → Prop}
variable {mc ms : Nat} {free : Addr → Prop} {A0 A1 : Nat → Prop} {H0 : Heap} {a : Array Value} {pc : Nat} {ls : Array Slot} {st0 rest : List Value}
theorem vx_keep {st₀ t T' : State} {L : List Loc} (h0 : st₀.heap = H) (e1 : T'.heap = t.heap) (hS : va_S A0 H0 H locs) (hA : ∀ q, q < H.size → A1 q → A0 q) (hf : ∀ q, free q → A0 q) (hL : ∀ q ∈ L, free q.base) (hF : va_F A1 st₀ t) :
    H.size ≤ T'.heap.size ∧ (∀ q : Nat, q < H.size → ¬ A1 q → T'.heap[q]? = H[q]?) ∧ va_S A0 H0 T'.heap (locs ++ L) := by
  obtain ⟨hz, hk⟩ := hF
  rw [h0] at hz hk
  exact ⟨by rw [e1]; exact hz, fun q h1 h2 => by rw [e1]; exact hk q h1 h2,
    ⟨Nat.le_trans hS.1 (by rw [e1]; exact hz), fun q h1 h2 => by rw [e1, hk q (Nat.lt_of_lt_of_le h1 hS.1) (fun z => h2 (hA q (Nat.lt_of_lt_of_le h1 hS.1) z))]; exact hS.2.1 q h1 h2, fun q hq => by
      rcases List.mem_append.mp hq with h | h
      · exact hS.2.2 q h
      · exact hf _ (hL q h)⟩⟩
theorem vx_calli {S SX : Type} {post : Int32 → S → Prop} {px : SX → Prop} {B : S → State → Prop} {BX : String → SX → State → Prop} {AX : Nat → Prop} (hr : vx_Run p l e R s m args below meth c H locs cells slots mc ms (F0 m pc ls st0) rest (va_Qi post B A1 a) (vx_X px BX AX) free) (hS : va_S A0 H0 H locs) (hA : ∀ q, q < H.size → A1 q → A0 q) (hf : ∀ q, free q → A0 q) (hAX : ∀ q, q < H.size → AX q → A0 q)
    (kx : ∀ (E : String) (ce : Cell) (q9 : Addr) (u : SX) (t : State) (H1 : Heap) (locs1 : List Loc), t.heap = H1 → s.vm.Alike t.vm → px u → BX E u t → H.size ≤ H1.size → (∀ q : Nat, q < H.size → ¬ AX q → H1[q]? = H[q]?) → va_S A0 H0 H1 locs1 → H1[q9]? = some ce → ce.vm = .none → s.vm.findClass E = some ce.cls → vx_W p l e R s m args below meth c H1 locs1 (cells + mc) (slots + ms) Q (F0 m pc ls rest) q9)
    (kk : ∀ (r : Int32) (u : S) (t : State) (H1 : Heap) (locs1 : List Loc), t.heap = H1 → s.vm.Alike t.vm → post r u → B u t → H.size ≤ H1.size → (∀ q : Nat, q < H.size → ¬ A1 q → H1[q]? = H[q]?) → va_S A0 H0 H1 locs1 → W p l e R s m args below meth c H1 locs1 (cells + mc) (slots + ms) Q (F0 m (pc + 3) ls (.int r :: rest))) : W p l e R s m args below meth c H locs cells slots Q (F0 m pc ls st0) := by
  intro T hT X
  rcases hr T hT X with ⟨v, st₀, t, T', L, h0, X', hL, e1, e2, ⟨⟨r, u, hv, hp, hb⟩, hF⟩, st⟩ | ⟨q, st₀, t, T', L, E, ce, h0, X', hL, e1, e2, ⟨u, hp, hb, hF⟩, hce, hcv, hcl, st⟩
  · cases hv
    obtain ⟨k1, k2, k3⟩ := vx_keep h0 e1 hS hA hf hL hF
    obtain ⟨t2, a1, b1⟩ := kk r u t T'.heap (locs ++ L) e1.symm (by rw [← e2]; exact X'.warmed.alike) hp hb k1 k2 k3 T' rfl X'
    exact ⟨t2, st t2 a1, b1⟩
  · obtain ⟨k1, k2, k3⟩ := vx_keep h0 e1 hS hAX hf hL hF
    obtain ⟨t2, a1, b1⟩ := kx E ce q u t T'.heap (locs ++ L) e1.symm (by rw [← e2]; exact X'.warmed.alike) hp hb k1 k2 k3 (by rw [e1]; exact hce) hcv hcl T' rfl X'
    exact ⟨t2, st.trans a1, b1⟩
theorem vx_calll {S SX : Type} {post : Int64 → S → Prop} {px : SX → Prop} {B : S → State → Prop} {BX : String → SX → State → Prop} {AX : Nat → Prop} (hr : vx_Run p l e R s m args below meth c H locs cells slots mc ms (F0 m pc ls st0) rest (va_Ql post B A1 a) (vx_X px BX AX) free) (hS : va_S A0 H0 H locs) (hA : ∀ q, q < H.size → A1 q → A0 q) (hf : ∀ q, free q → A0 q) (hAX : ∀ q, q < H.size → AX q → A0 q)
    (kx : ∀ (E : String) (ce : Cell) (q9 : Addr) (u : SX) (t : State) (H1 : Heap) (locs1 : List Loc), t.heap = H1 → s.vm.Alike t.vm → px u → BX E u t → H.size ≤ H1.size → (∀ q : Nat, q < H.size → ¬ AX q → H1[q]? = H[q]?) → va_S A0 H0 H1 locs1 → H1[q9]? = some ce → ce.vm = .none → s.vm.findClass E = some ce.cls → vx_W p l e R s m args below meth c H1 locs1 (cells + mc) (slots + ms) Q (F0 m pc ls rest) q9)
    (kk : ∀ (r : Int64) (u : S) (t : State) (H1 : Heap) (locs1 : List Loc), t.heap = H1 → s.vm.Alike t.vm → post r u → B u t → H.size ≤ H1.size → (∀ q : Nat, q < H.size → ¬ A1 q → H1[q]? = H[q]?) → va_S A0 H0 H1 locs1 → W p l e R s m args below meth c H1 locs1 (cells + mc) (slots + ms) Q (F0 m (pc + 3) ls (.long r :: rest))) : W p l e R s m args below meth c H locs cells slots Q (F0 m pc ls st0) := by
  intro T hT X
  rcases hr T hT X with ⟨v, st₀, t, T', L, h0, X', hL, e1, e2, ⟨⟨r, u, hv, hp, hb⟩, hF⟩, st⟩ | ⟨q, st₀, t, T', L, E, ce, h0, X', hL, e1, e2, ⟨u, hp, hb, hF⟩, hce, hcv, hcl, st⟩
  · cases hv
    obtain ⟨k1, k2, k3⟩ := vx_keep h0 e1 hS hA hf hL hF
    obtain ⟨t2, a1, b1⟩ := kk r u t T'.heap (locs ++ L) e1.symm (by rw [← e2]; exact X'.warmed.alike) hp hb k1 k2 k3 T' rfl X'
    exact ⟨t2, st t2 a1, b1⟩
  · obtain ⟨k1, k2, k3⟩ := vx_keep h0 e1 hS hAX hf hL hF
    obtain ⟨t2, a1, b1⟩ := kx E ce q u t T'.heap (locs ++ L) e1.symm (by rw [← e2]; exact X'.warmed.alike) hp hb k1 k2 k3 (by rw [e1]; exact hce) hcv hcl T' rfl X'
    exact ⟨t2, st.trans a1, b1⟩
theorem vx_callf {S SX : Type} {post : UInt32 → S → Prop} {px : SX → Prop} {B : S → State → Prop} {BX : String → SX → State → Prop} {AX : Nat → Prop} (hr : vx_Run p l e R s m args below meth c H locs cells slots mc ms (F0 m pc ls st0) rest (va_Qf post B A1 a) (vx_X px BX AX) free) (hS : va_S A0 H0 H locs) (hA : ∀ q, q < H.size → A1 q → A0 q) (hf : ∀ q, free q → A0 q) (hAX : ∀ q, q < H.size → AX q → A0 q)
    (kx : ∀ (E : String) (ce : Cell) (q9 : Addr) (u : SX) (t : State) (H1 : Heap) (locs1 : List Loc), t.heap = H1 → s.vm.Alike t.vm → px u → BX E u t → H.size ≤ H1.size → (∀ q : Nat, q < H.size → ¬ AX q → H1[q]? = H[q]?) → va_S A0 H0 H1 locs1 → H1[q9]? = some ce → ce.vm = .none → s.vm.findClass E = some ce.cls → vx_W p l e R s m args below meth c H1 locs1 (cells + mc) (slots + ms) Q (F0 m pc ls rest) q9)
    (kk : ∀ (r : UInt32) (u : S) (t : State) (H1 : Heap) (locs1 : List Loc), t.heap = H1 → s.vm.Alike t.vm → post r u → B u t → H.size ≤ H1.size → (∀ q : Nat, q < H.size → ¬ A1 q → H1[q]? = H[q]?) → va_S A0 H0 H1 locs1 → W p l e R s m args below meth c H1 locs1 (cells + mc) (slots + ms) Q (F0 m (pc + 3) ls (.float r :: rest))) : W p l e R s m args below meth c H locs cells slots Q (F0 m pc ls st0) := by
  intro T hT X
  rcases hr T hT X with ⟨v, st₀, t, T', L, h0, X', hL, e1, e2, ⟨⟨r, u, hv, hp, hb⟩, hF⟩, st⟩ | ⟨q, st₀, t, T', L, E, ce, h0, X', hL, e1, e2, ⟨u, hp, hb, hF⟩, hce, hcv, hcl, st⟩
  · cases hv
    obtain ⟨k1, k2, k3⟩ := vx_keep h0 e1 hS hA hf hL hF
    obtain ⟨t2, a1, b1⟩ := kk r u t T'.heap (locs ++ L) e1.symm (by rw [← e2]; exact X'.warmed.alike) hp hb k1 k2 k3 T' rfl X'
    exact ⟨t2, st t2 a1, b1⟩
  · obtain ⟨k1, k2, k3⟩ := vx_keep h0 e1 hS hAX hf hL hF
    obtain ⟨t2, a1, b1⟩ := kx E ce q u t T'.heap (locs ++ L) e1.symm (by rw [← e2]; exact X'.warmed.alike) hp hb k1 k2 k3 (by rw [e1]; exact hce) hcv hcl T' rfl X'
    exact ⟨t2, st.trans a1, b1⟩
theorem vx_calld {S SX : Type} {post : UInt64 → S → Prop} {px : SX → Prop} {B : S → State → Prop} {BX : String → SX → State → Prop} {AX : Nat → Prop} (hr : vx_Run p l e R s m args below meth c H locs cells slots mc ms (F0 m pc ls st0) rest (va_Qd post B A1 a) (vx_X px BX AX) free) (hS : va_S A0 H0 H locs) (hA : ∀ q, q < H.size → A1 q → A0 q) (hf : ∀ q, free q → A0 q) (hAX : ∀ q, q < H.size → AX q → A0 q)
    (kx : ∀ (E : String) (ce : Cell) (q9 : Addr) (u : SX) (t : State) (H1 : Heap) (locs1 : List Loc), t.heap = H1 → s.vm.Alike t.vm → px u → BX E u t → H.size ≤ H1.size → (∀ q : Nat, q < H.size → ¬ AX q → H1[q]? = H[q]?) → va_S A0 H0 H1 locs1 → H1[q9]? = some ce → ce.vm = .none → s.vm.findClass E = some ce.cls → vx_W p l e R s m args below meth c H1 locs1 (cells + mc) (slots + ms) Q (F0 m pc ls rest) q9)
    (kk : ∀ (r : UInt64) (u : S) (t : State) (H1 : Heap) (locs1 : List Loc), t.heap = H1 → s.vm.Alike t.vm → post r u → B u t → H.size ≤ H1.size → (∀ q : Nat, q < H.size → ¬ A1 q → H1[q]? = H[q]?) → va_S A0 H0 H1 locs1 → W p l e R s m args below meth c H1 locs1 (cells + mc) (slots + ms) Q (F0 m (pc + 3) ls (.double r :: rest))) : W p l e R s m args below meth c H locs cells slots Q (F0 m pc ls st0) := by
  intro T hT X
  rcases hr T hT X with ⟨v, st₀, t, T', L, h0, X', hL, e1, e2, ⟨⟨r, u, hv, hp, hb⟩, hF⟩, st⟩ | ⟨q, st₀, t, T', L, E, ce, h0, X', hL, e1, e2, ⟨u, hp, hb, hF⟩, hce, hcv, hcl, st⟩
  · cases hv
    obtain ⟨k1, k2, k3⟩ := vx_keep h0 e1 hS hA hf hL hF
    obtain ⟨t2, a1, b1⟩ := kk r u t T'.heap (locs ++ L) e1.symm (by rw [← e2]; exact X'.warmed.alike) hp hb k1 k2 k3 T' rfl X'
    exact ⟨t2, st t2 a1, b1⟩
  · obtain ⟨k1, k2, k3⟩ := vx_keep h0 e1 hS hAX hf hL hF
    obtain ⟨t2, a1, b1⟩ := kx E ce q u t T'.heap (locs ++ L) e1.symm (by rw [← e2]; exact X'.warmed.alike) hp hb k1 k2 k3 (by rw [e1]; exact hce) hcv hcl T' rfl X'
    exact ⟨t2, st.trans a1, b1⟩
theorem vx_callv {S SX : Type} {post : S → Prop} {px : SX → Prop} {B : S → State → Prop} {BX : String → SX → State → Prop} {AX : Nat → Prop} (hr : vx_Run p l e R s m args below meth c H locs cells slots mc ms (F0 m pc ls st0) rest (va_Qv post B A1 a) (vx_X px BX AX) free) (hS : va_S A0 H0 H locs) (hA : ∀ q, q < H.size → A1 q → A0 q) (hf : ∀ q, free q → A0 q) (hAX : ∀ q, q < H.size → AX q → A0 q)
    (kx : ∀ (E : String) (ce : Cell) (q9 : Addr) (u : SX) (t : State) (H1 : Heap) (locs1 : List Loc), t.heap = H1 → s.vm.Alike t.vm → px u → BX E u t → H.size ≤ H1.size → (∀ q : Nat, q < H.size → ¬ AX q → H1[q]? = H[q]?) → va_S A0 H0 H1 locs1 → H1[q9]? = some ce → ce.vm = .none → s.vm.findClass E = some ce.cls → vx_W p l e R s m args below meth c H1 locs1 (cells + mc) (slots + ms) Q (F0 m pc ls rest) q9)
    (kk : ∀ (u : S) (t : State) (H1 : Heap) (locs1 : List Loc), t.heap = H1 → s.vm.Alike t.vm → post u → B u t → H.size ≤ H1.size → (∀ q : Nat, q < H.size → ¬ A1 q → H1[q]? = H[q]?) → va_S A0 H0 H1 locs1 → W p l e R s m args below meth c H1 locs1 (cells + mc) (slots + ms) Q (F0 m (pc + 3) ls (rest))) : W p l e R s m args below meth c H locs cells slots Q (F0 m pc ls st0) := by
  intro T hT X
  rcases hr T hT X with ⟨v, st₀, t, T', L, h0, X', hL, e1, e2, ⟨⟨u, hv, hp, hb⟩, hF⟩, st⟩ | ⟨q, st₀, t, T', L, E, ce, h0, X', hL, e1, e2, ⟨u, hp, hb, hF⟩, hce, hcv, hcl, st⟩
  · cases hv
    obtain ⟨k1, k2, k3⟩ := vx_keep h0 e1 hS hA hf hL hF
    obtain ⟨t2, a1, b1⟩ := kk u t T'.heap (locs ++ L) e1.symm (by rw [← e2]; exact X'.warmed.alike) hp hb k1 k2 k3 T' rfl X'
    exact ⟨t2, st t2 a1, b1⟩
  · obtain ⟨k1, k2, k3⟩ := vx_keep h0 e1 hS hAX hf hL hF
    obtain ⟨t2, a1, b1⟩ := kx E ce q u t T'.heap (locs ++ L) e1.symm (by rw [← e2]; exact X'.warmed.alike) hp hb k1 k2 k3 (by rw [e1]; exact hce) hcv hcl T' rfl X'
    exact ⟨t2, st.trans a1, b1⟩
/-- caught by the row x of this method's table; the rows ahead don't take it -/
theorem vx_catch {own name : String} {E : String} {ce : Cell} {q : Addr} (hown : s.vm.findClass own = some m.cls) (pre : List ExceptionTableEntry) (x : ExceptionTableEntry) (suf : List ExceptionTableEntry) (hsplit : c.exceptionTable.toList = pre ++ x :: suf)
    (hpass : ∀ z ∈ pre, covers z pc = false ∨ (z.catchType ≠ 0 ∧ ∃ nm : String, (Cond.classLink own z.catchType nm).before args s = true ∧ va_Nc E nm s)) (hx : covers x pc = true) (h0 : x.catchType ≠ 0)
    (hlink : (Cond.classLink own x.catchType name).before args s = true) (hcast : (Cond.castable E name).before args s = true) (hcell : H[q]? = some ce) (hv : ce.vm = .none) (hcl : s.vm.findClass E = some ce.cls)
    (kk : W p l e R s m args below meth c H locs cells slots Q (F0 m x.handlerPc ls [.ref q])) : vx_W p l e R s m args below meth c H locs cells slots Q (F0 m pc ls rest) q := by
  intro T hT X
  have hpl : e.platform.magicAccessors = ({} : Platform).magicAccessors := by rw [X.admits.platform]
  obtain ⟨c3, c4, hc3, hc4, hasg⟩ := Cond.castable_spec hcast
  cases Option.some.inj (hc3.symm.trans hcl)
  obtain ⟨c5, hc5, hcl5⟩ := Cond.classLink_spec hown hlink e.platform hpl
  cases Option.some.inj (hc4.symm.trans hc5)
  obtain ⟨vm', X', st⟩ := X.thenCaughtThrough q (g := F0 m pc ls rest) rfl (Steps.refl _) (by rw [hT]; exact hcell) (by rw [hv]; rfl) (by obtain ⟨k9, h9, -⟩ := Vm.findClass_spec hcl; exact ⟨k9, h9⟩) pre x suf hsplit
    (fun z hz => by
      rcases hpass z hz with h | ⟨hz0, nm, hl1, hn1⟩
      · exact Or.inl h
      · obtain ⟨c6, hc6, hcl6⟩ := Cond.classLink_spec hown hl1 e.platform hpl
        obtain ⟨a8, b8, h1, h2, h3⟩ := hn1
        cases Option.some.inj (h1.symm.trans hcl)
        cases Option.some.inj (h2.symm.trans hc6)
        exact Or.inr ⟨hz0, _, hcl6, h3⟩) hx (Or.inr ⟨h0, c4, hcl5, hasg⟩)
  obtain ⟨t, a1, b1⟩ := kk (T.setVm vm') hT X'
  exact ⟨t, st.trans a1, b1⟩
end Rows
section Ends
variable {p : Program} {l : Launch} {e : Env} {R : Room} {s : State} {m : MethodId} {args : Array Value} {below : List Frame} {meth : Method} {c : Code} {H : Heap} {locs : List Loc} {cells slots : Nat} {Q : State → Prop}
variable {mc ms : Nat} {free : Addr → Prop} {A0 A1 : Nat → Prop} {H0 : Heap} {a : Array Value} {ls : Array Slot} {st0 rest : List Value}
variable {Qc : Array Value → State → Outcome → State → Prop} {XC : String → State → State → Prop}
/-- what a body that may throw owes at its end -/
def vx_MQ (below : List Frame) (Qc : Array Value → State → Outcome → State → Prop) (XC : String → State → State → Prop) (a : Array Value) (s : State) (mc ms : Nat) (free : Addr → Prop) : State → Prop := fun t =>
  ∃ o, t.status = .running ∧ Ended t below o ∧ vx_Q Qc XC mc ms free a s o t
theorem vx_ret {g : JFrame} {mc ms : Nat} (k : W p l e R s m args below meth c H locs cells slots (MQ below Qc args s mc ms free) g) : W p l e R s m args below meth c H locs cells slots (vx_MQ below Qc XC args s mc ms free) g := by
  intro T hT X
  obtain ⟨t, a1, o, b1, b2, b3, b4⟩ := k T hT X
  exact ⟨t, a1, o, b1, b2, Or.inl ⟨b3, b4⟩⟩
/-- not caught here: it goes on to the caller -/
theorem vx_widen {g : JFrame} {q : Addr} {k n : Nat} (h1 : cells ≤ k) (h2 : slots ≤ n) (kk : vx_W p l e R s m args below meth c H locs k n Q g q) : vx_W p l e R s m args below meth c H locs cells slots Q g q := fun T hT X => kk T hT (stand_widen X h1 h2)
theorem vx_out {pc : Nat} {E : String} {ce : Cell} {q : Addr} {mc ms : Nat} (hout : ∀ x ∈ c.exceptionTable.toList, covers x pc = false) (hlocks : meth.locks = false) (hcell : H[q]? = some ce) (hv : ce.vm = .none) (hcl : s.vm.findClass E = some ce.cls)
    (hx : ∀ t : State, t.heap = H → s.vm.Alike t.vm → XC E s t) (hf : ∀ z ∈ locs, free z.base) (hc : cells ≤ mc) (hs : slots ≤ ms) :
    vx_W p l e R s m args below meth c H locs cells slots (vx_MQ below Qc XC args s mc ms free) (F0 m pc ls rest) q := by
  intro T hT X
  obtain ⟨st1, hrun, hend, hW, hsm⟩ := X.leaveThrown q (g := F0 m pc ls rest) rfl rfl rfl hout hlocks
  have hcell9 : (T.setFrames (.throwing q :: below)).heap[q]? = some ce := by
    show T.heap[q]? = some ce
    rw [hT]; exact hcell
  exact ⟨_, st1, .threw q, hrun, hend, Or.inr ⟨q, rfl, E, ce, locs, hx _ hT hW.alike, hcell9, hv, hcl, hW, hsm.mono hc hs, hf⟩⟩
theorem vx_frame {U : State} {k n : Nat} (h : s.sameButNew ({ U with vm := s.vm } : State) locs k n) : s.heap.size ≤ U.heap.size ∧ ∀ q : Nat, q < s.heap.size → (∀ z ∈ locs, z.base ≠ q) → U.heap[q]? = s.heap[q]? := by
  obtain ⟨-, h2, -, -, -, h6⟩ := h
  refine ⟨h2, fun q hq hz => ?_⟩
  obtain ⟨c9, e1, e2, e3, e4⟩ := h6 q _ (Array.getElem?_eq_getElem hq)
  have hs : c9.slots = (s.heap[q]).slots := Array.ext_getElem? fun i => e4 i fun hm => hz _ hm rfl
  have h9 : c9 = s.heap[q] := by
    rw [hs] at e2
    exact e2
  have e5 : U.heap[q]? = some c9 := e1
  rw [e5, h9, Array.getElem?_eq_getElem hq]
/-- the words of a throw but the four that speak of the heap -/
def vx_no (w : Cond) : Bool := decide (w ≠ .isRef (.static Bundle.tN "UNASSIGNED_STACK" Bundle.steD)) && decide (w ≠ .isRef (.static Bundle.tN "SUPPRESSED_SENTINEL" Bundle.listD)) && decide (w ≠ .laysStatic Bundle.tN "UNASSIGNED_STACK" Bundle.steD) && decide (w ≠ .laysStatic Bundle.tN "SUPPRESSED_SENTINEL" Bundle.listD)
def vx_at0 (own : String) (ic : Nat) (X : String) (names : List String) : List Cond := (Bundle.ownAtoms0 own ic X names).filter vx_no
def vx_atS (own : String) (ic : Nat) (X : String) (names : List String) : List Cond := (Bundle.ownAtoms own ic X names).filter vx_no
/-- a word that the tables alone decide, or a good one -/
def vx_ot (w : Cond) : Bool := w.onTables || goodWord w
theorem vx_ot_at {args a' : Array Value} {s U : State} {w : Cond} (hW : s.WarmedH U.vm) (hvm : s.vm = U.vm) (hg : vx_ot w = true) (h : w.before args s = true) : w.before a' U = true := by
  simp only [vx_ot, Bool.or_eq_true] at hg
  rcases hg with hg | hg
  · exact va_tabs hg hvm h
  · exact word_at hW (good_of_word hg) h
/-- a list's words: the good ones out of the method's own list, the others by premises of their own -/
theorem vx_hat {args : Array Value} {s : State} {L B : List Cond} (h1 : ∀ w ∈ L.filter goodWord, w.before args s = true) (h2 : ∀ w ∈ L.filter (fun w => !goodWord w), w ∈ B) (h3 : ∀ w ∈ B, w.before args s = true) : ∀ w ∈ L, w.before args s = true := by
  intro w hw
  by_cases g : goodWord w = true
  · exact h1 w (List.mem_filter.mpr ⟨hw, g⟩)
  · refine h3 w (h2 w (List.mem_filter.mpr ⟨hw, ?_⟩))
    show (!goodWord w) = true
    cases hgw : goodWord w
    · rfl
    · exact absurd hgw g
theorem vx_c {args : Array Value} {s : State} {w : Cond} {B : List Cond} (h : w.before args s = true) (t : ∀ w ∈ B, w.before args s = true) : ∀ w' ∈ w :: B, w'.before args s = true := fun w' h' => (List.mem_cons.mp h').elim (fun e => by rw [e]; exact h) (t w')
theorem vx_n {args : Array Value} {s : State} : ∀ w ∈ ([] : List Cond), w.before args s = true := fun _ h => nomatch h
theorem vx_own {args : Array Value} {s : State} {L : List Cond} (h1 : ∀ w ∈ L.filter vx_no, w.before args s = true)
    (hU : (Cond.isRef (.static Bundle.tN "UNASSIGNED_STACK" Bundle.steD)).before args s = true) (hN : (Cond.isRef (.static Bundle.tN "SUPPRESSED_SENTINEL" Bundle.listD)).before args s = true)
    (lU : (Cond.laysStatic Bundle.tN "UNASSIGNED_STACK" Bundle.steD).before args s = true) (lN : (Cond.laysStatic Bundle.tN "SUPPRESSED_SENTINEL" Bundle.listD).before args s = true) : ∀ w ∈ L, w.before args s = true := by
  intro w hw
  by_cases e1 : w = .isRef (.static Bundle.tN "UNASSIGNED_STACK" Bundle.steD)
  · rw [e1]; exact hU
  · by_cases e2 : w = .isRef (.static Bundle.tN "SUPPRESSED_SENTINEL" Bundle.listD)
    · rw [e2]; exact hN
    · by_cases e3 : w = .laysStatic Bundle.tN "UNASSIGNED_STACK" Bundle.steD
      · rw [e3]; exact lU
      · by_cases e4 : w = .laysStatic Bundle.tN "SUPPRESSED_SENTINEL" Bundle.listD
        · rw [e4]; exact lN
        · exact h1 w (List.mem_filter.mpr ⟨hw, by unfold vx_no; rw [decide_eq_true e1, decide_eq_true e2, decide_eq_true e3, decide_eq_true e4]; rfl⟩)
/-- where a static field lies, its class's statics cell in H -/
def vx_L (C n d : String) (A : Nat → Prop) (U : State) (H : Heap) : Prop := ∃ (c : ClassId) (k : Class) (i : Nat) (f : Field) (a : Nat) (cell : Cell), U.vm.findClass C = some c ∧ U.fieldFound? C n d = some (c, k, i, f) ∧ f.isStatic = true ∧ k.statics = some a ∧ H[a]? = some cell ∧ cell.vm.isStatics = true ∧ cell.cls = c ∧ f.slot < cell.slots.size ∧ k.staticTypes[f.slot]? = some f.type ∧ ¬ A a
theorem vx_L.moved {C n d : String} {A : Nat → Prop} {u U : State} {H : Heap} (hvm : u.vm.Alike U.vm) (h : vx_L C n d A u H) : vx_L C n d A U H := by
  obtain ⟨c, k, i, f, a, cell, h1, h2, h3, h4, h5, h6, h7, h8, h9, h10⟩ := h
  obtain ⟨k', hi', he⟩ := State.fieldFound?_setVm hvm h2
  exact ⟨c, k', i, f, a, cell, by rw [hvm.findClass]; exact h1, hi', h3, by rw [he]; exact h4, h5, h6, h7, h8, by rw [he]; exact h9, h10⟩
theorem vx_L.kept {C n d : String} {A : Nat → Prop} {U : State} {H H1 : Heap} (h : vx_L C n d A U H) (hq : ∀ a : Nat, a < H.size → ¬ A a → H1[a]? = H[a]?) : vx_L C n d A U H1 := by
  obtain ⟨c, k, i, f, a, cell, h1, h2, h3, h4, h5, h6, h7, h8, h9, h10⟩ := h
  exact ⟨c, k, i, f, a, cell, h1, h2, h3, h4, by rw [hq a (Array.getElem?_eq_some_iff.mp h5).1 h10]; exact h5, h6, h7, h8, h9, h10⟩
theorem vx_L.narrow {C n d : String} {A B : Nat → Prop} {U : State} {H : Heap} (h : vx_L C n d A U H) (hAB : ∀ q, B q → A q) : vx_L C n d B U H := by
  obtain ⟨c, k, i, f, a, cell, h1, h2, h3, h4, h5, h6, h7, h8, h9, h10⟩ := h
  exact ⟨c, k, i, f, a, cell, h1, h2, h3, h4, h5, h6, h7, h8, h9, fun z => h10 (hAB _ z)⟩
theorem vx_L.word {C n d : String} {A : Nat → Prop} {s : State} {args : Array Value} (h : vx_L C n d A s s.heap) : (Cond.laysStatic C n d).before args s = true := by
  obtain ⟨c, k, i, f, a, cell, h1, h2, h3, h4, h5, h6, h7, h8, h9, -⟩ := h
  show (Cond.laysStatic C n d).holds args s none s [] = true
  exact Cond.laysStatic_of h1 h2 h3 h4 h5 h6 h7 h8 h9
/-- .. and what it holds: null or some reference -/
def vx_Zq (C n d : String) (A : Nat → Prop) (U : State) (H : Heap) : Prop := va_Zq C n d A U H ∧ vx_L C n d A U H
theorem vx_Zq.moved {C n d : String} {A : Nat → Prop} {u U : State} {H : Heap} (hvm : u.vm.Alike U.vm) (h : vx_Zq C n d A u H) : vx_Zq C n d A U H := ⟨va_Zq.moved hvm h.1, vx_L.moved hvm h.2⟩
theorem vx_Zq.kept {C n d : String} {A : Nat → Prop} {U : State} {H H1 : Heap} (h : vx_Zq C n d A U H) (hq : ∀ a : Nat, a < H.size → ¬ A a → H1[a]? = H[a]?) : vx_Zq C n d A U H1 := ⟨va_Zq.kept h.1 hq, vx_L.kept h.2 hq⟩
theorem vx_Zq.narrow {C n d : String} {A B : Nat → Prop} {U : State} {H : Heap} (h : vx_Zq C n d A U H) (hAB : ∀ q, B q → A q) : vx_Zq C n d B U H := ⟨va_Zq.narrow h.1 hAB, vx_L.narrow h.2 hAB⟩
theorem vx_Zqof {args : Array Value} {s : State} {C n d : String} {A : Nat → Prop} (hl : (Cond.laysStatic C n d).before args s = true) (hini : (Cond.initialized C).before args s = true) (h : (Cond.isRef (.static C n d)).before args s = true) (hA : ∀ a : Nat, a < s.heap.size → ¬ A a) : vx_Zq C n d A s s.heap := by
  refine ⟨va_Zqof hl hini h hA, ?_⟩
  obtain ⟨c, k, i, f, a, cell, h1, h2, h3, h4, h5, h6, h7, h8, h9⟩ := Cond.laysStatic_spec hl
  exact ⟨c, k, i, f, a, cell, h1, h2, h3, h4, h5, h6, h7, h8, h9, hA a (Array.getElem?_eq_some_iff.mp h5).1⟩
theorem vx_isRef {C n d : String} {v : Value} {A : Nat → Prop} {s : State} {args : Array Value} (h : va_Z C n d v A s s.heap) (hv : v.isRef = true) : (Cond.isRef (.static C n d)).before args s = true := by
  obtain ⟨cf, kf, fi, f, a, cell, h1, h2, h3, h4, h5, h6, h7, -⟩ := h
  have he : (Term.static C n d).eval args s none [] s = some v := by
    simp [Term.eval, State.fieldNamed?, h1, h2, h4, h5, h6, h7]
  simp only [Cond.before, Cond.holds, Cond.value, he]
  cases v <;> simp_all [Value.isRef]
theorem vx_isRefq {C n d : String} {A : Nat → Prop} {s : State} {args : Array Value} (h : va_Zq C n d A s s.heap) : (Cond.isRef (.static C n d)).before args s = true := by
  rcases h with h | ⟨t, h⟩
  · exact vx_isRef h rfl
  · exact vx_isRef h rfl
/-- the same frame, seen from here: as if the method were called anew in this heap -/
theorem vx_rebase {T : State} (X : Stand p l e R s m args below meth c T locs cells slots) {R' : Room} (hf : R'.frames ≤ R.frames) (hl : R'.locals ≤ R.locals) (hc : cells + R'.cells ≤ R.cells) (hs : slots + R'.slots ≤ R.slots) :
    Stand p l e R' ((T.setVm s.vm).setFrames (.invoking m args :: below)) m args below meth c T [] 0 0 := by
  have htop : (T.setVm s.vm).topJava?.isSome := X.here.top
  have hF : ((T.setVm s.vm).setFrames (.invoking m args :: below)).frames = .invoking m args :: below := State.frames_setFrames _ (State.cur_lt_of_top htop)
  obtain ⟨g₀, hg0⟩ := Option.isSome_iff_exists.mp htop
  obtain ⟨r, hr⟩ := State.topJava?_eq_some.mp hg0
  have hl9 : e.platform.stackLimits (T.setVm s.vm).me = e.platform.stackLimits s.me := X.limits
  have hb9 : (T.setVm s.vm).me.stackBytes = s.me.stackBytes := X.bytes
  refine ⟨X.admits, X.cas, X.clock, hF, ?_, X.hears, X.method, X.code, X.here, X.tail, X.warmed, ?_, ?_, ?_⟩
  · have h := X.room
    have hU : ((T.setVm s.vm).setFrames (.invoking m args :: below)).localsInUse = s.localsInUse := by
      rw [State.localsInUse_invoking hF (meth := meth) (c := c) X.method X.code, State.localsInUse_invoking X.frames X.method X.code]
    simp only [State.hasRoom, Bool.and_eq_true, decide_eq_true_eq] at h ⊢
    obtain ⟨⟨⟨⟨h1, h2, h3, h4, h5, h6⟩, h7⟩, h8⟩, h9⟩ := h
    rw [X.frames, List.length_cons] at h2 h3
    have q1 := X.heapSize
    have q2 := X.used
    simp only [hF, hU, List.length_cons, State.stackLimits_setFrames, State.stackBytes_setFrames, hl9, hb9]
    refine ⟨⟨⟨⟨by omega, by omega, by omega, by omega, by omega, h6⟩, ?_⟩, ?_⟩, X.book⟩
    · show T.heap.size + R'.cells ≤ e.platform.maxCells
      omega
    · show T.slotsUsed + R'.slots ≤ e.platform.maxSlots
      omega
  · rw [State.stackLimits_setFrames]; rfl
  · rw [State.stackBytes_setFrames]; rfl
  · refine ⟨?_, Nat.le_refl _, Nat.le_refl _, ?_, ?_, fun a c9 h9 => ⟨c9, h9, rfl, rfl, fun _ _ => rfl⟩⟩
    · obtain ⟨t, ht, -⟩ := State.frames_cons hr
      show T.setVm s.vm = { ((T.setVm s.vm).setFrames (.invoking m args :: below)).setFrames (T.setVm s.vm).frames with heap := T.heap, slotsUsed := T.slotsUsed }
      rw [State.setFrames_setFrames, State.setFrames_self ht]
      rfl
    · show T.slotsUsed = T.slotsUsed + ((T.heap.toList.drop T.heap.size).map (·.slots.size)).sum
      rw [List.drop_eq_nil_of_le (Nat.le_of_eq Array.length_toList)]
      rfl
    · show ((T.heap.toList.drop T.heap.size).map (·.slots.size)).sum ≤ 0
      rw [List.drop_eq_nil_of_le (Nat.le_of_eq Array.length_toList)]
      exact Nat.le_refl _
/-- 'throw new E()': new; dup; invokespecial; athrow -/
theorem vx_throw0 {cc : ByteArray} {pc : Nat} (hexec : p.tables.exec = Jvm.exec) (hb : c.code = cc) (hl : l.stackTraces = false) {own cls : String} {names : List String} {ik ic mc ms : Nat} {A : Nat → Prop}
    (hown : s.vm.findClass own = some m.cls) (hcls : Bundle.fit cls = true) (hnames : ∀ n ∈ names, Bundle.fit n = true)
    (hk : (Cond.classLink own ik cls).before args s = true) (hini : (Cond.initialized cls).before args s = true) (hat : ∀ w ∈ vx_at0 own ic cls names, w.before args s = true)
    (hgood : ∀ w ∈ Cond.classLink own ik cls :: Cond.initialized cls :: vx_at0 own ic cls names, vx_ot w = true)
    (hU : vx_Zq Bundle.tN "UNASSIGNED_STACK" Bundle.steD A s s.heap) (hN : vx_Zq Bundle.tN "SUPPRESSED_SENTINEL" Bundle.listD A s s.heap) (hS : va_S A s.heap H locs) (hsize : ls.size = c.maxLocals)
    (d0 : decode cc pc = .ok (.new ik, 3)) (d3 : decode cc (pc + 3) = .ok (.dup, 1)) (d4 : decode cc (pc + 4) = .ok (.invokespecial ic, 3)) (d7 : decode cc (pc + 7) = .ok (.athrow, 1))
    (hout : ∀ x ∈ c.exceptionTable.toList, covers x (pc + 7) = false)
    (hRframes : names.length + 3 < R.frames) (hRlocals : (rest.map fun v => v.category).sum + (13 * (names.length + 1) + 42) ≤ R.locals) (hRcells : cells + 1 ≤ R.cells) (hRslots : slots + 6 ≤ R.slots) (hlocks : meth.locks = false)
    (hx : ∀ t : State, s.vm.Alike t.vm → H.size ≤ t.heap.size → (∀ q : Nat, q < H.size → t.heap[q]? = H[q]?) → XC cls s t)
    (hf : ∀ z ∈ locs, free z.base) (hc : cells + 1 ≤ mc) (hs : slots + 6 ≤ ms) :
    W p l e R s m args below meth c H locs cells slots (vx_MQ below Qc XC args s mc ms free) (F0 m pc ls rest) := by
  intro T hT X
  have htr : e.platform.stackTraces = false := (show e.platform.stackTraces = l.stackTraces by rw [X.admits.platform]).trans hl
  have Y := vx_rebase X (R' := { frames := R.frames, locals := R.locals, cells := 1, slots := 6 }) (Nat.le_refl _) (Nat.le_refl _) hRcells hRslots
  obtain ⟨s', hA⟩ : ∃ z, z = (T.setVm s.vm).setFrames (.invoking m args :: below) := ⟨_, rfl⟩
  rw [← hA] at Y
  have hvm : s'.vm = s.vm := by rw [hA]; rfl
  have hhp : s'.heap = H := by rw [hA]; exact hT
  have hW0 : s.WarmedH s'.vm := by rw [hvm]; exact State.WarmedH.refl s
  have hat' : ∀ w ∈ vx_at0 own ic cls names, w.before args s' = true := fun w hw => vx_ot_at hW0 hvm.symm (hgood w (List.mem_cons_of_mem _ (List.mem_cons_of_mem _ hw))) (hat w hw)
  have hk' : (Cond.classLink own ik cls).before args s' = true := vx_ot_at hW0 hvm.symm (hgood _ List.mem_cons_self) hk
  have hini' : (Cond.initialized cls).before args s' = true := vx_ot_at hW0 hvm.symm (hgood _ (List.mem_cons_of_mem _ List.mem_cons_self)) hini
  have hU' : vx_Zq Bundle.tN "UNASSIGNED_STACK" Bundle.steD A s' s'.heap := by rw [hhp]; exact vx_Zq.moved hW0.alike (hU.kept hS.2.1)
  have hN' : vx_Zq Bundle.tN "SUPPRESSED_SENTINEL" Bundle.listD A s' s'.heap := by rw [hhp]; exact vx_Zq.moved hW0.alike (hN.kept hS.2.1)
  have h : ∀ w ∈ Bundle.ownAtoms0 own ic cls names, w.before args s' = true := vx_own hat' (vx_isRefq hU'.1) (vx_isRefq hN'.1) hU'.2.word hN'.2.word
  have hown' : s'.vm.findClass own = some m.cls := by rw [hvm]; exact hown
  have hins : (Cond.instantiable cls 6).before args s' = true := h _ (by simp [Bundle.ownAtoms0])
  obtain ⟨vm₁, cX, kX, hfX, hkX, -, -, X₁, st1⟩ := Y.newCold hexec (own := own) (C := cls) (index := ik) (n := 6) hown' hk' hins hini'
    (g := F0 m pc ls rest) rfl (by rw [hb]; exact d0) (Nat.le_refl _) (Nat.le_refl _)
  generalize hT1 : (T.setVm vm₁).pushCell { cls := cX, slots := kX.instanceTypes.map defaultValue, vm := .none } = T1 at X₁ st1
  have hcat : (Value.ref T.heap.size).category = 1 := rfl
  have hcellA : T1.heap[T.heap.size]? = some (freshCell cX kX) := by rw [← hT1]; exact State.heap_pushCell_size _ _
  have d3' : decode c.code (pc + 3) = .ok (.dup, 1) := by rw [hb]; exact d3
  obtain ⟨U, hsteps, hrun, hend, hW, hsame, ce, hce, hO⟩ := X₁.ctorThrow0 hexec htr (own := own) (cls := cls) (names := names) (ic := ic) hown' hcls hnames h (fun x hx => nomatch hx) hfX hkX hcellA (by rw [hhp, hT]; exact Nat.le_refl _)
    (g := { method := m, pc := pc + 4, locals := ls, stack := .ref T.heap.size :: .ref T.heap.size :: rest, locked := none }) rfl hsize rfl rfl (rest := rest) rfl
    (by rw [hb]; exact d4) (by rw [hb]; exact d7) hout hRframes (by simp only [List.map_cons, List.sum_cons, hcat]; omega) hlocks
  obtain ⟨f1, f2⟩ := vx_frame hsame
  rw [hhp] at f1 f2
  have hWs : s.WarmedH U.vm := State.WarmedH.trans hW0 hW
  have hcl : s.vm.findClass cls = some ce.cls := by
    have h9 := hO.cls
    rw [hvm] at h9
    exact h9
  have hall : s.sameButNew ({ U with vm := s.vm } : State) locs mc ms := by
    subst hA
    obtain ⟨e1, e2⟩ := hsame
    rw [State.setFrames_setFrames] at e1
    have h2 : (T.setVm s.vm).sameButNew ({ U with vm := s.vm } : State) [] (0 + 1) (0 + 6) := ⟨e1, e2⟩
    have h3 := X.same.trans h2
    rw [List.append_nil] at h3
    exact h3.mono hc hs
  refine ⟨U, ?_, .threw T.heap.size, hrun, hend, Or.inr ⟨T.heap.size, rfl, cls, ce, locs, hx U hWs.alike f1 (fun q hq => f2 q hq (fun z hz => nomatch hz)), hce, hO.vm, hcl, hWs, hall, hf⟩⟩
  refine st1 _ ?_
  show Steps p.tables e below (T1.setTop { method := m, pc := pc + 3, locals := ls, stack := .ref T.heap.size :: rest, locked := none }) _
  jvm_step X₁.here [X₁.here.top, hexec, d3', Value.category]
  exact hsteps
/-- 'throw new E("text")': new; dup; ldc; invokespecial; athrow -/
theorem vx_throwS {cc : ByteArray} {pc : Nat} (hexec : p.tables.exec = Jvm.exec) (hb : c.code = cc) (hl : l.stackTraces = false) {own cls text : String} {names : List String} {ik is ic mc ms sa : Nat} {A : Nat → Prop}
    (hown : s.vm.findClass own = some m.cls) (hcls : Bundle.fit cls = true) (hnames : ∀ n ∈ names, Bundle.fit n = true)
    (hk : (Cond.classLink own ik cls).before args s = true) (hini : (Cond.initialized cls).before args s = true) (hstr : vk_R own is text sa s) (hat : ∀ w ∈ vx_atS own ic cls names, w.before args s = true)
    (hgood : ∀ w ∈ Cond.classLink own ik cls :: Cond.initialized cls :: vx_atS own ic cls names, vx_ot w = true)
    (hU : vx_Zq Bundle.tN "UNASSIGNED_STACK" Bundle.steD A s s.heap) (hN : vx_Zq Bundle.tN "SUPPRESSED_SENTINEL" Bundle.listD A s s.heap) (hS : va_S A s.heap H locs) (hsize : ls.size = c.maxLocals)
    (d0 : decode cc pc = .ok (.new ik, 3)) (d3 : decode cc (pc + 3) = .ok (.dup, 1)) (d4 : decode cc (pc + 4) = .ok (.ldc is, 2)) (d6 : decode cc (pc + 6) = .ok (.invokespecial ic, 3)) (d9 : decode cc (pc + 9) = .ok (.athrow, 1))
    (hout : ∀ x ∈ c.exceptionTable.toList, covers x (pc + 9) = false)
    (hRframes : names.length + 3 < R.frames) (hRlocals : (rest.map fun v => v.category).sum + (13 * (names.length + 1) + 43) ≤ R.locals) (hRcells : cells + 1 ≤ R.cells) (hRslots : slots + 6 ≤ R.slots) (hlocks : meth.locks = false)
    (hx : ∀ t : State, s.vm.Alike t.vm → H.size ≤ t.heap.size → (∀ q : Nat, q < H.size → t.heap[q]? = H[q]?) → XC cls s t)
    (hf : ∀ z ∈ locs, free z.base) (hc : cells + 1 ≤ mc) (hs : slots + 6 ≤ ms) :
    W p l e R s m args below meth c H locs cells slots (vx_MQ below Qc XC args s mc ms free) (F0 m pc ls rest) := by
  intro T hT X
  have htr : e.platform.stackTraces = false := (show e.platform.stackTraces = l.stackTraces by rw [X.admits.platform]).trans hl
  have Y := vx_rebase X (R' := { frames := R.frames, locals := R.locals, cells := 1, slots := 6 }) (Nat.le_refl _) (Nat.le_refl _) hRcells hRslots
  obtain ⟨s', hA⟩ : ∃ z, z = (T.setVm s.vm).setFrames (.invoking m args :: below) := ⟨_, rfl⟩
  rw [← hA] at Y
  have hvm : s'.vm = s.vm := by rw [hA]; rfl
  have hhp : s'.heap = H := by rw [hA]; exact hT
  have hW0 : s.WarmedH s'.vm := by rw [hvm]; exact State.WarmedH.refl s
  have hat' : ∀ w ∈ vx_atS own ic cls names, w.before args s' = true := fun w hw => vx_ot_at hW0 hvm.symm (hgood w (List.mem_cons_of_mem _ (List.mem_cons_of_mem _ hw))) (hat w hw)
  have hk' : (Cond.classLink own ik cls).before args s' = true := vx_ot_at hW0 hvm.symm (hgood _ List.mem_cons_self) hk
  have hini' : (Cond.initialized cls).before args s' = true := vx_ot_at hW0 hvm.symm (hgood _ (List.mem_cons_of_mem _ List.mem_cons_self)) hini
  have hU' : vx_Zq Bundle.tN "UNASSIGNED_STACK" Bundle.steD A s' s'.heap := by rw [hhp]; exact vx_Zq.moved hW0.alike (hU.kept hS.2.1)
  have hN' : vx_Zq Bundle.tN "SUPPRESSED_SENTINEL" Bundle.listD A s' s'.heap := by rw [hhp]; exact vx_Zq.moved hW0.alike (hN.kept hS.2.1)
  have h : ∀ w ∈ Bundle.ownAtoms own ic cls names, w.before args s' = true := vx_own hat' (vx_isRefq hU'.1) (vx_isRefq hN'.1) hU'.2.word hN'.2.word
  have hown' : s'.vm.findClass own = some m.cls := by rw [hvm]; exact hown
  have hins : (Cond.instantiable cls 6).before args s' = true := h _ (by simp [Bundle.ownAtoms])
  obtain ⟨vm₁, cX, kX, hfX, hkX, -, -, X₁, st1⟩ := Y.newCold hexec (own := own) (C := cls) (index := ik) (n := 6) hown' hk' hins hini'
    (g := F0 m pc ls rest) rfl (by rw [hb]; exact d0) (Nat.le_refl _) (Nat.le_refl _)
  generalize hT1 : (T.setVm vm₁).pushCell { cls := cX, slots := kX.instanceTypes.map defaultValue, vm := .none } = T1 at X₁ st1
  have hcat : (Value.ref T.heap.size).category = 1 := rfl
  have hcellA : T1.heap[T.heap.size]? = some (freshCell cX kX) := by rw [← hT1]; exact State.heap_pushCell_size _ _
  have d3' : decode c.code (pc + 3) = .ok (.dup, 1) := by rw [hb]; exact d3
  have d4' : decode c.code (pc + 4) = .ok (.ldc is, 2) := by rw [hb]; exact d4
  have hstr' : vk_R own is text sa s' := vk_R.warm hW0 hstr
  obtain ⟨U, hsteps, hrun, hend, hW, hsame, ce, hce, hO⟩ := X₁.ctorThrowS hexec htr (own := own) (cls := cls) (names := names) (ic := ic) hown' hcls hnames h (fun x hx => nomatch hx) hfX hkX hcellA (by rw [hhp, hT]; exact Nat.le_refl _) (msg := .ref sa) rfl
    (g := { method := m, pc := pc + 6, locals := ls, stack := .ref sa :: .ref T.heap.size :: .ref T.heap.size :: rest, locked := none }) rfl hsize rfl rfl (rest := rest) rfl
    (by rw [hb]; exact d6) (by rw [hb]; exact d9) hout hRframes (by simp only [List.map_cons, List.sum_cons, hcat]; omega) hlocks
  obtain ⟨f1, f2⟩ := vx_frame hsame
  rw [hhp] at f1 f2
  have hWs : s.WarmedH U.vm := State.WarmedH.trans hW0 hW
  have hcl : s.vm.findClass cls = some ce.cls := by
    have h9 := hO.cls
    rw [hvm] at h9
    exact h9
  have hall : s.sameButNew ({ U with vm := s.vm } : State) locs mc ms := by
    subst hA
    obtain ⟨e1, e2⟩ := hsame
    rw [State.setFrames_setFrames] at e1
    have h2 : (T.setVm s.vm).sameButNew ({ U with vm := s.vm } : State) [] (0 + 1) (0 + 6) := ⟨e1, e2⟩
    have h3 := X.same.trans h2
    rw [List.append_nil] at h3
    exact h3.mono hc hs
  refine ⟨U, ?_, .threw T.heap.size, hrun, hend, Or.inr ⟨T.heap.size, rfl, cls, ce, locs, hx U hWs.alike f1 (fun q hq => f2 q hq (fun z hz => nomatch hz)), hce, hO.vm, hcl, hWs, hall, hf⟩⟩
  refine st1 _ ?_
  show Steps p.tables e below (T1.setTop { method := m, pc := pc + 3, locals := ls, stack := .ref T.heap.size :: rest, locked := none }) _
  jvm_step X₁.here [X₁.here.top, hexec, d3', Value.category]
  exact X₁.ldcString hexec (own := own) (text := text) (index := is) (a := sa) hown' hstr'.1 hstr'.2
    (g := { method := m, pc := pc + 4, locals := ls, stack := .ref T.heap.size :: .ref T.heap.size :: rest, locked := none }) rfl d4' _ hsteps
/-- 'throw new E("text")', the text by a wide index -/
theorem vx_throwSW {cc : ByteArray} {pc : Nat} (hexec : p.tables.exec = Jvm.exec) (hb : c.code = cc) (hl : l.stackTraces = false) {own cls text : String} {names : List String} {ik is ic mc ms sa : Nat} {A : Nat → Prop}
    (hown : s.vm.findClass own = some m.cls) (hcls : Bundle.fit cls = true) (hnames : ∀ n ∈ names, Bundle.fit n = true)
    (hk : (Cond.classLink own ik cls).before args s = true) (hini : (Cond.initialized cls).before args s = true) (hstr : vk_R own is text sa s) (hat : ∀ w ∈ vx_atS own ic cls names, w.before args s = true)
    (hgood : ∀ w ∈ Cond.classLink own ik cls :: Cond.initialized cls :: vx_atS own ic cls names, vx_ot w = true)
    (hU : vx_Zq Bundle.tN "UNASSIGNED_STACK" Bundle.steD A s s.heap) (hN : vx_Zq Bundle.tN "SUPPRESSED_SENTINEL" Bundle.listD A s s.heap) (hS : va_S A s.heap H locs) (hsize : ls.size = c.maxLocals)
    (d0 : decode cc pc = .ok (.new ik, 3)) (d3 : decode cc (pc + 3) = .ok (.dup, 1)) (d4 : decode cc (pc + 4) = .ok (.ldc_w is, 3)) (d7 : decode cc (pc + 7) = .ok (.invokespecial ic, 3)) (d10 : decode cc (pc + 10) = .ok (.athrow, 1))
    (hout : ∀ x ∈ c.exceptionTable.toList, covers x (pc + 10) = false)
    (hRframes : names.length + 3 < R.frames) (hRlocals : (rest.map fun v => v.category).sum + (13 * (names.length + 1) + 43) ≤ R.locals) (hRcells : cells + 1 ≤ R.cells) (hRslots : slots + 6 ≤ R.slots) (hlocks : meth.locks = false)
    (hx : ∀ t : State, s.vm.Alike t.vm → H.size ≤ t.heap.size → (∀ q : Nat, q < H.size → t.heap[q]? = H[q]?) → XC cls s t)
    (hf : ∀ z ∈ locs, free z.base) (hc : cells + 1 ≤ mc) (hs : slots + 6 ≤ ms) :
    W p l e R s m args below meth c H locs cells slots (vx_MQ below Qc XC args s mc ms free) (F0 m pc ls rest) := by
  intro T hT X
  have htr : e.platform.stackTraces = false := (show e.platform.stackTraces = l.stackTraces by rw [X.admits.platform]).trans hl
  have Y := vx_rebase X (R' := { frames := R.frames, locals := R.locals, cells := 1, slots := 6 }) (Nat.le_refl _) (Nat.le_refl _) hRcells hRslots
  obtain ⟨s', hA⟩ : ∃ z, z = (T.setVm s.vm).setFrames (.invoking m args :: below) := ⟨_, rfl⟩
  rw [← hA] at Y
  have hvm : s'.vm = s.vm := by rw [hA]; rfl
  have hhp : s'.heap = H := by rw [hA]; exact hT
  have hW0 : s.WarmedH s'.vm := by rw [hvm]; exact State.WarmedH.refl s
  have hat' : ∀ w ∈ vx_atS own ic cls names, w.before args s' = true := fun w hw => vx_ot_at hW0 hvm.symm (hgood w (List.mem_cons_of_mem _ (List.mem_cons_of_mem _ hw))) (hat w hw)
  have hk' : (Cond.classLink own ik cls).before args s' = true := vx_ot_at hW0 hvm.symm (hgood _ List.mem_cons_self) hk
  have hini' : (Cond.initialized cls).before args s' = true := vx_ot_at hW0 hvm.symm (hgood _ (List.mem_cons_of_mem _ List.mem_cons_self)) hini
  have hU' : vx_Zq Bundle.tN "UNASSIGNED_STACK" Bundle.steD A s' s'.heap := by rw [hhp]; exact vx_Zq.moved hW0.alike (hU.kept hS.2.1)
  have hN' : vx_Zq Bundle.tN "SUPPRESSED_SENTINEL" Bundle.listD A s' s'.heap := by rw [hhp]; exact vx_Zq.moved hW0.alike (hN.kept hS.2.1)
  have h : ∀ w ∈ Bundle.ownAtoms own ic cls names, w.before args s' = true := vx_own hat' (vx_isRefq hU'.1) (vx_isRefq hN'.1) hU'.2.word hN'.2.word
  have hown' : s'.vm.findClass own = some m.cls := by rw [hvm]; exact hown
  have hins : (Cond.instantiable cls 6).before args s' = true := h _ (by simp [Bundle.ownAtoms])
  obtain ⟨vm₁, cX, kX, hfX, hkX, -, -, X₁, st1⟩ := Y.newCold hexec (own := own) (C := cls) (index := ik) (n := 6) hown' hk' hins hini'
    (g := F0 m pc ls rest) rfl (by rw [hb]; exact d0) (Nat.le_refl _) (Nat.le_refl _)
  generalize hT1 : (T.setVm vm₁).pushCell { cls := cX, slots := kX.instanceTypes.map defaultValue, vm := .none } = T1 at X₁ st1
  have hcat : (Value.ref T.heap.size).category = 1 := rfl
  have hcellA : T1.heap[T.heap.size]? = some (freshCell cX kX) := by rw [← hT1]; exact State.heap_pushCell_size _ _
  have d3' : decode c.code (pc + 3) = .ok (.dup, 1) := by rw [hb]; exact d3
  have d4' : decode c.code (pc + 4) = .ok (.ldc_w is, 3) := by rw [hb]; exact d4
  have hstr' : vk_R own is text sa s' := vk_R.warm hW0 hstr
  obtain ⟨U, hsteps, hrun, hend, hW, hsame, ce, hce, hO⟩ := X₁.ctorThrowS hexec htr (own := own) (cls := cls) (names := names) (ic := ic) hown' hcls hnames h (fun x hx => nomatch hx) hfX hkX hcellA (by rw [hhp, hT]; exact Nat.le_refl _) (msg := .ref sa) rfl
    (g := { method := m, pc := pc + 7, locals := ls, stack := .ref sa :: .ref T.heap.size :: .ref T.heap.size :: rest, locked := none }) rfl hsize rfl rfl (rest := rest) rfl
    (by rw [hb]; exact d7) (by rw [hb]; exact d10) hout hRframes (by simp only [List.map_cons, List.sum_cons, hcat]; omega) hlocks
  obtain ⟨f1, f2⟩ := vx_frame hsame
  rw [hhp] at f1 f2
  have hWs : s.WarmedH U.vm := State.WarmedH.trans hW0 hW
  have hcl : s.vm.findClass cls = some ce.cls := by
    have h9 := hO.cls
    rw [hvm] at h9
    exact h9
  have hall : s.sameButNew ({ U with vm := s.vm } : State) locs mc ms := by
    subst hA
    obtain ⟨e1, e2⟩ := hsame
    rw [State.setFrames_setFrames] at e1
    have h2 : (T.setVm s.vm).sameButNew ({ U with vm := s.vm } : State) [] (0 + 1) (0 + 6) := ⟨e1, e2⟩
    have h3 := X.same.trans h2
    rw [List.append_nil] at h3
    exact h3.mono hc hs
  refine ⟨U, ?_, .threw T.heap.size, hrun, hend, Or.inr ⟨T.heap.size, rfl, cls, ce, locs, hx U hWs.alike f1 (fun q hq => f2 q hq (fun z hz => nomatch hz)), hce, hO.vm, hcl, hWs, hall, hf⟩⟩
  refine st1 _ ?_
  show Steps p.tables e below (T1.setTop { method := m, pc := pc + 3, locals := ls, stack := .ref T.heap.size :: rest, locked := none }) _
  jvm_step X₁.here [X₁.here.top, hexec, d3', Value.category]
  exact X₁.ldcStringW hexec (own := own) (text := text) (index := is) (a := sa) hown' hstr'.1 hstr'.2
    (g := { method := m, pc := pc + 4, locals := ls, stack := .ref T.heap.size :: .ref T.heap.size :: rest, locked := none }) rfl d4' _ hsteps
end Ends
section Bodies
variable {l : Launch}
theorem vx_ofW {y : MethodName} {ws ws' : List Cond} {rm : Room} {Pc : Array Value → State → Prop} {Qc : Array Value → State → Outcome → State → Prop} {XC : String → State → State → Prop} {mc ms : Nat} {free : Addr → Prop} {cc : ByteArray} {maxL : Nat} {ret : Option FieldType}
    (hy : plainName y.cls = true) (hw : ws = Cond.code y cc maxL ret :: ws')
    (body : ∀ p e s m args below meth c s₁, BodyLoose p l y (headSpec ws rm) cc maxL ret e s m args below meth c s₁ → c.maxLocals = maxL → (∀ x ∈ c.exceptionTable.toList, False) → Pc args s →
      W p l e (headSpec ws rm).room s m args below meth c s.heap [] 0 0 (vx_MQ below Qc XC args s mc ms free) (entryFrame m args maxL)) : vx_Met l y ws rm Pc Qc XC mc ms free := by
  refine MetFree.of_bodyS (code := cc) (maxLocals := maxL) (ret := ret) hy ?_ ?_
  · intro args s m h hn
    obtain ⟨meth, c, h1, h2, h3, h4, h5, h6, -, -⟩ := Cond.code_spec hn (atoms_spec (ws := ws) h _ (by rw [hw]; exact List.mem_cons_self))
    exact ⟨meth, c, h1, h2, h3, h4, h5, h6⟩
  · intro p e s m args below meth c s₁ B hml hP _
    have hh0 : s₁.heap = s.heap := by rw [B.state]; rfl
    have ht : ∀ x ∈ c.exceptionTable.toList, False := by
      obtain ⟨meth9, c9, h1, h2, -, -, -, -, h7, -⟩ := Cond.code_spec B.named (atoms_spec (ws := ws) B.pre _ (by rw [hw]; exact List.mem_cons_self))
      cases Option.some.inj (h1.symm.trans B.method)
      cases Option.some.inj (h2.symm.trans (Stand.of_body B).code)
      intro x hx
      rw [Array.isEmpty_iff.mp h7] at hx
      cases hx
    obtain ⟨t, a1, o, b1, b2, b3⟩ := body p e s m args below meth c s₁ B hml ht hP s₁ hh0 (Stand.of_body B)
    exact ⟨t, o, a1, b1, b2, b3⟩
/-- the table of a body with handlers -/
theorem vx_table {p : Program} {x y : MethodName} {S : Spec} {cc bytes : ByteArray} {maxL maxL' : Nat} {ret ret' : Option FieldType} {e : Env} {s s₁ : State} {m : MethodId} {args : Array Value} {below : List Frame} {meth : Method} {c : Code} {hh : List (Nat × Nat × Nat × Nat)}
    (B : BodyLoose p l y S cc maxL ret e s m args below meth c s₁) (h : (Cond.codeWith y bytes maxL' ret' hh).before args s = true) : c.exceptionTable.toList = tableOf hh := by
  obtain ⟨m9, meth9, c9, hn9, h1, h2, -, -, h6, -⟩ := Cond.codeWith_spec h
  cases Option.some.inj (hn9.symm.trans B.named)
  cases Option.some.inj (h1.symm.trans B.method)
  cases Option.some.inj (h2.symm.trans (Stand.of_body B).code)
  rw [← h6, table_eq]
end Bodies
end VXA
/-! ===== END ===== -/
/-! ===== BEGIN a static call of a method with an exception table ===== -/
section VXS
variable {p : Program} {l : Launch} {e : Env} {R : Room} {s : State} {m : MethodId} {args : Array Value} {below : List Frame} {meth : Method} {c : Code} {T : State} {H : Heap} {locs : List Loc} {cells slots : Nat}
abbrev vx_CSW (R : Room) (s : State) (args : Array Value) (own : String) (index : Nat) (y : MethodName) (bytes : ByteArray) (maxL : Nat) (ret : Option FieldType) (hh : List (Nat × Nat × Nat × Nat)) (ws : List Cond) (rm : Room) (mc ms n : Nat) : Prop :=
  (rm.cells = mc ∧ rm.slots = ms ∧ rm.frames + 1 ≤ R.frames ∧ 8 + (maxL + 11) + rm.locals ≤ R.locals ∧ (∀ w ∈ ws, ∀ (a' : Array Value) (U : State), s.WarmedH U.vm → w.before a' U = true) ∧ Cond.codeWith y bytes maxL ret hh ∈ ws) ∧
  (Cond.codeWith y bytes maxL ret hh).before args s = true ∧ (Cond.initialized y.cls).before args s = true ∧ (y.cls ≠ "java/lang/invoke/MethodHandle" ∧ y.cls ≠ "java/lang/invoke/VarHandle") ∧
  (∀ sig, parseMethodDescriptor y.desc = some sig → n = sig.parameters.length) ∧ (Cond.methodLink own index y).before args s = true ∧ (Cond.static y).before args s = true
theorem vx_cwSW {own : String} {index maxL mc ms : Nat} {y : MethodName} {bytes : ByteArray} {ret : Option FieldType} {hh : List (Nat × Nat × Nat × Nat)} {Ts ws ws' : List Cond} {rm : Room} (n : Nat) (ht : ∀ w ∈ Ts, w.before args s = true) (hT : GoodIn Ts (va_wsS own index y ws)) (hw : ws = Cond.codeWith y bytes maxL ret hh :: ws') (hrc : rm.cells = mc) (hrs : rm.slots = ms)
    (hd : y.cls ≠ "java/lang/invoke/MethodHandle" ∧ y.cls ≠ "java/lang/invoke/VarHandle" ∧ (parseMethodDescriptor y.desc).map (fun d => d.parameters.length) = some n) (hR : rm.frames + 1 ≤ R.frames ∧ 8 + (maxL + 11) + rm.locals ≤ R.locals) :
    vx_CSW R s args own index y bytes maxL ret hh ws rm mc ms n := by
  have ok : ∀ w ∈ va_wsS own index y ws, w.before args s = true := fun w h => ht w (hT w h).1
  have hG : GoodIn Ts ws := fun w h => hT w (by unfold va_wsS; exact List.mem_append_right _ h)
  have hc : Cond.codeWith y bytes maxL ret hh ∈ ws := by rw [hw]; exact List.mem_cons_self
  refine ⟨⟨hrc, hrs, hR.1, hR.2, pay_in ht hG, hc⟩, ht _ (hG _ hc).1, ok _ (by simp [va_wsS]), ⟨hd.1, hd.2.1⟩, fun sig h => ?_, ok _ (by simp [va_wsS]), ok _ (by simp [va_wsS])⟩
  have h2 := hd.2.2
  rw [h] at h2
  exact (Option.some.inj h2).symm
theorem vx_callSW (X : Stand p l e R s m args below meth c T locs cells slots) (hexec : p.tables.exec = Jvm.exec) {own : String} {index : Nat} {y : MethodName} {bytes : ByteArray} {maxL : Nat} {ret : Option FieldType} {hh : List (Nat × Nat × Nat × Nat)}
    (hown : s.vm.findClass own = some m.cls) (hlink : (Cond.methodLink own index y).before args s = true) (hstat : (Cond.static y).before args s = true) (hinit : (Cond.initialized y.cls).before args s = true)
    (hcode : (Cond.codeWith y bytes maxL ret hh).before args s = true) (hy : y.cls ≠ "java/lang/invoke/MethodHandle" ∧ y.cls ≠ "java/lang/invoke/VarHandle")
    {W9 : Nat} {Pre : Pt → Array Value → Prop} {Post : Pt → Array Value → Option Value → Pt → Prop} (hK : Back l R p e below s args y 3 W9 Pre Post)
    {g : JFrame} (hg : g.method = m) (hsize : g.locals.size = c.maxLocals) {argsL rest : List Value} (hlen : ∀ sig, parseMethodDescriptor y.desc = some sig → argsL.length = sig.parameters.length)
    (hstack : g.stack = argsL.reverse ++ rest) (hW : 2 * g.monitorRoom + (rest.map fun v => v.category).sum ≤ W9) (hdg : decode c.code g.pc = .ok (.invokestatic index, 3))
    (hpre : ∀ vm₁, s.WarmedH vm₁ → Pre ⟨T.setVm vm₁, locs, cells, slots⟩ argsL.toArray) :
    ∃ (v : Option Value) (vm₁ : Vm) (B : Pt), s.WarmedH vm₁ ∧ Stand p l e R s m args below meth c B.U B.locs B.cells B.slots ∧ Post ⟨T.setVm vm₁, locs, cells, slots⟩ argsL.toArray v B ∧
      ∀ target, Steps p.tables e below (B.U.setTop { g with pc := g.pc + 3, stack := v.toList ++ rest }) target → Steps p.tables e below (T.setTop g) target := by
  obtain ⟨mk, methM, cM, hnamed, hmethM, -, -, -, -, -, -, hsigM⟩ := Cond.codeWith_spec hcode
  have hstatic : methM.isStatic = true := Cond.static_spec hnamed hmethM hstat
  obtain ⟨kP, hkP, -⟩ := className_of_methodNamed hnamed
  have hinitP : kP.init = .initialized := Cond.initialized_spec (findClass_of_methodNamed hnamed) hkP hinit
  obtain ⟨vm₁, X₁, hstep₁⟩ := X.invokestatic hexec hown hlink hnamed hmethM hstatic hkP hinitP hy (g := g) hg (argsL := argsL) (rest := rest) (hlen _ hsigM) hstack hdg
  obtain ⟨v, B, X', hpost, hsteps⟩ := hK m meth c ⟨T.setVm vm₁, locs, cells, slots⟩ { g with stack := rest } (.invokestatic index) mk argsL.toArray X₁ hg hsize hdg hW (X₁.named hnamed) (hpre vm₁ X₁.warmed)
  exact ⟨v, vm₁, B, X₁.warmed, X', hpost, fun target h => hstep₁ _ fun acts => by rw [doInvoke_state]; exact hsteps.trans h⟩
theorem vx_runSW {y : MethodName} {bytes cc : ByteArray} {maxL nL mc ms n index : Nat} {ret : Option FieldType} {hh : List (Nat × Nat × Nat × Nat)} {ws : List Cond} {rm : Room} {Pc : Array Value → State → Prop} {Qc : Array Value → State → Outcome → State → Prop} {free : Addr → Prop} {Ts : List Cond} {own : String} {As rest : List Value} {g : JFrame}
    (S : CallFix p m c cc nL s args Ts own) (hM : Met l y ws rm Pc Qc mc ms free) (cw : vx_CSW R s args own index y bytes maxL ret hh ws rm mc ms n) (hp : PreS s H Pc As)
    (hg : g.method = m) (hn : As.length = n) (hsize : g.locals.size = nL) (hstack : g.stack = As.reverse ++ rest) (hW : 2 * g.monitorRoom + (rest.map fun v => v.category).sum ≤ 8) (hdg : decode cc g.pc = .ok (.invokestatic index, 3)) (hf : cells + mc ≤ R.cells ∧ slots + ms ≤ R.slots) :
    va_Run p l e R s m args below meth c H locs cells slots mc ms g rest (Qc As.toArray) (free) := by
  obtain ⟨⟨hrc, hrs, hfr, hlo, hws, hcw⟩, hcode, hini, hy, hlen, hl, hstt⟩ := cw
  have hK : Back l R p e below s args y 3 8 (PreOf R mc ms Pc) (PostOf Qc mc ms free) := va_backW (hh := hh) (bytes := bytes) (maxL := maxL) (ret := ret) hM hp.1 hrc hrs hfr hlo hws hcw (fun a' U hW => word_at hW (Or.inl (by first | rfl | simp [Cond.onTables, Cond.keeps, Cond.steady])) hini)
  obtain ⟨hx, hb, hml, ho, -⟩ := S
  intro T hT X
  obtain ⟨v, vm₁, ⟨U', l2, c2, s2⟩, hW₁, X', ⟨g', mk, t, L, e1, e2, hq, h1, hL, h2, h3⟩, st⟩ := vx_callSW X hx (hh := hh) (bytes := bytes) (maxL := maxL) (ret := ret) ho hl hstt hini hcode hy hK hg (hsize.trans hml.symm) (argsL := As) (rest := rest) (fun sig h => hn.trans (hlen sig h)) hstack hW (by rw [hb]; exact hdg)
    (fun vm₁ hW₁ => ⟨hf.1, hf.2, hp.2 (T.setVm vm₁) hT hW₁⟩)
  dsimp only [Pt.U, Pt.locs, Pt.cells, Pt.slots] at X' e1 e2 h1 h2 h3 st
  subst h1; subst h2; subst h3
  exact ⟨v, (T.setVm vm₁).calling g' mk As.toArray, t, U', L, hT, X', hL, e1, e2, hq, st⟩
/-- not caught here, past rows that name other classes: it goes on to the caller -/
theorem vx_outP {p : Program} {l : Launch} {e : Env} {R : Room} {s : State} {m : MethodId} {args : Array Value} {below : List Frame} {meth : Method} {c : Code} {H : Heap} {locs : List Loc} {cells slots : Nat} {free : Addr → Prop} {ls : Array Slot} {rest : List Value} {Qc : Array Value → State → Outcome → State → Prop} {XC : String → State → State → Prop}
    {pc : Nat} {own E : String} {ce : Cell} {q : Addr} {mc ms : Nat} (hown : s.vm.findClass own = some m.cls) (hlocks : meth.locks = false)
    (hpass : ∀ z ∈ c.exceptionTable.toList, covers z pc = false ∨ (z.catchType ≠ 0 ∧ ∃ nm : String, (Cond.classLink own z.catchType nm).before args s = true ∧ va_Nc E nm s)) (hcell : H[q]? = some ce) (hv : ce.vm = .none) (hcl : s.vm.findClass E = some ce.cls)
    (hx : ∀ t : State, t.heap = H → s.vm.Alike t.vm → XC E s t) (hf : ∀ z ∈ locs, free z.base) (hc : cells ≤ mc) (hs : slots ≤ ms) :
    vx_W p l e R s m args below meth c H locs cells slots (vx_MQ below Qc XC args s mc ms free) (F0 m pc ls rest) q := by
  intro T hT X
  have hpl : e.platform.magicAccessors = ({} : Platform).magicAccessors := by rw [X.admits.platform]
  obtain ⟨vm', hW', X', st⟩ := X.outThrough hlocks q (g := F0 m pc ls rest) rfl rfl rfl (cell := ce) (by rw [hT]; exact hcell) (by rw [hv]; rfl)
    (by obtain ⟨k9, h9, -⟩ := Vm.findClass_spec hcl; exact ⟨k9, h9⟩) (fun z hz => by
      rcases hpass z hz with h | ⟨hz0, nm, hl1, hn1⟩
      · exact Or.inl h
      · obtain ⟨c6, hc6, hcl6⟩ := Cond.classLink_spec hown hl1 e.platform hpl
        obtain ⟨a8, b8, h1, h2, h3⟩ := hn1
        cases Option.some.inj (h1.symm.trans hcl)
        cases Option.some.inj (h2.symm.trans hc6)
        exact Or.inr ⟨hz0, _, hcl6, h3⟩)
  obtain ⟨g₀, hfr⟩ := X'.frames_eq
  have hcell9 : ((T.setVm vm').setFrames (.throwing q :: below)).heap[q]? = some ce := by
    show T.heap[q]? = some ce
    rw [hT]; exact hcell
  have hend : Ended ((T.setVm vm').setFrames (.throwing q :: below)) below (.threw q) := State.frames_setFrames _ (State.cur_lt_of_frames hfr)
  refine ⟨(T.setVm vm').setFrames (.throwing q :: below), ?_, .threw q, X'.here.running, hend, Or.inr ⟨q, rfl, E, ce, locs, hx _ hT (X'.ends _).1.alike, hcell9, hv, hcl, (X'.ends _).1, (X'.ends _).2.mono hc hs, hf⟩⟩
  rw [X.pushThrowing_eq]
  exact st
/-- a thing of a world lies in the heap -/
theorem vx_lt {D : va_G} {cl : List vw_C} {ws : va_W} {H1 : Heap} (h : va_P D cl ws H1) {k : Nat} {q : Nat × va_E} (hk : ws[k]? = some q) : q.1 < H1.size := (h k q hk).lt
end VXS
/-! ===== END ===== -/
/-! ===== BEGIN methods with a table of their own: called by a name, returning or throwing ===== -/
section VXH
/-! vx_backW, vx_callVX, vx_callSX, vx_callVW, vx_runVW, vx_runVX, vx_runSX, vx_ofWH follow the same proofs as their sisters above (Free/Laws.lean, Shelf42/LK1.lean); vx_outP calls Shelf42/NT130.lean (outThrough). -/
section
variable {l : Launch} {R : Room} {p : Program} {e : Env} {below : List Frame} {s : State} {sargs : Array Value} {y : MethodName} {len W9 : Nat}
theorem vx_backW {ws : List Cond} {rm : Room} {Pc : Array Value → State → Prop} {Qc : Array Value → State → Outcome → State → Prop} {XC : String → State → State → Prop} {mc ms : Nat} {free : Addr → Prop} {bytes : ByteArray} {maxL : Nat} {ret : Option FieldType} {hh : List (Nat × Nat × Nat × Nat)}
    (hM : vx_Met l y ws rm Pc Qc XC mc ms free) (hblind : FrameBlind Pc) (hrc : rm.cells = mc) (hrs : rm.slots = ms)
    (hframes : rm.frames + 1 ≤ R.frames) (hlocals : W9 + (maxL + 11) + rm.locals ≤ R.locals)
    (hws : ∀ w ∈ ws, ∀ a' U, s.WarmedH U.vm → w.before a' U = true) (hcode : Cond.codeWith y bytes maxL ret hh ∈ ws) (hinit : ∀ a' U, s.WarmedH U.vm → (Cond.initialized y.cls).before a' U = true) :
    vx_Back l R p e below s sargs y len W9 (PreOf R mc ms Pc) (PostOf Qc mc ms free) (vx_Post XC mc ms free) := by
  intro m meth c A g ig mk a X hg hsize hdg hW hn hp
  have h1 : (headSpec ws rm).pre.before a A.U = true := atoms_intro fun w hw => hws w hw _ _ X.warmed
  have h2 : (Cond.codeWith y bytes maxL ret hh).before a A.U = true := hws _ hcode _ _ X.warmed
  have h3 : (Cond.initialized y.cls).before a A.U = true := hinit _ _ X.warmed
  have h4 : A.cells + (headSpec ws rm).room.cells ≤ R.cells := by rw [show (headSpec ws rm).room.cells = mc from hrc]; exact hp.1
  have h5 : A.slots + (headSpec ws rm).room.slots ≤ R.slots := by rw [show (headSpec ws rm).room.slots = ms from hrs]; exact hp.2.1
  have hPc : Pc a (A.U.calling g mk a) := hblind _ _ _ _ hp.2.2
  obtain ⟨U, Ls, c0, s0⟩ := A
  dsimp only [Pt.U, Pt.locs, Pt.cells, Pt.slots] at h1 h2 h3 h4 h5 X hn hPc ⊢
  obtain ⟨m9, methY, cY, hn9, hmY, hcY, -, hlY, -⟩ := Cond.codeWith_spec h2
  cases Option.some.inj (hn9.symm.trans hn)
  obtain ⟨kY, hkY, -⟩ := className_of_methodNamed hn
  have hinitY : kY.init = .initialized := Cond.initialized_spec (findClass_of_methodNamed hn) hkY h3
  have h : At U g.method c below := by rw [hg]; exact X.here
  have hlocals9 : W9 + (maxL + 11) + (headSpec ws rm).room.locals ≤ R.locals := hlocals
  have happ : (headSpec ws rm).appliesLoose y e.platform (U.calling g mk a) = true :=
    Spec.appliesLoose_calling (g := g) h hdg hn hkY hinitY
      (X.room_calling (g := g) (R' := (headSpec ws rm).room) hsize hmY hcY hframes (by rw [hlY]; omega) h4 h5) h1
  obtain ⟨mid, hmid⟩ := h.above
  have hfr : (U.setTop g).frames = (.java g :: mid) ++ below := by rw [State.frames_setTop' g h.top, hmid]; rfl
  obtain ⟨o, s₂, hsteps, -, hend, hq⟩ := Steps.callFree hM p X.admits X.cas X.clock (acts := []) hfr happ hPc trivial
  have hq' : vx_Q Qc XC mc ms free a (U.calling g mk a) o s₂ := hq
  rw [State.frames_setTop' g h.top] at hend
  obtain ⟨g₀, hg0⟩ := Option.isSome_iff_exists.mp h.top
  obtain ⟨r, hr⟩ := State.topJava?_eq_some.mp hg0
  have hr' : (({ U with heap := s₂.heap, slotsUsed := s₂.slotsUsed } : State).setVm s₂.vm).frames = .java g₀ :: r := hr
  rcases hq' with ⟨hqc, L, hfe, hL⟩ | ⟨q, rfl, E, ce, L, hx, hce, hcv, hcl, hW₂, hsm, hL⟩
  · obtain ⟨⟨v, rfl⟩, hW₂, e2, q2, q3, q4, q5, q6⟩ := id hfe
    have e3 : s₂ = ({ (U.calling g mk a).setFrames s₂.frames with heap := s₂.heap, slotsUsed := s₂.slotsUsed } : State).setVm s₂.vm := by
      have : s₂ = ({ s₂ with vm := (U.calling g mk a).vm } : State).setVm s₂.vm := rfl
      rw [e2] at this
      exact this
    obtain ⟨c₂, i₂, len₂, hc₂, hd₂, hf₂⟩ := hend
    have hW' : U.WarmedH s₂.vm := hW₂
    have hcc : c₂ = c := by
      have h1 : s₂.code? g.method = U.code? g.method := by
        rw [State.code?_eq, State.code?_eq, hW'.alike.method?]
      exact Option.some.inj (hc₂.symm.trans (h1.trans h.code))
    subst hcc
    have hlen : len₂ = len := by rw [hdg] at hd₂; cases hd₂; rfl
    subst hlen
    have hs₂ : s₂ = (({ U with heap := s₂.heap, slotsUsed := s₂.slotsUsed } : State).setVm s₂.vm).setTop { g with pc := g.pc + len₂, stack := v.toList ++ g.stack } := by
      refine e3.trans ?_
      rw [hf₂, State.calling_eq h.top, State.setFrames_setFrames, State.setTop_of_frames _ hr', hr]
      rfl
    have hsame : U.sameButNew ({ U with heap := s₂.heap, slotsUsed := s₂.slotsUsed } : State) L mc ms := by
      refine ⟨?_, q2, q3, q4, q5, q6⟩
      obtain ⟨t, ht, -⟩ := State.frames_cons hr
      show ({ U with heap := s₂.heap, slotsUsed := s₂.slotsUsed } : State) = { U.setFrames U.frames with heap := s₂.heap, slotsUsed := s₂.slotsUsed }
      rw [State.setFrames_self ht]
    subst hg
    refine Or.inl ⟨v, ⟨(({ U with heap := s₂.heap, slotsUsed := s₂.slotsUsed } : State).setVm s₂.vm), Ls ++ L, c0 + mc, s0 + ms⟩,
      ⟨X.admits, X.cas, X.clock, X.frames, X.room, X.hears, X.method, X.code, (X.here.setHeapUsed s₂.heap s₂.slotsUsed).setVm hW'.alike, X.tail, State.WarmedH.trans X.warmed hW', X.limits, X.bytes, X.same.trans (hsame.setVm s.vm)⟩,
      ⟨g, mk, s₂, L, rfl, rfl, hqc, rfl, hL, rfl, rfl⟩, ?_⟩
    show Steps p.tables e below _ ((({ U with heap := s₂.heap, slotsUsed := s₂.slotsUsed } : State).setVm s₂.vm).setTop { g with pc := g.pc + len₂, stack := v.toList ++ g.stack })
    rw [← hs₂]
    exact hsteps
  · obtain ⟨e2, q2, q3, q4, q5, q6⟩ := id hsm
    have e3 : s₂ = ({ (U.calling g mk a).setFrames s₂.frames with heap := s₂.heap, slotsUsed := s₂.slotsUsed } : State).setVm s₂.vm := by
      have : s₂ = ({ s₂ with vm := (U.calling g mk a).vm } : State).setVm s₂.vm := rfl
      rw [e2] at this
      exact this
    have hf₂ : s₂.frames = .throwing q :: .java g :: U.frames.tail := hend
    have hW' : U.WarmedH s₂.vm := hW₂
    have hs₂ : s₂ = ((({ U with heap := s₂.heap, slotsUsed := s₂.slotsUsed } : State).setVm s₂.vm).setTop g).pushFrame (.throwing q) := by
      refine e3.trans ?_
      rw [hf₂, State.calling_eq h.top, State.setFrames_setFrames, State.pushFrame, State.frames_setTop _ hr', State.setTop_of_frames _ hr', State.setFrames_setFrames, hr]
      rfl
    have hsame : U.sameButNew ({ U with heap := s₂.heap, slotsUsed := s₂.slotsUsed } : State) L mc ms := by
      refine ⟨?_, q2, q3, q4, q5, q6⟩
      obtain ⟨t, ht, -⟩ := State.frames_cons hr
      show ({ U with heap := s₂.heap, slotsUsed := s₂.slotsUsed } : State) = { U.setFrames U.frames with heap := s₂.heap, slotsUsed := s₂.slotsUsed }
      rw [State.setFrames_self ht]
    subst hg
    refine Or.inr ⟨q, ⟨(({ U with heap := s₂.heap, slotsUsed := s₂.slotsUsed } : State).setVm s₂.vm), Ls ++ L, c0 + mc, s0 + ms⟩,
      ⟨X.admits, X.cas, X.clock, X.frames, X.room, X.hears, X.method, X.code, (X.here.setHeapUsed s₂.heap s₂.slotsUsed).setVm hW'.alike, X.tail, State.WarmedH.trans X.warmed hW', X.limits, X.bytes, X.same.trans (hsame.setVm s.vm)⟩,
      ⟨g, mk, s₂, L, E, ce, rfl, rfl, hx, hce, hcv, hcl, rfl, hL, rfl, rfl⟩, ?_⟩
    show Steps p.tables e below _ (((({ U with heap := s₂.heap, slotsUsed := s₂.slotsUsed } : State).setVm s₂.vm).setTop g).pushFrame (.throwing q))
    rw [← hs₂]
    exact hsteps
end
variable {p : Program} {l : Launch} {e : Env} {R : Room} {s : State} {m : MethodId} {args : Array Value} {below : List Frame} {meth : Method} {c : Code} {T : State} {H : Heap} {locs : List Loc} {cells slots : Nat}
theorem vx_callVX (X : Stand p l e R s m args below meth c T locs cells slots) (hexec : p.tables.exec = Jvm.exec) {own C : String} {index : Nat} {y : MethodName} {bytes : ByteArray} {maxL : Nat} {ret : Option FieldType} {hh : List (Nat × Nat × Nat × Nat)}
    (hown : s.vm.findClass own = some m.cls) (hlink : (Cond.methodLink own index y).before args s = true) (hinst : (Cond.instanceMethod y).before args s = true) (hsel : (Cond.selects C y y).before args s = true)
    (hcode : (Cond.codeWith y bytes maxL ret hh).before args s = true) (hy : y.cls ≠ "java/lang/invoke/MethodHandle" ∧ y.cls ≠ "java/lang/invoke/VarHandle")
    {W9 : Nat} {Pre : Pt → Array Value → Prop} {Post : Pt → Array Value → Option Value → Pt → Prop} {PostX : Pt → Array Value → Addr → Pt → Prop} (hK : vx_Back l R p e below s args y 3 W9 Pre Post PostX)
    {b : Addr} {cellB : Cell} (hcell : T.heap[b]? = some cellB) (hobj : cellB.vm.isStatics = false) (hcls : s.vm.findClass C = some cellB.cls)
    {g : JFrame} (hg : g.method = m) (hsize : g.locals.size = c.maxLocals) {argsL rest : List Value} (hlen : ∀ sig, parseMethodDescriptor y.desc = some sig → argsL.length = sig.parameters.length)
    (hstack : g.stack = argsL.reverse ++ .ref b :: rest) (hW : 2 * g.monitorRoom + (rest.map fun v => v.category).sum ≤ W9) (hdg : decode c.code g.pc = .ok (.invokevirtual index, 3))
    (hpre : ∀ vm₁, s.WarmedH vm₁ → Pre ⟨T.setVm vm₁, locs, cells, slots⟩ (Value.ref b :: argsL).toArray) :
    (∃ (v : Option Value) (vm₁ : Vm) (B : Pt), s.WarmedH vm₁ ∧ Stand p l e R s m args below meth c B.U B.locs B.cells B.slots ∧ Post ⟨T.setVm vm₁, locs, cells, slots⟩ (Value.ref b :: argsL).toArray v B ∧
      ∀ target, Steps p.tables e below (B.U.setTop { g with pc := g.pc + 3, stack := v.toList ++ rest }) target → Steps p.tables e below (T.setTop g) target) ∨
    (∃ (q : Addr) (vm₁ : Vm) (B : Pt), s.WarmedH vm₁ ∧ Stand p l e R s m args below meth c B.U B.locs B.cells B.slots ∧ PostX ⟨T.setVm vm₁, locs, cells, slots⟩ (Value.ref b :: argsL).toArray q B ∧
      Steps p.tables e below (T.setTop g) ((B.U.setTop { g with stack := rest }).pushFrame (.throwing q))) := by
  obtain ⟨mk, methM, hnamed, hmethM, hstM, habM⟩ := Cond.instanceMethod_spec hinst
  obtain ⟨m8, methM', cM, hn8, hmethM', -, -, -, -, -, -, hsigM⟩ := Cond.codeWith_spec hcode
  cases Option.some.inj (hn8.symm.trans hnamed)
  cases hmethM.symm.trans hmethM'
  obtain ⟨c2, r2, m2, q1, q2, q3, q4, kP, hkP, hkPi⟩ := Cond.selects_spec hsel
  cases hcls.symm.trans q1
  cases (State.methodFound?_of_named hnamed hy).symm.trans q2
  cases hnamed.symm.trans q3
  have hselP : selectMethod e.platform s.vm cellB.cls mk = .method mk := by rw [Launch.admits_selectMethod X.admits]; exact q4
  obtain ⟨vm₁, X₁, hstep₁⟩ := X.invokevirtual hexec hown hlink hnamed hmethM hstM hkP hkPi hy (a := b) (cell := cellB) hcell
    (fun z h => by rw [h] at hobj; cases hobj) hselP hmethM habM hkP hkPi (g := g) hg (argsL := argsL) (rest := rest) (hlen _ hsigM) hstack hdg
  rcases hK m meth c ⟨T.setVm vm₁, locs, cells, slots⟩ { g with stack := rest } (.invokevirtual index) mk (Value.ref b :: argsL).toArray X₁ hg hsize hdg hW (X₁.named hnamed) (hpre vm₁ X₁.warmed) with ⟨v, B, X', hpost, hsteps⟩ | ⟨q, B, X', hpost, hsteps⟩
  · exact Or.inl ⟨v, vm₁, B, X₁.warmed, X', hpost, fun target h => hstep₁ _ fun acts => by rw [doInvoke_state]; exact hsteps.trans h⟩
  · exact Or.inr ⟨q, vm₁, B, X₁.warmed, X', hpost, hstep₁ _ fun acts => by rw [doInvoke_state]; exact hsteps⟩
theorem vx_callSX (X : Stand p l e R s m args below meth c T locs cells slots) (hexec : p.tables.exec = Jvm.exec) {own : String} {index : Nat} {y : MethodName} {bytes : ByteArray} {maxL : Nat} {ret : Option FieldType} {hh : List (Nat × Nat × Nat × Nat)}
    (hown : s.vm.findClass own = some m.cls) (hlink : (Cond.methodLink own index y).before args s = true) (hstat : (Cond.static y).before args s = true) (hinit : (Cond.initialized y.cls).before args s = true)
    (hcode : (Cond.codeWith y bytes maxL ret hh).before args s = true) (hy : y.cls ≠ "java/lang/invoke/MethodHandle" ∧ y.cls ≠ "java/lang/invoke/VarHandle")
    {W9 : Nat} {Pre : Pt → Array Value → Prop} {Post : Pt → Array Value → Option Value → Pt → Prop} {PostX : Pt → Array Value → Addr → Pt → Prop} (hK : vx_Back l R p e below s args y 3 W9 Pre Post PostX)
    {g : JFrame} (hg : g.method = m) (hsize : g.locals.size = c.maxLocals) {argsL rest : List Value} (hlen : ∀ sig, parseMethodDescriptor y.desc = some sig → argsL.length = sig.parameters.length)
    (hstack : g.stack = argsL.reverse ++ rest) (hW : 2 * g.monitorRoom + (rest.map fun v => v.category).sum ≤ W9) (hdg : decode c.code g.pc = .ok (.invokestatic index, 3))
    (hpre : ∀ vm₁, s.WarmedH vm₁ → Pre ⟨T.setVm vm₁, locs, cells, slots⟩ argsL.toArray) :
    (∃ (v : Option Value) (vm₁ : Vm) (B : Pt), s.WarmedH vm₁ ∧ Stand p l e R s m args below meth c B.U B.locs B.cells B.slots ∧ Post ⟨T.setVm vm₁, locs, cells, slots⟩ argsL.toArray v B ∧
      ∀ target, Steps p.tables e below (B.U.setTop { g with pc := g.pc + 3, stack := v.toList ++ rest }) target → Steps p.tables e below (T.setTop g) target) ∨
    (∃ (q : Addr) (vm₁ : Vm) (B : Pt), s.WarmedH vm₁ ∧ Stand p l e R s m args below meth c B.U B.locs B.cells B.slots ∧ PostX ⟨T.setVm vm₁, locs, cells, slots⟩ argsL.toArray q B ∧
      Steps p.tables e below (T.setTop g) ((B.U.setTop { g with stack := rest }).pushFrame (.throwing q))) := by
  obtain ⟨mk, methM, cM, hnamed, hmethM, -, -, -, -, -, -, hsigM⟩ := Cond.codeWith_spec hcode
  have hstatic : methM.isStatic = true := Cond.static_spec hnamed hmethM hstat
  obtain ⟨kP, hkP, -⟩ := className_of_methodNamed hnamed
  have hinitP : kP.init = .initialized := Cond.initialized_spec (findClass_of_methodNamed hnamed) hkP hinit
  obtain ⟨vm₁, X₁, hstep₁⟩ := X.invokestatic hexec hown hlink hnamed hmethM hstatic hkP hinitP hy (g := g) hg (argsL := argsL) (rest := rest) (hlen _ hsigM) hstack hdg
  rcases hK m meth c ⟨T.setVm vm₁, locs, cells, slots⟩ { g with stack := rest } (.invokestatic index) mk argsL.toArray X₁ hg hsize hdg hW (X₁.named hnamed) (hpre vm₁ X₁.warmed) with ⟨v, B, X', hpost, hsteps⟩ | ⟨q, B, X', hpost, hsteps⟩
  · exact Or.inl ⟨v, vm₁, B, X₁.warmed, X', hpost, fun target h => hstep₁ _ fun acts => by rw [doInvoke_state]; exact hsteps.trans h⟩
  · exact Or.inr ⟨q, vm₁, B, X₁.warmed, X', hpost, hstep₁ _ fun acts => by rw [doInvoke_state]; exact hsteps⟩
theorem vx_callVW (X : Stand p l e R s m args below meth c T locs cells slots) (hexec : p.tables.exec = Jvm.exec) {own C : String} {index : Nat} {y : MethodName} {bytes : ByteArray} {maxL : Nat} {ret : Option FieldType} {hh : List (Nat × Nat × Nat × Nat)}
    (hown : s.vm.findClass own = some m.cls) (hlink : (Cond.methodLink own index y).before args s = true) (hinst : (Cond.instanceMethod y).before args s = true) (hsel : (Cond.selects C y y).before args s = true)
    (hcode : (Cond.codeWith y bytes maxL ret hh).before args s = true) (hy : y.cls ≠ "java/lang/invoke/MethodHandle" ∧ y.cls ≠ "java/lang/invoke/VarHandle")
    {W9 : Nat} {Pre : Pt → Array Value → Prop} {Post : Pt → Array Value → Option Value → Pt → Prop} (hK : Back l R p e below s args y 3 W9 Pre Post)
    {b : Addr} {cellB : Cell} (hcell : T.heap[b]? = some cellB) (hobj : cellB.vm.isStatics = false) (hcls : s.vm.findClass C = some cellB.cls)
    {g : JFrame} (hg : g.method = m) (hsize : g.locals.size = c.maxLocals) {argsL rest : List Value} (hlen : ∀ sig, parseMethodDescriptor y.desc = some sig → argsL.length = sig.parameters.length)
    (hstack : g.stack = argsL.reverse ++ .ref b :: rest) (hW : 2 * g.monitorRoom + (rest.map fun v => v.category).sum ≤ W9) (hdg : decode c.code g.pc = .ok (.invokevirtual index, 3))
    (hpre : ∀ vm₁, s.WarmedH vm₁ → Pre ⟨T.setVm vm₁, locs, cells, slots⟩ (Value.ref b :: argsL).toArray) :
    ∃ (v : Option Value) (vm₁ : Vm) (B : Pt), s.WarmedH vm₁ ∧ Stand p l e R s m args below meth c B.U B.locs B.cells B.slots ∧ Post ⟨T.setVm vm₁, locs, cells, slots⟩ (Value.ref b :: argsL).toArray v B ∧
      ∀ target, Steps p.tables e below (B.U.setTop { g with pc := g.pc + 3, stack := v.toList ++ rest }) target → Steps p.tables e below (T.setTop g) target := by
  obtain ⟨mk, methM, hnamed, hmethM, hstM, habM⟩ := Cond.instanceMethod_spec hinst
  obtain ⟨m8, methM', cM, hn8, hmethM', -, -, -, -, -, -, hsigM⟩ := Cond.codeWith_spec hcode
  cases Option.some.inj (hn8.symm.trans hnamed)
  cases hmethM.symm.trans hmethM'
  obtain ⟨c2, r2, m2, q1, q2, q3, q4, kP, hkP, hkPi⟩ := Cond.selects_spec hsel
  cases hcls.symm.trans q1
  cases (State.methodFound?_of_named hnamed hy).symm.trans q2
  cases hnamed.symm.trans q3
  have hselP : selectMethod e.platform s.vm cellB.cls mk = .method mk := by rw [Launch.admits_selectMethod X.admits]; exact q4
  obtain ⟨vm₁, X₁, hstep₁⟩ := X.invokevirtual hexec hown hlink hnamed hmethM hstM hkP hkPi hy (a := b) (cell := cellB) hcell
    (fun z h => by rw [h] at hobj; cases hobj) hselP hmethM habM hkP hkPi (g := g) hg (argsL := argsL) (rest := rest) (hlen _ hsigM) hstack hdg
  obtain ⟨v, B, X', hpost, hsteps⟩ := hK m meth c ⟨T.setVm vm₁, locs, cells, slots⟩ { g with stack := rest } (.invokevirtual index) mk (Value.ref b :: argsL).toArray X₁ hg hsize hdg hW (X₁.named hnamed) (hpre vm₁ X₁.warmed)
  exact ⟨v, vm₁, B, X₁.warmed, X', hpost, fun target h => hstep₁ _ fun acts => by rw [doInvoke_state]; exact hsteps.trans h⟩
abbrev vx_CVW (R : Room) (s : State) (args : Array Value) (own C : String) (index : Nat) (y : MethodName) (bytes : ByteArray) (maxL : Nat) (ret : Option FieldType) (hh : List (Nat × Nat × Nat × Nat)) (ws : List Cond) (rm : Room) (mc ms n : Nat) : Prop :=
  (rm.cells = mc ∧ rm.slots = ms ∧ rm.frames + 1 ≤ R.frames ∧ 8 + (maxL + 11) + rm.locals ≤ R.locals ∧ (∀ w ∈ ws, ∀ (a' : Array Value) (U : State), s.WarmedH U.vm → w.before a' U = true) ∧ Cond.codeWith y bytes maxL ret hh ∈ ws) ∧
  (Cond.codeWith y bytes maxL ret hh).before args s = true ∧ (Cond.initialized y.cls).before args s = true ∧ (y.cls ≠ "java/lang/invoke/MethodHandle" ∧ y.cls ≠ "java/lang/invoke/VarHandle") ∧
  (∀ sig, parseMethodDescriptor y.desc = some sig → n = sig.parameters.length) ∧ (Cond.methodLink own index y).before args s = true ∧ (Cond.instanceMethod y).before args s = true ∧ (Cond.selects C y y).before args s = true
theorem vx_cwVW {own C : String} {index maxL mc ms : Nat} {y : MethodName} {bytes : ByteArray} {ret : Option FieldType} {hh : List (Nat × Nat × Nat × Nat)} {Ts ws ws' : List Cond} {rm : Room} (n : Nat) (ht : ∀ w ∈ Ts, w.before args s = true) (hT : GoodIn Ts (wsV own index C y ws)) (hw : ws = Cond.codeWith y bytes maxL ret hh :: ws') (hrc : rm.cells = mc) (hrs : rm.slots = ms)
    (hd : y.cls = C ∧ y.cls ≠ "java/lang/invoke/MethodHandle" ∧ y.cls ≠ "java/lang/invoke/VarHandle" ∧ (parseMethodDescriptor y.desc).map (fun d => d.parameters.length) = some n) (hR : rm.frames + 1 ≤ R.frames ∧ 8 + (maxL + 11) + rm.locals ≤ R.locals) :
    vx_CVW R s args own C index y bytes maxL ret hh ws rm mc ms n := by
  obtain ⟨hC, hd⟩ := hd
  subst hC
  have ok : ∀ w ∈ wsV own index y.cls y ws, w.before args s = true := fun w h => ht w (hT w h).1
  have hG : GoodIn Ts ws := fun w h => hT w (by unfold wsV; exact List.mem_append_right _ h)
  have hc : Cond.codeWith y bytes maxL ret hh ∈ ws := by rw [hw]; exact List.mem_cons_self
  refine ⟨⟨hrc, hrs, hR.1, hR.2, pay_in ht hG, hc⟩, ht _ (hG _ hc).1, ok _ (by simp [wsV]), ⟨hd.1, hd.2.1⟩, fun sig h => ?_, ok _ (by simp [wsV]), ok _ (by simp [wsV]), ok _ (by simp [wsV])⟩
  have h2 := hd.2.2
  rw [h] at h2
  exact (Option.some.inj h2).symm
theorem vx_runVW {y : MethodName} {bytes cc : ByteArray} {maxL nL mc ms n index : Nat} {ret : Option FieldType} {hh : List (Nat × Nat × Nat × Nat)} {ws : List Cond} {rm : Room} {Pc : Array Value → State → Prop} {Qc : Array Value → State → Outcome → State → Prop} {free : Addr → Prop} {Ts : List Cond} {own C : String} {b : Addr} {As rest : List Value} {g : JFrame}
    (S : CallFix p m c cc nL s args Ts own) (hM : Met l y ws rm Pc Qc mc ms free) (cw : vx_CVW R s args own C index y bytes maxL ret hh ws rm mc ms n) (hp : PreV s H C b Pc As)
    (hg : g.method = m) (hn : As.length = n) (hsize : g.locals.size = nL) (hstack : g.stack = As.reverse ++ .ref b :: rest) (hW : 2 * g.monitorRoom + (rest.map fun v => v.category).sum ≤ 8) (hdg : decode cc g.pc = .ok (.invokevirtual index, 3)) (hf : cells + mc ≤ R.cells ∧ slots + ms ≤ R.slots) :
    va_Run p l e R s m args below meth c H locs cells slots mc ms g rest (Qc (Value.ref b :: As).toArray) free := by
  obtain ⟨⟨hrc, hrs, hfr, hlo, hws, hcw⟩, hcode, hini, hy, hlen, hl, hin, hse⟩ := cw
  have hK : Back l R p e below s args y 3 8 (PreOf R mc ms Pc) (PostOf Qc mc ms free) := va_backW (hh := hh) (bytes := bytes) (maxL := maxL) (ret := ret) hM hp.1 hrc hrs hfr hlo hws hcw (fun a' U hW => word_at hW (Or.inl (by first | rfl | simp [Cond.onTables, Cond.keeps, Cond.steady])) hini)
  obtain ⟨hx, hb, hml, ho, -⟩ := S
  obtain ⟨-, ⟨cellB, hcB, hoB, hclB⟩, hPc⟩ := hp
  intro T hT X
  obtain ⟨v, vm₁, ⟨U', l2, c2, s2⟩, hW₁, X', ⟨g', mk, t, L, e1, e2, hq, h1, hL, h2, h3⟩, st⟩ := vx_callVW X hx (C := C) (hh := hh) (bytes := bytes) (maxL := maxL) (ret := ret) ho hl hin hse hcode hy hK (by rw [hT]; exact hcB) hoB hclB hg (hsize.trans hml.symm) (argsL := As) (rest := rest) (fun sig h => hn.trans (hlen sig h)) hstack hW (by rw [hb]; exact hdg)
    (fun vm₁ hW₁ => ⟨hf.1, hf.2, hPc (T.setVm vm₁) hT hW₁⟩)
  dsimp only [Pt.U, Pt.locs, Pt.cells, Pt.slots] at X' e1 e2 h1 h2 h3 st
  subst h1; subst h2; subst h3
  exact ⟨v, (T.setVm vm₁).calling g' mk (Value.ref b :: As).toArray, t, U', L, hT, X', hL, e1, e2, hq, st⟩
section
variable {y : MethodName} {bytes cc : ByteArray} {maxL nL mc ms n index : Nat} {ret : Option FieldType} {ws : List Cond} {rm : Room} {Pc : Array Value → State → Prop} {Qc : Array Value → State → Outcome → State → Prop} {XC : String → State → State → Prop} {free : Addr → Prop} {Ts : List Cond} {own C : String} {b : Addr} {As rest : List Value} {g : JFrame}
theorem vx_runVX {hh : List (Nat × Nat × Nat × Nat)} (S : CallFix p m c cc nL s args Ts own) (hM : vx_Met l y ws rm Pc Qc XC mc ms free) (cw : vx_CVW R s args own C index y bytes maxL ret hh ws rm mc ms n) (hp : PreV s H C b Pc As)
    (hg : g.method = m) (hn : As.length = n) (hsize : g.locals.size = nL) (hstack : g.stack = As.reverse ++ .ref b :: rest) (hW : 2 * g.monitorRoom + (rest.map fun v => v.category).sum ≤ 8) (hdg : decode cc g.pc = .ok (.invokevirtual index, 3)) (hf : cells + mc ≤ R.cells ∧ slots + ms ≤ R.slots) :
    vx_Run p l e R s m args below meth c H locs cells slots mc ms g rest (Qc (Value.ref b :: As).toArray) XC free := by
  obtain ⟨⟨hrc, hrs, hfr, hlo, hws, hcw⟩, hcode, hini, hy, hlen, hl, hin, hse⟩ := cw
  have hK : vx_Back l R p e below s args y 3 8 (PreOf R mc ms Pc) (PostOf Qc mc ms free) (vx_Post XC mc ms free) := vx_backW (hh := hh) (bytes := bytes) (maxL := maxL) (ret := ret) hM hp.1 hrc hrs hfr hlo hws hcw (fun a' U hW => word_at hW (Or.inl (by first | rfl | simp [Cond.onTables, Cond.keeps, Cond.steady])) hini)
  obtain ⟨hx, hb, hml, ho, -⟩ := S
  obtain ⟨-, ⟨cellB, hcB, hoB, hclB⟩, hPc⟩ := hp
  intro T hT X
  rcases vx_callVX X hx (C := C) (hh := hh) (bytes := bytes) (maxL := maxL) (ret := ret) ho hl hin hse hcode hy hK (by rw [hT]; exact hcB) hoB hclB hg (hsize.trans hml.symm) (argsL := As) (rest := rest) (fun sig h => hn.trans (hlen sig h)) hstack hW (by rw [hb]; exact hdg)
    (fun vm₁ hW₁ => ⟨hf.1, hf.2, hPc (T.setVm vm₁) hT hW₁⟩) with ⟨v, vm₁, ⟨U', l2, c2, s2⟩, hW₁, X', ⟨g', mk, t, L, e1, e2, hq, h1, hL, h2, h3⟩, st⟩ | ⟨q, vm₁, ⟨U', l2, c2, s2⟩, hW₁, X', ⟨g', mk, t, L, E, ce, e1, e2, hq, hce, hcv, hcl, h1, hL, h2, h3⟩, st⟩
  · dsimp only [Pt.U, Pt.locs, Pt.cells, Pt.slots] at X' e1 e2 h1 h2 h3 st
    subst h1; subst h2; subst h3
    exact Or.inl ⟨v, (T.setVm vm₁).calling g' mk (Value.ref b :: As).toArray, t, U', L, hT, X', hL, e1, e2, hq, st⟩
  · dsimp only [Pt.U, Pt.locs, Pt.cells, Pt.slots] at X' e1 e2 h1 h2 h3 st hcl
    subst h1; subst h2; subst h3
    exact Or.inr ⟨q, (T.setVm vm₁).calling g' mk (Value.ref b :: As).toArray, t, U', L, E, ce, hT, X', hL, e1, e2, hq, hce, hcv, vx_cls hW₁ hcl, st⟩
theorem vx_runSX {hh : List (Nat × Nat × Nat × Nat)} (S : CallFix p m c cc nL s args Ts own) (hM : vx_Met l y ws rm Pc Qc XC mc ms free) (cw : vx_CSW R s args own index y bytes maxL ret hh ws rm mc ms n) (hp : PreS s H Pc As)
    (hg : g.method = m) (hn : As.length = n) (hsize : g.locals.size = nL) (hstack : g.stack = As.reverse ++ rest) (hW : 2 * g.monitorRoom + (rest.map fun v => v.category).sum ≤ 8) (hdg : decode cc g.pc = .ok (.invokestatic index, 3)) (hf : cells + mc ≤ R.cells ∧ slots + ms ≤ R.slots) :
    vx_Run p l e R s m args below meth c H locs cells slots mc ms g rest (Qc As.toArray) XC free := by
  obtain ⟨⟨hrc, hrs, hfr, hlo, hws, hcw⟩, hcode, hini, hy, hlen, hl, hstt⟩ := cw
  have hK : vx_Back l R p e below s args y 3 8 (PreOf R mc ms Pc) (PostOf Qc mc ms free) (vx_Post XC mc ms free) := vx_backW (hh := hh) (bytes := bytes) (maxL := maxL) (ret := ret) hM hp.1 hrc hrs hfr hlo hws hcw (fun a' U hW => word_at hW (Or.inl (by first | rfl | simp [Cond.onTables, Cond.keeps, Cond.steady])) hini)
  obtain ⟨hx, hb, hml, ho, -⟩ := S
  intro T hT X
  rcases vx_callSX X hx (hh := hh) (bytes := bytes) (maxL := maxL) (ret := ret) ho hl hstt hini hcode hy hK hg (hsize.trans hml.symm) (argsL := As) (rest := rest) (fun sig h => hn.trans (hlen sig h)) hstack hW (by rw [hb]; exact hdg)
    (fun vm₁ hW₁ => ⟨hf.1, hf.2, hp.2 (T.setVm vm₁) hT hW₁⟩) with ⟨v, vm₁, ⟨U', l2, c2, s2⟩, hW₁, X', ⟨g', mk, t, L, e1, e2, hq, h1, hL, h2, h3⟩, st⟩ | ⟨q, vm₁, ⟨U', l2, c2, s2⟩, hW₁, X', ⟨g', mk, t, L, E, ce, e1, e2, hq, hce, hcv, hcl, h1, hL, h2, h3⟩, st⟩
  · dsimp only [Pt.U, Pt.locs, Pt.cells, Pt.slots] at X' e1 e2 h1 h2 h3 st
    subst h1; subst h2; subst h3
    exact Or.inl ⟨v, (T.setVm vm₁).calling g' mk As.toArray, t, U', L, hT, X', hL, e1, e2, hq, st⟩
  · dsimp only [Pt.U, Pt.locs, Pt.cells, Pt.slots] at X' e1 e2 h1 h2 h3 st hcl
    subst h1; subst h2; subst h3
    exact Or.inr ⟨q, (T.setVm vm₁).calling g' mk As.toArray, t, U', L, E, ce, hT, X', hL, e1, e2, hq, hce, hcv, vx_cls hW₁ hcl, st⟩
end
end VXH
def RX0 : String := "CaptionHouse$Film"
def TX0 : u_T := fun k => match k with
  | 0 => ("CaptionHouse$Film", "keys", "[I", true)
  | 1 => ("CaptionHouse$Film", "lifted", "[I", true)
  | 2 => ("CaptionHouse$Film", "places", "[I", true)
  | 3 => ("CaptionHouse$Film", "marks", "[I", true)
  | 4 => ("CaptionHouse$Film", "lengths", "[I", true)
  | 5 => ("CaptionHouse$Film", "shotCount", "I", false)
  | _ => ("CaptionHouse$Film", "size", "I", false)
def tyX0 : Nat → FieldType := fun k => match k with
  | 0 => .array .int
  | 1 => .array .int
  | 2 => .array .int
  | 3 => .array .int
  | 4 => .array .int
  | 5 => .int
  | _ => .int
abbrev wsX00 : List Cond := u_ws RX0 TX0 7
theorem nmX0 : ∀ a, a < 7 → ∀ b, b < 7 → a ≠ b → (TX0 a).2.1 ≠ (TX0 b).2.1 := by decide +kernel
theorem tyX0_ok : ∀ k, k < 7 → parseFieldDescriptor (TX0 k).2.2.1 = some (tyX0 k) := by decide +kernel
abbrev cX0_init : ByteArray := prog_2_method_1_code
def yX0_init : MethodName := ⟨RX0, "<init>", "()V"⟩
abbrev cX0_shots : ByteArray := prog_2_method_2_code
def yX0_shots : MethodName := ⟨RX0, "shots", "()I"⟩
abbrev cX0_shotFrames : ByteArray := prog_2_method_3_code
def yX0_shotFrames : MethodName := ⟨RX0, "shotFrames", "(I)I"⟩
abbrev cX0_size : ByteArray := prog_2_method_4_code
def yX0_size : MethodName := ⟨RX0, "size", "()I"⟩
abbrev cX0_keyAt : ByteArray := prog_2_method_5_code
def yX0_keyAt : MethodName := ⟨RX0, "keyAt", "(I)I"⟩
abbrev cX0_placeOfFrame : ByteArray := prog_2_method_6_code
def yX0_placeOfFrame : MethodName := ⟨RX0, "placeOfFrame", "(II)I"⟩
abbrev cX0_isSeam : ByteArray := prog_2_method_7_code
def yX0_isSeam : MethodName := ⟨RX0, "isSeam", "(I)Z"⟩
abbrev cX0_appendShot : ByteArray := prog_2_method_8_code
def yX0_appendShot : MethodName := ⟨RX0, "appendShot", "(I)I"⟩
abbrev cX0_takeOut : ByteArray := prog_2_method_9_code
def yX0_takeOut : MethodName := ⟨RX0, "takeOut", "(II)V"⟩
abbrev cX0_putIn : ByteArray := prog_2_method_10_code
def yX0_putIn : MethodName := ⟨RX0, "putIn", "(IIII)V"⟩
abbrev cX0_shift : ByteArray := prog_2_method_11_code
def yX0_shift : MethodName := ⟨RX0, "shift", "(III)V"⟩
abbrev cX0_showsAny : ByteArray := prog_2_method_12_code
def yX0_showsAny : MethodName := ⟨RX0, "showsAny", "(III)Z"⟩
abbrev cX0_marksAt : ByteArray := prog_2_method_13_code
def yX0_marksAt : MethodName := ⟨RX0, "marksAt", "(I)I"⟩
abbrev cX0_mark : ByteArray := prog_2_method_14_code
def yX0_mark : MethodName := ⟨RX0, "mark", "(III)V"⟩
abbrev cX0_unmark : ByteArray := prog_2_method_15_code
def yX0_unmark : MethodName := ⟨RX0, "unmark", "(I)V"⟩
abbrev cX0_renumber : ByteArray := prog_2_method_16_code
def yX0_renumber : MethodName := ⟨RX0, "renumber", "(I)V"⟩
def RX1 : String := "CaptionHouse$Layout"
def TX1 : u_T := fun k => match k with
  | 0 => ("CaptionHouse$Layout", "firsts", "[I", true)
  | 1 => ("CaptionHouse$Layout", "ends", "[I", true)
  | 2 => ("CaptionHouse$Layout", "widths", "[I", true)
  | 3 => ("CaptionHouse$Layout", "count", "I", false)
  | _ => ("CaptionHouse$Layout", "widest", "I", false)
def tyX1 : Nat → FieldType := fun k => match k with
  | 0 => .array .int
  | 1 => .array .int
  | 2 => .array .int
  | 3 => .int
  | _ => .int
abbrev wsX10 : List Cond := u_ws RX1 TX1 5
theorem nmX1 : ∀ a, a < 5 → ∀ b, b < 5 → a ≠ b → (TX1 a).2.1 ≠ (TX1 b).2.1 := by decide +kernel
theorem tyX1_ok : ∀ k, k < 5 → parseFieldDescriptor (TX1 k).2.2.1 = some (tyX1 k) := by decide +kernel
abbrev cX1_init : ByteArray := prog_3_method_1_code
def yX1_init : MethodName := ⟨RX1, "<init>", "()V"⟩
abbrev cX1_count : ByteArray := prog_3_method_2_code
def yX1_count : MethodName := ⟨RX1, "count", "()I"⟩
abbrev cX1_widest : ByteArray := prog_3_method_3_code
def yX1_widest : MethodName := ⟨RX1, "widest", "()I"⟩
abbrev cX1_first : ByteArray := prog_3_method_4_code
def yX1_first : MethodName := ⟨RX1, "first", "(I)I"⟩
abbrev cX1_end : ByteArray := prog_3_method_5_code
def yX1_end : MethodName := ⟨RX1, "end", "(I)I"⟩
abbrev cX1_divide : ByteArray := prog_3_method_6_code
def yX1_divide : MethodName := ⟨RX1, "divide", "(LCaptionHouse$Texts;II)V"⟩
abbrev cX1_measure : ByteArray := prog_3_method_7_code
def yX1_measure : MethodName := ⟨RX1, "measure", "(LCaptionHouse$Texts;I)V"⟩
abbrev cX1_widthBetween : ByteArray := prog_3_method_8_code
def yX1_widthBetween : MethodName := ⟨RX1, "widthBetween", "(II)I"⟩
abbrev cX1_dividePart : ByteArray := prog_3_method_9_code
def yX1_dividePart : MethodName := ⟨RX1, "dividePart", "(LCaptionHouse$Texts;IIII)V"⟩
abbrev cX1_bestSpace : ByteArray := prog_3_method_10_code
def yX1_bestSpace : MethodName := ⟨RX1, "bestSpace", "(LCaptionHouse$Texts;IIII)I"⟩
abbrev cX1_keepRow : ByteArray := prog_3_method_11_code
def yX1_keepRow : MethodName := ⟨RX1, "keepRow", "(II)V"⟩
def RX2 : String := "CaptionHouse$Memory"
def TX2 : u_T := fun k => match k with
  | 0 => ("CaptionHouse$Memory", "originals", "I", true)
  | 1 => ("CaptionHouse$Memory", "answers", "I", true)
  | 2 => ("CaptionHouse$Memory", "usedAt", "[I", true)
  | 3 => ("CaptionHouse$Memory", "count", "I", false)
  | _ => ("CaptionHouse$Memory", "clock", "I", false)
def tyX2 : Nat → FieldType := fun k => match k with
  | 0 => .int
  | 1 => .int
  | 2 => .array .int
  | 3 => .int
  | _ => .int
abbrev wsX20 : List Cond := u_ws RX2 TX2 5
theorem nmX2 : ∀ a, a < 5 → ∀ b, b < 5 → a ≠ b → (TX2 a).2.1 ≠ (TX2 b).2.1 := by decide +kernel
theorem tyX2_ok : ∀ k, k < 5 → parseFieldDescriptor (TX2 k).2.2.1 = some (tyX2 k) := by decide +kernel
abbrev cX2_init : ByteArray := prog_4_method_1_code
def yX2_init : MethodName := ⟨RX2, "<init>", "(I)V"⟩
abbrev cX2_count : ByteArray := prog_4_method_2_code
def yX2_count : MethodName := ⟨RX2, "count", "()I"⟩
abbrev cX2_keep : ByteArray := prog_4_method_3_code
def yX2_keep : MethodName := ⟨RX2, "keep", "(LCaptionHouse$Texts;II)V"⟩
abbrev cX2_give : ByteArray := prog_4_method_4_code
def yX2_give : MethodName := ⟨RX2, "give", "(LCaptionHouse$Texts;II)Z"⟩
abbrev cX2_find : ByteArray := prog_4_method_5_code
def yX2_find : MethodName := ⟨RX2, "find", "(LCaptionHouse$Texts;I)I"⟩
abbrev cX2_freeSlot : ByteArray := prog_4_method_6_code
def yX2_freeSlot : MethodName := ⟨RX2, "freeSlot", "()I"⟩
abbrev cX2_use : ByteArray := prog_4_method_7_code
def yX2_use : MethodName := ⟨RX2, "use", "(I)V"⟩
def RX3 : String := "CaptionHouse$Page"
def TX3 : u_T := fun k => match k with
  | 0 => ("CaptionHouse$Page", "chars", "[C", true)
  | _ => ("CaptionHouse$Page", "length", "I", false)
def tyX3 : Nat → FieldType := fun k => match k with
  | 0 => .array .char
  | _ => .int
abbrev wsX30 : List Cond := u_ws RX3 TX3 2
theorem nmX3 : ∀ a, a < 2 → ∀ b, b < 2 → a ≠ b → (TX3 a).2.1 ≠ (TX3 b).2.1 := by decide +kernel
theorem tyX3_ok : ∀ k, k < 2 → parseFieldDescriptor (TX3 k).2.2.1 = some (tyX3 k) := by decide +kernel
abbrev cX3_init : ByteArray := prog_5_method_1_code
def yX3_init : MethodName := ⟨RX3, "<init>", "()V"⟩
abbrev cX3_length : ByteArray := prog_5_method_2_code
def yX3_length : MethodName := ⟨RX3, "length", "()I"⟩
abbrev cX3_at : ByteArray := prog_5_method_3_code
def yX3_at : MethodName := ⟨RX3, "at", "(I)C"⟩
abbrev cX3_clear : ByteArray := prog_5_method_4_code
def yX3_clear : MethodName := ⟨RX3, "clear", "()V"⟩
abbrev cX3_write : ByteArray := prog_5_method_5_code
def yX3_write : MethodName := ⟨RX3, "write", "(I)V"⟩
abbrev cX3_writeNumber : ByteArray := prog_5_method_6_code
def yX3_writeNumber : MethodName := ⟨RX3, "writeNumber", "(I)V"⟩
abbrev cX3_writeTwoDigits : ByteArray := prog_5_method_7_code
def yX3_writeTwoDigits : MethodName := ⟨RX3, "writeTwoDigits", "(I)V"⟩
abbrev cX3_writeUnit : ByteArray := prog_5_method_8_code
def yX3_writeUnit : MethodName := ⟨RX3, "writeUnit", "(I)V"⟩
def RX4 : String := "CaptionHouse$Texts"
def TX4 : u_T := fun k => match k with
  | 0 => ("CaptionHouse$Texts", "signs", "[I", true)
  | _ => ("CaptionHouse$Texts", "sizes", "[I", true)
def tyX4 : Nat → FieldType := fun k => match k with
  | 0 => .array .int
  | _ => .array .int
abbrev wsX40 : List Cond := u_ws RX4 TX4 2
theorem nmX4 : ∀ a, a < 2 → ∀ b, b < 2 → a ≠ b → (TX4 a).2.1 ≠ (TX4 b).2.1 := by decide +kernel
theorem tyX4_ok : ∀ k, k < 2 → parseFieldDescriptor (TX4 k).2.2.1 = some (tyX4 k) := by decide +kernel
abbrev cX4_init : ByteArray := prog_6_method_1_code
def yX4_init : MethodName := ⟨RX4, "<init>", "()V"⟩
abbrev cX4_size : ByteArray := prog_6_method_2_code
def yX4_size : MethodName := ⟨RX4, "size", "(I)I"⟩
abbrev cX4_sign : ByteArray := prog_6_method_3_code
def yX4_sign : MethodName := ⟨RX4, "sign", "(II)I"⟩
abbrev cX4_append : ByteArray := prog_6_method_4_code
def yX4_append : MethodName := ⟨RX4, "append", "(II)V"⟩
abbrev cX4_removeLast : ByteArray := prog_6_method_5_code
def yX4_removeLast : MethodName := ⟨RX4, "removeLast", "(I)I"⟩
abbrev cX4_copy : ByteArray := prog_6_method_6_code
def yX4_copy : MethodName := ⟨RX4, "copy", "(II)V"⟩
abbrev cX4_isSame : ByteArray := prog_6_method_7_code
def yX4_isSame : MethodName := ⟨RX4, "isSame", "(II)Z"⟩
def RX5 : String := "CaptionHouse$Times"
def TX5 : u_T := fun k => match k with
  | 0 => ("CaptionHouse$Times", "starts", "[I", true)
  | 1 => ("CaptionHouse$Times", "lengths", "[I", true)
  | 2 => ("CaptionHouse$Times", "runStarts", "[I", true)
  | 3 => ("CaptionHouse$Times", "longestStarts", "[I", true)
  | _ => ("CaptionHouse$Times", "longest", "[I", true)
def tyX5 : Nat → FieldType := fun k => match k with
  | 0 => .array .int
  | 1 => .array .int
  | 2 => .array .int
  | 3 => .array .int
  | _ => .array .int
abbrev wsX50 : List Cond := u_ws RX5 TX5 5
theorem nmX5 : ∀ a, a < 5 → ∀ b, b < 5 → a ≠ b → (TX5 a).2.1 ≠ (TX5 b).2.1 := by decide +kernel
theorem tyX5_ok : ∀ k, k < 5 → parseFieldDescriptor (TX5 k).2.2.1 = some (tyX5 k) := by decide +kernel
abbrev cX5_init : ByteArray := prog_7_method_1_code
def yX5_init : MethodName := ⟨RX5, "<init>", "()V"⟩
abbrev cX5_start : ByteArray := prog_7_method_2_code
def yX5_start : MethodName := ⟨RX5, "start", "(I)I"⟩
abbrev cX5_length : ByteArray := prog_7_method_3_code
def yX5_length : MethodName := ⟨RX5, "length", "(I)I"⟩
abbrev cX5_end : ByteArray := prog_7_method_4_code
def yX5_end : MethodName := ⟨RX5, "end", "(I)I"⟩
abbrev cX5_isIn : ByteArray := prog_7_method_5_code
def yX5_isIn : MethodName := ⟨RX5, "isIn", "(I)Z"⟩
abbrev cX5_set : ByteArray := prog_7_method_6_code
def yX5_set : MethodName := ⟨RX5, "set", "(III)V"⟩
abbrev cX5_find : ByteArray := prog_7_method_7_code
def yX5_find : MethodName := ⟨RX5, "find", "(LCaptionHouse$Film;)I"⟩
abbrev cX5_turn : ByteArray := prog_7_method_8_code
def yX5_turn : MethodName := ⟨RX5, "turn", "(III)V"⟩
abbrev cX5_endRun : ByteArray := prog_7_method_9_code
def yX5_endRun : MethodName := ⟨RX5, "endRun", "(II)V"⟩
abbrev cX5_takeLongest : ByteArray := prog_7_method_10_code
def yX5_takeLongest : MethodName := ⟨RX5, "takeLongest", "()I"⟩
def RX6 : String := "CaptionHouse"
def TX6 : u_T := fun k => match k with
  | 0 => ("CaptionHouse", "film", "LCaptionHouse$Film;", true)
  | 1 => ("CaptionHouse", "times", "LCaptionHouse$Times;", true)
  | 2 => ("CaptionHouse", "texts", "LCaptionHouse$Texts;", true)
  | 3 => ("CaptionHouse", "firstMemory", "LCaptionHouse$Memory;", true)
  | 4 => ("CaptionHouse", "secondMemory", "LCaptionHouse$Memory;", true)
  | 5 => ("CaptionHouse", "layout", "LCaptionHouse$Layout;", true)
  | 6 => ("CaptionHouse", "page", "LCaptionHouse$Page;", true)
  | 7 => ("CaptionHouse", "looks", "[I", true)
  | 8 => ("CaptionHouse", "names", "[I", true)
  | 9 => ("CaptionHouse", "behind", "[Z", true)
  | 10 => ("CaptionHouse", "order", "[I", true)
  | 11 => ("CaptionHouse", "captionCount", "I", false)
  | 12 => ("CaptionHouse", "rowWidth", "I", false)
  | _ => ("CaptionHouse", "speed", "I", false)
def tyX6 : Nat → FieldType := fun k => match k with
  | 0 => .object "CaptionHouse$Film"
  | 1 => .object "CaptionHouse$Times"
  | 2 => .object "CaptionHouse$Texts"
  | 3 => .object "CaptionHouse$Memory"
  | 4 => .object "CaptionHouse$Memory"
  | 5 => .object "CaptionHouse$Layout"
  | 6 => .object "CaptionHouse$Page"
  | 7 => .array .int
  | 8 => .array .int
  | 9 => .array .boolean
  | 10 => .array .int
  | 11 => .int
  | 12 => .int
  | _ => .int
abbrev wsX60 : List Cond := u_ws RX6 TX6 14
theorem nmX6 : ∀ a, a < 14 → ∀ b, b < 14 → a ≠ b → (TX6 a).2.1 ≠ (TX6 b).2.1 := by decide +kernel
theorem tyX6_ok : ∀ k, k < 14 → parseFieldDescriptor (TX6 k).2.2.1 = some (tyX6 k) := by decide +kernel
abbrev cX6_init : ByteArray := prog_1_method_1_code
def yX6_init : MethodName := ⟨RX6, "<init>", "()V"⟩
abbrev cX6_addShot : ByteArray := prog_1_method_2_code
def yX6_addShot : MethodName := ⟨RX6, "addShot", "(I)I"⟩
abbrev cX6_cut : ByteArray := prog_1_method_3_code
def yX6_cut : MethodName := ⟨RX6, "cut", "(II)I"⟩
abbrev cX6_move : ByteArray := prog_1_method_4_code
def yX6_move : MethodName := ⟨RX6, "move", "(III)I"⟩
abbrev cX6_putBack : ByteArray := prog_1_method_5_code
def yX6_putBack : MethodName := ⟨RX6, "putBack", "(IIII)I"⟩
abbrev cX6_frames : ByteArray := prog_1_method_6_code
def yX6_frames : MethodName := ⟨RX6, "frames", "()I"⟩
abbrev cX6_frameAt : ByteArray := prog_1_method_7_code
def yX6_frameAt : MethodName := ⟨RX6, "frameAt", "(I)I"⟩
abbrev cX6_placeOf : ByteArray := prog_1_method_8_code
def yX6_placeOf : MethodName := ⟨RX6, "placeOf", "(II)I"⟩
abbrev cX6_isBoundary : ByteArray := prog_1_method_9_code
def yX6_isBoundary : MethodName := ⟨RX6, "isBoundary", "(I)Z"⟩
abbrev cX6_add : ByteArray := prog_1_method_10_code
def yX6_add : MethodName := ⟨RX6, "add", "(II)I"⟩
abbrev cX6_lay : ByteArray := prog_1_method_11_code
def yX6_lay : MethodName := ⟨RX6, "lay", "(III)I"⟩
abbrev cX6_setLook : ByteArray := prog_1_method_12_code
def yX6_setLook : MethodName := ⟨RX6, "setLook", "(II)I"⟩
abbrev cX6_captions : ByteArray := prog_1_method_13_code
def yX6_captions : MethodName := ⟨RX6, "captions", "()I"⟩
abbrev cX6_startOf : ByteArray := prog_1_method_14_code
def yX6_startOf : MethodName := ⟨RX6, "startOf", "(I)I"⟩
abbrev cX6_lengthOf : ByteArray := prog_1_method_15_code
def yX6_lengthOf : MethodName := ⟨RX6, "lengthOf", "(I)I"⟩
abbrev cX6_startByFrames : ByteArray := prog_1_method_16_code
def yX6_startByFrames : MethodName := ⟨RX6, "startByFrames", "(I)I"⟩
abbrev cX6_inOrder : ByteArray := prog_1_method_17_code
def yX6_inOrder : MethodName := ⟨RX6, "inOrder", "(I)I"⟩
abbrev cX6_type : ByteArray := prog_1_method_18_code
def yX6_type : MethodName := ⟨RX6, "type", "(III)I"⟩
abbrev cX6_erase : ByteArray := prog_1_method_19_code
def yX6_erase : MethodName := ⟨RX6, "erase", "(II)I"⟩
abbrev cX6_signs : ByteArray := prog_1_method_20_code
def yX6_signs : MethodName := ⟨RX6, "signs", "(II)I"⟩
abbrev cX6_signAt : ByteArray := prog_1_method_21_code
def yX6_signAt : MethodName := ⟨RX6, "signAt", "(III)I"⟩
abbrev cX6_width : ByteArray := prog_1_method_22_code
def yX6_width : MethodName := ⟨RX6, "width", "(II)I"⟩
abbrev cX6_rows : ByteArray := prog_1_method_23_code
def yX6_rows : MethodName := ⟨RX6, "rows", "(II)I"⟩
abbrev cX6_row : ByteArray := prog_1_method_24_code
def yX6_row : MethodName := ⟨RX6, "row", "(III)I"⟩
abbrev cX6_setLimits : ByteArray := prog_1_method_25_code
def yX6_setLimits : MethodName := ⟨RX6, "setLimits", "(II)I"⟩
abbrev cX6_confirm : ByteArray := prog_1_method_26_code
def yX6_confirm : MethodName := ⟨RX6, "confirm", "(II)I"⟩
abbrev cX6_fill : ByteArray := prog_1_method_27_code
def yX6_fill : MethodName := ⟨RX6, "fill", "(I)I"⟩
abbrev cX6_isStale : ByteArray := prog_1_method_28_code
def yX6_isStale : MethodName := ⟨RX6, "isStale", "(II)Z"⟩
abbrev cX6_memory : ByteArray := prog_1_method_29_code
def yX6_memory : MethodName := ⟨RX6, "memory", "(I)I"⟩
abbrev cX6_broken : ByteArray := prog_1_method_30_code
def yX6_broken : MethodName := ⟨RX6, "broken", "(II)I"⟩
abbrev cX6_letGo : ByteArray := prog_1_method_31_code
def yX6_letGo : MethodName := ⟨RX6, "letGo", "(IIII)I"⟩
abbrev cX6_nameOf : ByteArray := prog_1_method_32_code
def yX6_nameOf : MethodName := ⟨RX6, "nameOf", "(III)I"⟩
abbrev cX6_faults : ByteArray := prog_1_method_33_code
def yX6_faults : MethodName := ⟨RX6, "faults", "(I)I"⟩
abbrev cX6_written : ByteArray := prog_1_method_34_code
def yX6_written : MethodName := ⟨RX6, "written", "(II)I"⟩
abbrev cX6_writtenChar : ByteArray := prog_1_method_35_code
def yX6_writtenChar : MethodName := ⟨RX6, "writtenChar", "(III)C"⟩
abbrev cX6_needPlace : ByteArray := prog_1_method_36_code
def yX6_needPlace : MethodName := ⟨RX6, "needPlace", "(I)V"⟩
abbrev cX6_needFrame : ByteArray := prog_1_method_37_code
def yX6_needFrame : MethodName := ⟨RX6, "needFrame", "(II)V"⟩
abbrev cX6_needSome : ByteArray := prog_1_method_38_code
def yX6_needSome : MethodName := ⟨RX6, "needSome", "(I)V"⟩
abbrev cX6_needRun : ByteArray := prog_1_method_39_code
def yX6_needRun : MethodName := ⟨RX6, "needRun", "(II)V"⟩
abbrev cX6_needCaption : ByteArray := prog_1_method_40_code
def yX6_needCaption : MethodName := ⟨RX6, "needCaption", "(I)V"⟩
abbrev cX6_needTongue : ByteArray := prog_1_method_41_code
def yX6_needTongue : MethodName := ⟨RX6, "needTongue", "(I)V"⟩
abbrev cX6_needMadeTongue : ByteArray := prog_1_method_42_code
def yX6_needMadeTongue : MethodName := ⟨RX6, "needMadeTongue", "(I)V"⟩
abbrev cX6_needText : ByteArray := prog_1_method_43_code
def yX6_needText : MethodName := ⟨RX6, "needText", "(II)I"⟩
abbrev cX6_needRule : ByteArray := prog_1_method_44_code
def yX6_needRule : MethodName := ⟨RX6, "needRule", "(I)V"⟩
abbrev cX6_needFormat : ByteArray := prog_1_method_45_code
def yX6_needFormat : MethodName := ⟨RX6, "needFormat", "(I)V"⟩
abbrev cX6_item : ByteArray := prog_1_method_46_code
def yX6_item : MethodName := ⟨RX6, "item", "([II)I"⟩
abbrev cX6_store : ByteArray := prog_1_method_47_code
def yX6_store : MethodName := ⟨RX6, "store", "([III)V"⟩
abbrev cX6_copyItems : ByteArray := prog_1_method_48_code
def yX6_copyItems : MethodName := ⟨RX6, "copyItems", "([II[III)V"⟩
abbrev cX6_bit : ByteArray := prog_1_method_49_code
def yX6_bit : MethodName := ⟨RX6, "bit", "(I)I"⟩
abbrev cX6_isMarked : ByteArray := prog_1_method_50_code
def yX6_isMarked : MethodName := ⟨RX6, "isMarked", "(II)Z"⟩
abbrev cX6_orderCaptions : ByteArray := prog_1_method_51_code
def yX6_orderCaptions : MethodName := ⟨RX6, "orderCaptions", "()I"⟩
abbrev cX6_insertCaption : ByteArray := prog_1_method_52_code
def yX6_insertCaption : MethodName := ⟨RX6, "insertCaption", "(II)V"⟩
abbrev cX6_isSign : ByteArray := prog_1_method_53_code
def yX6_isSign : MethodName := ⟨RX6, "isSign", "(I)Z"⟩
abbrev cX6_signWidth : ByteArray := prog_1_method_54_code
def yX6_signWidth : MethodName := ⟨RX6, "signWidth", "(I)I"⟩
abbrev cX6_isStop : ByteArray := prog_1_method_55_code
def yX6_isStop : MethodName := ⟨RX6, "isStop", "(I)Z"⟩
abbrev cX6_textOf : ByteArray := prog_1_method_56_code
def yX6_textOf : MethodName := ⟨RX6, "textOf", "(II)I"⟩
abbrev cX6_textWidth : ByteArray := prog_1_method_57_code
def yX6_textWidth : MethodName := ⟨RX6, "textWidth", "(I)I"⟩
abbrev cX6_noteChange : ByteArray := prog_1_method_58_code
def yX6_noteChange : MethodName := ⟨RX6, "noteChange", "(II)V"⟩
abbrev cX6_memoryOf : ByteArray := prog_1_method_59_code
def yX6_memoryOf : MethodName := ⟨RX6, "memoryOf", "(I)LCaptionHouse$Memory;"⟩
abbrev cX6_isBehind : ByteArray := prog_1_method_60_code
def yX6_isBehind : MethodName := ⟨RX6, "isBehind", "(I)Z"⟩
abbrev cX6_setBehind : ByteArray := prog_1_method_61_code
def yX6_setBehind : MethodName := ⟨RX6, "setBehind", "(IZ)V"⟩
abbrev cX6_isOutdated : ByteArray := prog_1_method_62_code
def yX6_isOutdated : MethodName := ⟨RX6, "isOutdated", "(I)Z"⟩
abbrev cX6_brokenRules : ByteArray := prog_1_method_63_code
def yX6_brokenRules : MethodName := ⟨RX6, "brokenRules", "(II)I"⟩
abbrev cX6_hangs : ByteArray := prog_1_method_64_code
def yX6_hangs : MethodName := ⟨RX6, "hangs", "(I)Z"⟩
abbrev cX6_isClose : ByteArray := prog_1_method_65_code
def yX6_isClose : MethodName := ⟨RX6, "isClose", "(I)Z"⟩
abbrev cX6_followsClosely : ByteArray := prog_1_method_66_code
def yX6_followsClosely : MethodName := ⟨RX6, "followsClosely", "(II)Z"⟩
abbrev cX6_lacksVoices : ByteArray := prog_1_method_67_code
def yX6_lacksVoices : MethodName := ⟨RX6, "lacksVoices", "(I)Z"⟩
abbrev cX6_namedRules : ByteArray := prog_1_method_68_code
def yX6_namedRules : MethodName := ⟨RX6, "namedRules", "(I)I"⟩
abbrev cX6_forgetNames : ByteArray := prog_1_method_69_code
def yX6_forgetNames : MethodName := ⟨RX6, "forgetNames", "(I)V"⟩
abbrev cX6_forgetAllNames : ByteArray := prog_1_method_70_code
def yX6_forgetAllNames : MethodName := ⟨RX6, "forgetAllNames", "(I)V"⟩
abbrev cX6_writeAll : ByteArray := prog_1_method_71_code
def yX6_writeAll : MethodName := ⟨RX6, "writeAll", "(II)V"⟩
abbrev cX6_writeNumbered : ByteArray := prog_1_method_72_code
def yX6_writeNumbered : MethodName := ⟨RX6, "writeNumbered", "(III)V"⟩
abbrev cX6_writeBraced : ByteArray := prog_1_method_73_code
def yX6_writeBraced : MethodName := ⟨RX6, "writeBraced", "(II)V"⟩
abbrev cX6_writeInBraces : ByteArray := prog_1_method_74_code
def yX6_writeInBraces : MethodName := ⟨RX6, "writeInBraces", "(I)V"⟩
abbrev cX6_writeTime : ByteArray := prog_1_method_75_code
def yX6_writeTime : MethodName := ⟨RX6, "writeTime", "(I)V"⟩
abbrev cX6_writeRows : ByteArray := prog_1_method_76_code
def yX6_writeRows : MethodName := ⟨RX6, "writeRows", "(II)V"⟩
def RX7 : String := "CaptionHouseModel"
def TX7 : u_T := fun k => match k with
  | 0 => ("CaptionHouseModel", "thrown", "I", false)
  | 1 => ("CaptionHouseModel", "shots", "I", false)
  | 2 => ("CaptionHouseModel", "frames", "[I", true)
  | 3 => ("CaptionHouseModel", "place", "[I", true)
  | 4 => ("CaptionHouseModel", "lies", "[I", true)
  | 5 => ("CaptionHouseModel", "size", "I", false)
  | 6 => ("CaptionHouseModel", "film", "[I", true)
  | 7 => ("CaptionHouseModel", "aside", "[I", true)
  | 8 => ("CaptionHouseModel", "captions", "I", false)
  | 9 => ("CaptionHouseModel", "look", "[I", true)
  | 10 => ("CaptionHouseModel", "start", "[I", true)
  | 11 => ("CaptionHouseModel", "length", "[I", true)
  | 12 => ("CaptionHouseModel", "startThen", "[I", true)
  | 13 => ("CaptionHouseModel", "lengthThen", "[I", true)
  | 14 => ("CaptionHouseModel", "signs", "[I", true)
  | 15 => ("CaptionHouseModel", "text", "[I", true)
  | 16 => ("CaptionHouseModel", "changed", "[I", true)
  | 17 => ("CaptionHouseModel", "changes", "I", false)
  | 18 => ("CaptionHouseModel", "names", "[I", true)
  | 19 => ("CaptionHouseModel", "kept", "[I", true)
  | 20 => ("CaptionHouseModel", "fromSigns", "[I", true)
  | 21 => ("CaptionHouseModel", "fromText", "[I", true)
  | 22 => ("CaptionHouseModel", "toSigns", "[I", true)
  | 23 => ("CaptionHouseModel", "toText", "[I", true)
  | 24 => ("CaptionHouseModel", "used", "[I", true)
  | 25 => ("CaptionHouseModel", "rowWidth", "I", false)
  | 26 => ("CaptionHouseModel", "speed", "I", false)
  | 27 => ("CaptionHouseModel", "rows", "I", false)
  | 28 => ("CaptionHouseModel", "rowFrom", "[I", true)
  | 29 => ("CaptionHouseModel", "rowEnd", "[I", true)
  | 30 => ("CaptionHouseModel", "chars", "I", false)
  | _ => ("CaptionHouseModel", "out", "[C", true)
def tyX7 : Nat → FieldType := fun k => match k with
  | 0 => .int
  | 1 => .int
  | 2 => .array .int
  | 3 => .array .int
  | 4 => .array .int
  | 5 => .int
  | 6 => .array .int
  | 7 => .array .int
  | 8 => .int
  | 9 => .array .int
  | 10 => .array .int
  | 11 => .array .int
  | 12 => .array .int
  | 13 => .array .int
  | 14 => .array .int
  | 15 => .array .int
  | 16 => .array .int
  | 17 => .int
  | 18 => .array .int
  | 19 => .array .int
  | 20 => .array .int
  | 21 => .array .int
  | 22 => .array .int
  | 23 => .array .int
  | 24 => .array .int
  | 25 => .int
  | 26 => .int
  | 27 => .int
  | 28 => .array .int
  | 29 => .array .int
  | 30 => .int
  | _ => .array .char
abbrev wsX70 : List Cond := u_ws RX7 TX7 32
theorem nmX7 : ∀ a, a < 32 → ∀ b, b < 32 → a ≠ b → (TX7 a).2.1 ≠ (TX7 b).2.1 := by decide +kernel
theorem tyX7_ok : ∀ k, k < 32 → parseFieldDescriptor (TX7 k).2.2.1 = some (tyX7 k) := by decide +kernel
abbrev cX7_init : ByteArray := prog_9_method_1_code
def yX7_init : MethodName := ⟨RX7, "<init>", "()V"⟩
abbrev cX7_thrown : ByteArray := prog_9_method_2_code
def yX7_thrown : MethodName := ⟨RX7, "thrown", "()I"⟩
abbrev cX7_in : ByteArray := prog_9_method_3_code
def yX7_in : MethodName := ⟨RX7, "in", "(III)Z"⟩
abbrev cX7_isFrame : ByteArray := prog_9_method_4_code
def yX7_isFrame : MethodName := ⟨RX7, "isFrame", "(II)Z"⟩
abbrev cX7_isPlace : ByteArray := prog_9_method_5_code
def yX7_isPlace : MethodName := ⟨RX7, "isPlace", "(I)Z"⟩
abbrev cX7_isCaption : ByteArray := prog_9_method_6_code
def yX7_isCaption : MethodName := ⟨RX7, "isCaption", "(I)Z"⟩
abbrev cX7_isText : ByteArray := prog_9_method_7_code
def yX7_isText : MethodName := ⟨RX7, "isText", "(II)Z"⟩
abbrev cX7_findsPlaces : ByteArray := prog_9_method_8_code
def yX7_findsPlaces : MethodName := ⟨RX7, "findsPlaces", "()V"⟩
abbrev cX7_findsTime : ByteArray := prog_9_method_9_code
def yX7_findsTime : MethodName := ⟨RX7, "findsTime", "(I)V"⟩
abbrev cX7_settles : ByteArray := prog_9_method_10_code
def yX7_settles : MethodName := ⟨RX7, "settles", "()V"⟩
abbrev cX7_addShot : ByteArray := prog_9_method_11_code
def yX7_addShot : MethodName := ⟨RX7, "addShot", "(I)I"⟩
abbrev cX7_areFrames : ByteArray := prog_9_method_12_code
def yX7_areFrames : MethodName := ⟨RX7, "areFrames", "(II)Z"⟩
abbrev cX7_takes : ByteArray := prog_9_method_13_code
def yX7_takes : MethodName := ⟨RX7, "takes", "(II)V"⟩
abbrev cX7_puts : ByteArray := prog_9_method_14_code
def yX7_puts : MethodName := ⟨RX7, "puts", "(II)V"⟩
abbrev cX7_cut : ByteArray := prog_9_method_15_code
def yX7_cut : MethodName := ⟨RX7, "cut", "(II)I"⟩
abbrev cX7_move : ByteArray := prog_9_method_16_code
def yX7_move : MethodName := ⟨RX7, "move", "(III)I"⟩
abbrev cX7_putBack : ByteArray := prog_9_method_17_code
def yX7_putBack : MethodName := ⟨RX7, "putBack", "(IIII)I"⟩
abbrev cX7_frames : ByteArray := prog_9_method_18_code
def yX7_frames : MethodName := ⟨RX7, "frames", "()I"⟩
abbrev cX7_frameAt : ByteArray := prog_9_method_19_code
def yX7_frameAt : MethodName := ⟨RX7, "frameAt", "(I)I"⟩
abbrev cX7_placeOf : ByteArray := prog_9_method_20_code
def yX7_placeOf : MethodName := ⟨RX7, "placeOf", "(II)I"⟩
abbrev cX7_isBoundaryAt : ByteArray := prog_9_method_21_code
def yX7_isBoundaryAt : MethodName := ⟨RX7, "isBoundaryAt", "(I)Z"⟩
abbrev cX7_isBoundary : ByteArray := prog_9_method_22_code
def yX7_isBoundary : MethodName := ⟨RX7, "isBoundary", "(I)Z"⟩
abbrev cX7_lays : ByteArray := prog_9_method_23_code
def yX7_lays : MethodName := ⟨RX7, "lays", "(III)V"⟩
abbrev cX7_forgets : ByteArray := prog_9_method_24_code
def yX7_forgets : MethodName := ⟨RX7, "forgets", "(II)V"⟩
abbrev cX7_forgetsAll : ByteArray := prog_9_method_25_code
def yX7_forgetsAll : MethodName := ⟨RX7, "forgetsAll", "(I)V"⟩
abbrev cX7_add : ByteArray := prog_9_method_26_code
def yX7_add : MethodName := ⟨RX7, "add", "(II)I"⟩
abbrev cX7_lay : ByteArray := prog_9_method_27_code
def yX7_lay : MethodName := ⟨RX7, "lay", "(III)I"⟩
abbrev cX7_setLook : ByteArray := prog_9_method_28_code
def yX7_setLook : MethodName := ⟨RX7, "setLook", "(II)I"⟩
abbrev cX7_captions : ByteArray := prog_9_method_29_code
def yX7_captions : MethodName := ⟨RX7, "captions", "()I"⟩
abbrev cX7_asksCaption : ByteArray := prog_9_method_30_code
def yX7_asksCaption : MethodName := ⟨RX7, "asksCaption", "(I)Z"⟩
abbrev cX7_startOf : ByteArray := prog_9_method_31_code
def yX7_startOf : MethodName := ⟨RX7, "startOf", "(I)I"⟩
abbrev cX7_lengthOf : ByteArray := prog_9_method_32_code
def yX7_lengthOf : MethodName := ⟨RX7, "lengthOf", "(I)I"⟩
abbrev cX7_startByFrames : ByteArray := prog_9_method_33_code
def yX7_startByFrames : MethodName := ⟨RX7, "startByFrames", "(I)I"⟩
abbrev cX7_isAhead : ByteArray := prog_9_method_34_code
def yX7_isAhead : MethodName := ⟨RX7, "isAhead", "(II)Z"⟩
abbrev cX7_captionAt : ByteArray := prog_9_method_35_code
def yX7_captionAt : MethodName := ⟨RX7, "captionAt", "(I)I"⟩
abbrev cX7_inOrder : ByteArray := prog_9_method_36_code
def yX7_inOrder : MethodName := ⟨RX7, "inOrder", "(I)I"⟩
abbrev cX7_asks : ByteArray := prog_9_method_37_code
def yX7_asks : MethodName := ⟨RX7, "asks", "(II)Z"⟩
abbrev cX7_isSign : ByteArray := prog_9_method_38_code
def yX7_isSign : MethodName := ⟨RX7, "isSign", "(I)Z"⟩
abbrev cX7_marks : ByteArray := prog_9_method_39_code
def yX7_marks : MethodName := ⟨RX7, "marks", "(II)V"⟩
abbrev cX7_type : ByteArray := prog_9_method_40_code
def yX7_type : MethodName := ⟨RX7, "type", "(III)I"⟩
abbrev cX7_erase : ByteArray := prog_9_method_41_code
def yX7_erase : MethodName := ⟨RX7, "erase", "(II)I"⟩
abbrev cX7_signs : ByteArray := prog_9_method_42_code
def yX7_signs : MethodName := ⟨RX7, "signs", "(II)I"⟩
abbrev cX7_signAt : ByteArray := prog_9_method_43_code
def yX7_signAt : MethodName := ⟨RX7, "signAt", "(III)I"⟩
abbrev cX7_widthOf : ByteArray := prog_9_method_44_code
def yX7_widthOf : MethodName := ⟨RX7, "widthOf", "(I)I"⟩
abbrev cX7_widthFrom : ByteArray := prog_9_method_45_code
def yX7_widthFrom : MethodName := ⟨RX7, "widthFrom", "(III)I"⟩
abbrev cX7_width : ByteArray := prog_9_method_46_code
def yX7_width : MethodName := ⟨RX7, "width", "(II)I"⟩
abbrev cX7_isMark : ByteArray := prog_9_method_47_code
def yX7_isMark : MethodName := ⟨RX7, "isMark", "(I)Z"⟩
abbrev cX7_addsRow : ByteArray := prog_9_method_48_code
def yX7_addsRow : MethodName := ⟨RX7, "addsRow", "(II)V"⟩
abbrev cX7_spaceOf : ByteArray := prog_9_method_49_code
def yX7_spaceOf : MethodName := ⟨RX7, "spaceOf", "(III)I"⟩
abbrev cX7_laysPart : ByteArray := prog_9_method_50_code
def yX7_laysPart : MethodName := ⟨RX7, "laysPart", "(III)V"⟩
abbrev cX7_laysRows : ByteArray := prog_9_method_51_code
def yX7_laysRows : MethodName := ⟨RX7, "laysRows", "(I)V"⟩
abbrev cX7_rows : ByteArray := prog_9_method_52_code
def yX7_rows : MethodName := ⟨RX7, "rows", "(II)I"⟩
abbrev cX7_row : ByteArray := prog_9_method_53_code
def yX7_row : MethodName := ⟨RX7, "row", "(III)I"⟩
abbrev cX7_setLimits : ByteArray := prog_9_method_54_code
def yX7_setLimits : MethodName := ⟨RX7, "setLimits", "(II)I"⟩
abbrev cX7_keptFor : ByteArray := prog_9_method_55_code
def yX7_keptFor : MethodName := ⟨RX7, "keptFor", "(II)I"⟩
abbrev cX7_movesDown : ByteArray := prog_9_method_56_code
def yX7_movesDown : MethodName := ⟨RX7, "movesDown", "(II)V"⟩
abbrev cX7_oldest : ByteArray := prog_9_method_57_code
def yX7_oldest : MethodName := ⟨RX7, "oldest", "(I)I"⟩
abbrev cX7_keeps : ByteArray := prog_9_method_58_code
def yX7_keeps : MethodName := ⟨RX7, "keeps", "(III)V"⟩
abbrev cX7_confirm : ByteArray := prog_9_method_59_code
def yX7_confirm : MethodName := ⟨RX7, "confirm", "(II)I"⟩
abbrev cX7_isStaleNow : ByteArray := prog_9_method_60_code
def yX7_isStaleNow : MethodName := ⟨RX7, "isStaleNow", "(II)Z"⟩
abbrev cX7_gets : ByteArray := prog_9_method_61_code
def yX7_gets : MethodName := ⟨RX7, "gets", "(III)V"⟩
abbrev cX7_fill : ByteArray := prog_9_method_62_code
def yX7_fill : MethodName := ⟨RX7, "fill", "(I)I"⟩
abbrev cX7_isStale : ByteArray := prog_9_method_63_code
def yX7_isStale : MethodName := ⟨RX7, "isStale", "(II)Z"⟩
abbrev cX7_memory : ByteArray := prog_9_method_64_code
def yX7_memory : MethodName := ⟨RX7, "memory", "(I)I"⟩
abbrev cX7_isWide : ByteArray := prog_9_method_65_code
def yX7_isWide : MethodName := ⟨RX7, "isWide", "(I)Z"⟩
abbrev cX7_hangs : ByteArray := prog_9_method_66_code
def yX7_hangs : MethodName := ⟨RX7, "hangs", "(I)Z"⟩
abbrev cX7_isClose : ByteArray := prog_9_method_67_code
def yX7_isClose : MethodName := ⟨RX7, "isClose", "(I)Z"⟩
abbrev cX7_areVoices : ByteArray := prog_9_method_68_code
def yX7_areVoices : MethodName := ⟨RX7, "areVoices", "(I)Z"⟩
abbrev cX7_brokenBy : ByteArray := prog_9_method_69_code
def yX7_brokenBy : MethodName := ⟨RX7, "brokenBy", "(II)I"⟩
abbrev cX7_broken : ByteArray := prog_9_method_70_code
def yX7_broken : MethodName := ⟨RX7, "broken", "(II)I"⟩
abbrev cX7_letGo : ByteArray := prog_9_method_71_code
def yX7_letGo : MethodName := ⟨RX7, "letGo", "(IIII)I"⟩
abbrev cX7_nameOf : ByteArray := prog_9_method_72_code
def yX7_nameOf : MethodName := ⟨RX7, "nameOf", "(III)I"⟩
abbrev cX7_faults : ByteArray := prog_9_method_73_code
def yX7_faults : MethodName := ⟨RX7, "faults", "(I)I"⟩
abbrev cX7_writes : ByteArray := prog_9_method_74_code
def yX7_writes : MethodName := ⟨RX7, "writes", "(I)V"⟩
abbrev cX7_writesSign : ByteArray := prog_9_method_75_code
def yX7_writesSign : MethodName := ⟨RX7, "writesSign", "(I)V"⟩
abbrev cX7_writesNumber : ByteArray := prog_9_method_76_code
def yX7_writesNumber : MethodName := ⟨RX7, "writesNumber", "(I)V"⟩
abbrev cX7_writesTwo : ByteArray := prog_9_method_77_code
def yX7_writesTwo : MethodName := ⟨RX7, "writesTwo", "(I)V"⟩
abbrev cX7_writesTime : ByteArray := prog_9_method_78_code
def yX7_writesTime : MethodName := ⟨RX7, "writesTime", "(I)V"⟩
abbrev cX7_writesRow : ByteArray := prog_9_method_79_code
def yX7_writesRow : MethodName := ⟨RX7, "writesRow", "(II)V"⟩
abbrev cX7_writesLong : ByteArray := prog_9_method_80_code
def yX7_writesLong : MethodName := ⟨RX7, "writesLong", "(III)V"⟩
abbrev cX7_writesShort : ByteArray := prog_9_method_81_code
def yX7_writesShort : MethodName := ⟨RX7, "writesShort", "(II)V"⟩
abbrev cX7_writesAll : ByteArray := prog_9_method_82_code
def yX7_writesAll : MethodName := ⟨RX7, "writesAll", "(II)V"⟩
abbrev cX7_written : ByteArray := prog_9_method_83_code
def yX7_written : MethodName := ⟨RX7, "written", "(II)I"⟩
abbrev cX7_writtenChar : ByteArray := prog_9_method_84_code
def yX7_writtenChar : MethodName := ⟨RX7, "writtenChar", "(III)C"⟩
def RJx145de : String := "java/io/Serializable"
def RJ6 : String := "java/lang/Integer"
abbrev cJ6_bitCount_0f7a4 : ByteArray := prog_14_method_49_code
def yJ6_bitCount_0f7a4 : MethodName := ⟨RJ6, "bitCount", "(I)I"⟩
def RJ9 : String := "java/lang/Math"
abbrev cJ9_abs_0f7a4 : ByteArray := prog_15_method_59_code
def yJ9_abs_0f7a4 : MethodName := ⟨RJ9, "abs", "(I)I"⟩
abbrev cJ9_max_7cf53 : ByteArray := prog_15_method_65_code
def yJ9_max_7cf53 : MethodName := ⟨RJ9, "max", "(II)I"⟩
abbrev cJ9_min_7cf53 : ByteArray := prog_15_method_69_code
def yJ9_min_7cf53 : MethodName := ⟨RJ9, "min", "(II)I"⟩
def RJ0 : String := "java/lang/String"
def RJ10 : String := "java/lang/System"
def RJ7 : String := "java/util/Arrays"
abbrev cJ7_fill_53178 : ByteArray := prog_20_method_103_code
def yJ7_fill_53178 : MethodName := ⟨RJ7, "fill", "([II)V"⟩
def RL : String := "CaptionHouseLaw"
abbrev cL_addShot : ByteArray := method_3_code
def yL_addShot : MethodName := ⟨RL, "addShot", "(LCaptionHouse;I[J)I"⟩
abbrev cL_cut : ByteArray := method_4_code
def yL_cut : MethodName := ⟨RL, "cut", "(LCaptionHouse;II[J)I"⟩
abbrev cL_move : ByteArray := method_5_code
def yL_move : MethodName := ⟨RL, "move", "(LCaptionHouse;III[J)I"⟩
abbrev cL_putBack : ByteArray := method_6_code
def yL_putBack : MethodName := ⟨RL, "putBack", "(LCaptionHouse;IIII[J)I"⟩
abbrev cL_frameAt : ByteArray := method_7_code
def yL_frameAt : MethodName := ⟨RL, "frameAt", "(LCaptionHouse;I[J)I"⟩
abbrev cL_placeOf : ByteArray := method_8_code
def yL_placeOf : MethodName := ⟨RL, "placeOf", "(LCaptionHouse;II[J)I"⟩
abbrev cL_isBoundary : ByteArray := method_9_code
def yL_isBoundary : MethodName := ⟨RL, "isBoundary", "(LCaptionHouse;I[J)I"⟩
abbrev cL_add : ByteArray := method_10_code
def yL_add : MethodName := ⟨RL, "add", "(LCaptionHouse;II[J)I"⟩
abbrev cL_lay : ByteArray := method_11_code
def yL_lay : MethodName := ⟨RL, "lay", "(LCaptionHouse;III[J)I"⟩
abbrev cL_setLook : ByteArray := method_12_code
def yL_setLook : MethodName := ⟨RL, "setLook", "(LCaptionHouse;II[J)I"⟩
abbrev cL_startOf : ByteArray := method_13_code
def yL_startOf : MethodName := ⟨RL, "startOf", "(LCaptionHouse;I[J)I"⟩
abbrev cL_lengthOf : ByteArray := method_14_code
def yL_lengthOf : MethodName := ⟨RL, "lengthOf", "(LCaptionHouse;I[J)I"⟩
abbrev cL_startByFrames : ByteArray := method_15_code
def yL_startByFrames : MethodName := ⟨RL, "startByFrames", "(LCaptionHouse;I[J)I"⟩
abbrev cL_inOrder : ByteArray := method_16_code
def yL_inOrder : MethodName := ⟨RL, "inOrder", "(LCaptionHouse;I[J)I"⟩
abbrev cL_type : ByteArray := method_17_code
def yL_type : MethodName := ⟨RL, "type", "(LCaptionHouse;III[J)I"⟩
abbrev cL_erase : ByteArray := method_18_code
def yL_erase : MethodName := ⟨RL, "erase", "(LCaptionHouse;II[J)I"⟩
abbrev cL_signs : ByteArray := method_19_code
def yL_signs : MethodName := ⟨RL, "signs", "(LCaptionHouse;II[J)I"⟩
abbrev cL_signAt : ByteArray := method_20_code
def yL_signAt : MethodName := ⟨RL, "signAt", "(LCaptionHouse;III[J)I"⟩
abbrev cL_width : ByteArray := method_21_code
def yL_width : MethodName := ⟨RL, "width", "(LCaptionHouse;II[J)I"⟩
abbrev cL_rows : ByteArray := method_22_code
def yL_rows : MethodName := ⟨RL, "rows", "(LCaptionHouse;II[J)I"⟩
abbrev cL_row : ByteArray := method_23_code
def yL_row : MethodName := ⟨RL, "row", "(LCaptionHouse;III[J)I"⟩
abbrev cL_setLimits : ByteArray := method_24_code
def yL_setLimits : MethodName := ⟨RL, "setLimits", "(LCaptionHouse;II[J)I"⟩
abbrev cL_confirm : ByteArray := method_25_code
def yL_confirm : MethodName := ⟨RL, "confirm", "(LCaptionHouse;II[J)I"⟩
abbrev cL_fill : ByteArray := method_26_code
def yL_fill : MethodName := ⟨RL, "fill", "(LCaptionHouse;I[J)I"⟩
abbrev cL_isStale : ByteArray := method_27_code
def yL_isStale : MethodName := ⟨RL, "isStale", "(LCaptionHouse;II[J)I"⟩
abbrev cL_memory : ByteArray := method_28_code
def yL_memory : MethodName := ⟨RL, "memory", "(LCaptionHouse;I[J)I"⟩
abbrev cL_broken : ByteArray := method_29_code
def yL_broken : MethodName := ⟨RL, "broken", "(LCaptionHouse;II[J)I"⟩
abbrev cL_letGo : ByteArray := method_30_code
def yL_letGo : MethodName := ⟨RL, "letGo", "(LCaptionHouse;IIII[J)I"⟩
abbrev cL_nameOf : ByteArray := method_31_code
def yL_nameOf : MethodName := ⟨RL, "nameOf", "(LCaptionHouse;III[J)I"⟩
abbrev cL_faults : ByteArray := method_32_code
def yL_faults : MethodName := ⟨RL, "faults", "(LCaptionHouse;I[J)I"⟩
abbrev cL_written : ByteArray := method_33_code
def yL_written : MethodName := ⟨RL, "written", "(LCaptionHouse;II[J)I"⟩
abbrev cL_writtenChar : ByteArray := method_34_code
def yL_writtenChar : MethodName := ⟨RL, "writtenChar", "(LCaptionHouse;III[J)I"⟩
abbrev cL_law : ByteArray := code
def yL_law : MethodName := ⟨RL, "law", "([I)Z"⟩
abbrev vwCl : List vw_C := [(RX0, TX0, 7), (RX1, TX1, 5), (RX2, TX2, 5), (RX3, TX3, 2), (RX4, TX4, 2), (RX5, TX5, 5), (RX6, TX6, 14), (RX7, TX7, 32)]
end
section
theorem dX0_init_0 : decode cX0_init 0 = .ok (.aload_n 0, 1) := by decide +kernel
theorem dX0_init_1 : decode cX0_init 1 = .ok (.invokespecial 3, 3) := by decide +kernel
theorem dX0_init_4 : decode cX0_init 4 = .ok (.aload_n 0, 1) := by decide +kernel
theorem dX0_init_5 : decode cX0_init 5 = .ok (.sipush 4800, 3) := by decide +kernel
theorem dX0_init_8 : decode cX0_init 8 = .ok (.newarray .int, 2) := by decide +kernel
theorem dX0_init_10 : decode cX0_init 10 = .ok (.putfield 9, 3) := by decide +kernel
theorem dX0_init_13 : decode cX0_init 13 = .ok (.aload_n 0, 1) := by decide +kernel
theorem dX0_init_14 : decode cX0_init 14 = .ok (.sipush 4800, 3) := by decide +kernel
theorem dX0_init_17 : decode cX0_init 17 = .ok (.newarray .int, 2) := by decide +kernel
theorem dX0_init_19 : decode cX0_init 19 = .ok (.putfield 15, 3) := by decide +kernel
theorem dX0_init_22 : decode cX0_init 22 = .ok (.aload_n 0, 1) := by decide +kernel
theorem dX0_init_23 : decode cX0_init 23 = .ok (.sipush 4812, 3) := by decide +kernel
theorem dX0_init_26 : decode cX0_init 26 = .ok (.newarray .int, 2) := by decide +kernel
theorem dX0_init_28 : decode cX0_init 28 = .ok (.putfield 18, 3) := by decide +kernel
theorem dX0_init_31 : decode cX0_init 31 = .ok (.aload_n 0, 1) := by decide +kernel
theorem dX0_init_32 : decode cX0_init 32 = .ok (.sipush 4812, 3) := by decide +kernel
theorem dX0_init_35 : decode cX0_init 35 = .ok (.newarray .int, 2) := by decide +kernel
theorem dX0_init_37 : decode cX0_init 37 = .ok (.putfield 21, 3) := by decide +kernel
theorem dX0_init_40 : decode cX0_init 40 = .ok (.aload_n 0, 1) := by decide +kernel
theorem dX0_init_41 : decode cX0_init 41 = .ok (.bipush 12, 2) := by decide +kernel
theorem dX0_init_43 : decode cX0_init 43 = .ok (.newarray .int, 2) := by decide +kernel
theorem dX0_init_45 : decode cX0_init 45 = .ok (.putfield 24, 3) := by decide +kernel
theorem dX0_init_48 : decode cX0_init 48 = .ok (.return_, 1) := by decide +kernel
theorem dX0_shots_0 : decode cX0_shots 0 = .ok (.aload_n 0, 1) := by decide +kernel
theorem dX0_shots_1 : decode cX0_shots 1 = .ok (.getfield 27, 3) := by decide +kernel
theorem dX0_shots_4 : decode cX0_shots 4 = .ok (.ireturn, 1) := by decide +kernel
theorem dX0_shotFrames_0 : decode cX0_shotFrames 0 = .ok (.aload_n 0, 1) := by decide +kernel
theorem dX0_shotFrames_1 : decode cX0_shotFrames 1 = .ok (.getfield 24, 3) := by decide +kernel
theorem dX0_shotFrames_4 : decode cX0_shotFrames 4 = .ok (.iload_n 1, 1) := by decide +kernel
theorem dX0_shotFrames_5 : decode cX0_shotFrames 5 = .ok (.invokestatic 31, 3) := by decide +kernel
theorem dX0_shotFrames_8 : decode cX0_shotFrames 8 = .ok (.ireturn, 1) := by decide +kernel
theorem dX0_size_0 : decode cX0_size 0 = .ok (.aload_n 0, 1) := by decide +kernel
theorem dX0_size_1 : decode cX0_size 1 = .ok (.getfield 35, 3) := by decide +kernel
theorem dX0_size_4 : decode cX0_size 4 = .ok (.ireturn, 1) := by decide +kernel
theorem dX0_keyAt_0 : decode cX0_keyAt 0 = .ok (.aload_n 0, 1) := by decide +kernel
theorem dX0_keyAt_1 : decode cX0_keyAt 1 = .ok (.getfield 9, 3) := by decide +kernel
theorem dX0_keyAt_4 : decode cX0_keyAt 4 = .ok (.iload_n 1, 1) := by decide +kernel
theorem dX0_keyAt_5 : decode cX0_keyAt 5 = .ok (.invokestatic 31, 3) := by decide +kernel
theorem dX0_keyAt_8 : decode cX0_keyAt 8 = .ok (.ireturn, 1) := by decide +kernel
theorem dX0_placeOfFrame_0 : decode cX0_placeOfFrame 0 = .ok (.aload_n 0, 1) := by decide +kernel
theorem dX0_placeOfFrame_1 : decode cX0_placeOfFrame 1 = .ok (.getfield 18, 3) := by decide +kernel
theorem dX0_placeOfFrame_4 : decode cX0_placeOfFrame 4 = .ok (.iload_n 1, 1) := by decide +kernel
theorem dX0_placeOfFrame_5 : decode cX0_placeOfFrame 5 = .ok (.sipush 401, 3) := by decide +kernel
theorem dX0_placeOfFrame_8 : decode cX0_placeOfFrame 8 = .ok (.imul, 1) := by decide +kernel
theorem dX0_placeOfFrame_9 : decode cX0_placeOfFrame 9 = .ok (.iload_n 2, 1) := by decide +kernel
theorem dX0_placeOfFrame_10 : decode cX0_placeOfFrame 10 = .ok (.iadd, 1) := by decide +kernel
theorem dX0_placeOfFrame_11 : decode cX0_placeOfFrame 11 = .ok (.invokestatic 31, 3) := by decide +kernel
theorem dX0_placeOfFrame_14 : decode cX0_placeOfFrame 14 = .ok (.ireturn, 1) := by decide +kernel
theorem dX0_isSeam_0 : decode cX0_isSeam 0 = .ok (.iload_n 1, 1) := by decide +kernel
theorem dX0_isSeam_1 : decode cX0_isSeam 1 = .ok (.ifCond .le 24, 3) := by decide +kernel
theorem dX0_isSeam_4 : decode cX0_isSeam 4 = .ok (.aload_n 0, 1) := by decide +kernel
theorem dX0_isSeam_5 : decode cX0_isSeam 5 = .ok (.iload_n 1, 1) := by decide +kernel
theorem dX0_isSeam_6 : decode cX0_isSeam 6 = .ok (.invokevirtual 38, 3) := by decide +kernel
theorem dX0_isSeam_9 : decode cX0_isSeam 9 = .ok (.aload_n 0, 1) := by decide +kernel
theorem dX0_isSeam_10 : decode cX0_isSeam 10 = .ok (.iload_n 1, 1) := by decide +kernel
theorem dX0_isSeam_11 : decode cX0_isSeam 11 = .ok (.iconst 1, 1) := by decide +kernel
theorem dX0_isSeam_12 : decode cX0_isSeam 12 = .ok (.isub, 1) := by decide +kernel
theorem dX0_isSeam_13 : decode cX0_isSeam 13 = .ok (.invokevirtual 38, 3) := by decide +kernel
theorem dX0_isSeam_16 : decode cX0_isSeam 16 = .ok (.iconst 1, 1) := by decide +kernel
theorem dX0_isSeam_17 : decode cX0_isSeam 17 = .ok (.iadd, 1) := by decide +kernel
theorem dX0_isSeam_18 : decode cX0_isSeam 18 = .ok (.if_icmp .eq 7, 3) := by decide +kernel
theorem dX0_isSeam_21 : decode cX0_isSeam 21 = .ok (.iconst 1, 1) := by decide +kernel
theorem dX0_isSeam_22 : decode cX0_isSeam 22 = .ok (.goto 4, 3) := by decide +kernel
theorem dX0_isSeam_25 : decode cX0_isSeam 25 = .ok (.iconst 0, 1) := by decide +kernel
theorem dX0_isSeam_26 : decode cX0_isSeam 26 = .ok (.ireturn, 1) := by decide +kernel
theorem dX0_appendShot_0 : decode cX0_appendShot 0 = .ok (.aload_n 0, 1) := by decide +kernel
theorem dX0_appendShot_1 : decode cX0_appendShot 1 = .ok (.getfield 27, 3) := by decide +kernel
theorem dX0_appendShot_4 : decode cX0_appendShot 4 = .ok (.istore_n 2, 1) := by decide +kernel
theorem dX0_appendShot_5 : decode cX0_appendShot 5 = .ok (.aload_n 0, 1) := by decide +kernel
theorem dX0_appendShot_6 : decode cX0_appendShot 6 = .ok (.dup, 1) := by decide +kernel
theorem dX0_appendShot_7 : decode cX0_appendShot 7 = .ok (.getfield 27, 3) := by decide +kernel
theorem dX0_appendShot_10 : decode cX0_appendShot 10 = .ok (.iconst 1, 1) := by decide +kernel
theorem dX0_appendShot_11 : decode cX0_appendShot 11 = .ok (.iadd, 1) := by decide +kernel
theorem dX0_appendShot_12 : decode cX0_appendShot 12 = .ok (.putfield 27, 3) := by decide +kernel
theorem dX0_appendShot_15 : decode cX0_appendShot 15 = .ok (.aload_n 0, 1) := by decide +kernel
theorem dX0_appendShot_16 : decode cX0_appendShot 16 = .ok (.getfield 24, 3) := by decide +kernel
theorem dX0_appendShot_19 : decode cX0_appendShot 19 = .ok (.iload_n 2, 1) := by decide +kernel
theorem dX0_appendShot_20 : decode cX0_appendShot 20 = .ok (.iload_n 1, 1) := by decide +kernel
theorem dX0_appendShot_21 : decode cX0_appendShot 21 = .ok (.invokestatic 42, 3) := by decide +kernel
theorem dX0_appendShot_24 : decode cX0_appendShot 24 = .ok (.aload_n 0, 1) := by decide +kernel
theorem dX0_appendShot_25 : decode cX0_appendShot 25 = .ok (.iload_n 2, 1) := by decide +kernel
theorem dX0_appendShot_26 : decode cX0_appendShot 26 = .ok (.iconst 0, 1) := by decide +kernel
theorem dX0_appendShot_27 : decode cX0_appendShot 27 = .ok (.iload_n 1, 1) := by decide +kernel
theorem dX0_appendShot_28 : decode cX0_appendShot 28 = .ok (.aload_n 0, 1) := by decide +kernel
theorem dX0_appendShot_29 : decode cX0_appendShot 29 = .ok (.getfield 35, 3) := by decide +kernel
theorem dX0_appendShot_32 : decode cX0_appendShot 32 = .ok (.invokevirtual 46, 3) := by decide +kernel
theorem dX0_appendShot_35 : decode cX0_appendShot 35 = .ok (.iload_n 2, 1) := by decide +kernel
theorem dX0_appendShot_36 : decode cX0_appendShot 36 = .ok (.ireturn, 1) := by decide +kernel
theorem dX0_takeOut_0 : decode cX0_takeOut 0 = .ok (.iconst 0, 1) := by decide +kernel
theorem dX0_takeOut_1 : decode cX0_takeOut 1 = .ok (.istore_n 3, 1) := by decide +kernel
theorem dX0_takeOut_2 : decode cX0_takeOut 2 = .ok (.iload_n 3, 1) := by decide +kernel
theorem dX0_takeOut_3 : decode cX0_takeOut 3 = .ok (.iload_n 2, 1) := by decide +kernel
theorem dX0_takeOut_4 : decode cX0_takeOut 4 = .ok (.if_icmp .ge 24, 3) := by decide +kernel
theorem dX0_takeOut_7 : decode cX0_takeOut 7 = .ok (.aload_n 0, 1) := by decide +kernel
theorem dX0_takeOut_8 : decode cX0_takeOut 8 = .ok (.getfield 18, 3) := by decide +kernel
theorem dX0_takeOut_11 : decode cX0_takeOut 11 = .ok (.aload_n 0, 1) := by decide +kernel
theorem dX0_takeOut_12 : decode cX0_takeOut 12 = .ok (.iload_n 1, 1) := by decide +kernel
theorem dX0_takeOut_13 : decode cX0_takeOut 13 = .ok (.iload_n 3, 1) := by decide +kernel
theorem dX0_takeOut_14 : decode cX0_takeOut 14 = .ok (.iadd, 1) := by decide +kernel
theorem dX0_takeOut_15 : decode cX0_takeOut 15 = .ok (.invokevirtual 38, 3) := by decide +kernel
theorem dX0_takeOut_18 : decode cX0_takeOut 18 = .ok (.iconst (-1), 1) := by decide +kernel
theorem dX0_takeOut_19 : decode cX0_takeOut 19 = .ok (.invokestatic 42, 3) := by decide +kernel
theorem dX0_takeOut_22 : decode cX0_takeOut 22 = .ok (.iinc 3 1, 3) := by decide +kernel
theorem dX0_takeOut_25 : decode cX0_takeOut 25 = .ok (.goto (-23), 3) := by decide +kernel
theorem dX0_takeOut_28 : decode cX0_takeOut 28 = .ok (.aload_n 0, 1) := by decide +kernel
theorem dX0_takeOut_29 : decode cX0_takeOut 29 = .ok (.getfield 9, 3) := by decide +kernel
theorem dX0_takeOut_32 : decode cX0_takeOut 32 = .ok (.iload_n 1, 1) := by decide +kernel
theorem dX0_takeOut_33 : decode cX0_takeOut 33 = .ok (.iload_n 2, 1) := by decide +kernel
theorem dX0_takeOut_34 : decode cX0_takeOut 34 = .ok (.iadd, 1) := by decide +kernel
theorem dX0_takeOut_35 : decode cX0_takeOut 35 = .ok (.aload_n 0, 1) := by decide +kernel
theorem dX0_takeOut_36 : decode cX0_takeOut 36 = .ok (.getfield 9, 3) := by decide +kernel
theorem dX0_takeOut_39 : decode cX0_takeOut 39 = .ok (.iload_n 1, 1) := by decide +kernel
theorem dX0_takeOut_40 : decode cX0_takeOut 40 = .ok (.aload_n 0, 1) := by decide +kernel
theorem dX0_takeOut_41 : decode cX0_takeOut 41 = .ok (.getfield 35, 3) := by decide +kernel
theorem dX0_takeOut_44 : decode cX0_takeOut 44 = .ok (.iload_n 1, 1) := by decide +kernel
theorem dX0_takeOut_45 : decode cX0_takeOut 45 = .ok (.isub, 1) := by decide +kernel
theorem dX0_takeOut_46 : decode cX0_takeOut 46 = .ok (.iload_n 2, 1) := by decide +kernel
theorem dX0_takeOut_47 : decode cX0_takeOut 47 = .ok (.isub, 1) := by decide +kernel
theorem dX0_takeOut_48 : decode cX0_takeOut 48 = .ok (.invokestatic 50, 3) := by decide +kernel
theorem dX0_takeOut_51 : decode cX0_takeOut 51 = .ok (.aload_n 0, 1) := by decide +kernel
theorem dX0_takeOut_52 : decode cX0_takeOut 52 = .ok (.dup, 1) := by decide +kernel
theorem dX0_takeOut_53 : decode cX0_takeOut 53 = .ok (.getfield 35, 3) := by decide +kernel
theorem dX0_takeOut_56 : decode cX0_takeOut 56 = .ok (.iload_n 2, 1) := by decide +kernel
theorem dX0_takeOut_57 : decode cX0_takeOut 57 = .ok (.isub, 1) := by decide +kernel
theorem dX0_takeOut_58 : decode cX0_takeOut 58 = .ok (.putfield 35, 3) := by decide +kernel
theorem dX0_takeOut_61 : decode cX0_takeOut 61 = .ok (.aload_n 0, 1) := by decide +kernel
theorem dX0_takeOut_62 : decode cX0_takeOut 62 = .ok (.iload_n 1, 1) := by decide +kernel
theorem dX0_takeOut_63 : decode cX0_takeOut 63 = .ok (.invokevirtual 54, 3) := by decide +kernel
theorem dX0_takeOut_66 : decode cX0_takeOut 66 = .ok (.return_, 1) := by decide +kernel
theorem dX0_putIn_0 : decode cX0_putIn 0 = .ok (.aload_n 0, 1) := by decide +kernel
theorem dX0_putIn_1 : decode cX0_putIn 1 = .ok (.getfield 9, 3) := by decide +kernel
theorem dX0_putIn_4 : decode cX0_putIn 4 = .ok (.iload 4, 2) := by decide +kernel
theorem dX0_putIn_6 : decode cX0_putIn 6 = .ok (.aload_n 0, 1) := by decide +kernel
theorem dX0_putIn_7 : decode cX0_putIn 7 = .ok (.getfield 9, 3) := by decide +kernel
theorem dX0_putIn_10 : decode cX0_putIn 10 = .ok (.iload 4, 2) := by decide +kernel
theorem dX0_putIn_12 : decode cX0_putIn 12 = .ok (.iload_n 3, 1) := by decide +kernel
theorem dX0_putIn_13 : decode cX0_putIn 13 = .ok (.iadd, 1) := by decide +kernel
theorem dX0_putIn_14 : decode cX0_putIn 14 = .ok (.aload_n 0, 1) := by decide +kernel
theorem dX0_putIn_15 : decode cX0_putIn 15 = .ok (.getfield 35, 3) := by decide +kernel
theorem dX0_putIn_18 : decode cX0_putIn 18 = .ok (.iload 4, 2) := by decide +kernel
theorem dX0_putIn_20 : decode cX0_putIn 20 = .ok (.isub, 1) := by decide +kernel
theorem dX0_putIn_21 : decode cX0_putIn 21 = .ok (.invokestatic 50, 3) := by decide +kernel
theorem dX0_putIn_24 : decode cX0_putIn 24 = .ok (.iconst 0, 1) := by decide +kernel
theorem dX0_putIn_25 : decode cX0_putIn 25 = .ok (.istore 5, 2) := by decide +kernel
theorem dX0_putIn_27 : decode cX0_putIn 27 = .ok (.iload 5, 2) := by decide +kernel
theorem dX0_putIn_29 : decode cX0_putIn 29 = .ok (.iload_n 3, 1) := by decide +kernel
theorem dX0_putIn_30 : decode cX0_putIn 30 = .ok (.if_icmp .ge 31, 3) := by decide +kernel
theorem dX0_putIn_33 : decode cX0_putIn 33 = .ok (.aload_n 0, 1) := by decide +kernel
theorem dX0_putIn_34 : decode cX0_putIn 34 = .ok (.getfield 9, 3) := by decide +kernel
theorem dX0_putIn_37 : decode cX0_putIn 37 = .ok (.iload 4, 2) := by decide +kernel
theorem dX0_putIn_39 : decode cX0_putIn 39 = .ok (.iload 5, 2) := by decide +kernel
theorem dX0_putIn_41 : decode cX0_putIn 41 = .ok (.iadd, 1) := by decide +kernel
theorem dX0_putIn_42 : decode cX0_putIn 42 = .ok (.iload_n 1, 1) := by decide +kernel
theorem dX0_putIn_43 : decode cX0_putIn 43 = .ok (.sipush 401, 3) := by decide +kernel
theorem dX0_putIn_46 : decode cX0_putIn 46 = .ok (.imul, 1) := by decide +kernel
theorem dX0_putIn_47 : decode cX0_putIn 47 = .ok (.iload_n 2, 1) := by decide +kernel
theorem dX0_putIn_48 : decode cX0_putIn 48 = .ok (.iadd, 1) := by decide +kernel
theorem dX0_putIn_49 : decode cX0_putIn 49 = .ok (.iload 5, 2) := by decide +kernel
theorem dX0_putIn_51 : decode cX0_putIn 51 = .ok (.iadd, 1) := by decide +kernel
theorem dX0_putIn_52 : decode cX0_putIn 52 = .ok (.invokestatic 42, 3) := by decide +kernel
theorem dX0_putIn_55 : decode cX0_putIn 55 = .ok (.iinc 5 1, 3) := by decide +kernel
theorem dX0_putIn_58 : decode cX0_putIn 58 = .ok (.goto (-31), 3) := by decide +kernel
theorem dX0_putIn_61 : decode cX0_putIn 61 = .ok (.aload_n 0, 1) := by decide +kernel
theorem dX0_putIn_62 : decode cX0_putIn 62 = .ok (.dup, 1) := by decide +kernel
theorem dX0_putIn_63 : decode cX0_putIn 63 = .ok (.getfield 35, 3) := by decide +kernel
theorem dX0_putIn_66 : decode cX0_putIn 66 = .ok (.iload_n 3, 1) := by decide +kernel
theorem dX0_putIn_67 : decode cX0_putIn 67 = .ok (.iadd, 1) := by decide +kernel
theorem dX0_putIn_68 : decode cX0_putIn 68 = .ok (.putfield 35, 3) := by decide +kernel
theorem dX0_putIn_71 : decode cX0_putIn 71 = .ok (.aload_n 0, 1) := by decide +kernel
theorem dX0_putIn_72 : decode cX0_putIn 72 = .ok (.iload 4, 2) := by decide +kernel
theorem dX0_putIn_74 : decode cX0_putIn 74 = .ok (.invokevirtual 54, 3) := by decide +kernel
theorem dX0_putIn_77 : decode cX0_putIn 77 = .ok (.return_, 1) := by decide +kernel
theorem dX0_shift_0 : decode cX0_shift 0 = .ok (.aload_n 0, 1) := by decide +kernel
theorem dX0_shift_1 : decode cX0_shift 1 = .ok (.getfield 9, 3) := by decide +kernel
theorem dX0_shift_4 : decode cX0_shift 4 = .ok (.iload_n 1, 1) := by decide +kernel
theorem dX0_shift_5 : decode cX0_shift 5 = .ok (.aload_n 0, 1) := by decide +kernel
theorem dX0_shift_6 : decode cX0_shift 6 = .ok (.getfield 15, 3) := by decide +kernel
theorem dX0_shift_9 : decode cX0_shift 9 = .ok (.iconst 0, 1) := by decide +kernel
theorem dX0_shift_10 : decode cX0_shift 10 = .ok (.iload_n 2, 1) := by decide +kernel
theorem dX0_shift_11 : decode cX0_shift 11 = .ok (.invokestatic 50, 3) := by decide +kernel
theorem dX0_shift_14 : decode cX0_shift 14 = .ok (.aload_n 0, 1) := by decide +kernel
theorem dX0_shift_15 : decode cX0_shift 15 = .ok (.getfield 9, 3) := by decide +kernel
theorem dX0_shift_18 : decode cX0_shift 18 = .ok (.iload_n 1, 1) := by decide +kernel
theorem dX0_shift_19 : decode cX0_shift 19 = .ok (.iload_n 2, 1) := by decide +kernel
theorem dX0_shift_20 : decode cX0_shift 20 = .ok (.iadd, 1) := by decide +kernel
theorem dX0_shift_21 : decode cX0_shift 21 = .ok (.aload_n 0, 1) := by decide +kernel
theorem dX0_shift_22 : decode cX0_shift 22 = .ok (.getfield 9, 3) := by decide +kernel
theorem dX0_shift_25 : decode cX0_shift 25 = .ok (.iload_n 1, 1) := by decide +kernel
theorem dX0_shift_26 : decode cX0_shift 26 = .ok (.aload_n 0, 1) := by decide +kernel
theorem dX0_shift_27 : decode cX0_shift 27 = .ok (.getfield 35, 3) := by decide +kernel
theorem dX0_shift_30 : decode cX0_shift 30 = .ok (.iload_n 1, 1) := by decide +kernel
theorem dX0_shift_31 : decode cX0_shift 31 = .ok (.isub, 1) := by decide +kernel
theorem dX0_shift_32 : decode cX0_shift 32 = .ok (.iload_n 2, 1) := by decide +kernel
theorem dX0_shift_33 : decode cX0_shift 33 = .ok (.isub, 1) := by decide +kernel
theorem dX0_shift_34 : decode cX0_shift 34 = .ok (.invokestatic 50, 3) := by decide +kernel
theorem dX0_shift_37 : decode cX0_shift 37 = .ok (.aload_n 0, 1) := by decide +kernel
theorem dX0_shift_38 : decode cX0_shift 38 = .ok (.getfield 9, 3) := by decide +kernel
theorem dX0_shift_41 : decode cX0_shift 41 = .ok (.iload_n 3, 1) := by decide +kernel
theorem dX0_shift_42 : decode cX0_shift 42 = .ok (.aload_n 0, 1) := by decide +kernel
theorem dX0_shift_43 : decode cX0_shift 43 = .ok (.getfield 9, 3) := by decide +kernel
theorem dX0_shift_46 : decode cX0_shift 46 = .ok (.iload_n 3, 1) := by decide +kernel
theorem dX0_shift_47 : decode cX0_shift 47 = .ok (.iload_n 2, 1) := by decide +kernel
theorem dX0_shift_48 : decode cX0_shift 48 = .ok (.iadd, 1) := by decide +kernel
theorem dX0_shift_49 : decode cX0_shift 49 = .ok (.aload_n 0, 1) := by decide +kernel
theorem dX0_shift_50 : decode cX0_shift 50 = .ok (.getfield 35, 3) := by decide +kernel
theorem dX0_shift_53 : decode cX0_shift 53 = .ok (.iload_n 2, 1) := by decide +kernel
theorem dX0_shift_54 : decode cX0_shift 54 = .ok (.isub, 1) := by decide +kernel
theorem dX0_shift_55 : decode cX0_shift 55 = .ok (.iload_n 3, 1) := by decide +kernel
theorem dX0_shift_56 : decode cX0_shift 56 = .ok (.isub, 1) := by decide +kernel
theorem dX0_shift_57 : decode cX0_shift 57 = .ok (.invokestatic 50, 3) := by decide +kernel
theorem dX0_shift_60 : decode cX0_shift 60 = .ok (.aload_n 0, 1) := by decide +kernel
theorem dX0_shift_61 : decode cX0_shift 61 = .ok (.getfield 15, 3) := by decide +kernel
theorem dX0_shift_64 : decode cX0_shift 64 = .ok (.iconst 0, 1) := by decide +kernel
theorem dX0_shift_65 : decode cX0_shift 65 = .ok (.aload_n 0, 1) := by decide +kernel
theorem dX0_shift_66 : decode cX0_shift 66 = .ok (.getfield 9, 3) := by decide +kernel
theorem dX0_shift_69 : decode cX0_shift 69 = .ok (.iload_n 3, 1) := by decide +kernel
theorem dX0_shift_70 : decode cX0_shift 70 = .ok (.iload_n 2, 1) := by decide +kernel
theorem dX0_shift_71 : decode cX0_shift 71 = .ok (.invokestatic 50, 3) := by decide +kernel
theorem dX0_shift_74 : decode cX0_shift 74 = .ok (.aload_n 0, 1) := by decide +kernel
theorem dX0_shift_75 : decode cX0_shift 75 = .ok (.iload_n 1, 1) := by decide +kernel
theorem dX0_shift_76 : decode cX0_shift 76 = .ok (.iload_n 3, 1) := by decide +kernel
theorem dX0_shift_77 : decode cX0_shift 77 = .ok (.invokestatic 58, 3) := by decide +kernel
theorem dX0_shift_80 : decode cX0_shift 80 = .ok (.invokevirtual 54, 3) := by decide +kernel
theorem dX0_shift_83 : decode cX0_shift 83 = .ok (.return_, 1) := by decide +kernel
theorem dX0_showsAny_0 : decode cX0_showsAny 0 = .ok (.iconst 0, 1) := by decide +kernel
theorem dX0_showsAny_1 : decode cX0_showsAny 1 = .ok (.istore 4, 2) := by decide +kernel
theorem dX0_showsAny_3 : decode cX0_showsAny 3 = .ok (.iload 4, 2) := by decide +kernel
theorem dX0_showsAny_5 : decode cX0_showsAny 5 = .ok (.iload_n 3, 1) := by decide +kernel
theorem dX0_showsAny_6 : decode cX0_showsAny 6 = .ok (.if_icmp .ge 24, 3) := by decide +kernel
theorem dX0_showsAny_9 : decode cX0_showsAny 9 = .ok (.aload_n 0, 1) := by decide +kernel
theorem dX0_showsAny_10 : decode cX0_showsAny 10 = .ok (.iload_n 1, 1) := by decide +kernel
theorem dX0_showsAny_11 : decode cX0_showsAny 11 = .ok (.iload_n 2, 1) := by decide +kernel
theorem dX0_showsAny_12 : decode cX0_showsAny 12 = .ok (.iload 4, 2) := by decide +kernel
theorem dX0_showsAny_14 : decode cX0_showsAny 14 = .ok (.iadd, 1) := by decide +kernel
theorem dX0_showsAny_15 : decode cX0_showsAny 15 = .ok (.invokevirtual 64, 3) := by decide +kernel
theorem dX0_showsAny_18 : decode cX0_showsAny 18 = .ok (.iconst (-1), 1) := by decide +kernel
theorem dX0_showsAny_19 : decode cX0_showsAny 19 = .ok (.if_icmp .eq 5, 3) := by decide +kernel
theorem dX0_showsAny_22 : decode cX0_showsAny 22 = .ok (.iconst 1, 1) := by decide +kernel
theorem dX0_showsAny_23 : decode cX0_showsAny 23 = .ok (.ireturn, 1) := by decide +kernel
theorem dX0_showsAny_24 : decode cX0_showsAny 24 = .ok (.iinc 4 1, 3) := by decide +kernel
theorem dX0_showsAny_27 : decode cX0_showsAny 27 = .ok (.goto (-24), 3) := by decide +kernel
theorem dX0_showsAny_30 : decode cX0_showsAny 30 = .ok (.iconst 0, 1) := by decide +kernel
theorem dX0_showsAny_31 : decode cX0_showsAny 31 = .ok (.ireturn, 1) := by decide +kernel
theorem dX0_marksAt_0 : decode cX0_marksAt 0 = .ok (.iload_n 1, 1) := by decide +kernel
theorem dX0_marksAt_1 : decode cX0_marksAt 1 = .ok (.ifCond .lt 20, 3) := by decide +kernel
theorem dX0_marksAt_4 : decode cX0_marksAt 4 = .ok (.iload_n 1, 1) := by decide +kernel
theorem dX0_marksAt_5 : decode cX0_marksAt 5 = .ok (.aload_n 0, 1) := by decide +kernel
theorem dX0_marksAt_6 : decode cX0_marksAt 6 = .ok (.getfield 35, 3) := by decide +kernel
theorem dX0_marksAt_9 : decode cX0_marksAt 9 = .ok (.if_icmp .ge 12, 3) := by decide +kernel
theorem dX0_marksAt_12 : decode cX0_marksAt 12 = .ok (.iload_n 1, 1) := by decide +kernel
theorem dX0_marksAt_13 : decode cX0_marksAt 13 = .ok (.aload_n 0, 1) := by decide +kernel
theorem dX0_marksAt_14 : decode cX0_marksAt 14 = .ok (.getfield 9, 3) := by decide +kernel
theorem dX0_marksAt_17 : decode cX0_marksAt 17 = .ok (.arraylength, 1) := by decide +kernel
theorem dX0_marksAt_18 : decode cX0_marksAt 18 = .ok (.if_icmp .lt 5, 3) := by decide +kernel
theorem dX0_marksAt_21 : decode cX0_marksAt 21 = .ok (.iconst 0, 1) := by decide +kernel
theorem dX0_marksAt_22 : decode cX0_marksAt 22 = .ok (.ireturn, 1) := by decide +kernel
theorem dX0_marksAt_23 : decode cX0_marksAt 23 = .ok (.aload_n 0, 1) := by decide +kernel
theorem dX0_marksAt_24 : decode cX0_marksAt 24 = .ok (.getfield 9, 3) := by decide +kernel
theorem dX0_marksAt_27 : decode cX0_marksAt 27 = .ok (.iload_n 1, 1) := by decide +kernel
theorem dX0_marksAt_28 : decode cX0_marksAt 28 = .ok (.iaload, 1) := by decide +kernel
theorem dX0_marksAt_29 : decode cX0_marksAt 29 = .ok (.istore_n 2, 1) := by decide +kernel
theorem dX0_marksAt_30 : decode cX0_marksAt 30 = .ok (.iload_n 2, 1) := by decide +kernel
theorem dX0_marksAt_31 : decode cX0_marksAt 31 = .ok (.ifCond .lt 21, 3) := by decide +kernel
theorem dX0_marksAt_34 : decode cX0_marksAt 34 = .ok (.iload_n 2, 1) := by decide +kernel
theorem dX0_marksAt_35 : decode cX0_marksAt 35 = .ok (.aload_n 0, 1) := by decide +kernel
theorem dX0_marksAt_36 : decode cX0_marksAt 36 = .ok (.getfield 21, 3) := by decide +kernel
theorem dX0_marksAt_39 : decode cX0_marksAt 39 = .ok (.arraylength, 1) := by decide +kernel
theorem dX0_marksAt_40 : decode cX0_marksAt 40 = .ok (.if_icmp .ge 12, 3) := by decide +kernel
theorem dX0_marksAt_43 : decode cX0_marksAt 43 = .ok (.aload_n 0, 1) := by decide +kernel
theorem dX0_marksAt_44 : decode cX0_marksAt 44 = .ok (.getfield 21, 3) := by decide +kernel
theorem dX0_marksAt_47 : decode cX0_marksAt 47 = .ok (.iload_n 2, 1) := by decide +kernel
theorem dX0_marksAt_48 : decode cX0_marksAt 48 = .ok (.iaload, 1) := by decide +kernel
theorem dX0_marksAt_49 : decode cX0_marksAt 49 = .ok (.goto 4, 3) := by decide +kernel
theorem dX0_marksAt_52 : decode cX0_marksAt 52 = .ok (.iconst 0, 1) := by decide +kernel
theorem dX0_marksAt_53 : decode cX0_marksAt 53 = .ok (.ireturn, 1) := by decide +kernel
theorem dX0_mark_0 : decode cX0_mark 0 = .ok (.iconst 0, 1) := by decide +kernel
theorem dX0_mark_1 : decode cX0_mark 1 = .ok (.istore 4, 2) := by decide +kernel
theorem dX0_mark_3 : decode cX0_mark 3 = .ok (.iload 4, 2) := by decide +kernel
theorem dX0_mark_5 : decode cX0_mark 5 = .ok (.iload_n 3, 1) := by decide +kernel
theorem dX0_mark_6 : decode cX0_mark 6 = .ok (.if_icmp .ge 42, 3) := by decide +kernel
theorem dX0_mark_9 : decode cX0_mark 9 = .ok (.aload_n 0, 1) := by decide +kernel
theorem dX0_mark_10 : decode cX0_mark 10 = .ok (.iload_n 2, 1) := by decide +kernel
theorem dX0_mark_11 : decode cX0_mark 11 = .ok (.iload 4, 2) := by decide +kernel
theorem dX0_mark_13 : decode cX0_mark 13 = .ok (.iadd, 1) := by decide +kernel
theorem dX0_mark_14 : decode cX0_mark 14 = .ok (.invokevirtual 38, 3) := by decide +kernel
theorem dX0_mark_17 : decode cX0_mark 17 = .ok (.istore 5, 2) := by decide +kernel
theorem dX0_mark_19 : decode cX0_mark 19 = .ok (.aload_n 0, 1) := by decide +kernel
theorem dX0_mark_20 : decode cX0_mark 20 = .ok (.getfield 21, 3) := by decide +kernel
theorem dX0_mark_23 : decode cX0_mark 23 = .ok (.iload 5, 2) := by decide +kernel
theorem dX0_mark_25 : decode cX0_mark 25 = .ok (.aload_n 0, 1) := by decide +kernel
theorem dX0_mark_26 : decode cX0_mark 26 = .ok (.getfield 21, 3) := by decide +kernel
theorem dX0_mark_29 : decode cX0_mark 29 = .ok (.iload 5, 2) := by decide +kernel
theorem dX0_mark_31 : decode cX0_mark 31 = .ok (.invokestatic 31, 3) := by decide +kernel
theorem dX0_mark_34 : decode cX0_mark 34 = .ok (.iload_n 1, 1) := by decide +kernel
theorem dX0_mark_35 : decode cX0_mark 35 = .ok (.invokestatic 67, 3) := by decide +kernel
theorem dX0_mark_38 : decode cX0_mark 38 = .ok (.ior, 1) := by decide +kernel
theorem dX0_mark_39 : decode cX0_mark 39 = .ok (.invokestatic 42, 3) := by decide +kernel
theorem dX0_mark_42 : decode cX0_mark 42 = .ok (.iinc 4 1, 3) := by decide +kernel
theorem dX0_mark_45 : decode cX0_mark 45 = .ok (.goto (-42), 3) := by decide +kernel
theorem dX0_mark_48 : decode cX0_mark 48 = .ok (.return_, 1) := by decide +kernel
theorem dX0_unmark_0 : decode cX0_unmark 0 = .ok (.iconst 0, 1) := by decide +kernel
theorem dX0_unmark_1 : decode cX0_unmark 1 = .ok (.istore_n 2, 1) := by decide +kernel
theorem dX0_unmark_2 : decode cX0_unmark 2 = .ok (.iload_n 2, 1) := by decide +kernel
theorem dX0_unmark_3 : decode cX0_unmark 3 = .ok (.aload_n 0, 1) := by decide +kernel
theorem dX0_unmark_4 : decode cX0_unmark 4 = .ok (.getfield 21, 3) := by decide +kernel
theorem dX0_unmark_7 : decode cX0_unmark 7 = .ok (.arraylength, 1) := by decide +kernel
theorem dX0_unmark_8 : decode cX0_unmark 8 = .ok (.if_icmp .ge 24, 3) := by decide +kernel
theorem dX0_unmark_11 : decode cX0_unmark 11 = .ok (.aload_n 0, 1) := by decide +kernel
theorem dX0_unmark_12 : decode cX0_unmark 12 = .ok (.getfield 21, 3) := by decide +kernel
theorem dX0_unmark_15 : decode cX0_unmark 15 = .ok (.iload_n 2, 1) := by decide +kernel
theorem dX0_unmark_16 : decode cX0_unmark 16 = .ok (.dup2, 1) := by decide +kernel
theorem dX0_unmark_17 : decode cX0_unmark 17 = .ok (.iaload, 1) := by decide +kernel
theorem dX0_unmark_18 : decode cX0_unmark 18 = .ok (.iload_n 1, 1) := by decide +kernel
theorem dX0_unmark_19 : decode cX0_unmark 19 = .ok (.invokestatic 67, 3) := by decide +kernel
theorem dX0_unmark_22 : decode cX0_unmark 22 = .ok (.iconst (-1), 1) := by decide +kernel
theorem dX0_unmark_23 : decode cX0_unmark 23 = .ok (.ixor, 1) := by decide +kernel
theorem dX0_unmark_24 : decode cX0_unmark 24 = .ok (.iand, 1) := by decide +kernel
theorem dX0_unmark_25 : decode cX0_unmark 25 = .ok (.iastore, 1) := by decide +kernel
theorem dX0_unmark_26 : decode cX0_unmark 26 = .ok (.iinc 2 1, 3) := by decide +kernel
theorem dX0_unmark_29 : decode cX0_unmark 29 = .ok (.goto (-27), 3) := by decide +kernel
theorem dX0_unmark_32 : decode cX0_unmark 32 = .ok (.return_, 1) := by decide +kernel
theorem dX0_renumber_0 : decode cX0_renumber 0 = .ok (.iload_n 1, 1) := by decide +kernel
theorem dX0_renumber_1 : decode cX0_renumber 1 = .ok (.istore_n 2, 1) := by decide +kernel
theorem dX0_renumber_2 : decode cX0_renumber 2 = .ok (.iload_n 2, 1) := by decide +kernel
theorem dX0_renumber_3 : decode cX0_renumber 3 = .ok (.ifCond .lt 53, 3) := by decide +kernel
theorem dX0_renumber_6 : decode cX0_renumber 6 = .ok (.iload_n 2, 1) := by decide +kernel
theorem dX0_renumber_7 : decode cX0_renumber 7 = .ok (.aload_n 0, 1) := by decide +kernel
theorem dX0_renumber_8 : decode cX0_renumber 8 = .ok (.getfield 35, 3) := by decide +kernel
theorem dX0_renumber_11 : decode cX0_renumber 11 = .ok (.if_icmp .ge 45, 3) := by decide +kernel
theorem dX0_renumber_14 : decode cX0_renumber 14 = .ok (.iload_n 2, 1) := by decide +kernel
theorem dX0_renumber_15 : decode cX0_renumber 15 = .ok (.aload_n 0, 1) := by decide +kernel
theorem dX0_renumber_16 : decode cX0_renumber 16 = .ok (.getfield 9, 3) := by decide +kernel
theorem dX0_renumber_19 : decode cX0_renumber 19 = .ok (.arraylength, 1) := by decide +kernel
theorem dX0_renumber_20 : decode cX0_renumber 20 = .ok (.if_icmp .ge 36, 3) := by decide +kernel
theorem dX0_renumber_23 : decode cX0_renumber 23 = .ok (.aload_n 0, 1) := by decide +kernel
theorem dX0_renumber_24 : decode cX0_renumber 24 = .ok (.getfield 9, 3) := by decide +kernel
theorem dX0_renumber_27 : decode cX0_renumber 27 = .ok (.iload_n 2, 1) := by decide +kernel
theorem dX0_renumber_28 : decode cX0_renumber 28 = .ok (.iaload, 1) := by decide +kernel
theorem dX0_renumber_29 : decode cX0_renumber 29 = .ok (.istore_n 3, 1) := by decide +kernel
theorem dX0_renumber_30 : decode cX0_renumber 30 = .ok (.iload_n 3, 1) := by decide +kernel
theorem dX0_renumber_31 : decode cX0_renumber 31 = .ok (.ifCond .lt 19, 3) := by decide +kernel
theorem dX0_renumber_34 : decode cX0_renumber 34 = .ok (.iload_n 3, 1) := by decide +kernel
theorem dX0_renumber_35 : decode cX0_renumber 35 = .ok (.aload_n 0, 1) := by decide +kernel
theorem dX0_renumber_36 : decode cX0_renumber 36 = .ok (.getfield 18, 3) := by decide +kernel
theorem dX0_renumber_39 : decode cX0_renumber 39 = .ok (.arraylength, 1) := by decide +kernel
theorem dX0_renumber_40 : decode cX0_renumber 40 = .ok (.if_icmp .ge 10, 3) := by decide +kernel
theorem dX0_renumber_43 : decode cX0_renumber 43 = .ok (.aload_n 0, 1) := by decide +kernel
theorem dX0_renumber_44 : decode cX0_renumber 44 = .ok (.getfield 18, 3) := by decide +kernel
theorem dX0_renumber_47 : decode cX0_renumber 47 = .ok (.iload_n 3, 1) := by decide +kernel
theorem dX0_renumber_48 : decode cX0_renumber 48 = .ok (.iload_n 2, 1) := by decide +kernel
theorem dX0_renumber_49 : decode cX0_renumber 49 = .ok (.iastore, 1) := by decide +kernel
theorem dX0_renumber_50 : decode cX0_renumber 50 = .ok (.iinc 2 1, 3) := by decide +kernel
theorem dX0_renumber_53 : decode cX0_renumber 53 = .ok (.goto (-51), 3) := by decide +kernel
theorem dX0_renumber_56 : decode cX0_renumber 56 = .ok (.return_, 1) := by decide +kernel
theorem dX1_init_0 : decode cX1_init 0 = .ok (.aload_n 0, 1) := by decide +kernel
theorem dX1_init_1 : decode cX1_init 1 = .ok (.invokespecial 3, 3) := by decide +kernel
theorem dX1_init_4 : decode cX1_init 4 = .ok (.aload_n 0, 1) := by decide +kernel
theorem dX1_init_5 : decode cX1_init 5 = .ok (.bipush 61, 2) := by decide +kernel
theorem dX1_init_7 : decode cX1_init 7 = .ok (.newarray .int, 2) := by decide +kernel
theorem dX1_init_9 : decode cX1_init 9 = .ok (.putfield 9, 3) := by decide +kernel
theorem dX1_init_12 : decode cX1_init 12 = .ok (.aload_n 0, 1) := by decide +kernel
theorem dX1_init_13 : decode cX1_init 13 = .ok (.bipush 61, 2) := by decide +kernel
theorem dX1_init_15 : decode cX1_init 15 = .ok (.newarray .int, 2) := by decide +kernel
theorem dX1_init_17 : decode cX1_init 17 = .ok (.putfield 15, 3) := by decide +kernel
theorem dX1_init_20 : decode cX1_init 20 = .ok (.aload_n 0, 1) := by decide +kernel
theorem dX1_init_21 : decode cX1_init 21 = .ok (.bipush 61, 2) := by decide +kernel
theorem dX1_init_23 : decode cX1_init 23 = .ok (.newarray .int, 2) := by decide +kernel
theorem dX1_init_25 : decode cX1_init 25 = .ok (.putfield 18, 3) := by decide +kernel
theorem dX1_init_28 : decode cX1_init 28 = .ok (.return_, 1) := by decide +kernel
theorem dX1_count_0 : decode cX1_count 0 = .ok (.aload_n 0, 1) := by decide +kernel
theorem dX1_count_1 : decode cX1_count 1 = .ok (.getfield 21, 3) := by decide +kernel
theorem dX1_count_4 : decode cX1_count 4 = .ok (.ireturn, 1) := by decide +kernel
theorem dX1_widest_0 : decode cX1_widest 0 = .ok (.aload_n 0, 1) := by decide +kernel
theorem dX1_widest_1 : decode cX1_widest 1 = .ok (.getfield 25, 3) := by decide +kernel
theorem dX1_widest_4 : decode cX1_widest 4 = .ok (.ireturn, 1) := by decide +kernel
theorem dX1_first_0 : decode cX1_first 0 = .ok (.aload_n 0, 1) := by decide +kernel
theorem dX1_first_1 : decode cX1_first 1 = .ok (.getfield 9, 3) := by decide +kernel
theorem dX1_first_4 : decode cX1_first 4 = .ok (.iload_n 1, 1) := by decide +kernel
theorem dX1_first_5 : decode cX1_first 5 = .ok (.invokestatic 28, 3) := by decide +kernel
theorem dX1_first_8 : decode cX1_first 8 = .ok (.ireturn, 1) := by decide +kernel
theorem dX1_end_0 : decode cX1_end 0 = .ok (.aload_n 0, 1) := by decide +kernel
theorem dX1_end_1 : decode cX1_end 1 = .ok (.getfield 15, 3) := by decide +kernel
theorem dX1_end_4 : decode cX1_end 4 = .ok (.iload_n 1, 1) := by decide +kernel
theorem dX1_end_5 : decode cX1_end 5 = .ok (.invokestatic 28, 3) := by decide +kernel
theorem dX1_end_8 : decode cX1_end 8 = .ok (.ireturn, 1) := by decide +kernel
theorem dX1_divide_0 : decode cX1_divide 0 = .ok (.aload_n 0, 1) := by decide +kernel
theorem dX1_divide_1 : decode cX1_divide 1 = .ok (.iconst 0, 1) := by decide +kernel
theorem dX1_divide_2 : decode cX1_divide 2 = .ok (.putfield 21, 3) := by decide +kernel
theorem dX1_divide_5 : decode cX1_divide 5 = .ok (.aload_n 0, 1) := by decide +kernel
theorem dX1_divide_6 : decode cX1_divide 6 = .ok (.iconst 0, 1) := by decide +kernel
theorem dX1_divide_7 : decode cX1_divide 7 = .ok (.putfield 25, 3) := by decide +kernel
theorem dX1_divide_10 : decode cX1_divide 10 = .ok (.aload_n 1, 1) := by decide +kernel
theorem dX1_divide_11 : decode cX1_divide 11 = .ok (.iload_n 2, 1) := by decide +kernel
theorem dX1_divide_12 : decode cX1_divide 12 = .ok (.invokevirtual 32, 3) := by decide +kernel
theorem dX1_divide_15 : decode cX1_divide 15 = .ok (.istore 4, 2) := by decide +kernel
theorem dX1_divide_17 : decode cX1_divide 17 = .ok (.iload 4, 2) := by decide +kernel
theorem dX1_divide_19 : decode cX1_divide 19 = .ok (.ifCond .ne 4, 3) := by decide +kernel
theorem dX1_divide_22 : decode cX1_divide 22 = .ok (.return_, 1) := by decide +kernel
theorem dX1_divide_23 : decode cX1_divide 23 = .ok (.aload_n 0, 1) := by decide +kernel
theorem dX1_divide_24 : decode cX1_divide 24 = .ok (.aload_n 1, 1) := by decide +kernel
theorem dX1_divide_25 : decode cX1_divide 25 = .ok (.iload_n 2, 1) := by decide +kernel
theorem dX1_divide_26 : decode cX1_divide 26 = .ok (.invokevirtual 38, 3) := by decide +kernel
theorem dX1_divide_29 : decode cX1_divide 29 = .ok (.iconst 0, 1) := by decide +kernel
theorem dX1_divide_30 : decode cX1_divide 30 = .ok (.istore 5, 2) := by decide +kernel
theorem dX1_divide_32 : decode cX1_divide 32 = .ok (.iconst 0, 1) := by decide +kernel
theorem dX1_divide_33 : decode cX1_divide 33 = .ok (.istore 6, 2) := by decide +kernel
theorem dX1_divide_35 : decode cX1_divide 35 = .ok (.iload 6, 2) := by decide +kernel
theorem dX1_divide_37 : decode cX1_divide 37 = .ok (.iload 4, 2) := by decide +kernel
theorem dX1_divide_39 : decode cX1_divide 39 = .ok (.if_icmp .gt 45, 3) := by decide +kernel
theorem dX1_divide_42 : decode cX1_divide 42 = .ok (.iload 6, 2) := by decide +kernel
theorem dX1_divide_44 : decode cX1_divide 44 = .ok (.iload 4, 2) := by decide +kernel
theorem dX1_divide_46 : decode cX1_divide 46 = .ok (.if_icmp .eq 15, 3) := by decide +kernel
theorem dX1_divide_49 : decode cX1_divide 49 = .ok (.aload_n 1, 1) := by decide +kernel
theorem dX1_divide_50 : decode cX1_divide 50 = .ok (.iload_n 2, 1) := by decide +kernel
theorem dX1_divide_51 : decode cX1_divide 51 = .ok (.iload 6, 2) := by decide +kernel
theorem dX1_divide_53 : decode cX1_divide 53 = .ok (.invokevirtual 42, 3) := by decide +kernel
theorem dX1_divide_56 : decode cX1_divide 56 = .ok (.bipush 10, 2) := by decide +kernel
theorem dX1_divide_58 : decode cX1_divide 58 = .ok (.if_icmp .ne 20, 3) := by decide +kernel
theorem dX1_divide_61 : decode cX1_divide 61 = .ok (.aload_n 0, 1) := by decide +kernel
theorem dX1_divide_62 : decode cX1_divide 62 = .ok (.aload_n 1, 1) := by decide +kernel
theorem dX1_divide_63 : decode cX1_divide 63 = .ok (.iload_n 2, 1) := by decide +kernel
theorem dX1_divide_64 : decode cX1_divide 64 = .ok (.iload 5, 2) := by decide +kernel
theorem dX1_divide_66 : decode cX1_divide 66 = .ok (.iload 6, 2) := by decide +kernel
theorem dX1_divide_68 : decode cX1_divide 68 = .ok (.iload_n 3, 1) := by decide +kernel
theorem dX1_divide_69 : decode cX1_divide 69 = .ok (.invokevirtual 46, 3) := by decide +kernel
theorem dX1_divide_72 : decode cX1_divide 72 = .ok (.iload 6, 2) := by decide +kernel
theorem dX1_divide_74 : decode cX1_divide 74 = .ok (.iconst 1, 1) := by decide +kernel
theorem dX1_divide_75 : decode cX1_divide 75 = .ok (.iadd, 1) := by decide +kernel
theorem dX1_divide_76 : decode cX1_divide 76 = .ok (.istore 5, 2) := by decide +kernel
theorem dX1_divide_78 : decode cX1_divide 78 = .ok (.iinc 6 1, 3) := by decide +kernel
theorem dX1_divide_81 : decode cX1_divide 81 = .ok (.goto (-46), 3) := by decide +kernel
theorem dX1_divide_84 : decode cX1_divide 84 = .ok (.return_, 1) := by decide +kernel
theorem dX1_measure_0 : decode cX1_measure 0 = .ok (.iconst 0, 1) := by decide +kernel
theorem dX1_measure_1 : decode cX1_measure 1 = .ok (.istore_n 3, 1) := by decide +kernel
theorem dX1_measure_2 : decode cX1_measure 2 = .ok (.iconst 0, 1) := by decide +kernel
theorem dX1_measure_3 : decode cX1_measure 3 = .ok (.istore 4, 2) := by decide +kernel
theorem dX1_measure_5 : decode cX1_measure 5 = .ok (.iload 4, 2) := by decide +kernel
theorem dX1_measure_7 : decode cX1_measure 7 = .ok (.aload_n 1, 1) := by decide +kernel
theorem dX1_measure_8 : decode cX1_measure 8 = .ok (.iload_n 2, 1) := by decide +kernel
theorem dX1_measure_9 : decode cX1_measure 9 = .ok (.invokevirtual 32, 3) := by decide +kernel
theorem dX1_measure_12 : decode cX1_measure 12 = .ok (.if_icmp .ge 32, 3) := by decide +kernel
theorem dX1_measure_15 : decode cX1_measure 15 = .ok (.aload_n 0, 1) := by decide +kernel
theorem dX1_measure_16 : decode cX1_measure 16 = .ok (.getfield 18, 3) := by decide +kernel
theorem dX1_measure_19 : decode cX1_measure 19 = .ok (.iload 4, 2) := by decide +kernel
theorem dX1_measure_21 : decode cX1_measure 21 = .ok (.iload_n 3, 1) := by decide +kernel
theorem dX1_measure_22 : decode cX1_measure 22 = .ok (.invokestatic 50, 3) := by decide +kernel
theorem dX1_measure_25 : decode cX1_measure 25 = .ok (.iload_n 3, 1) := by decide +kernel
theorem dX1_measure_26 : decode cX1_measure 26 = .ok (.aload_n 1, 1) := by decide +kernel
theorem dX1_measure_27 : decode cX1_measure 27 = .ok (.iload_n 2, 1) := by decide +kernel
theorem dX1_measure_28 : decode cX1_measure 28 = .ok (.iload 4, 2) := by decide +kernel
theorem dX1_measure_30 : decode cX1_measure 30 = .ok (.invokevirtual 42, 3) := by decide +kernel
theorem dX1_measure_33 : decode cX1_measure 33 = .ok (.invokestatic 54, 3) := by decide +kernel
theorem dX1_measure_36 : decode cX1_measure 36 = .ok (.iadd, 1) := by decide +kernel
theorem dX1_measure_37 : decode cX1_measure 37 = .ok (.istore_n 3, 1) := by decide +kernel
theorem dX1_measure_38 : decode cX1_measure 38 = .ok (.iinc 4 1, 3) := by decide +kernel
theorem dX1_measure_41 : decode cX1_measure 41 = .ok (.goto (-36), 3) := by decide +kernel
theorem dX1_measure_44 : decode cX1_measure 44 = .ok (.aload_n 0, 1) := by decide +kernel
theorem dX1_measure_45 : decode cX1_measure 45 = .ok (.getfield 18, 3) := by decide +kernel
theorem dX1_measure_48 : decode cX1_measure 48 = .ok (.aload_n 1, 1) := by decide +kernel
theorem dX1_measure_49 : decode cX1_measure 49 = .ok (.iload_n 2, 1) := by decide +kernel
theorem dX1_measure_50 : decode cX1_measure 50 = .ok (.invokevirtual 32, 3) := by decide +kernel
theorem dX1_measure_53 : decode cX1_measure 53 = .ok (.iload_n 3, 1) := by decide +kernel
theorem dX1_measure_54 : decode cX1_measure 54 = .ok (.invokestatic 50, 3) := by decide +kernel
theorem dX1_measure_57 : decode cX1_measure 57 = .ok (.return_, 1) := by decide +kernel
theorem dX1_widthBetween_0 : decode cX1_widthBetween 0 = .ok (.aload_n 0, 1) := by decide +kernel
theorem dX1_widthBetween_1 : decode cX1_widthBetween 1 = .ok (.getfield 18, 3) := by decide +kernel
theorem dX1_widthBetween_4 : decode cX1_widthBetween 4 = .ok (.iload_n 2, 1) := by decide +kernel
theorem dX1_widthBetween_5 : decode cX1_widthBetween 5 = .ok (.invokestatic 28, 3) := by decide +kernel
theorem dX1_widthBetween_8 : decode cX1_widthBetween 8 = .ok (.aload_n 0, 1) := by decide +kernel
theorem dX1_widthBetween_9 : decode cX1_widthBetween 9 = .ok (.getfield 18, 3) := by decide +kernel
theorem dX1_widthBetween_12 : decode cX1_widthBetween 12 = .ok (.iload_n 1, 1) := by decide +kernel
theorem dX1_widthBetween_13 : decode cX1_widthBetween 13 = .ok (.invokestatic 28, 3) := by decide +kernel
theorem dX1_widthBetween_16 : decode cX1_widthBetween 16 = .ok (.isub, 1) := by decide +kernel
theorem dX1_widthBetween_17 : decode cX1_widthBetween 17 = .ok (.ireturn, 1) := by decide +kernel
theorem dX1_dividePart_0 : decode cX1_dividePart 0 = .ok (.aload_n 0, 1) := by decide +kernel
theorem dX1_dividePart_1 : decode cX1_dividePart 1 = .ok (.iload_n 3, 1) := by decide +kernel
theorem dX1_dividePart_2 : decode cX1_dividePart 2 = .ok (.iload 4, 2) := by decide +kernel
theorem dX1_dividePart_4 : decode cX1_dividePart 4 = .ok (.invokevirtual 57, 3) := by decide +kernel
theorem dX1_dividePart_7 : decode cX1_dividePart 7 = .ok (.iload 5, 2) := by decide +kernel
theorem dX1_dividePart_9 : decode cX1_dividePart 9 = .ok (.if_icmp .le 17, 3) := by decide +kernel
theorem dX1_dividePart_12 : decode cX1_dividePart 12 = .ok (.aload_n 0, 1) := by decide +kernel
theorem dX1_dividePart_13 : decode cX1_dividePart 13 = .ok (.aload_n 1, 1) := by decide +kernel
theorem dX1_dividePart_14 : decode cX1_dividePart 14 = .ok (.iload_n 2, 1) := by decide +kernel
theorem dX1_dividePart_15 : decode cX1_dividePart 15 = .ok (.iload_n 3, 1) := by decide +kernel
theorem dX1_dividePart_16 : decode cX1_dividePart 16 = .ok (.iload 4, 2) := by decide +kernel
theorem dX1_dividePart_18 : decode cX1_dividePart 18 = .ok (.iload 5, 2) := by decide +kernel
theorem dX1_dividePart_20 : decode cX1_dividePart 20 = .ok (.invokevirtual 60, 3) := by decide +kernel
theorem dX1_dividePart_23 : decode cX1_dividePart 23 = .ok (.goto 4, 3) := by decide +kernel
theorem dX1_dividePart_26 : decode cX1_dividePart 26 = .ok (.iconst (-1), 1) := by decide +kernel
theorem dX1_dividePart_27 : decode cX1_dividePart 27 = .ok (.istore 6, 2) := by decide +kernel
theorem dX1_dividePart_29 : decode cX1_dividePart 29 = .ok (.iload 6, 2) := by decide +kernel
theorem dX1_dividePart_31 : decode cX1_dividePart 31 = .ok (.iconst (-1), 1) := by decide +kernel
theorem dX1_dividePart_32 : decode cX1_dividePart 32 = .ok (.if_icmp .ne 13, 3) := by decide +kernel
theorem dX1_dividePart_35 : decode cX1_dividePart 35 = .ok (.aload_n 0, 1) := by decide +kernel
theorem dX1_dividePart_36 : decode cX1_dividePart 36 = .ok (.iload_n 3, 1) := by decide +kernel
theorem dX1_dividePart_37 : decode cX1_dividePart 37 = .ok (.iload 4, 2) := by decide +kernel
theorem dX1_dividePart_39 : decode cX1_dividePart 39 = .ok (.invokevirtual 64, 3) := by decide +kernel
theorem dX1_dividePart_42 : decode cX1_dividePart 42 = .ok (.goto 20, 3) := by decide +kernel
theorem dX1_dividePart_45 : decode cX1_dividePart 45 = .ok (.aload_n 0, 1) := by decide +kernel
theorem dX1_dividePart_46 : decode cX1_dividePart 46 = .ok (.iload_n 3, 1) := by decide +kernel
theorem dX1_dividePart_47 : decode cX1_dividePart 47 = .ok (.iload 6, 2) := by decide +kernel
theorem dX1_dividePart_49 : decode cX1_dividePart 49 = .ok (.invokevirtual 64, 3) := by decide +kernel
theorem dX1_dividePart_52 : decode cX1_dividePart 52 = .ok (.aload_n 0, 1) := by decide +kernel
theorem dX1_dividePart_53 : decode cX1_dividePart 53 = .ok (.iload 6, 2) := by decide +kernel
theorem dX1_dividePart_55 : decode cX1_dividePart 55 = .ok (.iconst 1, 1) := by decide +kernel
theorem dX1_dividePart_56 : decode cX1_dividePart 56 = .ok (.iadd, 1) := by decide +kernel
theorem dX1_dividePart_57 : decode cX1_dividePart 57 = .ok (.iload 4, 2) := by decide +kernel
theorem dX1_dividePart_59 : decode cX1_dividePart 59 = .ok (.invokevirtual 64, 3) := by decide +kernel
theorem dX1_dividePart_62 : decode cX1_dividePart 62 = .ok (.return_, 1) := by decide +kernel
theorem dX1_bestSpace_0 : decode cX1_bestSpace 0 = .ok (.iconst (-1), 1) := by decide +kernel
theorem dX1_bestSpace_1 : decode cX1_bestSpace 1 = .ok (.istore 6, 2) := by decide +kernel
theorem dX1_bestSpace_3 : decode cX1_bestSpace 3 = .ok (.iconst 0, 1) := by decide +kernel
theorem dX1_bestSpace_4 : decode cX1_bestSpace 4 = .ok (.istore 7, 2) := by decide +kernel
theorem dX1_bestSpace_6 : decode cX1_bestSpace 6 = .ok (.iload_n 3, 1) := by decide +kernel
theorem dX1_bestSpace_7 : decode cX1_bestSpace 7 = .ok (.iconst 1, 1) := by decide +kernel
theorem dX1_bestSpace_8 : decode cX1_bestSpace 8 = .ok (.iadd, 1) := by decide +kernel
theorem dX1_bestSpace_9 : decode cX1_bestSpace 9 = .ok (.istore 8, 2) := by decide +kernel
theorem dX1_bestSpace_11 : decode cX1_bestSpace 11 = .ok (.iload 8, 2) := by decide +kernel
theorem dX1_bestSpace_13 : decode cX1_bestSpace 13 = .ok (.iload 4, 2) := by decide +kernel
theorem dX1_bestSpace_15 : decode cX1_bestSpace 15 = .ok (.iconst 1, 1) := by decide +kernel
theorem dX1_bestSpace_16 : decode cX1_bestSpace 16 = .ok (.isub, 1) := by decide +kernel
theorem dX1_bestSpace_17 : decode cX1_bestSpace 17 = .ok (.if_icmp .ge 108, 3) := by decide +kernel
theorem dX1_bestSpace_20 : decode cX1_bestSpace 20 = .ok (.aload_n 1, 1) := by decide +kernel
theorem dX1_bestSpace_21 : decode cX1_bestSpace 21 = .ok (.iload_n 2, 1) := by decide +kernel
theorem dX1_bestSpace_22 : decode cX1_bestSpace 22 = .ok (.iload 8, 2) := by decide +kernel
theorem dX1_bestSpace_24 : decode cX1_bestSpace 24 = .ok (.invokevirtual 42, 3) := by decide +kernel
theorem dX1_bestSpace_27 : decode cX1_bestSpace 27 = .ok (.bipush 32, 2) := by decide +kernel
theorem dX1_bestSpace_29 : decode cX1_bestSpace 29 = .ok (.if_icmp .ne 90, 3) := by decide +kernel
theorem dX1_bestSpace_32 : decode cX1_bestSpace 32 = .ok (.aload_n 0, 1) := by decide +kernel
theorem dX1_bestSpace_33 : decode cX1_bestSpace 33 = .ok (.iload_n 3, 1) := by decide +kernel
theorem dX1_bestSpace_34 : decode cX1_bestSpace 34 = .ok (.iload 8, 2) := by decide +kernel
theorem dX1_bestSpace_36 : decode cX1_bestSpace 36 = .ok (.invokevirtual 57, 3) := by decide +kernel
theorem dX1_bestSpace_39 : decode cX1_bestSpace 39 = .ok (.istore 9, 2) := by decide +kernel
theorem dX1_bestSpace_41 : decode cX1_bestSpace 41 = .ok (.aload_n 0, 1) := by decide +kernel
theorem dX1_bestSpace_42 : decode cX1_bestSpace 42 = .ok (.iload 8, 2) := by decide +kernel
theorem dX1_bestSpace_44 : decode cX1_bestSpace 44 = .ok (.iconst 1, 1) := by decide +kernel
theorem dX1_bestSpace_45 : decode cX1_bestSpace 45 = .ok (.iadd, 1) := by decide +kernel
theorem dX1_bestSpace_46 : decode cX1_bestSpace 46 = .ok (.iload 4, 2) := by decide +kernel
theorem dX1_bestSpace_48 : decode cX1_bestSpace 48 = .ok (.invokevirtual 57, 3) := by decide +kernel
theorem dX1_bestSpace_51 : decode cX1_bestSpace 51 = .ok (.istore 10, 2) := by decide +kernel
theorem dX1_bestSpace_53 : decode cX1_bestSpace 53 = .ok (.iload 9, 2) := by decide +kernel
theorem dX1_bestSpace_55 : decode cX1_bestSpace 55 = .ok (.iload 10, 2) := by decide +kernel
theorem dX1_bestSpace_57 : decode cX1_bestSpace 57 = .ok (.isub, 1) := by decide +kernel
theorem dX1_bestSpace_58 : decode cX1_bestSpace 58 = .ok (.invokestatic 68, 3) := by decide +kernel
theorem dX1_bestSpace_61 : decode cX1_bestSpace 61 = .ok (.aload_n 1, 1) := by decide +kernel
theorem dX1_bestSpace_62 : decode cX1_bestSpace 62 = .ok (.iload_n 2, 1) := by decide +kernel
theorem dX1_bestSpace_63 : decode cX1_bestSpace 63 = .ok (.iload 8, 2) := by decide +kernel
theorem dX1_bestSpace_65 : decode cX1_bestSpace 65 = .ok (.iconst 1, 1) := by decide +kernel
theorem dX1_bestSpace_66 : decode cX1_bestSpace 66 = .ok (.isub, 1) := by decide +kernel
theorem dX1_bestSpace_67 : decode cX1_bestSpace 67 = .ok (.invokevirtual 42, 3) := by decide +kernel
theorem dX1_bestSpace_70 : decode cX1_bestSpace 70 = .ok (.invokestatic 73, 3) := by decide +kernel
theorem dX1_bestSpace_73 : decode cX1_bestSpace 73 = .ok (.ifCond .eq 7, 3) := by decide +kernel
theorem dX1_bestSpace_76 : decode cX1_bestSpace 76 = .ok (.iconst 0, 1) := by decide +kernel
theorem dX1_bestSpace_77 : decode cX1_bestSpace 77 = .ok (.goto 4, 3) := by decide +kernel
theorem dX1_bestSpace_80 : decode cX1_bestSpace 80 = .ok (.iconst 5, 1) := by decide +kernel
theorem dX1_bestSpace_81 : decode cX1_bestSpace 81 = .ok (.iadd, 1) := by decide +kernel
theorem dX1_bestSpace_82 : decode cX1_bestSpace 82 = .ok (.istore 11, 2) := by decide +kernel
theorem dX1_bestSpace_84 : decode cX1_bestSpace 84 = .ok (.iload 9, 2) := by decide +kernel
theorem dX1_bestSpace_86 : decode cX1_bestSpace 86 = .ok (.iload 5, 2) := by decide +kernel
theorem dX1_bestSpace_88 : decode cX1_bestSpace 88 = .ok (.if_icmp .gt 31, 3) := by decide +kernel
theorem dX1_bestSpace_91 : decode cX1_bestSpace 91 = .ok (.iload 10, 2) := by decide +kernel
theorem dX1_bestSpace_93 : decode cX1_bestSpace 93 = .ok (.iload 5, 2) := by decide +kernel
theorem dX1_bestSpace_95 : decode cX1_bestSpace 95 = .ok (.if_icmp .gt 24, 3) := by decide +kernel
theorem dX1_bestSpace_98 : decode cX1_bestSpace 98 = .ok (.iload 6, 2) := by decide +kernel
theorem dX1_bestSpace_100 : decode cX1_bestSpace 100 = .ok (.iconst (-1), 1) := by decide +kernel
theorem dX1_bestSpace_101 : decode cX1_bestSpace 101 = .ok (.if_icmp .eq 10, 3) := by decide +kernel
theorem dX1_bestSpace_104 : decode cX1_bestSpace 104 = .ok (.iload 11, 2) := by decide +kernel
theorem dX1_bestSpace_106 : decode cX1_bestSpace 106 = .ok (.iload 7, 2) := by decide +kernel
theorem dX1_bestSpace_108 : decode cX1_bestSpace 108 = .ok (.if_icmp .ge 11, 3) := by decide +kernel
theorem dX1_bestSpace_111 : decode cX1_bestSpace 111 = .ok (.iload 8, 2) := by decide +kernel
theorem dX1_bestSpace_113 : decode cX1_bestSpace 113 = .ok (.istore 6, 2) := by decide +kernel
theorem dX1_bestSpace_115 : decode cX1_bestSpace 115 = .ok (.iload 11, 2) := by decide +kernel
theorem dX1_bestSpace_117 : decode cX1_bestSpace 117 = .ok (.istore 7, 2) := by decide +kernel
theorem dX1_bestSpace_119 : decode cX1_bestSpace 119 = .ok (.iinc 8 1, 3) := by decide +kernel
theorem dX1_bestSpace_122 : decode cX1_bestSpace 122 = .ok (.goto (-111), 3) := by decide +kernel
theorem dX1_bestSpace_125 : decode cX1_bestSpace 125 = .ok (.iload 6, 2) := by decide +kernel
theorem dX1_bestSpace_127 : decode cX1_bestSpace 127 = .ok (.ireturn, 1) := by decide +kernel
theorem dX1_keepRow_0 : decode cX1_keepRow 0 = .ok (.aload_n 0, 1) := by decide +kernel
theorem dX1_keepRow_1 : decode cX1_keepRow 1 = .ok (.getfield 9, 3) := by decide +kernel
theorem dX1_keepRow_4 : decode cX1_keepRow 4 = .ok (.aload_n 0, 1) := by decide +kernel
theorem dX1_keepRow_5 : decode cX1_keepRow 5 = .ok (.getfield 21, 3) := by decide +kernel
theorem dX1_keepRow_8 : decode cX1_keepRow 8 = .ok (.iload_n 1, 1) := by decide +kernel
theorem dX1_keepRow_9 : decode cX1_keepRow 9 = .ok (.invokestatic 50, 3) := by decide +kernel
theorem dX1_keepRow_12 : decode cX1_keepRow 12 = .ok (.aload_n 0, 1) := by decide +kernel
theorem dX1_keepRow_13 : decode cX1_keepRow 13 = .ok (.getfield 15, 3) := by decide +kernel
theorem dX1_keepRow_16 : decode cX1_keepRow 16 = .ok (.aload_n 0, 1) := by decide +kernel
theorem dX1_keepRow_17 : decode cX1_keepRow 17 = .ok (.getfield 21, 3) := by decide +kernel
theorem dX1_keepRow_20 : decode cX1_keepRow 20 = .ok (.iload_n 2, 1) := by decide +kernel
theorem dX1_keepRow_21 : decode cX1_keepRow 21 = .ok (.invokestatic 50, 3) := by decide +kernel
theorem dX1_keepRow_24 : decode cX1_keepRow 24 = .ok (.aload_n 0, 1) := by decide +kernel
theorem dX1_keepRow_25 : decode cX1_keepRow 25 = .ok (.dup, 1) := by decide +kernel
theorem dX1_keepRow_26 : decode cX1_keepRow 26 = .ok (.getfield 21, 3) := by decide +kernel
theorem dX1_keepRow_29 : decode cX1_keepRow 29 = .ok (.iconst 1, 1) := by decide +kernel
theorem dX1_keepRow_30 : decode cX1_keepRow 30 = .ok (.iadd, 1) := by decide +kernel
theorem dX1_keepRow_31 : decode cX1_keepRow 31 = .ok (.putfield 21, 3) := by decide +kernel
theorem dX1_keepRow_34 : decode cX1_keepRow 34 = .ok (.aload_n 0, 1) := by decide +kernel
theorem dX1_keepRow_35 : decode cX1_keepRow 35 = .ok (.aload_n 0, 1) := by decide +kernel
theorem dX1_keepRow_36 : decode cX1_keepRow 36 = .ok (.getfield 25, 3) := by decide +kernel
theorem dX1_keepRow_39 : decode cX1_keepRow 39 = .ok (.aload_n 0, 1) := by decide +kernel
theorem dX1_keepRow_40 : decode cX1_keepRow 40 = .ok (.iload_n 1, 1) := by decide +kernel
theorem dX1_keepRow_41 : decode cX1_keepRow 41 = .ok (.iload_n 2, 1) := by decide +kernel
theorem dX1_keepRow_42 : decode cX1_keepRow 42 = .ok (.invokevirtual 57, 3) := by decide +kernel
theorem dX1_keepRow_45 : decode cX1_keepRow 45 = .ok (.invokestatic 77, 3) := by decide +kernel
theorem dX1_keepRow_48 : decode cX1_keepRow 48 = .ok (.putfield 25, 3) := by decide +kernel
theorem dX1_keepRow_51 : decode cX1_keepRow 51 = .ok (.return_, 1) := by decide +kernel
theorem dX2_init_0 : decode cX2_init 0 = .ok (.aload_n 0, 1) := by decide +kernel
theorem dX2_init_1 : decode cX2_init 1 = .ok (.invokespecial 3, 3) := by decide +kernel
theorem dX2_init_4 : decode cX2_init 4 = .ok (.aload_n 0, 1) := by decide +kernel
theorem dX2_init_5 : decode cX2_init 5 = .ok (.bipush 8, 2) := by decide +kernel
theorem dX2_init_7 : decode cX2_init 7 = .ok (.newarray .int, 2) := by decide +kernel
theorem dX2_init_9 : decode cX2_init 9 = .ok (.putfield 9, 3) := by decide +kernel
theorem dX2_init_12 : decode cX2_init 12 = .ok (.aload_n 0, 1) := by decide +kernel
theorem dX2_init_13 : decode cX2_init 13 = .ok (.iload_n 1, 1) := by decide +kernel
theorem dX2_init_14 : decode cX2_init 14 = .ok (.putfield 15, 3) := by decide +kernel
theorem dX2_init_17 : decode cX2_init 17 = .ok (.aload_n 0, 1) := by decide +kernel
theorem dX2_init_18 : decode cX2_init 18 = .ok (.iload_n 1, 1) := by decide +kernel
theorem dX2_init_19 : decode cX2_init 19 = .ok (.bipush 8, 2) := by decide +kernel
theorem dX2_init_21 : decode cX2_init 21 = .ok (.iadd, 1) := by decide +kernel
theorem dX2_init_22 : decode cX2_init 22 = .ok (.putfield 19, 3) := by decide +kernel
theorem dX2_init_25 : decode cX2_init 25 = .ok (.return_, 1) := by decide +kernel
theorem dX2_count_0 : decode cX2_count 0 = .ok (.aload_n 0, 1) := by decide +kernel
theorem dX2_count_1 : decode cX2_count 1 = .ok (.getfield 22, 3) := by decide +kernel
theorem dX2_count_4 : decode cX2_count 4 = .ok (.ireturn, 1) := by decide +kernel
theorem dX2_keep_0 : decode cX2_keep 0 = .ok (.aload_n 0, 1) := by decide +kernel
theorem dX2_keep_1 : decode cX2_keep 1 = .ok (.aload_n 1, 1) := by decide +kernel
theorem dX2_keep_2 : decode cX2_keep 2 = .ok (.iload_n 2, 1) := by decide +kernel
theorem dX2_keep_3 : decode cX2_keep 3 = .ok (.invokevirtual 25, 3) := by decide +kernel
theorem dX2_keep_6 : decode cX2_keep 6 = .ok (.istore 4, 2) := by decide +kernel
theorem dX2_keep_8 : decode cX2_keep 8 = .ok (.iload 4, 2) := by decide +kernel
theorem dX2_keep_10 : decode cX2_keep 10 = .ok (.iconst (-1), 1) := by decide +kernel
theorem dX2_keep_11 : decode cX2_keep 11 = .ok (.if_icmp .ne 21, 3) := by decide +kernel
theorem dX2_keep_14 : decode cX2_keep 14 = .ok (.aload_n 0, 1) := by decide +kernel
theorem dX2_keep_15 : decode cX2_keep 15 = .ok (.invokevirtual 29, 3) := by decide +kernel
theorem dX2_keep_18 : decode cX2_keep 18 = .ok (.istore 4, 2) := by decide +kernel
theorem dX2_keep_20 : decode cX2_keep 20 = .ok (.aload_n 1, 1) := by decide +kernel
theorem dX2_keep_21 : decode cX2_keep 21 = .ok (.iload_n 2, 1) := by decide +kernel
theorem dX2_keep_22 : decode cX2_keep 22 = .ok (.aload_n 0, 1) := by decide +kernel
theorem dX2_keep_23 : decode cX2_keep 23 = .ok (.getfield 15, 3) := by decide +kernel
theorem dX2_keep_26 : decode cX2_keep 26 = .ok (.iload 4, 2) := by decide +kernel
theorem dX2_keep_28 : decode cX2_keep 28 = .ok (.iadd, 1) := by decide +kernel
theorem dX2_keep_29 : decode cX2_keep 29 = .ok (.invokevirtual 33, 3) := by decide +kernel
theorem dX2_keep_32 : decode cX2_keep 32 = .ok (.aload_n 1, 1) := by decide +kernel
theorem dX2_keep_33 : decode cX2_keep 33 = .ok (.iload_n 3, 1) := by decide +kernel
theorem dX2_keep_34 : decode cX2_keep 34 = .ok (.aload_n 0, 1) := by decide +kernel
theorem dX2_keep_35 : decode cX2_keep 35 = .ok (.getfield 19, 3) := by decide +kernel
theorem dX2_keep_38 : decode cX2_keep 38 = .ok (.iload 4, 2) := by decide +kernel
theorem dX2_keep_40 : decode cX2_keep 40 = .ok (.iadd, 1) := by decide +kernel
theorem dX2_keep_41 : decode cX2_keep 41 = .ok (.invokevirtual 33, 3) := by decide +kernel
theorem dX2_keep_44 : decode cX2_keep 44 = .ok (.aload_n 0, 1) := by decide +kernel
theorem dX2_keep_45 : decode cX2_keep 45 = .ok (.iload 4, 2) := by decide +kernel
theorem dX2_keep_47 : decode cX2_keep 47 = .ok (.invokevirtual 39, 3) := by decide +kernel
theorem dX2_keep_50 : decode cX2_keep 50 = .ok (.return_, 1) := by decide +kernel
theorem dX2_give_0 : decode cX2_give 0 = .ok (.aload_n 0, 1) := by decide +kernel
theorem dX2_give_1 : decode cX2_give 1 = .ok (.aload_n 1, 1) := by decide +kernel
theorem dX2_give_2 : decode cX2_give 2 = .ok (.iload_n 2, 1) := by decide +kernel
theorem dX2_give_3 : decode cX2_give 3 = .ok (.invokevirtual 25, 3) := by decide +kernel
theorem dX2_give_6 : decode cX2_give 6 = .ok (.istore 4, 2) := by decide +kernel
theorem dX2_give_8 : decode cX2_give 8 = .ok (.iload 4, 2) := by decide +kernel
theorem dX2_give_10 : decode cX2_give 10 = .ok (.iconst (-1), 1) := by decide +kernel
theorem dX2_give_11 : decode cX2_give 11 = .ok (.if_icmp .ne 5, 3) := by decide +kernel
theorem dX2_give_14 : decode cX2_give 14 = .ok (.iconst 0, 1) := by decide +kernel
theorem dX2_give_15 : decode cX2_give 15 = .ok (.ireturn, 1) := by decide +kernel
theorem dX2_give_16 : decode cX2_give 16 = .ok (.aload_n 1, 1) := by decide +kernel
theorem dX2_give_17 : decode cX2_give 17 = .ok (.aload_n 0, 1) := by decide +kernel
theorem dX2_give_18 : decode cX2_give 18 = .ok (.getfield 19, 3) := by decide +kernel
theorem dX2_give_21 : decode cX2_give 21 = .ok (.iload 4, 2) := by decide +kernel
theorem dX2_give_23 : decode cX2_give 23 = .ok (.iadd, 1) := by decide +kernel
theorem dX2_give_24 : decode cX2_give 24 = .ok (.iload_n 3, 1) := by decide +kernel
theorem dX2_give_25 : decode cX2_give 25 = .ok (.invokevirtual 33, 3) := by decide +kernel
theorem dX2_give_28 : decode cX2_give 28 = .ok (.aload_n 0, 1) := by decide +kernel
theorem dX2_give_29 : decode cX2_give 29 = .ok (.iload 4, 2) := by decide +kernel
theorem dX2_give_31 : decode cX2_give 31 = .ok (.invokevirtual 39, 3) := by decide +kernel
theorem dX2_give_34 : decode cX2_give 34 = .ok (.iconst 1, 1) := by decide +kernel
theorem dX2_give_35 : decode cX2_give 35 = .ok (.ireturn, 1) := by decide +kernel
theorem dX2_find_0 : decode cX2_find 0 = .ok (.iconst 0, 1) := by decide +kernel
theorem dX2_find_1 : decode cX2_find 1 = .ok (.istore_n 3, 1) := by decide +kernel
theorem dX2_find_2 : decode cX2_find 2 = .ok (.iload_n 3, 1) := by decide +kernel
theorem dX2_find_3 : decode cX2_find 3 = .ok (.aload_n 0, 1) := by decide +kernel
theorem dX2_find_4 : decode cX2_find 4 = .ok (.getfield 22, 3) := by decide +kernel
theorem dX2_find_7 : decode cX2_find 7 = .ok (.if_icmp .ge 25, 3) := by decide +kernel
theorem dX2_find_10 : decode cX2_find 10 = .ok (.aload_n 1, 1) := by decide +kernel
theorem dX2_find_11 : decode cX2_find 11 = .ok (.aload_n 0, 1) := by decide +kernel
theorem dX2_find_12 : decode cX2_find 12 = .ok (.getfield 15, 3) := by decide +kernel
theorem dX2_find_15 : decode cX2_find 15 = .ok (.iload_n 3, 1) := by decide +kernel
theorem dX2_find_16 : decode cX2_find 16 = .ok (.iadd, 1) := by decide +kernel
theorem dX2_find_17 : decode cX2_find 17 = .ok (.iload_n 2, 1) := by decide +kernel
theorem dX2_find_18 : decode cX2_find 18 = .ok (.invokevirtual 43, 3) := by decide +kernel
theorem dX2_find_21 : decode cX2_find 21 = .ok (.ifCond .eq 5, 3) := by decide +kernel
theorem dX2_find_24 : decode cX2_find 24 = .ok (.iload_n 3, 1) := by decide +kernel
theorem dX2_find_25 : decode cX2_find 25 = .ok (.ireturn, 1) := by decide +kernel
theorem dX2_find_26 : decode cX2_find 26 = .ok (.iinc 3 1, 3) := by decide +kernel
theorem dX2_find_29 : decode cX2_find 29 = .ok (.goto (-27), 3) := by decide +kernel
theorem dX2_find_32 : decode cX2_find 32 = .ok (.iconst (-1), 1) := by decide +kernel
theorem dX2_find_33 : decode cX2_find 33 = .ok (.ireturn, 1) := by decide +kernel
theorem dX2_freeSlot_0 : decode cX2_freeSlot 0 = .ok (.aload_n 0, 1) := by decide +kernel
theorem dX2_freeSlot_1 : decode cX2_freeSlot 1 = .ok (.getfield 22, 3) := by decide +kernel
theorem dX2_freeSlot_4 : decode cX2_freeSlot 4 = .ok (.bipush 8, 2) := by decide +kernel
theorem dX2_freeSlot_6 : decode cX2_freeSlot 6 = .ok (.if_icmp .ge 20, 3) := by decide +kernel
theorem dX2_freeSlot_9 : decode cX2_freeSlot 9 = .ok (.aload_n 0, 1) := by decide +kernel
theorem dX2_freeSlot_10 : decode cX2_freeSlot 10 = .ok (.dup, 1) := by decide +kernel
theorem dX2_freeSlot_11 : decode cX2_freeSlot 11 = .ok (.getfield 22, 3) := by decide +kernel
theorem dX2_freeSlot_14 : decode cX2_freeSlot 14 = .ok (.iconst 1, 1) := by decide +kernel
theorem dX2_freeSlot_15 : decode cX2_freeSlot 15 = .ok (.iadd, 1) := by decide +kernel
theorem dX2_freeSlot_16 : decode cX2_freeSlot 16 = .ok (.putfield 22, 3) := by decide +kernel
theorem dX2_freeSlot_19 : decode cX2_freeSlot 19 = .ok (.aload_n 0, 1) := by decide +kernel
theorem dX2_freeSlot_20 : decode cX2_freeSlot 20 = .ok (.getfield 22, 3) := by decide +kernel
theorem dX2_freeSlot_23 : decode cX2_freeSlot 23 = .ok (.iconst 1, 1) := by decide +kernel
theorem dX2_freeSlot_24 : decode cX2_freeSlot 24 = .ok (.isub, 1) := by decide +kernel
theorem dX2_freeSlot_25 : decode cX2_freeSlot 25 = .ok (.ireturn, 1) := by decide +kernel
theorem dX2_freeSlot_26 : decode cX2_freeSlot 26 = .ok (.iconst 0, 1) := by decide +kernel
theorem dX2_freeSlot_27 : decode cX2_freeSlot 27 = .ok (.istore_n 1, 1) := by decide +kernel
theorem dX2_freeSlot_28 : decode cX2_freeSlot 28 = .ok (.iconst 1, 1) := by decide +kernel
theorem dX2_freeSlot_29 : decode cX2_freeSlot 29 = .ok (.istore_n 2, 1) := by decide +kernel
theorem dX2_freeSlot_30 : decode cX2_freeSlot 30 = .ok (.iload_n 2, 1) := by decide +kernel
theorem dX2_freeSlot_31 : decode cX2_freeSlot 31 = .ok (.aload_n 0, 1) := by decide +kernel
theorem dX2_freeSlot_32 : decode cX2_freeSlot 32 = .ok (.getfield 22, 3) := by decide +kernel
theorem dX2_freeSlot_35 : decode cX2_freeSlot 35 = .ok (.if_icmp .ge 30, 3) := by decide +kernel
theorem dX2_freeSlot_38 : decode cX2_freeSlot 38 = .ok (.aload_n 0, 1) := by decide +kernel
theorem dX2_freeSlot_39 : decode cX2_freeSlot 39 = .ok (.getfield 9, 3) := by decide +kernel
theorem dX2_freeSlot_42 : decode cX2_freeSlot 42 = .ok (.iload_n 2, 1) := by decide +kernel
theorem dX2_freeSlot_43 : decode cX2_freeSlot 43 = .ok (.invokestatic 47, 3) := by decide +kernel
theorem dX2_freeSlot_46 : decode cX2_freeSlot 46 = .ok (.aload_n 0, 1) := by decide +kernel
theorem dX2_freeSlot_47 : decode cX2_freeSlot 47 = .ok (.getfield 9, 3) := by decide +kernel
theorem dX2_freeSlot_50 : decode cX2_freeSlot 50 = .ok (.iload_n 1, 1) := by decide +kernel
theorem dX2_freeSlot_51 : decode cX2_freeSlot 51 = .ok (.invokestatic 47, 3) := by decide +kernel
theorem dX2_freeSlot_54 : decode cX2_freeSlot 54 = .ok (.if_icmp .ge 5, 3) := by decide +kernel
theorem dX2_freeSlot_57 : decode cX2_freeSlot 57 = .ok (.iload_n 2, 1) := by decide +kernel
theorem dX2_freeSlot_58 : decode cX2_freeSlot 58 = .ok (.istore_n 1, 1) := by decide +kernel
theorem dX2_freeSlot_59 : decode cX2_freeSlot 59 = .ok (.iinc 2 1, 3) := by decide +kernel
theorem dX2_freeSlot_62 : decode cX2_freeSlot 62 = .ok (.goto (-32), 3) := by decide +kernel
theorem dX2_freeSlot_65 : decode cX2_freeSlot 65 = .ok (.iload_n 1, 1) := by decide +kernel
theorem dX2_freeSlot_66 : decode cX2_freeSlot 66 = .ok (.ireturn, 1) := by decide +kernel
theorem dX2_use_0 : decode cX2_use 0 = .ok (.aload_n 0, 1) := by decide +kernel
theorem dX2_use_1 : decode cX2_use 1 = .ok (.dup, 1) := by decide +kernel
theorem dX2_use_2 : decode cX2_use 2 = .ok (.getfield 51, 3) := by decide +kernel
theorem dX2_use_5 : decode cX2_use 5 = .ok (.iconst 1, 1) := by decide +kernel
theorem dX2_use_6 : decode cX2_use 6 = .ok (.iadd, 1) := by decide +kernel
theorem dX2_use_7 : decode cX2_use 7 = .ok (.putfield 51, 3) := by decide +kernel
theorem dX2_use_10 : decode cX2_use 10 = .ok (.aload_n 0, 1) := by decide +kernel
theorem dX2_use_11 : decode cX2_use 11 = .ok (.getfield 9, 3) := by decide +kernel
theorem dX2_use_14 : decode cX2_use 14 = .ok (.iload_n 1, 1) := by decide +kernel
theorem dX2_use_15 : decode cX2_use 15 = .ok (.aload_n 0, 1) := by decide +kernel
theorem dX2_use_16 : decode cX2_use 16 = .ok (.getfield 51, 3) := by decide +kernel
theorem dX2_use_19 : decode cX2_use 19 = .ok (.invokestatic 54, 3) := by decide +kernel
theorem dX2_use_22 : decode cX2_use 22 = .ok (.return_, 1) := by decide +kernel
theorem dX3_init_0 : decode cX3_init 0 = .ok (.aload_n 0, 1) := by decide +kernel
theorem dX3_init_1 : decode cX3_init 1 = .ok (.invokespecial 3, 3) := by decide +kernel
theorem dX3_init_4 : decode cX3_init 4 = .ok (.aload_n 0, 1) := by decide +kernel
theorem dX3_init_5 : decode cX3_init 5 = .ok (.sipush 2400, 3) := by decide +kernel
theorem dX3_init_8 : decode cX3_init 8 = .ok (.newarray .char, 2) := by decide +kernel
theorem dX3_init_10 : decode cX3_init 10 = .ok (.putfield 9, 3) := by decide +kernel
theorem dX3_init_13 : decode cX3_init 13 = .ok (.return_, 1) := by decide +kernel
theorem dX3_length_0 : decode cX3_length 0 = .ok (.aload_n 0, 1) := by decide +kernel
theorem dX3_length_1 : decode cX3_length 1 = .ok (.getfield 15, 3) := by decide +kernel
theorem dX3_length_4 : decode cX3_length 4 = .ok (.ireturn, 1) := by decide +kernel
theorem dX3_at_0 : decode cX3_at 0 = .ok (.iload_n 1, 1) := by decide +kernel
theorem dX3_at_1 : decode cX3_at 1 = .ok (.ifCond .lt 21, 3) := by decide +kernel
theorem dX3_at_4 : decode cX3_at 4 = .ok (.iload_n 1, 1) := by decide +kernel
theorem dX3_at_5 : decode cX3_at 5 = .ok (.aload_n 0, 1) := by decide +kernel
theorem dX3_at_6 : decode cX3_at 6 = .ok (.getfield 9, 3) := by decide +kernel
theorem dX3_at_9 : decode cX3_at 9 = .ok (.arraylength, 1) := by decide +kernel
theorem dX3_at_10 : decode cX3_at 10 = .ok (.if_icmp .ge 12, 3) := by decide +kernel
theorem dX3_at_13 : decode cX3_at 13 = .ok (.aload_n 0, 1) := by decide +kernel
theorem dX3_at_14 : decode cX3_at 14 = .ok (.getfield 9, 3) := by decide +kernel
theorem dX3_at_17 : decode cX3_at 17 = .ok (.iload_n 1, 1) := by decide +kernel
theorem dX3_at_18 : decode cX3_at 18 = .ok (.caload, 1) := by decide +kernel
theorem dX3_at_19 : decode cX3_at 19 = .ok (.goto 4, 3) := by decide +kernel
theorem dX3_at_22 : decode cX3_at 22 = .ok (.iconst 0, 1) := by decide +kernel
theorem dX3_at_23 : decode cX3_at 23 = .ok (.ireturn, 1) := by decide +kernel
theorem dX3_clear_0 : decode cX3_clear 0 = .ok (.aload_n 0, 1) := by decide +kernel
theorem dX3_clear_1 : decode cX3_clear 1 = .ok (.iconst 0, 1) := by decide +kernel
theorem dX3_clear_2 : decode cX3_clear 2 = .ok (.putfield 15, 3) := by decide +kernel
theorem dX3_clear_5 : decode cX3_clear 5 = .ok (.return_, 1) := by decide +kernel
theorem dX3_write_0 : decode cX3_write 0 = .ok (.iload_n 1, 1) := by decide +kernel
theorem dX3_write_1 : decode cX3_write 1 = .ok (.ldc 19, 2) := by decide +kernel
theorem dX3_write_3 : decode cX3_write 3 = .ok (.if_icmp .ge 11, 3) := by decide +kernel
theorem dX3_write_6 : decode cX3_write 6 = .ok (.aload_n 0, 1) := by decide +kernel
theorem dX3_write_7 : decode cX3_write 7 = .ok (.iload_n 1, 1) := by decide +kernel
theorem dX3_write_8 : decode cX3_write 8 = .ok (.invokevirtual 20, 3) := by decide +kernel
theorem dX3_write_11 : decode cX3_write 11 = .ok (.goto 29, 3) := by decide +kernel
theorem dX3_write_14 : decode cX3_write 14 = .ok (.aload_n 0, 1) := by decide +kernel
theorem dX3_write_15 : decode cX3_write 15 = .ok (.ldc 24, 2) := by decide +kernel
theorem dX3_write_17 : decode cX3_write 17 = .ok (.iload_n 1, 1) := by decide +kernel
theorem dX3_write_18 : decode cX3_write 18 = .ok (.ldc 19, 2) := by decide +kernel
theorem dX3_write_20 : decode cX3_write 20 = .ok (.isub, 1) := by decide +kernel
theorem dX3_write_21 : decode cX3_write 21 = .ok (.bipush 10, 2) := by decide +kernel
theorem dX3_write_23 : decode cX3_write 23 = .ok (.ishr, 1) := by decide +kernel
theorem dX3_write_24 : decode cX3_write 24 = .ok (.iadd, 1) := by decide +kernel
theorem dX3_write_25 : decode cX3_write 25 = .ok (.invokevirtual 20, 3) := by decide +kernel
theorem dX3_write_28 : decode cX3_write 28 = .ok (.aload_n 0, 1) := by decide +kernel
theorem dX3_write_29 : decode cX3_write 29 = .ok (.ldc 25, 2) := by decide +kernel
theorem dX3_write_31 : decode cX3_write 31 = .ok (.iload_n 1, 1) := by decide +kernel
theorem dX3_write_32 : decode cX3_write 32 = .ok (.sipush 1023, 3) := by decide +kernel
theorem dX3_write_35 : decode cX3_write 35 = .ok (.iand, 1) := by decide +kernel
theorem dX3_write_36 : decode cX3_write 36 = .ok (.iadd, 1) := by decide +kernel
theorem dX3_write_37 : decode cX3_write 37 = .ok (.invokevirtual 20, 3) := by decide +kernel
theorem dX3_write_40 : decode cX3_write 40 = .ok (.return_, 1) := by decide +kernel
theorem dX3_writeNumber_0 : decode cX3_writeNumber 0 = .ok (.sipush 1000, 3) := by decide +kernel
theorem dX3_writeNumber_3 : decode cX3_writeNumber 3 = .ok (.istore_n 2, 1) := by decide +kernel
theorem dX3_writeNumber_4 : decode cX3_writeNumber 4 = .ok (.iload_n 2, 1) := by decide +kernel
theorem dX3_writeNumber_5 : decode cX3_writeNumber 5 = .ok (.iconst 1, 1) := by decide +kernel
theorem dX3_writeNumber_6 : decode cX3_writeNumber 6 = .ok (.if_icmp .lt 34, 3) := by decide +kernel
theorem dX3_writeNumber_9 : decode cX3_writeNumber 9 = .ok (.iload_n 1, 1) := by decide +kernel
theorem dX3_writeNumber_10 : decode cX3_writeNumber 10 = .ok (.iload_n 2, 1) := by decide +kernel
theorem dX3_writeNumber_11 : decode cX3_writeNumber 11 = .ok (.if_icmp .ge 8, 3) := by decide +kernel
theorem dX3_writeNumber_14 : decode cX3_writeNumber 14 = .ok (.iload_n 2, 1) := by decide +kernel
theorem dX3_writeNumber_15 : decode cX3_writeNumber 15 = .ok (.iconst 1, 1) := by decide +kernel
theorem dX3_writeNumber_16 : decode cX3_writeNumber 16 = .ok (.if_icmp .ne 16, 3) := by decide +kernel
theorem dX3_writeNumber_19 : decode cX3_writeNumber 19 = .ok (.aload_n 0, 1) := by decide +kernel
theorem dX3_writeNumber_20 : decode cX3_writeNumber 20 = .ok (.bipush 48, 2) := by decide +kernel
theorem dX3_writeNumber_22 : decode cX3_writeNumber 22 = .ok (.iload_n 1, 1) := by decide +kernel
theorem dX3_writeNumber_23 : decode cX3_writeNumber 23 = .ok (.iload_n 2, 1) := by decide +kernel
theorem dX3_writeNumber_24 : decode cX3_writeNumber 24 = .ok (.idiv, 1) := by decide +kernel
theorem dX3_writeNumber_25 : decode cX3_writeNumber 25 = .ok (.bipush 10, 2) := by decide +kernel
theorem dX3_writeNumber_27 : decode cX3_writeNumber 27 = .ok (.irem, 1) := by decide +kernel
theorem dX3_writeNumber_28 : decode cX3_writeNumber 28 = .ok (.iadd, 1) := by decide +kernel
theorem dX3_writeNumber_29 : decode cX3_writeNumber 29 = .ok (.invokevirtual 20, 3) := by decide +kernel
theorem dX3_writeNumber_32 : decode cX3_writeNumber 32 = .ok (.iload_n 2, 1) := by decide +kernel
theorem dX3_writeNumber_33 : decode cX3_writeNumber 33 = .ok (.bipush 10, 2) := by decide +kernel
theorem dX3_writeNumber_35 : decode cX3_writeNumber 35 = .ok (.idiv, 1) := by decide +kernel
theorem dX3_writeNumber_36 : decode cX3_writeNumber 36 = .ok (.istore_n 2, 1) := by decide +kernel
theorem dX3_writeNumber_37 : decode cX3_writeNumber 37 = .ok (.goto (-33), 3) := by decide +kernel
theorem dX3_writeNumber_40 : decode cX3_writeNumber 40 = .ok (.return_, 1) := by decide +kernel
theorem dX3_writeTwoDigits_0 : decode cX3_writeTwoDigits 0 = .ok (.aload_n 0, 1) := by decide +kernel
theorem dX3_writeTwoDigits_1 : decode cX3_writeTwoDigits 1 = .ok (.bipush 48, 2) := by decide +kernel
theorem dX3_writeTwoDigits_3 : decode cX3_writeTwoDigits 3 = .ok (.iload_n 1, 1) := by decide +kernel
theorem dX3_writeTwoDigits_4 : decode cX3_writeTwoDigits 4 = .ok (.bipush 10, 2) := by decide +kernel
theorem dX3_writeTwoDigits_6 : decode cX3_writeTwoDigits 6 = .ok (.idiv, 1) := by decide +kernel
theorem dX3_writeTwoDigits_7 : decode cX3_writeTwoDigits 7 = .ok (.iadd, 1) := by decide +kernel
theorem dX3_writeTwoDigits_8 : decode cX3_writeTwoDigits 8 = .ok (.invokevirtual 20, 3) := by decide +kernel
theorem dX3_writeTwoDigits_11 : decode cX3_writeTwoDigits 11 = .ok (.aload_n 0, 1) := by decide +kernel
theorem dX3_writeTwoDigits_12 : decode cX3_writeTwoDigits 12 = .ok (.bipush 48, 2) := by decide +kernel
theorem dX3_writeTwoDigits_14 : decode cX3_writeTwoDigits 14 = .ok (.iload_n 1, 1) := by decide +kernel
theorem dX3_writeTwoDigits_15 : decode cX3_writeTwoDigits 15 = .ok (.bipush 10, 2) := by decide +kernel
theorem dX3_writeTwoDigits_17 : decode cX3_writeTwoDigits 17 = .ok (.irem, 1) := by decide +kernel
theorem dX3_writeTwoDigits_18 : decode cX3_writeTwoDigits 18 = .ok (.iadd, 1) := by decide +kernel
theorem dX3_writeTwoDigits_19 : decode cX3_writeTwoDigits 19 = .ok (.invokevirtual 20, 3) := by decide +kernel
theorem dX3_writeTwoDigits_22 : decode cX3_writeTwoDigits 22 = .ok (.return_, 1) := by decide +kernel
theorem dX3_writeUnit_0 : decode cX3_writeUnit 0 = .ok (.aload_n 0, 1) := by decide +kernel
theorem dX3_writeUnit_1 : decode cX3_writeUnit 1 = .ok (.getfield 15, 3) := by decide +kernel
theorem dX3_writeUnit_4 : decode cX3_writeUnit 4 = .ok (.aload_n 0, 1) := by decide +kernel
theorem dX3_writeUnit_5 : decode cX3_writeUnit 5 = .ok (.getfield 9, 3) := by decide +kernel
theorem dX3_writeUnit_8 : decode cX3_writeUnit 8 = .ok (.arraylength, 1) := by decide +kernel
theorem dX3_writeUnit_9 : decode cX3_writeUnit 9 = .ok (.if_icmp .ge 24, 3) := by decide +kernel
theorem dX3_writeUnit_12 : decode cX3_writeUnit 12 = .ok (.aload_n 0, 1) := by decide +kernel
theorem dX3_writeUnit_13 : decode cX3_writeUnit 13 = .ok (.getfield 9, 3) := by decide +kernel
theorem dX3_writeUnit_16 : decode cX3_writeUnit 16 = .ok (.aload_n 0, 1) := by decide +kernel
theorem dX3_writeUnit_17 : decode cX3_writeUnit 17 = .ok (.getfield 15, 3) := by decide +kernel
theorem dX3_writeUnit_20 : decode cX3_writeUnit 20 = .ok (.iload_n 1, 1) := by decide +kernel
theorem dX3_writeUnit_21 : decode cX3_writeUnit 21 = .ok (.i2c, 1) := by decide +kernel
theorem dX3_writeUnit_22 : decode cX3_writeUnit 22 = .ok (.castore, 1) := by decide +kernel
theorem dX3_writeUnit_23 : decode cX3_writeUnit 23 = .ok (.aload_n 0, 1) := by decide +kernel
theorem dX3_writeUnit_24 : decode cX3_writeUnit 24 = .ok (.dup, 1) := by decide +kernel
theorem dX3_writeUnit_25 : decode cX3_writeUnit 25 = .ok (.getfield 15, 3) := by decide +kernel
theorem dX3_writeUnit_28 : decode cX3_writeUnit 28 = .ok (.iconst 1, 1) := by decide +kernel
theorem dX3_writeUnit_29 : decode cX3_writeUnit 29 = .ok (.iadd, 1) := by decide +kernel
theorem dX3_writeUnit_30 : decode cX3_writeUnit 30 = .ok (.putfield 15, 3) := by decide +kernel
theorem dX3_writeUnit_33 : decode cX3_writeUnit 33 = .ok (.return_, 1) := by decide +kernel
theorem dX4_init_0 : decode cX4_init 0 = .ok (.aload_n 0, 1) := by decide +kernel
theorem dX4_init_1 : decode cX4_init 1 = .ok (.invokespecial 3, 3) := by decide +kernel
theorem dX4_init_4 : decode cX4_init 4 = .ok (.aload_n 0, 1) := by decide +kernel
theorem dX4_init_5 : decode cX4_init 5 = .ok (.sipush 4800, 3) := by decide +kernel
theorem dX4_init_8 : decode cX4_init 8 = .ok (.newarray .int, 2) := by decide +kernel
theorem dX4_init_10 : decode cX4_init 10 = .ok (.putfield 9, 3) := by decide +kernel
theorem dX4_init_13 : decode cX4_init 13 = .ok (.aload_n 0, 1) := by decide +kernel
theorem dX4_init_14 : decode cX4_init 14 = .ok (.bipush 80, 2) := by decide +kernel
theorem dX4_init_16 : decode cX4_init 16 = .ok (.newarray .int, 2) := by decide +kernel
theorem dX4_init_18 : decode cX4_init 18 = .ok (.putfield 15, 3) := by decide +kernel
theorem dX4_init_21 : decode cX4_init 21 = .ok (.return_, 1) := by decide +kernel
theorem dX4_size_0 : decode cX4_size 0 = .ok (.aload_n 0, 1) := by decide +kernel
theorem dX4_size_1 : decode cX4_size 1 = .ok (.getfield 15, 3) := by decide +kernel
theorem dX4_size_4 : decode cX4_size 4 = .ok (.iload_n 1, 1) := by decide +kernel
theorem dX4_size_5 : decode cX4_size 5 = .ok (.invokestatic 18, 3) := by decide +kernel
theorem dX4_size_8 : decode cX4_size 8 = .ok (.ireturn, 1) := by decide +kernel
theorem dX4_sign_0 : decode cX4_sign 0 = .ok (.iload_n 2, 1) := by decide +kernel
theorem dX4_sign_1 : decode cX4_sign 1 = .ok (.ifCond .lt 31, 3) := by decide +kernel
theorem dX4_sign_4 : decode cX4_sign 4 = .ok (.iload_n 2, 1) := by decide +kernel
theorem dX4_sign_5 : decode cX4_sign 5 = .ok (.aload_n 0, 1) := by decide +kernel
theorem dX4_sign_6 : decode cX4_sign 6 = .ok (.getfield 15, 3) := by decide +kernel
theorem dX4_sign_9 : decode cX4_sign 9 = .ok (.iload_n 1, 1) := by decide +kernel
theorem dX4_sign_10 : decode cX4_sign 10 = .ok (.invokestatic 18, 3) := by decide +kernel
theorem dX4_sign_13 : decode cX4_sign 13 = .ok (.if_icmp .ge 19, 3) := by decide +kernel
theorem dX4_sign_16 : decode cX4_sign 16 = .ok (.aload_n 0, 1) := by decide +kernel
theorem dX4_sign_17 : decode cX4_sign 17 = .ok (.getfield 9, 3) := by decide +kernel
theorem dX4_sign_20 : decode cX4_sign 20 = .ok (.iload_n 1, 1) := by decide +kernel
theorem dX4_sign_21 : decode cX4_sign 21 = .ok (.bipush 60, 2) := by decide +kernel
theorem dX4_sign_23 : decode cX4_sign 23 = .ok (.imul, 1) := by decide +kernel
theorem dX4_sign_24 : decode cX4_sign 24 = .ok (.iload_n 2, 1) := by decide +kernel
theorem dX4_sign_25 : decode cX4_sign 25 = .ok (.iadd, 1) := by decide +kernel
theorem dX4_sign_26 : decode cX4_sign 26 = .ok (.invokestatic 18, 3) := by decide +kernel
theorem dX4_sign_29 : decode cX4_sign 29 = .ok (.goto 4, 3) := by decide +kernel
theorem dX4_sign_32 : decode cX4_sign 32 = .ok (.iconst 0, 1) := by decide +kernel
theorem dX4_sign_33 : decode cX4_sign 33 = .ok (.ireturn, 1) := by decide +kernel
theorem dX4_append_0 : decode cX4_append 0 = .ok (.aload_n 0, 1) := by decide +kernel
theorem dX4_append_1 : decode cX4_append 1 = .ok (.iload_n 1, 1) := by decide +kernel
theorem dX4_append_2 : decode cX4_append 2 = .ok (.invokevirtual 22, 3) := by decide +kernel
theorem dX4_append_5 : decode cX4_append 5 = .ok (.istore_n 3, 1) := by decide +kernel
theorem dX4_append_6 : decode cX4_append 6 = .ok (.aload_n 0, 1) := by decide +kernel
theorem dX4_append_7 : decode cX4_append 7 = .ok (.getfield 9, 3) := by decide +kernel
theorem dX4_append_10 : decode cX4_append 10 = .ok (.iload_n 1, 1) := by decide +kernel
theorem dX4_append_11 : decode cX4_append 11 = .ok (.bipush 60, 2) := by decide +kernel
theorem dX4_append_13 : decode cX4_append 13 = .ok (.imul, 1) := by decide +kernel
theorem dX4_append_14 : decode cX4_append 14 = .ok (.iload_n 3, 1) := by decide +kernel
theorem dX4_append_15 : decode cX4_append 15 = .ok (.iadd, 1) := by decide +kernel
theorem dX4_append_16 : decode cX4_append 16 = .ok (.iload_n 2, 1) := by decide +kernel
theorem dX4_append_17 : decode cX4_append 17 = .ok (.invokestatic 26, 3) := by decide +kernel
theorem dX4_append_20 : decode cX4_append 20 = .ok (.aload_n 0, 1) := by decide +kernel
theorem dX4_append_21 : decode cX4_append 21 = .ok (.getfield 15, 3) := by decide +kernel
theorem dX4_append_24 : decode cX4_append 24 = .ok (.iload_n 1, 1) := by decide +kernel
theorem dX4_append_25 : decode cX4_append 25 = .ok (.iload_n 3, 1) := by decide +kernel
theorem dX4_append_26 : decode cX4_append 26 = .ok (.iconst 1, 1) := by decide +kernel
theorem dX4_append_27 : decode cX4_append 27 = .ok (.iadd, 1) := by decide +kernel
theorem dX4_append_28 : decode cX4_append 28 = .ok (.invokestatic 26, 3) := by decide +kernel
theorem dX4_append_31 : decode cX4_append 31 = .ok (.return_, 1) := by decide +kernel
theorem dX4_removeLast_0 : decode cX4_removeLast 0 = .ok (.aload_n 0, 1) := by decide +kernel
theorem dX4_removeLast_1 : decode cX4_removeLast 1 = .ok (.iload_n 1, 1) := by decide +kernel
theorem dX4_removeLast_2 : decode cX4_removeLast 2 = .ok (.invokevirtual 22, 3) := by decide +kernel
theorem dX4_removeLast_5 : decode cX4_removeLast 5 = .ok (.iconst 1, 1) := by decide +kernel
theorem dX4_removeLast_6 : decode cX4_removeLast 6 = .ok (.isub, 1) := by decide +kernel
theorem dX4_removeLast_7 : decode cX4_removeLast 7 = .ok (.istore_n 2, 1) := by decide +kernel
theorem dX4_removeLast_8 : decode cX4_removeLast 8 = .ok (.aload_n 0, 1) := by decide +kernel
theorem dX4_removeLast_9 : decode cX4_removeLast 9 = .ok (.iload_n 1, 1) := by decide +kernel
theorem dX4_removeLast_10 : decode cX4_removeLast 10 = .ok (.iload_n 2, 1) := by decide +kernel
theorem dX4_removeLast_11 : decode cX4_removeLast 11 = .ok (.invokevirtual 30, 3) := by decide +kernel
theorem dX4_removeLast_14 : decode cX4_removeLast 14 = .ok (.istore_n 3, 1) := by decide +kernel
theorem dX4_removeLast_15 : decode cX4_removeLast 15 = .ok (.aload_n 0, 1) := by decide +kernel
theorem dX4_removeLast_16 : decode cX4_removeLast 16 = .ok (.getfield 15, 3) := by decide +kernel
theorem dX4_removeLast_19 : decode cX4_removeLast 19 = .ok (.iload_n 1, 1) := by decide +kernel
theorem dX4_removeLast_20 : decode cX4_removeLast 20 = .ok (.iload_n 2, 1) := by decide +kernel
theorem dX4_removeLast_21 : decode cX4_removeLast 21 = .ok (.invokestatic 26, 3) := by decide +kernel
theorem dX4_removeLast_24 : decode cX4_removeLast 24 = .ok (.iload_n 3, 1) := by decide +kernel
theorem dX4_removeLast_25 : decode cX4_removeLast 25 = .ok (.ireturn, 1) := by decide +kernel
theorem dX4_copy_0 : decode cX4_copy 0 = .ok (.aload_n 0, 1) := by decide +kernel
theorem dX4_copy_1 : decode cX4_copy 1 = .ok (.getfield 9, 3) := by decide +kernel
theorem dX4_copy_4 : decode cX4_copy 4 = .ok (.iload_n 1, 1) := by decide +kernel
theorem dX4_copy_5 : decode cX4_copy 5 = .ok (.bipush 60, 2) := by decide +kernel
theorem dX4_copy_7 : decode cX4_copy 7 = .ok (.imul, 1) := by decide +kernel
theorem dX4_copy_8 : decode cX4_copy 8 = .ok (.aload_n 0, 1) := by decide +kernel
theorem dX4_copy_9 : decode cX4_copy 9 = .ok (.getfield 9, 3) := by decide +kernel
theorem dX4_copy_12 : decode cX4_copy 12 = .ok (.iload_n 2, 1) := by decide +kernel
theorem dX4_copy_13 : decode cX4_copy 13 = .ok (.bipush 60, 2) := by decide +kernel
theorem dX4_copy_15 : decode cX4_copy 15 = .ok (.imul, 1) := by decide +kernel
theorem dX4_copy_16 : decode cX4_copy 16 = .ok (.aload_n 0, 1) := by decide +kernel
theorem dX4_copy_17 : decode cX4_copy 17 = .ok (.iload_n 1, 1) := by decide +kernel
theorem dX4_copy_18 : decode cX4_copy 18 = .ok (.invokevirtual 22, 3) := by decide +kernel
theorem dX4_copy_21 : decode cX4_copy 21 = .ok (.invokestatic 34, 3) := by decide +kernel
theorem dX4_copy_24 : decode cX4_copy 24 = .ok (.aload_n 0, 1) := by decide +kernel
theorem dX4_copy_25 : decode cX4_copy 25 = .ok (.getfield 15, 3) := by decide +kernel
theorem dX4_copy_28 : decode cX4_copy 28 = .ok (.iload_n 2, 1) := by decide +kernel
theorem dX4_copy_29 : decode cX4_copy 29 = .ok (.aload_n 0, 1) := by decide +kernel
theorem dX4_copy_30 : decode cX4_copy 30 = .ok (.iload_n 1, 1) := by decide +kernel
theorem dX4_copy_31 : decode cX4_copy 31 = .ok (.invokevirtual 22, 3) := by decide +kernel
theorem dX4_copy_34 : decode cX4_copy 34 = .ok (.invokestatic 26, 3) := by decide +kernel
theorem dX4_copy_37 : decode cX4_copy 37 = .ok (.return_, 1) := by decide +kernel
theorem dX4_isSame_0 : decode cX4_isSame 0 = .ok (.aload_n 0, 1) := by decide +kernel
theorem dX4_isSame_1 : decode cX4_isSame 1 = .ok (.iload_n 1, 1) := by decide +kernel
theorem dX4_isSame_2 : decode cX4_isSame 2 = .ok (.invokevirtual 22, 3) := by decide +kernel
theorem dX4_isSame_5 : decode cX4_isSame 5 = .ok (.aload_n 0, 1) := by decide +kernel
theorem dX4_isSame_6 : decode cX4_isSame 6 = .ok (.iload_n 2, 1) := by decide +kernel
theorem dX4_isSame_7 : decode cX4_isSame 7 = .ok (.invokevirtual 22, 3) := by decide +kernel
theorem dX4_isSame_10 : decode cX4_isSame 10 = .ok (.if_icmp .eq 5, 3) := by decide +kernel
theorem dX4_isSame_13 : decode cX4_isSame 13 = .ok (.iconst 0, 1) := by decide +kernel
theorem dX4_isSame_14 : decode cX4_isSame 14 = .ok (.ireturn, 1) := by decide +kernel
theorem dX4_isSame_15 : decode cX4_isSame 15 = .ok (.iconst 0, 1) := by decide +kernel
theorem dX4_isSame_16 : decode cX4_isSame 16 = .ok (.istore_n 3, 1) := by decide +kernel
theorem dX4_isSame_17 : decode cX4_isSame 17 = .ok (.iload_n 3, 1) := by decide +kernel
theorem dX4_isSame_18 : decode cX4_isSame 18 = .ok (.aload_n 0, 1) := by decide +kernel
theorem dX4_isSame_19 : decode cX4_isSame 19 = .ok (.iload_n 1, 1) := by decide +kernel
theorem dX4_isSame_20 : decode cX4_isSame 20 = .ok (.invokevirtual 22, 3) := by decide +kernel
theorem dX4_isSame_23 : decode cX4_isSame 23 = .ok (.if_icmp .ge 26, 3) := by decide +kernel
theorem dX4_isSame_26 : decode cX4_isSame 26 = .ok (.aload_n 0, 1) := by decide +kernel
theorem dX4_isSame_27 : decode cX4_isSame 27 = .ok (.iload_n 1, 1) := by decide +kernel
theorem dX4_isSame_28 : decode cX4_isSame 28 = .ok (.iload_n 3, 1) := by decide +kernel
theorem dX4_isSame_29 : decode cX4_isSame 29 = .ok (.invokevirtual 30, 3) := by decide +kernel
theorem dX4_isSame_32 : decode cX4_isSame 32 = .ok (.aload_n 0, 1) := by decide +kernel
theorem dX4_isSame_33 : decode cX4_isSame 33 = .ok (.iload_n 2, 1) := by decide +kernel
theorem dX4_isSame_34 : decode cX4_isSame 34 = .ok (.iload_n 3, 1) := by decide +kernel
theorem dX4_isSame_35 : decode cX4_isSame 35 = .ok (.invokevirtual 30, 3) := by decide +kernel
theorem dX4_isSame_38 : decode cX4_isSame 38 = .ok (.if_icmp .eq 5, 3) := by decide +kernel
theorem dX4_isSame_41 : decode cX4_isSame 41 = .ok (.iconst 0, 1) := by decide +kernel
theorem dX4_isSame_42 : decode cX4_isSame 42 = .ok (.ireturn, 1) := by decide +kernel
theorem dX4_isSame_43 : decode cX4_isSame 43 = .ok (.iinc 3 1, 3) := by decide +kernel
theorem dX4_isSame_46 : decode cX4_isSame 46 = .ok (.goto (-29), 3) := by decide +kernel
theorem dX4_isSame_49 : decode cX4_isSame 49 = .ok (.iconst 1, 1) := by decide +kernel
theorem dX4_isSame_50 : decode cX4_isSame 50 = .ok (.ireturn, 1) := by decide +kernel
theorem dX5_init_0 : decode cX5_init 0 = .ok (.aload_n 0, 1) := by decide +kernel
theorem dX5_init_1 : decode cX5_init 1 = .ok (.invokespecial 3, 3) := by decide +kernel
theorem dX5_init_4 : decode cX5_init 4 = .ok (.aload_n 0, 1) := by decide +kernel
theorem dX5_init_5 : decode cX5_init 5 = .ok (.bipush 16, 2) := by decide +kernel
theorem dX5_init_7 : decode cX5_init 7 = .ok (.newarray .int, 2) := by decide +kernel
theorem dX5_init_9 : decode cX5_init 9 = .ok (.putfield 9, 3) := by decide +kernel
theorem dX5_init_12 : decode cX5_init 12 = .ok (.aload_n 0, 1) := by decide +kernel
theorem dX5_init_13 : decode cX5_init 13 = .ok (.bipush 16, 2) := by decide +kernel
theorem dX5_init_15 : decode cX5_init 15 = .ok (.newarray .int, 2) := by decide +kernel
theorem dX5_init_17 : decode cX5_init 17 = .ok (.putfield 15, 3) := by decide +kernel
theorem dX5_init_20 : decode cX5_init 20 = .ok (.aload_n 0, 1) := by decide +kernel
theorem dX5_init_21 : decode cX5_init 21 = .ok (.bipush 16, 2) := by decide +kernel
theorem dX5_init_23 : decode cX5_init 23 = .ok (.newarray .int, 2) := by decide +kernel
theorem dX5_init_25 : decode cX5_init 25 = .ok (.putfield 18, 3) := by decide +kernel
theorem dX5_init_28 : decode cX5_init 28 = .ok (.aload_n 0, 1) := by decide +kernel
theorem dX5_init_29 : decode cX5_init 29 = .ok (.bipush 16, 2) := by decide +kernel
theorem dX5_init_31 : decode cX5_init 31 = .ok (.newarray .int, 2) := by decide +kernel
theorem dX5_init_33 : decode cX5_init 33 = .ok (.putfield 21, 3) := by decide +kernel
theorem dX5_init_36 : decode cX5_init 36 = .ok (.aload_n 0, 1) := by decide +kernel
theorem dX5_init_37 : decode cX5_init 37 = .ok (.bipush 16, 2) := by decide +kernel
theorem dX5_init_39 : decode cX5_init 39 = .ok (.newarray .int, 2) := by decide +kernel
theorem dX5_init_41 : decode cX5_init 41 = .ok (.putfield 24, 3) := by decide +kernel
theorem dX5_init_44 : decode cX5_init 44 = .ok (.aload_n 0, 1) := by decide +kernel
theorem dX5_init_45 : decode cX5_init 45 = .ok (.getfield 9, 3) := by decide +kernel
theorem dX5_init_48 : decode cX5_init 48 = .ok (.iconst (-1), 1) := by decide +kernel
theorem dX5_init_49 : decode cX5_init 49 = .ok (.invokestatic 27, 3) := by decide +kernel
theorem dX5_init_52 : decode cX5_init 52 = .ok (.return_, 1) := by decide +kernel
theorem dX5_start_0 : decode cX5_start 0 = .ok (.aload_n 0, 1) := by decide +kernel
theorem dX5_start_1 : decode cX5_start 1 = .ok (.getfield 9, 3) := by decide +kernel
theorem dX5_start_4 : decode cX5_start 4 = .ok (.iload_n 1, 1) := by decide +kernel
theorem dX5_start_5 : decode cX5_start 5 = .ok (.invokestatic 33, 3) := by decide +kernel
theorem dX5_start_8 : decode cX5_start 8 = .ok (.ireturn, 1) := by decide +kernel
theorem dX5_length_0 : decode cX5_length 0 = .ok (.aload_n 0, 1) := by decide +kernel
theorem dX5_length_1 : decode cX5_length 1 = .ok (.getfield 15, 3) := by decide +kernel
theorem dX5_length_4 : decode cX5_length 4 = .ok (.iload_n 1, 1) := by decide +kernel
theorem dX5_length_5 : decode cX5_length 5 = .ok (.invokestatic 33, 3) := by decide +kernel
theorem dX5_length_8 : decode cX5_length 8 = .ok (.ireturn, 1) := by decide +kernel
theorem dX5_end_0 : decode cX5_end 0 = .ok (.aload_n 0, 1) := by decide +kernel
theorem dX5_end_1 : decode cX5_end 1 = .ok (.iload_n 1, 1) := by decide +kernel
theorem dX5_end_2 : decode cX5_end 2 = .ok (.invokevirtual 37, 3) := by decide +kernel
theorem dX5_end_5 : decode cX5_end 5 = .ok (.aload_n 0, 1) := by decide +kernel
theorem dX5_end_6 : decode cX5_end 6 = .ok (.iload_n 1, 1) := by decide +kernel
theorem dX5_end_7 : decode cX5_end 7 = .ok (.invokevirtual 41, 3) := by decide +kernel
theorem dX5_end_10 : decode cX5_end 10 = .ok (.iadd, 1) := by decide +kernel
theorem dX5_end_11 : decode cX5_end 11 = .ok (.ireturn, 1) := by decide +kernel
theorem dX5_isIn_0 : decode cX5_isIn 0 = .ok (.aload_n 0, 1) := by decide +kernel
theorem dX5_isIn_1 : decode cX5_isIn 1 = .ok (.iload_n 1, 1) := by decide +kernel
theorem dX5_isIn_2 : decode cX5_isIn 2 = .ok (.invokevirtual 41, 3) := by decide +kernel
theorem dX5_isIn_5 : decode cX5_isIn 5 = .ok (.ifCond .le 7, 3) := by decide +kernel
theorem dX5_isIn_8 : decode cX5_isIn 8 = .ok (.iconst 1, 1) := by decide +kernel
theorem dX5_isIn_9 : decode cX5_isIn 9 = .ok (.goto 4, 3) := by decide +kernel
theorem dX5_isIn_12 : decode cX5_isIn 12 = .ok (.iconst 0, 1) := by decide +kernel
theorem dX5_isIn_13 : decode cX5_isIn 13 = .ok (.ireturn, 1) := by decide +kernel
theorem dX5_set_0 : decode cX5_set 0 = .ok (.aload_n 0, 1) := by decide +kernel
theorem dX5_set_1 : decode cX5_set 1 = .ok (.getfield 9, 3) := by decide +kernel
theorem dX5_set_4 : decode cX5_set 4 = .ok (.iload_n 1, 1) := by decide +kernel
theorem dX5_set_5 : decode cX5_set 5 = .ok (.iload_n 2, 1) := by decide +kernel
theorem dX5_set_6 : decode cX5_set 6 = .ok (.invokestatic 44, 3) := by decide +kernel
theorem dX5_set_9 : decode cX5_set 9 = .ok (.aload_n 0, 1) := by decide +kernel
theorem dX5_set_10 : decode cX5_set 10 = .ok (.getfield 15, 3) := by decide +kernel
theorem dX5_set_13 : decode cX5_set 13 = .ok (.iload_n 1, 1) := by decide +kernel
theorem dX5_set_14 : decode cX5_set 14 = .ok (.iload_n 3, 1) := by decide +kernel
theorem dX5_set_15 : decode cX5_set 15 = .ok (.invokestatic 44, 3) := by decide +kernel
theorem dX5_set_18 : decode cX5_set 18 = .ok (.return_, 1) := by decide +kernel
theorem dX5_find_0 : decode cX5_find 0 = .ok (.aload_n 0, 1) := by decide +kernel
theorem dX5_find_1 : decode cX5_find 1 = .ok (.getfield 21, 3) := by decide +kernel
theorem dX5_find_4 : decode cX5_find 4 = .ok (.iconst (-1), 1) := by decide +kernel
theorem dX5_find_5 : decode cX5_find 5 = .ok (.invokestatic 27, 3) := by decide +kernel
theorem dX5_find_8 : decode cX5_find 8 = .ok (.aload_n 0, 1) := by decide +kernel
theorem dX5_find_9 : decode cX5_find 9 = .ok (.getfield 24, 3) := by decide +kernel
theorem dX5_find_12 : decode cX5_find 12 = .ok (.iconst 0, 1) := by decide +kernel
theorem dX5_find_13 : decode cX5_find 13 = .ok (.invokestatic 27, 3) := by decide +kernel
theorem dX5_find_16 : decode cX5_find 16 = .ok (.iconst 0, 1) := by decide +kernel
theorem dX5_find_17 : decode cX5_find 17 = .ok (.istore_n 2, 1) := by decide +kernel
theorem dX5_find_18 : decode cX5_find 18 = .ok (.iconst 0, 1) := by decide +kernel
theorem dX5_find_19 : decode cX5_find 19 = .ok (.istore_n 3, 1) := by decide +kernel
theorem dX5_find_20 : decode cX5_find 20 = .ok (.iload_n 3, 1) := by decide +kernel
theorem dX5_find_21 : decode cX5_find 21 = .ok (.aload_n 1, 1) := by decide +kernel
theorem dX5_find_22 : decode cX5_find 22 = .ok (.invokevirtual 48, 3) := by decide +kernel
theorem dX5_find_25 : decode cX5_find 25 = .ok (.if_icmp .gt 33, 3) := by decide +kernel
theorem dX5_find_28 : decode cX5_find 28 = .ok (.aload_n 1, 1) := by decide +kernel
theorem dX5_find_29 : decode cX5_find 29 = .ok (.iload_n 3, 1) := by decide +kernel
theorem dX5_find_30 : decode cX5_find 30 = .ok (.invokevirtual 54, 3) := by decide +kernel
theorem dX5_find_33 : decode cX5_find 33 = .ok (.istore 4, 2) := by decide +kernel
theorem dX5_find_35 : decode cX5_find 35 = .ok (.iload 4, 2) := by decide +kernel
theorem dX5_find_37 : decode cX5_find 37 = .ok (.iload_n 2, 1) := by decide +kernel
theorem dX5_find_38 : decode cX5_find 38 = .ok (.if_icmp .eq 11, 3) := by decide +kernel
theorem dX5_find_41 : decode cX5_find 41 = .ok (.aload_n 0, 1) := by decide +kernel
theorem dX5_find_42 : decode cX5_find 42 = .ok (.iload_n 2, 1) := by decide +kernel
theorem dX5_find_43 : decode cX5_find 43 = .ok (.iload 4, 2) := by decide +kernel
theorem dX5_find_45 : decode cX5_find 45 = .ok (.iload_n 3, 1) := by decide +kernel
theorem dX5_find_46 : decode cX5_find 46 = .ok (.invokevirtual 57, 3) := by decide +kernel
theorem dX5_find_49 : decode cX5_find 49 = .ok (.iload 4, 2) := by decide +kernel
theorem dX5_find_51 : decode cX5_find 51 = .ok (.istore_n 2, 1) := by decide +kernel
theorem dX5_find_52 : decode cX5_find 52 = .ok (.iinc 3 1, 3) := by decide +kernel
theorem dX5_find_55 : decode cX5_find 55 = .ok (.goto (-35), 3) := by decide +kernel
theorem dX5_find_58 : decode cX5_find 58 = .ok (.aload_n 0, 1) := by decide +kernel
theorem dX5_find_59 : decode cX5_find 59 = .ok (.invokevirtual 61, 3) := by decide +kernel
theorem dX5_find_62 : decode cX5_find 62 = .ok (.ireturn, 1) := by decide +kernel
theorem dX5_turn_0 : decode cX5_turn 0 = .ok (.iconst 0, 1) := by decide +kernel
theorem dX5_turn_1 : decode cX5_turn 1 = .ok (.istore 4, 2) := by decide +kernel
theorem dX5_turn_3 : decode cX5_turn 3 = .ok (.iload 4, 2) := by decide +kernel
theorem dX5_turn_5 : decode cX5_turn 5 = .ok (.bipush 16, 2) := by decide +kernel
theorem dX5_turn_7 : decode cX5_turn 7 = .ok (.if_icmp .ge 62, 3) := by decide +kernel
theorem dX5_turn_10 : decode cX5_turn 10 = .ok (.iload_n 1, 1) := by decide +kernel
theorem dX5_turn_11 : decode cX5_turn 11 = .ok (.iload 4, 2) := by decide +kernel
theorem dX5_turn_13 : decode cX5_turn 13 = .ok (.invokestatic 64, 3) := by decide +kernel
theorem dX5_turn_16 : decode cX5_turn 16 = .ok (.istore 5, 2) := by decide +kernel
theorem dX5_turn_18 : decode cX5_turn 18 = .ok (.iload_n 2, 1) := by decide +kernel
theorem dX5_turn_19 : decode cX5_turn 19 = .ok (.iload 4, 2) := by decide +kernel
theorem dX5_turn_21 : decode cX5_turn 21 = .ok (.invokestatic 64, 3) := by decide +kernel
theorem dX5_turn_24 : decode cX5_turn 24 = .ok (.istore 6, 2) := by decide +kernel
theorem dX5_turn_26 : decode cX5_turn 26 = .ok (.iload 6, 2) := by decide +kernel
theorem dX5_turn_28 : decode cX5_turn 28 = .ok (.ifCond .eq 18, 3) := by decide +kernel
theorem dX5_turn_31 : decode cX5_turn 31 = .ok (.iload 5, 2) := by decide +kernel
theorem dX5_turn_33 : decode cX5_turn 33 = .ok (.ifCond .ne 13, 3) := by decide +kernel
theorem dX5_turn_36 : decode cX5_turn 36 = .ok (.aload_n 0, 1) := by decide +kernel
theorem dX5_turn_37 : decode cX5_turn 37 = .ok (.getfield 18, 3) := by decide +kernel
theorem dX5_turn_40 : decode cX5_turn 40 = .ok (.iload 4, 2) := by decide +kernel
theorem dX5_turn_42 : decode cX5_turn 42 = .ok (.iload_n 3, 1) := by decide +kernel
theorem dX5_turn_43 : decode cX5_turn 43 = .ok (.invokestatic 44, 3) := by decide +kernel
theorem dX5_turn_46 : decode cX5_turn 46 = .ok (.iload 5, 2) := by decide +kernel
theorem dX5_turn_48 : decode cX5_turn 48 = .ok (.ifCond .eq 15, 3) := by decide +kernel
theorem dX5_turn_51 : decode cX5_turn 51 = .ok (.iload 6, 2) := by decide +kernel
theorem dX5_turn_53 : decode cX5_turn 53 = .ok (.ifCond .ne 10, 3) := by decide +kernel
theorem dX5_turn_56 : decode cX5_turn 56 = .ok (.aload_n 0, 1) := by decide +kernel
theorem dX5_turn_57 : decode cX5_turn 57 = .ok (.iload 4, 2) := by decide +kernel
theorem dX5_turn_59 : decode cX5_turn 59 = .ok (.iload_n 3, 1) := by decide +kernel
theorem dX5_turn_60 : decode cX5_turn 60 = .ok (.invokevirtual 68, 3) := by decide +kernel
theorem dX5_turn_63 : decode cX5_turn 63 = .ok (.iinc 4 1, 3) := by decide +kernel
theorem dX5_turn_66 : decode cX5_turn 66 = .ok (.goto (-63), 3) := by decide +kernel
theorem dX5_turn_69 : decode cX5_turn 69 = .ok (.return_, 1) := by decide +kernel
theorem dX5_endRun_0 : decode cX5_endRun 0 = .ok (.aload_n 0, 1) := by decide +kernel
theorem dX5_endRun_1 : decode cX5_endRun 1 = .ok (.getfield 18, 3) := by decide +kernel
theorem dX5_endRun_4 : decode cX5_endRun 4 = .ok (.iload_n 1, 1) := by decide +kernel
theorem dX5_endRun_5 : decode cX5_endRun 5 = .ok (.invokestatic 33, 3) := by decide +kernel
theorem dX5_endRun_8 : decode cX5_endRun 8 = .ok (.istore_n 3, 1) := by decide +kernel
theorem dX5_endRun_9 : decode cX5_endRun 9 = .ok (.iload_n 2, 1) := by decide +kernel
theorem dX5_endRun_10 : decode cX5_endRun 10 = .ok (.iload_n 3, 1) := by decide +kernel
theorem dX5_endRun_11 : decode cX5_endRun 11 = .ok (.isub, 1) := by decide +kernel
theorem dX5_endRun_12 : decode cX5_endRun 12 = .ok (.aload_n 0, 1) := by decide +kernel
theorem dX5_endRun_13 : decode cX5_endRun 13 = .ok (.getfield 24, 3) := by decide +kernel
theorem dX5_endRun_16 : decode cX5_endRun 16 = .ok (.iload_n 1, 1) := by decide +kernel
theorem dX5_endRun_17 : decode cX5_endRun 17 = .ok (.invokestatic 33, 3) := by decide +kernel
theorem dX5_endRun_20 : decode cX5_endRun 20 = .ok (.if_icmp .le 23, 3) := by decide +kernel
theorem dX5_endRun_23 : decode cX5_endRun 23 = .ok (.aload_n 0, 1) := by decide +kernel
theorem dX5_endRun_24 : decode cX5_endRun 24 = .ok (.getfield 21, 3) := by decide +kernel
theorem dX5_endRun_27 : decode cX5_endRun 27 = .ok (.iload_n 1, 1) := by decide +kernel
theorem dX5_endRun_28 : decode cX5_endRun 28 = .ok (.iload_n 3, 1) := by decide +kernel
theorem dX5_endRun_29 : decode cX5_endRun 29 = .ok (.invokestatic 44, 3) := by decide +kernel
theorem dX5_endRun_32 : decode cX5_endRun 32 = .ok (.aload_n 0, 1) := by decide +kernel
theorem dX5_endRun_33 : decode cX5_endRun 33 = .ok (.getfield 24, 3) := by decide +kernel
theorem dX5_endRun_36 : decode cX5_endRun 36 = .ok (.iload_n 1, 1) := by decide +kernel
theorem dX5_endRun_37 : decode cX5_endRun 37 = .ok (.iload_n 2, 1) := by decide +kernel
theorem dX5_endRun_38 : decode cX5_endRun 38 = .ok (.iload_n 3, 1) := by decide +kernel
theorem dX5_endRun_39 : decode cX5_endRun 39 = .ok (.isub, 1) := by decide +kernel
theorem dX5_endRun_40 : decode cX5_endRun 40 = .ok (.invokestatic 44, 3) := by decide +kernel
theorem dX5_endRun_43 : decode cX5_endRun 43 = .ok (.return_, 1) := by decide +kernel
theorem dX5_takeLongest_0 : decode cX5_takeLongest 0 = .ok (.iconst 0, 1) := by decide +kernel
theorem dX5_takeLongest_1 : decode cX5_takeLongest 1 = .ok (.istore_n 1, 1) := by decide +kernel
theorem dX5_takeLongest_2 : decode cX5_takeLongest 2 = .ok (.iconst 0, 1) := by decide +kernel
theorem dX5_takeLongest_3 : decode cX5_takeLongest 3 = .ok (.istore_n 2, 1) := by decide +kernel
theorem dX5_takeLongest_4 : decode cX5_takeLongest 4 = .ok (.iload_n 2, 1) := by decide +kernel
theorem dX5_takeLongest_5 : decode cX5_takeLongest 5 = .ok (.bipush 16, 2) := by decide +kernel
theorem dX5_takeLongest_7 : decode cX5_takeLongest 7 = .ok (.if_icmp .ge 58, 3) := by decide +kernel
theorem dX5_takeLongest_10 : decode cX5_takeLongest 10 = .ok (.aload_n 0, 1) := by decide +kernel
theorem dX5_takeLongest_11 : decode cX5_takeLongest 11 = .ok (.getfield 21, 3) := by decide +kernel
theorem dX5_takeLongest_14 : decode cX5_takeLongest 14 = .ok (.iload_n 2, 1) := by decide +kernel
theorem dX5_takeLongest_15 : decode cX5_takeLongest 15 = .ok (.invokestatic 33, 3) := by decide +kernel
theorem dX5_takeLongest_18 : decode cX5_takeLongest 18 = .ok (.istore_n 3, 1) := by decide +kernel
theorem dX5_takeLongest_19 : decode cX5_takeLongest 19 = .ok (.aload_n 0, 1) := by decide +kernel
theorem dX5_takeLongest_20 : decode cX5_takeLongest 20 = .ok (.getfield 24, 3) := by decide +kernel
theorem dX5_takeLongest_23 : decode cX5_takeLongest 23 = .ok (.iload_n 2, 1) := by decide +kernel
theorem dX5_takeLongest_24 : decode cX5_takeLongest 24 = .ok (.invokestatic 33, 3) := by decide +kernel
theorem dX5_takeLongest_27 : decode cX5_takeLongest 27 = .ok (.istore 4, 2) := by decide +kernel
theorem dX5_takeLongest_29 : decode cX5_takeLongest 29 = .ok (.iload_n 3, 1) := by decide +kernel
theorem dX5_takeLongest_30 : decode cX5_takeLongest 30 = .ok (.aload_n 0, 1) := by decide +kernel
theorem dX5_takeLongest_31 : decode cX5_takeLongest 31 = .ok (.iload_n 2, 1) := by decide +kernel
theorem dX5_takeLongest_32 : decode cX5_takeLongest 32 = .ok (.invokevirtual 37, 3) := by decide +kernel
theorem dX5_takeLongest_35 : decode cX5_takeLongest 35 = .ok (.if_icmp .ne 13, 3) := by decide +kernel
theorem dX5_takeLongest_38 : decode cX5_takeLongest 38 = .ok (.iload 4, 2) := by decide +kernel
theorem dX5_takeLongest_40 : decode cX5_takeLongest 40 = .ok (.aload_n 0, 1) := by decide +kernel
theorem dX5_takeLongest_41 : decode cX5_takeLongest 41 = .ok (.iload_n 2, 1) := by decide +kernel
theorem dX5_takeLongest_42 : decode cX5_takeLongest 42 = .ok (.invokevirtual 41, 3) := by decide +kernel
theorem dX5_takeLongest_45 : decode cX5_takeLongest 45 = .ok (.if_icmp .eq 14, 3) := by decide +kernel
theorem dX5_takeLongest_48 : decode cX5_takeLongest 48 = .ok (.aload_n 0, 1) := by decide +kernel
theorem dX5_takeLongest_49 : decode cX5_takeLongest 49 = .ok (.iload_n 2, 1) := by decide +kernel
theorem dX5_takeLongest_50 : decode cX5_takeLongest 50 = .ok (.iload_n 3, 1) := by decide +kernel
theorem dX5_takeLongest_51 : decode cX5_takeLongest 51 = .ok (.iload 4, 2) := by decide +kernel
theorem dX5_takeLongest_53 : decode cX5_takeLongest 53 = .ok (.invokevirtual 72, 3) := by decide +kernel
theorem dX5_takeLongest_56 : decode cX5_takeLongest 56 = .ok (.iinc 1 1, 3) := by decide +kernel
theorem dX5_takeLongest_59 : decode cX5_takeLongest 59 = .ok (.iinc 2 1, 3) := by decide +kernel
theorem dX5_takeLongest_62 : decode cX5_takeLongest 62 = .ok (.goto (-58), 3) := by decide +kernel
theorem dX5_takeLongest_65 : decode cX5_takeLongest 65 = .ok (.iload_n 1, 1) := by decide +kernel
theorem dX5_takeLongest_66 : decode cX5_takeLongest 66 = .ok (.ireturn, 1) := by decide +kernel
theorem dX6_init_0 : decode cX6_init 0 = .ok (.aload_n 0, 1) := by decide +kernel
theorem dX6_init_1 : decode cX6_init 1 = .ok (.invokespecial 1, 3) := by decide +kernel
theorem dX6_init_4 : decode cX6_init 4 = .ok (.aload_n 0, 1) := by decide +kernel
theorem dX6_init_5 : decode cX6_init 5 = .ok (.new 7, 3) := by decide +kernel
theorem dX6_init_8 : decode cX6_init 8 = .ok (.dup, 1) := by decide +kernel
theorem dX6_init_9 : decode cX6_init 9 = .ok (.invokespecial 9, 3) := by decide +kernel
theorem dX6_init_12 : decode cX6_init 12 = .ok (.putfield 10, 3) := by decide +kernel
theorem dX6_init_15 : decode cX6_init 15 = .ok (.aload_n 0, 1) := by decide +kernel
theorem dX6_init_16 : decode cX6_init 16 = .ok (.new 16, 3) := by decide +kernel
theorem dX6_init_19 : decode cX6_init 19 = .ok (.dup, 1) := by decide +kernel
theorem dX6_init_20 : decode cX6_init 20 = .ok (.invokespecial 18, 3) := by decide +kernel
theorem dX6_init_23 : decode cX6_init 23 = .ok (.putfield 19, 3) := by decide +kernel
theorem dX6_init_26 : decode cX6_init 26 = .ok (.aload_n 0, 1) := by decide +kernel
theorem dX6_init_27 : decode cX6_init 27 = .ok (.new 23, 3) := by decide +kernel
theorem dX6_init_30 : decode cX6_init 30 = .ok (.dup, 1) := by decide +kernel
theorem dX6_init_31 : decode cX6_init 31 = .ok (.invokespecial 25, 3) := by decide +kernel
theorem dX6_init_34 : decode cX6_init 34 = .ok (.putfield 26, 3) := by decide +kernel
theorem dX6_init_37 : decode cX6_init 37 = .ok (.aload_n 0, 1) := by decide +kernel
theorem dX6_init_38 : decode cX6_init 38 = .ok (.new 30, 3) := by decide +kernel
theorem dX6_init_41 : decode cX6_init 41 = .ok (.dup, 1) := by decide +kernel
theorem dX6_init_42 : decode cX6_init 42 = .ok (.bipush 48, 2) := by decide +kernel
theorem dX6_init_44 : decode cX6_init 44 = .ok (.invokespecial 32, 3) := by decide +kernel
theorem dX6_init_47 : decode cX6_init 47 = .ok (.putfield 35, 3) := by decide +kernel
theorem dX6_init_50 : decode cX6_init 50 = .ok (.aload_n 0, 1) := by decide +kernel
theorem dX6_init_51 : decode cX6_init 51 = .ok (.new 30, 3) := by decide +kernel
theorem dX6_init_54 : decode cX6_init 54 = .ok (.dup, 1) := by decide +kernel
theorem dX6_init_55 : decode cX6_init 55 = .ok (.bipush 64, 2) := by decide +kernel
theorem dX6_init_57 : decode cX6_init 57 = .ok (.invokespecial 32, 3) := by decide +kernel
theorem dX6_init_60 : decode cX6_init 60 = .ok (.putfield 39, 3) := by decide +kernel
theorem dX6_init_63 : decode cX6_init 63 = .ok (.aload_n 0, 1) := by decide +kernel
theorem dX6_init_64 : decode cX6_init 64 = .ok (.new 42, 3) := by decide +kernel
theorem dX6_init_67 : decode cX6_init 67 = .ok (.dup, 1) := by decide +kernel
theorem dX6_init_68 : decode cX6_init 68 = .ok (.invokespecial 44, 3) := by decide +kernel
theorem dX6_init_71 : decode cX6_init 71 = .ok (.putfield 45, 3) := by decide +kernel
theorem dX6_init_74 : decode cX6_init 74 = .ok (.aload_n 0, 1) := by decide +kernel
theorem dX6_init_75 : decode cX6_init 75 = .ok (.new 49, 3) := by decide +kernel
theorem dX6_init_78 : decode cX6_init 78 = .ok (.dup, 1) := by decide +kernel
theorem dX6_init_79 : decode cX6_init 79 = .ok (.invokespecial 51, 3) := by decide +kernel
theorem dX6_init_82 : decode cX6_init 82 = .ok (.putfield 52, 3) := by decide +kernel
theorem dX6_init_85 : decode cX6_init 85 = .ok (.aload_n 0, 1) := by decide +kernel
theorem dX6_init_86 : decode cX6_init 86 = .ok (.bipush 16, 2) := by decide +kernel
theorem dX6_init_88 : decode cX6_init 88 = .ok (.newarray .int, 2) := by decide +kernel
theorem dX6_init_90 : decode cX6_init 90 = .ok (.putfield 56, 3) := by decide +kernel
theorem dX6_init_93 : decode cX6_init 93 = .ok (.aload_n 0, 1) := by decide +kernel
theorem dX6_init_94 : decode cX6_init 94 = .ok (.sipush 384, 3) := by decide +kernel
theorem dX6_init_97 : decode cX6_init 97 = .ok (.newarray .int, 2) := by decide +kernel
theorem dX6_init_99 : decode cX6_init 99 = .ok (.putfield 60, 3) := by decide +kernel
theorem dX6_init_102 : decode cX6_init 102 = .ok (.aload_n 0, 1) := by decide +kernel
theorem dX6_init_103 : decode cX6_init 103 = .ok (.bipush 48, 2) := by decide +kernel
theorem dX6_init_105 : decode cX6_init 105 = .ok (.newarray .boolean, 2) := by decide +kernel
theorem dX6_init_107 : decode cX6_init 107 = .ok (.putfield 63, 3) := by decide +kernel
theorem dX6_init_110 : decode cX6_init 110 = .ok (.aload_n 0, 1) := by decide +kernel
theorem dX6_init_111 : decode cX6_init 111 = .ok (.bipush 16, 2) := by decide +kernel
theorem dX6_init_113 : decode cX6_init 113 = .ok (.newarray .int, 2) := by decide +kernel
theorem dX6_init_115 : decode cX6_init 115 = .ok (.putfield 67, 3) := by decide +kernel
theorem dX6_init_118 : decode cX6_init 118 = .ok (.aload_n 0, 1) := by decide +kernel
theorem dX6_init_119 : decode cX6_init 119 = .ok (.iconst 0, 1) := by decide +kernel
theorem dX6_init_120 : decode cX6_init 120 = .ok (.putfield 70, 3) := by decide +kernel
theorem dX6_init_123 : decode cX6_init 123 = .ok (.aload_n 0, 1) := by decide +kernel
theorem dX6_init_124 : decode cX6_init 124 = .ok (.bipush 32, 2) := by decide +kernel
theorem dX6_init_126 : decode cX6_init 126 = .ok (.putfield 74, 3) := by decide +kernel
theorem dX6_init_129 : decode cX6_init 129 = .ok (.aload_n 0, 1) := by decide +kernel
theorem dX6_init_130 : decode cX6_init 130 = .ok (.bipush 15, 2) := by decide +kernel
theorem dX6_init_132 : decode cX6_init 132 = .ok (.putfield 77, 3) := by decide +kernel
theorem dX6_init_135 : decode cX6_init 135 = .ok (.return_, 1) := by decide +kernel
theorem dX6_addShot_0 : decode cX6_addShot 0 = .ok (.iload_n 1, 1) := by decide +kernel
theorem dX6_addShot_1 : decode cX6_addShot 1 = .ok (.iconst 1, 1) := by decide +kernel
theorem dX6_addShot_2 : decode cX6_addShot 2 = .ok (.if_icmp .lt 10, 3) := by decide +kernel
theorem dX6_addShot_5 : decode cX6_addShot 5 = .ok (.iload_n 1, 1) := by decide +kernel
theorem dX6_addShot_6 : decode cX6_addShot 6 = .ok (.sipush 400, 3) := by decide +kernel
theorem dX6_addShot_9 : decode cX6_addShot 9 = .ok (.if_icmp .le 13, 3) := by decide +kernel
theorem dX6_addShot_12 : decode cX6_addShot 12 = .ok (.new 80, 3) := by decide +kernel
theorem dX6_addShot_15 : decode cX6_addShot 15 = .ok (.dup, 1) := by decide +kernel
theorem dX6_addShot_16 : decode cX6_addShot 16 = .ok (.ldc 82, 2) := by decide +kernel
theorem dX6_addShot_18 : decode cX6_addShot 18 = .ok (.invokespecial 84, 3) := by decide +kernel
theorem dX6_addShot_21 : decode cX6_addShot 21 = .ok (.athrow, 1) := by decide +kernel
theorem dX6_addShot_22 : decode cX6_addShot 22 = .ok (.aload_n 0, 1) := by decide +kernel
theorem dX6_addShot_23 : decode cX6_addShot 23 = .ok (.getfield 10, 3) := by decide +kernel
theorem dX6_addShot_26 : decode cX6_addShot 26 = .ok (.invokevirtual 87, 3) := by decide +kernel
theorem dX6_addShot_29 : decode cX6_addShot 29 = .ok (.bipush 12, 2) := by decide +kernel
theorem dX6_addShot_31 : decode cX6_addShot 31 = .ok (.if_icmp .lt 13, 3) := by decide +kernel
theorem dX6_addShot_34 : decode cX6_addShot 34 = .ok (.new 91, 3) := by decide +kernel
theorem dX6_addShot_37 : decode cX6_addShot 37 = .ok (.dup, 1) := by decide +kernel
theorem dX6_addShot_38 : decode cX6_addShot 38 = .ok (.ldc 93, 2) := by decide +kernel
theorem dX6_addShot_40 : decode cX6_addShot 40 = .ok (.invokespecial 95, 3) := by decide +kernel
theorem dX6_addShot_43 : decode cX6_addShot 43 = .ok (.athrow, 1) := by decide +kernel
theorem dX6_addShot_44 : decode cX6_addShot 44 = .ok (.aload_n 0, 1) := by decide +kernel
theorem dX6_addShot_45 : decode cX6_addShot 45 = .ok (.getfield 10, 3) := by decide +kernel
theorem dX6_addShot_48 : decode cX6_addShot 48 = .ok (.iload_n 1, 1) := by decide +kernel
theorem dX6_addShot_49 : decode cX6_addShot 49 = .ok (.invokevirtual 96, 3) := by decide +kernel
theorem dX6_addShot_52 : decode cX6_addShot 52 = .ok (.ireturn, 1) := by decide +kernel
theorem dX6_cut_0 : decode cX6_cut 0 = .ok (.aload_n 0, 1) := by decide +kernel
theorem dX6_cut_1 : decode cX6_cut 1 = .ok (.iload_n 1, 1) := by decide +kernel
theorem dX6_cut_2 : decode cX6_cut 2 = .ok (.invokevirtual 100, 3) := by decide +kernel
theorem dX6_cut_5 : decode cX6_cut 5 = .ok (.iload_n 2, 1) := by decide +kernel
theorem dX6_cut_6 : decode cX6_cut 6 = .ok (.aload_n 0, 1) := by decide +kernel
theorem dX6_cut_7 : decode cX6_cut 7 = .ok (.getfield 10, 3) := by decide +kernel
theorem dX6_cut_10 : decode cX6_cut 10 = .ok (.invokevirtual 103, 3) := by decide +kernel
theorem dX6_cut_13 : decode cX6_cut 13 = .ok (.iload_n 1, 1) := by decide +kernel
theorem dX6_cut_14 : decode cX6_cut 14 = .ok (.isub, 1) := by decide +kernel
theorem dX6_cut_15 : decode cX6_cut 15 = .ok (.if_icmp .le 13, 3) := by decide +kernel
theorem dX6_cut_18 : decode cX6_cut 18 = .ok (.new 106, 3) := by decide +kernel
theorem dX6_cut_21 : decode cX6_cut 21 = .ok (.dup, 1) := by decide +kernel
theorem dX6_cut_22 : decode cX6_cut 22 = .ok (.ldc 108, 2) := by decide +kernel
theorem dX6_cut_24 : decode cX6_cut 24 = .ok (.invokespecial 110, 3) := by decide +kernel
theorem dX6_cut_27 : decode cX6_cut 27 = .ok (.athrow, 1) := by decide +kernel
theorem dX6_cut_28 : decode cX6_cut 28 = .ok (.iload_n 2, 1) := by decide +kernel
theorem dX6_cut_29 : decode cX6_cut 29 = .ok (.invokestatic 111, 3) := by decide +kernel
theorem dX6_cut_32 : decode cX6_cut 32 = .ok (.aload_n 0, 1) := by decide +kernel
theorem dX6_cut_33 : decode cX6_cut 33 = .ok (.getfield 10, 3) := by decide +kernel
theorem dX6_cut_36 : decode cX6_cut 36 = .ok (.iload_n 1, 1) := by decide +kernel
theorem dX6_cut_37 : decode cX6_cut 37 = .ok (.iload_n 2, 1) := by decide +kernel
theorem dX6_cut_38 : decode cX6_cut 38 = .ok (.invokevirtual 114, 3) := by decide +kernel
theorem dX6_cut_41 : decode cX6_cut 41 = .ok (.aload_n 0, 1) := by decide +kernel
theorem dX6_cut_42 : decode cX6_cut 42 = .ok (.getfield 19, 3) := by decide +kernel
theorem dX6_cut_45 : decode cX6_cut 45 = .ok (.aload_n 0, 1) := by decide +kernel
theorem dX6_cut_46 : decode cX6_cut 46 = .ok (.getfield 10, 3) := by decide +kernel
theorem dX6_cut_49 : decode cX6_cut 49 = .ok (.invokevirtual 118, 3) := by decide +kernel
theorem dX6_cut_52 : decode cX6_cut 52 = .ok (.pop, 1) := by decide +kernel
theorem dX6_cut_53 : decode cX6_cut 53 = .ok (.aload_n 0, 1) := by decide +kernel
theorem dX6_cut_54 : decode cX6_cut 54 = .ok (.getfield 10, 3) := by decide +kernel
theorem dX6_cut_57 : decode cX6_cut 57 = .ok (.invokevirtual 103, 3) := by decide +kernel
theorem dX6_cut_60 : decode cX6_cut 60 = .ok (.ireturn, 1) := by decide +kernel
theorem dX6_move_0 : decode cX6_move 0 = .ok (.aload_n 0, 1) := by decide +kernel
theorem dX6_move_1 : decode cX6_move 1 = .ok (.iload_n 1, 1) := by decide +kernel
theorem dX6_move_2 : decode cX6_move 2 = .ok (.invokevirtual 100, 3) := by decide +kernel
theorem dX6_move_5 : decode cX6_move 5 = .ok (.iload_n 2, 1) := by decide +kernel
theorem dX6_move_6 : decode cX6_move 6 = .ok (.iconst 1, 1) := by decide +kernel
theorem dX6_move_7 : decode cX6_move 7 = .ok (.if_icmp .lt 43, 3) := by decide +kernel
theorem dX6_move_10 : decode cX6_move 10 = .ok (.iload_n 2, 1) := by decide +kernel
theorem dX6_move_11 : decode cX6_move 11 = .ok (.aload_n 0, 1) := by decide +kernel
theorem dX6_move_12 : decode cX6_move 12 = .ok (.getfield 10, 3) := by decide +kernel
theorem dX6_move_15 : decode cX6_move 15 = .ok (.invokevirtual 103, 3) := by decide +kernel
theorem dX6_move_18 : decode cX6_move 18 = .ok (.iload_n 1, 1) := by decide +kernel
theorem dX6_move_19 : decode cX6_move 19 = .ok (.isub, 1) := by decide +kernel
theorem dX6_move_20 : decode cX6_move 20 = .ok (.if_icmp .gt 20, 3) := by decide +kernel
theorem dX6_move_23 : decode cX6_move 23 = .ok (.iload_n 3, 1) := by decide +kernel
theorem dX6_move_24 : decode cX6_move 24 = .ok (.ifCond .lt 16, 3) := by decide +kernel
theorem dX6_move_27 : decode cX6_move 27 = .ok (.iload_n 3, 1) := by decide +kernel
theorem dX6_move_28 : decode cX6_move 28 = .ok (.aload_n 0, 1) := by decide +kernel
theorem dX6_move_29 : decode cX6_move 29 = .ok (.getfield 10, 3) := by decide +kernel
theorem dX6_move_32 : decode cX6_move 32 = .ok (.invokevirtual 103, 3) := by decide +kernel
theorem dX6_move_35 : decode cX6_move 35 = .ok (.iload_n 2, 1) := by decide +kernel
theorem dX6_move_36 : decode cX6_move 36 = .ok (.isub, 1) := by decide +kernel
theorem dX6_move_37 : decode cX6_move 37 = .ok (.if_icmp .le 13, 3) := by decide +kernel
theorem dX6_move_40 : decode cX6_move 40 = .ok (.new 106, 3) := by decide +kernel
theorem dX6_move_43 : decode cX6_move 43 = .ok (.dup, 1) := by decide +kernel
theorem dX6_move_44 : decode cX6_move 44 = .ok (.ldc 122, 2) := by decide +kernel
theorem dX6_move_46 : decode cX6_move 46 = .ok (.invokespecial 110, 3) := by decide +kernel
theorem dX6_move_49 : decode cX6_move 49 = .ok (.athrow, 1) := by decide +kernel
theorem dX6_move_50 : decode cX6_move 50 = .ok (.iload_n 2, 1) := by decide +kernel
theorem dX6_move_51 : decode cX6_move 51 = .ok (.invokestatic 111, 3) := by decide +kernel
theorem dX6_move_54 : decode cX6_move 54 = .ok (.aload_n 0, 1) := by decide +kernel
theorem dX6_move_55 : decode cX6_move 55 = .ok (.getfield 10, 3) := by decide +kernel
theorem dX6_move_58 : decode cX6_move 58 = .ok (.iload_n 1, 1) := by decide +kernel
theorem dX6_move_59 : decode cX6_move 59 = .ok (.iload_n 2, 1) := by decide +kernel
theorem dX6_move_60 : decode cX6_move 60 = .ok (.iload_n 3, 1) := by decide +kernel
theorem dX6_move_61 : decode cX6_move 61 = .ok (.invokevirtual 124, 3) := by decide +kernel
theorem dX6_move_64 : decode cX6_move 64 = .ok (.aload_n 0, 1) := by decide +kernel
theorem dX6_move_65 : decode cX6_move 65 = .ok (.getfield 19, 3) := by decide +kernel
theorem dX6_move_68 : decode cX6_move 68 = .ok (.aload_n 0, 1) := by decide +kernel
theorem dX6_move_69 : decode cX6_move 69 = .ok (.getfield 10, 3) := by decide +kernel
theorem dX6_move_72 : decode cX6_move 72 = .ok (.invokevirtual 118, 3) := by decide +kernel
theorem dX6_move_75 : decode cX6_move 75 = .ok (.ireturn, 1) := by decide +kernel
theorem dX6_putBack_0 : decode cX6_putBack 0 = .ok (.aload_n 0, 1) := by decide +kernel
theorem dX6_putBack_1 : decode cX6_putBack 1 = .ok (.iload_n 1, 1) := by decide +kernel
theorem dX6_putBack_2 : decode cX6_putBack 2 = .ok (.iload_n 2, 1) := by decide +kernel
theorem dX6_putBack_3 : decode cX6_putBack 3 = .ok (.invokevirtual 128, 3) := by decide +kernel
theorem dX6_putBack_6 : decode cX6_putBack 6 = .ok (.iload_n 3, 1) := by decide +kernel
theorem dX6_putBack_7 : decode cX6_putBack 7 = .ok (.iconst 1, 1) := by decide +kernel
theorem dX6_putBack_8 : decode cX6_putBack 8 = .ok (.if_icmp .lt 44, 3) := by decide +kernel
theorem dX6_putBack_11 : decode cX6_putBack 11 = .ok (.iload_n 3, 1) := by decide +kernel
theorem dX6_putBack_12 : decode cX6_putBack 12 = .ok (.aload_n 0, 1) := by decide +kernel
theorem dX6_putBack_13 : decode cX6_putBack 13 = .ok (.getfield 10, 3) := by decide +kernel
theorem dX6_putBack_16 : decode cX6_putBack 16 = .ok (.iload_n 1, 1) := by decide +kernel
theorem dX6_putBack_17 : decode cX6_putBack 17 = .ok (.invokevirtual 131, 3) := by decide +kernel
theorem dX6_putBack_20 : decode cX6_putBack 20 = .ok (.iload_n 2, 1) := by decide +kernel
theorem dX6_putBack_21 : decode cX6_putBack 21 = .ok (.isub, 1) := by decide +kernel
theorem dX6_putBack_22 : decode cX6_putBack 22 = .ok (.if_icmp .gt 20, 3) := by decide +kernel
theorem dX6_putBack_25 : decode cX6_putBack 25 = .ok (.iload 4, 2) := by decide +kernel
theorem dX6_putBack_27 : decode cX6_putBack 27 = .ok (.ifCond .lt 15, 3) := by decide +kernel
theorem dX6_putBack_30 : decode cX6_putBack 30 = .ok (.iload 4, 2) := by decide +kernel
theorem dX6_putBack_32 : decode cX6_putBack 32 = .ok (.aload_n 0, 1) := by decide +kernel
theorem dX6_putBack_33 : decode cX6_putBack 33 = .ok (.getfield 10, 3) := by decide +kernel
theorem dX6_putBack_36 : decode cX6_putBack 36 = .ok (.invokevirtual 103, 3) := by decide +kernel
theorem dX6_putBack_39 : decode cX6_putBack 39 = .ok (.if_icmp .le 13, 3) := by decide +kernel
theorem dX6_putBack_42 : decode cX6_putBack 42 = .ok (.new 106, 3) := by decide +kernel
theorem dX6_putBack_45 : decode cX6_putBack 45 = .ok (.dup, 1) := by decide +kernel
theorem dX6_putBack_46 : decode cX6_putBack 46 = .ok (.ldc 122, 2) := by decide +kernel
theorem dX6_putBack_48 : decode cX6_putBack 48 = .ok (.invokespecial 110, 3) := by decide +kernel
theorem dX6_putBack_51 : decode cX6_putBack 51 = .ok (.athrow, 1) := by decide +kernel
theorem dX6_putBack_52 : decode cX6_putBack 52 = .ok (.iload_n 3, 1) := by decide +kernel
theorem dX6_putBack_53 : decode cX6_putBack 53 = .ok (.invokestatic 111, 3) := by decide +kernel
theorem dX6_putBack_56 : decode cX6_putBack 56 = .ok (.aload_n 0, 1) := by decide +kernel
theorem dX6_putBack_57 : decode cX6_putBack 57 = .ok (.getfield 10, 3) := by decide +kernel
theorem dX6_putBack_60 : decode cX6_putBack 60 = .ok (.iload_n 1, 1) := by decide +kernel
theorem dX6_putBack_61 : decode cX6_putBack 61 = .ok (.iload_n 2, 1) := by decide +kernel
theorem dX6_putBack_62 : decode cX6_putBack 62 = .ok (.iload_n 3, 1) := by decide +kernel
theorem dX6_putBack_63 : decode cX6_putBack 63 = .ok (.invokevirtual 134, 3) := by decide +kernel
theorem dX6_putBack_66 : decode cX6_putBack 66 = .ok (.ifCond .eq 13, 3) := by decide +kernel
theorem dX6_putBack_69 : decode cX6_putBack 69 = .ok (.new 91, 3) := by decide +kernel
theorem dX6_putBack_72 : decode cX6_putBack 72 = .ok (.dup, 1) := by decide +kernel
theorem dX6_putBack_73 : decode cX6_putBack 73 = .ok (.ldc 138, 2) := by decide +kernel
theorem dX6_putBack_75 : decode cX6_putBack 75 = .ok (.invokespecial 95, 3) := by decide +kernel
theorem dX6_putBack_78 : decode cX6_putBack 78 = .ok (.athrow, 1) := by decide +kernel
theorem dX6_putBack_79 : decode cX6_putBack 79 = .ok (.aload_n 0, 1) := by decide +kernel
theorem dX6_putBack_80 : decode cX6_putBack 80 = .ok (.getfield 10, 3) := by decide +kernel
theorem dX6_putBack_83 : decode cX6_putBack 83 = .ok (.iload_n 1, 1) := by decide +kernel
theorem dX6_putBack_84 : decode cX6_putBack 84 = .ok (.iload_n 2, 1) := by decide +kernel
theorem dX6_putBack_85 : decode cX6_putBack 85 = .ok (.iload_n 3, 1) := by decide +kernel
theorem dX6_putBack_86 : decode cX6_putBack 86 = .ok (.iload 4, 2) := by decide +kernel
theorem dX6_putBack_88 : decode cX6_putBack 88 = .ok (.invokevirtual 140, 3) := by decide +kernel
theorem dX6_putBack_91 : decode cX6_putBack 91 = .ok (.aload_n 0, 1) := by decide +kernel
theorem dX6_putBack_92 : decode cX6_putBack 92 = .ok (.getfield 19, 3) := by decide +kernel
theorem dX6_putBack_95 : decode cX6_putBack 95 = .ok (.aload_n 0, 1) := by decide +kernel
theorem dX6_putBack_96 : decode cX6_putBack 96 = .ok (.getfield 10, 3) := by decide +kernel
theorem dX6_putBack_99 : decode cX6_putBack 99 = .ok (.invokevirtual 118, 3) := by decide +kernel
theorem dX6_putBack_102 : decode cX6_putBack 102 = .ok (.pop, 1) := by decide +kernel
theorem dX6_putBack_103 : decode cX6_putBack 103 = .ok (.aload_n 0, 1) := by decide +kernel
theorem dX6_putBack_104 : decode cX6_putBack 104 = .ok (.getfield 10, 3) := by decide +kernel
theorem dX6_putBack_107 : decode cX6_putBack 107 = .ok (.invokevirtual 103, 3) := by decide +kernel
theorem dX6_putBack_110 : decode cX6_putBack 110 = .ok (.ireturn, 1) := by decide +kernel
theorem dX6_frames_0 : decode cX6_frames 0 = .ok (.aload_n 0, 1) := by decide +kernel
theorem dX6_frames_1 : decode cX6_frames 1 = .ok (.getfield 10, 3) := by decide +kernel
theorem dX6_frames_4 : decode cX6_frames 4 = .ok (.invokevirtual 103, 3) := by decide +kernel
theorem dX6_frames_7 : decode cX6_frames 7 = .ok (.ireturn, 1) := by decide +kernel
theorem dX6_frameAt_0 : decode cX6_frameAt 0 = .ok (.aload_n 0, 1) := by decide +kernel
theorem dX6_frameAt_1 : decode cX6_frameAt 1 = .ok (.iload_n 1, 1) := by decide +kernel
theorem dX6_frameAt_2 : decode cX6_frameAt 2 = .ok (.invokevirtual 100, 3) := by decide +kernel
theorem dX6_frameAt_5 : decode cX6_frameAt 5 = .ok (.aload_n 0, 1) := by decide +kernel
theorem dX6_frameAt_6 : decode cX6_frameAt 6 = .ok (.getfield 10, 3) := by decide +kernel
theorem dX6_frameAt_9 : decode cX6_frameAt 9 = .ok (.iload_n 1, 1) := by decide +kernel
theorem dX6_frameAt_10 : decode cX6_frameAt 10 = .ok (.invokevirtual 144, 3) := by decide +kernel
theorem dX6_frameAt_13 : decode cX6_frameAt 13 = .ok (.istore_n 2, 1) := by decide +kernel
theorem dX6_frameAt_14 : decode cX6_frameAt 14 = .ok (.sipush 1000, 3) := by decide +kernel
theorem dX6_frameAt_17 : decode cX6_frameAt 17 = .ok (.iload_n 2, 1) := by decide +kernel
theorem dX6_frameAt_18 : decode cX6_frameAt 18 = .ok (.sipush 401, 3) := by decide +kernel
theorem dX6_frameAt_21 : decode cX6_frameAt 21 = .ok (.idiv, 1) := by decide +kernel
theorem dX6_frameAt_22 : decode cX6_frameAt 22 = .ok (.imul, 1) := by decide +kernel
theorem dX6_frameAt_23 : decode cX6_frameAt 23 = .ok (.iload_n 2, 1) := by decide +kernel
theorem dX6_frameAt_24 : decode cX6_frameAt 24 = .ok (.sipush 401, 3) := by decide +kernel
theorem dX6_frameAt_27 : decode cX6_frameAt 27 = .ok (.irem, 1) := by decide +kernel
theorem dX6_frameAt_28 : decode cX6_frameAt 28 = .ok (.iadd, 1) := by decide +kernel
theorem dX6_frameAt_29 : decode cX6_frameAt 29 = .ok (.ireturn, 1) := by decide +kernel
theorem dX6_placeOf_0 : decode cX6_placeOf 0 = .ok (.aload_n 0, 1) := by decide +kernel
theorem dX6_placeOf_1 : decode cX6_placeOf 1 = .ok (.iload_n 1, 1) := by decide +kernel
theorem dX6_placeOf_2 : decode cX6_placeOf 2 = .ok (.iload_n 2, 1) := by decide +kernel
theorem dX6_placeOf_3 : decode cX6_placeOf 3 = .ok (.invokevirtual 128, 3) := by decide +kernel
theorem dX6_placeOf_6 : decode cX6_placeOf 6 = .ok (.aload_n 0, 1) := by decide +kernel
theorem dX6_placeOf_7 : decode cX6_placeOf 7 = .ok (.getfield 10, 3) := by decide +kernel
theorem dX6_placeOf_10 : decode cX6_placeOf 10 = .ok (.iload_n 1, 1) := by decide +kernel
theorem dX6_placeOf_11 : decode cX6_placeOf 11 = .ok (.iload_n 2, 1) := by decide +kernel
theorem dX6_placeOf_12 : decode cX6_placeOf 12 = .ok (.invokevirtual 147, 3) := by decide +kernel
theorem dX6_placeOf_15 : decode cX6_placeOf 15 = .ok (.ireturn, 1) := by decide +kernel
theorem dX6_isBoundary_0 : decode cX6_isBoundary 0 = .ok (.aload_n 0, 1) := by decide +kernel
theorem dX6_isBoundary_1 : decode cX6_isBoundary 1 = .ok (.iload_n 1, 1) := by decide +kernel
theorem dX6_isBoundary_2 : decode cX6_isBoundary 2 = .ok (.invokevirtual 100, 3) := by decide +kernel
theorem dX6_isBoundary_5 : decode cX6_isBoundary 5 = .ok (.aload_n 0, 1) := by decide +kernel
theorem dX6_isBoundary_6 : decode cX6_isBoundary 6 = .ok (.getfield 10, 3) := by decide +kernel
theorem dX6_isBoundary_9 : decode cX6_isBoundary 9 = .ok (.iload_n 1, 1) := by decide +kernel
theorem dX6_isBoundary_10 : decode cX6_isBoundary 10 = .ok (.invokevirtual 151, 3) := by decide +kernel
theorem dX6_isBoundary_13 : decode cX6_isBoundary 13 = .ok (.ireturn, 1) := by decide +kernel
theorem dX6_add_0 : decode cX6_add 0 = .ok (.aload_n 0, 1) := by decide +kernel
theorem dX6_add_1 : decode cX6_add 1 = .ok (.iload_n 1, 1) := by decide +kernel
theorem dX6_add_2 : decode cX6_add 2 = .ok (.iload_n 2, 1) := by decide +kernel
theorem dX6_add_3 : decode cX6_add 3 = .ok (.invokevirtual 155, 3) := by decide +kernel
theorem dX6_add_6 : decode cX6_add 6 = .ok (.aload_n 0, 1) := by decide +kernel
theorem dX6_add_7 : decode cX6_add 7 = .ok (.getfield 70, 3) := by decide +kernel
theorem dX6_add_10 : decode cX6_add 10 = .ok (.bipush 16, 2) := by decide +kernel
theorem dX6_add_12 : decode cX6_add 12 = .ok (.if_icmp .lt 13, 3) := by decide +kernel
theorem dX6_add_15 : decode cX6_add 15 = .ok (.new 91, 3) := by decide +kernel
theorem dX6_add_18 : decode cX6_add 18 = .ok (.dup, 1) := by decide +kernel
theorem dX6_add_19 : decode cX6_add 19 = .ok (.ldc 158, 2) := by decide +kernel
theorem dX6_add_21 : decode cX6_add 21 = .ok (.invokespecial 95, 3) := by decide +kernel
theorem dX6_add_24 : decode cX6_add 24 = .ok (.athrow, 1) := by decide +kernel
theorem dX6_add_25 : decode cX6_add 25 = .ok (.aload_n 0, 1) := by decide +kernel
theorem dX6_add_26 : decode cX6_add 26 = .ok (.getfield 70, 3) := by decide +kernel
theorem dX6_add_29 : decode cX6_add 29 = .ok (.istore_n 3, 1) := by decide +kernel
theorem dX6_add_30 : decode cX6_add 30 = .ok (.aload_n 0, 1) := by decide +kernel
theorem dX6_add_31 : decode cX6_add 31 = .ok (.dup, 1) := by decide +kernel
theorem dX6_add_32 : decode cX6_add 32 = .ok (.getfield 70, 3) := by decide +kernel
theorem dX6_add_35 : decode cX6_add 35 = .ok (.iconst 1, 1) := by decide +kernel
theorem dX6_add_36 : decode cX6_add 36 = .ok (.iadd, 1) := by decide +kernel
theorem dX6_add_37 : decode cX6_add 37 = .ok (.putfield 70, 3) := by decide +kernel
theorem dX6_add_40 : decode cX6_add 40 = .ok (.aload_n 0, 1) := by decide +kernel
theorem dX6_add_41 : decode cX6_add 41 = .ok (.getfield 10, 3) := by decide +kernel
theorem dX6_add_44 : decode cX6_add 44 = .ok (.iload_n 3, 1) := by decide +kernel
theorem dX6_add_45 : decode cX6_add 45 = .ok (.iload_n 1, 1) := by decide +kernel
theorem dX6_add_46 : decode cX6_add 46 = .ok (.iload_n 2, 1) := by decide +kernel
theorem dX6_add_47 : decode cX6_add 47 = .ok (.invokevirtual 160, 3) := by decide +kernel
theorem dX6_add_50 : decode cX6_add 50 = .ok (.aload_n 0, 1) := by decide +kernel
theorem dX6_add_51 : decode cX6_add 51 = .ok (.getfield 19, 3) := by decide +kernel
theorem dX6_add_54 : decode cX6_add 54 = .ok (.iload_n 3, 1) := by decide +kernel
theorem dX6_add_55 : decode cX6_add 55 = .ok (.iload_n 1, 1) := by decide +kernel
theorem dX6_add_56 : decode cX6_add 56 = .ok (.iload_n 2, 1) := by decide +kernel
theorem dX6_add_57 : decode cX6_add 57 = .ok (.invokevirtual 163, 3) := by decide +kernel
theorem dX6_add_60 : decode cX6_add 60 = .ok (.iload_n 3, 1) := by decide +kernel
theorem dX6_add_61 : decode cX6_add 61 = .ok (.ireturn, 1) := by decide +kernel
theorem dX6_lay_0 : decode cX6_lay 0 = .ok (.aload_n 0, 1) := by decide +kernel
theorem dX6_lay_1 : decode cX6_lay 1 = .ok (.iload_n 1, 1) := by decide +kernel
theorem dX6_lay_2 : decode cX6_lay 2 = .ok (.invokevirtual 166, 3) := by decide +kernel
theorem dX6_lay_5 : decode cX6_lay 5 = .ok (.aload_n 0, 1) := by decide +kernel
theorem dX6_lay_6 : decode cX6_lay 6 = .ok (.iload_n 2, 1) := by decide +kernel
theorem dX6_lay_7 : decode cX6_lay 7 = .ok (.iload_n 3, 1) := by decide +kernel
theorem dX6_lay_8 : decode cX6_lay 8 = .ok (.invokevirtual 155, 3) := by decide +kernel
theorem dX6_lay_11 : decode cX6_lay 11 = .ok (.aload_n 0, 1) := by decide +kernel
theorem dX6_lay_12 : decode cX6_lay 12 = .ok (.getfield 19, 3) := by decide +kernel
theorem dX6_lay_15 : decode cX6_lay 15 = .ok (.iload_n 1, 1) := by decide +kernel
theorem dX6_lay_16 : decode cX6_lay 16 = .ok (.invokevirtual 169, 3) := by decide +kernel
theorem dX6_lay_19 : decode cX6_lay 19 = .ok (.istore 4, 2) := by decide +kernel
theorem dX6_lay_21 : decode cX6_lay 21 = .ok (.aload_n 0, 1) := by decide +kernel
theorem dX6_lay_22 : decode cX6_lay 22 = .ok (.getfield 10, 3) := by decide +kernel
theorem dX6_lay_25 : decode cX6_lay 25 = .ok (.iload_n 1, 1) := by decide +kernel
theorem dX6_lay_26 : decode cX6_lay 26 = .ok (.invokevirtual 172, 3) := by decide +kernel
theorem dX6_lay_29 : decode cX6_lay 29 = .ok (.aload_n 0, 1) := by decide +kernel
theorem dX6_lay_30 : decode cX6_lay 30 = .ok (.getfield 10, 3) := by decide +kernel
theorem dX6_lay_33 : decode cX6_lay 33 = .ok (.iload_n 1, 1) := by decide +kernel
theorem dX6_lay_34 : decode cX6_lay 34 = .ok (.iload_n 2, 1) := by decide +kernel
theorem dX6_lay_35 : decode cX6_lay 35 = .ok (.iload_n 3, 1) := by decide +kernel
theorem dX6_lay_36 : decode cX6_lay 36 = .ok (.invokevirtual 160, 3) := by decide +kernel
theorem dX6_lay_39 : decode cX6_lay 39 = .ok (.aload_n 0, 1) := by decide +kernel
theorem dX6_lay_40 : decode cX6_lay 40 = .ok (.getfield 19, 3) := by decide +kernel
theorem dX6_lay_43 : decode cX6_lay 43 = .ok (.iload_n 1, 1) := by decide +kernel
theorem dX6_lay_44 : decode cX6_lay 44 = .ok (.iload_n 2, 1) := by decide +kernel
theorem dX6_lay_45 : decode cX6_lay 45 = .ok (.iload_n 3, 1) := by decide +kernel
theorem dX6_lay_46 : decode cX6_lay 46 = .ok (.invokevirtual 163, 3) := by decide +kernel
theorem dX6_lay_49 : decode cX6_lay 49 = .ok (.aload_n 0, 1) := by decide +kernel
theorem dX6_lay_50 : decode cX6_lay 50 = .ok (.iload_n 1, 1) := by decide +kernel
theorem dX6_lay_51 : decode cX6_lay 51 = .ok (.invokevirtual 175, 3) := by decide +kernel
theorem dX6_lay_54 : decode cX6_lay 54 = .ok (.iload 4, 2) := by decide +kernel
theorem dX6_lay_56 : decode cX6_lay 56 = .ok (.ireturn, 1) := by decide +kernel
theorem dX6_setLook_0 : decode cX6_setLook 0 = .ok (.aload_n 0, 1) := by decide +kernel
theorem dX6_setLook_1 : decode cX6_setLook 1 = .ok (.iload_n 1, 1) := by decide +kernel
theorem dX6_setLook_2 : decode cX6_setLook 2 = .ok (.invokevirtual 166, 3) := by decide +kernel
theorem dX6_setLook_5 : decode cX6_setLook 5 = .ok (.iload_n 2, 1) := by decide +kernel
theorem dX6_setLook_6 : decode cX6_setLook 6 = .ok (.ifCond .lt 8, 3) := by decide +kernel
theorem dX6_setLook_9 : decode cX6_setLook 9 = .ok (.iload_n 2, 1) := by decide +kernel
theorem dX6_setLook_10 : decode cX6_setLook 10 = .ok (.iconst 3, 1) := by decide +kernel
theorem dX6_setLook_11 : decode cX6_setLook 11 = .ok (.if_icmp .le 13, 3) := by decide +kernel
theorem dX6_setLook_14 : decode cX6_setLook 14 = .ok (.new 80, 3) := by decide +kernel
theorem dX6_setLook_17 : decode cX6_setLook 17 = .ok (.dup, 1) := by decide +kernel
theorem dX6_setLook_18 : decode cX6_setLook 18 = .ok (.ldc 178, 2) := by decide +kernel
theorem dX6_setLook_20 : decode cX6_setLook 20 = .ok (.invokespecial 84, 3) := by decide +kernel
theorem dX6_setLook_23 : decode cX6_setLook 23 = .ok (.athrow, 1) := by decide +kernel
theorem dX6_setLook_24 : decode cX6_setLook 24 = .ok (.aload_n 0, 1) := by decide +kernel
theorem dX6_setLook_25 : decode cX6_setLook 25 = .ok (.getfield 56, 3) := by decide +kernel
theorem dX6_setLook_28 : decode cX6_setLook 28 = .ok (.iload_n 1, 1) := by decide +kernel
theorem dX6_setLook_29 : decode cX6_setLook 29 = .ok (.invokestatic 180, 3) := by decide +kernel
theorem dX6_setLook_32 : decode cX6_setLook 32 = .ok (.istore_n 3, 1) := by decide +kernel
theorem dX6_setLook_33 : decode cX6_setLook 33 = .ok (.iload_n 2, 1) := by decide +kernel
theorem dX6_setLook_34 : decode cX6_setLook 34 = .ok (.iload_n 3, 1) := by decide +kernel
theorem dX6_setLook_35 : decode cX6_setLook 35 = .ok (.if_icmp .eq 17, 3) := by decide +kernel
theorem dX6_setLook_38 : decode cX6_setLook 38 = .ok (.aload_n 0, 1) := by decide +kernel
theorem dX6_setLook_39 : decode cX6_setLook 39 = .ok (.getfield 56, 3) := by decide +kernel
theorem dX6_setLook_42 : decode cX6_setLook 42 = .ok (.iload_n 1, 1) := by decide +kernel
theorem dX6_setLook_43 : decode cX6_setLook 43 = .ok (.iload_n 2, 1) := by decide +kernel
theorem dX6_setLook_44 : decode cX6_setLook 44 = .ok (.invokestatic 184, 3) := by decide +kernel
theorem dX6_setLook_47 : decode cX6_setLook 47 = .ok (.aload_n 0, 1) := by decide +kernel
theorem dX6_setLook_48 : decode cX6_setLook 48 = .ok (.iload_n 1, 1) := by decide +kernel
theorem dX6_setLook_49 : decode cX6_setLook 49 = .ok (.invokevirtual 175, 3) := by decide +kernel
theorem dX6_setLook_52 : decode cX6_setLook 52 = .ok (.iload_n 3, 1) := by decide +kernel
theorem dX6_setLook_53 : decode cX6_setLook 53 = .ok (.ireturn, 1) := by decide +kernel
theorem dX6_captions_0 : decode cX6_captions 0 = .ok (.aload_n 0, 1) := by decide +kernel
theorem dX6_captions_1 : decode cX6_captions 1 = .ok (.getfield 70, 3) := by decide +kernel
theorem dX6_captions_4 : decode cX6_captions 4 = .ok (.ireturn, 1) := by decide +kernel
theorem dX6_startOf_0 : decode cX6_startOf 0 = .ok (.aload_n 0, 1) := by decide +kernel
theorem dX6_startOf_1 : decode cX6_startOf 1 = .ok (.iload_n 1, 1) := by decide +kernel
theorem dX6_startOf_2 : decode cX6_startOf 2 = .ok (.invokevirtual 166, 3) := by decide +kernel
theorem dX6_startOf_5 : decode cX6_startOf 5 = .ok (.aload_n 0, 1) := by decide +kernel
theorem dX6_startOf_6 : decode cX6_startOf 6 = .ok (.getfield 19, 3) := by decide +kernel
theorem dX6_startOf_9 : decode cX6_startOf 9 = .ok (.iload_n 1, 1) := by decide +kernel
theorem dX6_startOf_10 : decode cX6_startOf 10 = .ok (.invokevirtual 169, 3) := by decide +kernel
theorem dX6_startOf_13 : decode cX6_startOf 13 = .ok (.ireturn, 1) := by decide +kernel
theorem dX6_lengthOf_0 : decode cX6_lengthOf 0 = .ok (.aload_n 0, 1) := by decide +kernel
theorem dX6_lengthOf_1 : decode cX6_lengthOf 1 = .ok (.iload_n 1, 1) := by decide +kernel
theorem dX6_lengthOf_2 : decode cX6_lengthOf 2 = .ok (.invokevirtual 166, 3) := by decide +kernel
theorem dX6_lengthOf_5 : decode cX6_lengthOf 5 = .ok (.aload_n 0, 1) := by decide +kernel
theorem dX6_lengthOf_6 : decode cX6_lengthOf 6 = .ok (.getfield 19, 3) := by decide +kernel
theorem dX6_lengthOf_9 : decode cX6_lengthOf 9 = .ok (.iload_n 1, 1) := by decide +kernel
theorem dX6_lengthOf_10 : decode cX6_lengthOf 10 = .ok (.invokevirtual 188, 3) := by decide +kernel
theorem dX6_lengthOf_13 : decode cX6_lengthOf 13 = .ok (.ireturn, 1) := by decide +kernel
theorem dX6_startByFrames_0 : decode cX6_startByFrames 0 = .ok (.aload_n 0, 1) := by decide +kernel
theorem dX6_startByFrames_1 : decode cX6_startByFrames 1 = .ok (.iload_n 1, 1) := by decide +kernel
theorem dX6_startByFrames_2 : decode cX6_startByFrames 2 = .ok (.invokevirtual 166, 3) := by decide +kernel
theorem dX6_startByFrames_5 : decode cX6_startByFrames 5 = .ok (.iconst (-1), 1) := by decide +kernel
theorem dX6_startByFrames_6 : decode cX6_startByFrames 6 = .ok (.istore_n 2, 1) := by decide +kernel
theorem dX6_startByFrames_7 : decode cX6_startByFrames 7 = .ok (.iconst 0, 1) := by decide +kernel
theorem dX6_startByFrames_8 : decode cX6_startByFrames 8 = .ok (.istore_n 3, 1) := by decide +kernel
theorem dX6_startByFrames_9 : decode cX6_startByFrames 9 = .ok (.iconst 0, 1) := by decide +kernel
theorem dX6_startByFrames_10 : decode cX6_startByFrames 10 = .ok (.istore 4, 2) := by decide +kernel
theorem dX6_startByFrames_12 : decode cX6_startByFrames 12 = .ok (.iconst 0, 1) := by decide +kernel
theorem dX6_startByFrames_13 : decode cX6_startByFrames 13 = .ok (.istore 5, 2) := by decide +kernel
theorem dX6_startByFrames_15 : decode cX6_startByFrames 15 = .ok (.iload 5, 2) := by decide +kernel
theorem dX6_startByFrames_17 : decode cX6_startByFrames 17 = .ok (.aload_n 0, 1) := by decide +kernel
theorem dX6_startByFrames_18 : decode cX6_startByFrames 18 = .ok (.getfield 10, 3) := by decide +kernel
theorem dX6_startByFrames_21 : decode cX6_startByFrames 21 = .ok (.invokevirtual 103, 3) := by decide +kernel
theorem dX6_startByFrames_24 : decode cX6_startByFrames 24 = .ok (.if_icmp .ge 52, 3) := by decide +kernel
theorem dX6_startByFrames_27 : decode cX6_startByFrames 27 = .ok (.aload_n 0, 1) := by decide +kernel
theorem dX6_startByFrames_28 : decode cX6_startByFrames 28 = .ok (.getfield 10, 3) := by decide +kernel
theorem dX6_startByFrames_31 : decode cX6_startByFrames 31 = .ok (.iload 5, 2) := by decide +kernel
theorem dX6_startByFrames_33 : decode cX6_startByFrames 33 = .ok (.invokevirtual 191, 3) := by decide +kernel
theorem dX6_startByFrames_36 : decode cX6_startByFrames 36 = .ok (.iload_n 1, 1) := by decide +kernel
theorem dX6_startByFrames_37 : decode cX6_startByFrames 37 = .ok (.invokestatic 194, 3) := by decide +kernel
theorem dX6_startByFrames_40 : decode cX6_startByFrames 40 = .ok (.ifCond .eq 10, 3) := by decide +kernel
theorem dX6_startByFrames_43 : decode cX6_startByFrames 43 = .ok (.iload 4, 2) := by decide +kernel
theorem dX6_startByFrames_45 : decode cX6_startByFrames 45 = .ok (.iconst 1, 1) := by decide +kernel
theorem dX6_startByFrames_46 : decode cX6_startByFrames 46 = .ok (.iadd, 1) := by decide +kernel
theorem dX6_startByFrames_47 : decode cX6_startByFrames 47 = .ok (.goto 4, 3) := by decide +kernel
theorem dX6_startByFrames_50 : decode cX6_startByFrames 50 = .ok (.iconst 0, 1) := by decide +kernel
theorem dX6_startByFrames_51 : decode cX6_startByFrames 51 = .ok (.istore 4, 2) := by decide +kernel
theorem dX6_startByFrames_53 : decode cX6_startByFrames 53 = .ok (.iload 4, 2) := by decide +kernel
theorem dX6_startByFrames_55 : decode cX6_startByFrames 55 = .ok (.iload_n 3, 1) := by decide +kernel
theorem dX6_startByFrames_56 : decode cX6_startByFrames 56 = .ok (.if_icmp .le 14, 3) := by decide +kernel
theorem dX6_startByFrames_59 : decode cX6_startByFrames 59 = .ok (.iload 4, 2) := by decide +kernel
theorem dX6_startByFrames_61 : decode cX6_startByFrames 61 = .ok (.istore_n 3, 1) := by decide +kernel
theorem dX6_startByFrames_62 : decode cX6_startByFrames 62 = .ok (.iload 5, 2) := by decide +kernel
theorem dX6_startByFrames_64 : decode cX6_startByFrames 64 = .ok (.iconst 1, 1) := by decide +kernel
theorem dX6_startByFrames_65 : decode cX6_startByFrames 65 = .ok (.iadd, 1) := by decide +kernel
theorem dX6_startByFrames_66 : decode cX6_startByFrames 66 = .ok (.iload 4, 2) := by decide +kernel
theorem dX6_startByFrames_68 : decode cX6_startByFrames 68 = .ok (.isub, 1) := by decide +kernel
theorem dX6_startByFrames_69 : decode cX6_startByFrames 69 = .ok (.istore_n 2, 1) := by decide +kernel
theorem dX6_startByFrames_70 : decode cX6_startByFrames 70 = .ok (.iinc 5 1, 3) := by decide +kernel
theorem dX6_startByFrames_73 : decode cX6_startByFrames 73 = .ok (.goto (-58), 3) := by decide +kernel
theorem dX6_startByFrames_76 : decode cX6_startByFrames 76 = .ok (.iload_n 2, 1) := by decide +kernel
theorem dX6_startByFrames_77 : decode cX6_startByFrames 77 = .ok (.ireturn, 1) := by decide +kernel
theorem dX6_inOrder_0 : decode cX6_inOrder 0 = .ok (.iload_n 1, 1) := by decide +kernel
theorem dX6_inOrder_1 : decode cX6_inOrder 1 = .ok (.ifCond .ge 13, 3) := by decide +kernel
theorem dX6_inOrder_4 : decode cX6_inOrder 4 = .ok (.new 80, 3) := by decide +kernel
theorem dX6_inOrder_7 : decode cX6_inOrder 7 = .ok (.dup, 1) := by decide +kernel
theorem dX6_inOrder_8 : decode cX6_inOrder 8 = .ok (.ldc 198, 2) := by decide +kernel
theorem dX6_inOrder_10 : decode cX6_inOrder 10 = .ok (.invokespecial 84, 3) := by decide +kernel
theorem dX6_inOrder_13 : decode cX6_inOrder 13 = .ok (.athrow, 1) := by decide +kernel
theorem dX6_inOrder_14 : decode cX6_inOrder 14 = .ok (.iload_n 1, 1) := by decide +kernel
theorem dX6_inOrder_15 : decode cX6_inOrder 15 = .ok (.aload_n 0, 1) := by decide +kernel
theorem dX6_inOrder_16 : decode cX6_inOrder 16 = .ok (.invokevirtual 200, 3) := by decide +kernel
theorem dX6_inOrder_19 : decode cX6_inOrder 19 = .ok (.if_icmp .ge 14, 3) := by decide +kernel
theorem dX6_inOrder_22 : decode cX6_inOrder 22 = .ok (.aload_n 0, 1) := by decide +kernel
theorem dX6_inOrder_23 : decode cX6_inOrder 23 = .ok (.getfield 67, 3) := by decide +kernel
theorem dX6_inOrder_26 : decode cX6_inOrder 26 = .ok (.iload_n 1, 1) := by decide +kernel
theorem dX6_inOrder_27 : decode cX6_inOrder 27 = .ok (.invokestatic 180, 3) := by decide +kernel
theorem dX6_inOrder_30 : decode cX6_inOrder 30 = .ok (.goto 4, 3) := by decide +kernel
theorem dX6_inOrder_33 : decode cX6_inOrder 33 = .ok (.iconst (-1), 1) := by decide +kernel
theorem dX6_inOrder_34 : decode cX6_inOrder 34 = .ok (.ireturn, 1) := by decide +kernel
theorem dX6_type_0 : decode cX6_type 0 = .ok (.aload_n 0, 1) := by decide +kernel
theorem dX6_type_1 : decode cX6_type 1 = .ok (.iload_n 1, 1) := by decide +kernel
theorem dX6_type_2 : decode cX6_type 2 = .ok (.iload_n 2, 1) := by decide +kernel
theorem dX6_type_3 : decode cX6_type 3 = .ok (.invokevirtual 203, 3) := by decide +kernel
theorem dX6_type_6 : decode cX6_type 6 = .ok (.istore 4, 2) := by decide +kernel
theorem dX6_type_8 : decode cX6_type 8 = .ok (.iload_n 3, 1) := by decide +kernel
theorem dX6_type_9 : decode cX6_type 9 = .ok (.invokestatic 206, 3) := by decide +kernel
theorem dX6_type_12 : decode cX6_type 12 = .ok (.ifCond .ne 13, 3) := by decide +kernel
theorem dX6_type_15 : decode cX6_type 15 = .ok (.new 80, 3) := by decide +kernel
theorem dX6_type_18 : decode cX6_type 18 = .ok (.dup, 1) := by decide +kernel
theorem dX6_type_19 : decode cX6_type 19 = .ok (.ldc 209, 2) := by decide +kernel
theorem dX6_type_21 : decode cX6_type 21 = .ok (.invokespecial 84, 3) := by decide +kernel
theorem dX6_type_24 : decode cX6_type 24 = .ok (.athrow, 1) := by decide +kernel
theorem dX6_type_25 : decode cX6_type 25 = .ok (.aload_n 0, 1) := by decide +kernel
theorem dX6_type_26 : decode cX6_type 26 = .ok (.getfield 26, 3) := by decide +kernel
theorem dX6_type_29 : decode cX6_type 29 = .ok (.iload 4, 2) := by decide +kernel
theorem dX6_type_31 : decode cX6_type 31 = .ok (.invokevirtual 211, 3) := by decide +kernel
theorem dX6_type_34 : decode cX6_type 34 = .ok (.bipush 60, 2) := by decide +kernel
theorem dX6_type_36 : decode cX6_type 36 = .ok (.if_icmp .lt 13, 3) := by decide +kernel
theorem dX6_type_39 : decode cX6_type 39 = .ok (.new 91, 3) := by decide +kernel
theorem dX6_type_42 : decode cX6_type 42 = .ok (.dup, 1) := by decide +kernel
theorem dX6_type_43 : decode cX6_type 43 = .ok (.ldc 213, 2) := by decide +kernel
theorem dX6_type_45 : decode cX6_type 45 = .ok (.invokespecial 95, 3) := by decide +kernel
theorem dX6_type_48 : decode cX6_type 48 = .ok (.athrow, 1) := by decide +kernel
theorem dX6_type_49 : decode cX6_type 49 = .ok (.aload_n 0, 1) := by decide +kernel
theorem dX6_type_50 : decode cX6_type 50 = .ok (.getfield 26, 3) := by decide +kernel
theorem dX6_type_53 : decode cX6_type 53 = .ok (.iload 4, 2) := by decide +kernel
theorem dX6_type_55 : decode cX6_type 55 = .ok (.iload_n 3, 1) := by decide +kernel
theorem dX6_type_56 : decode cX6_type 56 = .ok (.invokevirtual 215, 3) := by decide +kernel
theorem dX6_type_59 : decode cX6_type 59 = .ok (.aload_n 0, 1) := by decide +kernel
theorem dX6_type_60 : decode cX6_type 60 = .ok (.iload_n 1, 1) := by decide +kernel
theorem dX6_type_61 : decode cX6_type 61 = .ok (.iload_n 2, 1) := by decide +kernel
theorem dX6_type_62 : decode cX6_type 62 = .ok (.invokevirtual 218, 3) := by decide +kernel
theorem dX6_type_65 : decode cX6_type 65 = .ok (.aload_n 0, 1) := by decide +kernel
theorem dX6_type_66 : decode cX6_type 66 = .ok (.getfield 26, 3) := by decide +kernel
theorem dX6_type_69 : decode cX6_type 69 = .ok (.iload 4, 2) := by decide +kernel
theorem dX6_type_71 : decode cX6_type 71 = .ok (.invokevirtual 211, 3) := by decide +kernel
theorem dX6_type_74 : decode cX6_type 74 = .ok (.ireturn, 1) := by decide +kernel
theorem dX6_erase_0 : decode cX6_erase 0 = .ok (.aload_n 0, 1) := by decide +kernel
theorem dX6_erase_1 : decode cX6_erase 1 = .ok (.iload_n 1, 1) := by decide +kernel
theorem dX6_erase_2 : decode cX6_erase 2 = .ok (.iload_n 2, 1) := by decide +kernel
theorem dX6_erase_3 : decode cX6_erase 3 = .ok (.invokevirtual 203, 3) := by decide +kernel
theorem dX6_erase_6 : decode cX6_erase 6 = .ok (.istore_n 3, 1) := by decide +kernel
theorem dX6_erase_7 : decode cX6_erase 7 = .ok (.aload_n 0, 1) := by decide +kernel
theorem dX6_erase_8 : decode cX6_erase 8 = .ok (.getfield 26, 3) := by decide +kernel
theorem dX6_erase_11 : decode cX6_erase 11 = .ok (.iload_n 3, 1) := by decide +kernel
theorem dX6_erase_12 : decode cX6_erase 12 = .ok (.invokevirtual 211, 3) := by decide +kernel
theorem dX6_erase_15 : decode cX6_erase 15 = .ok (.ifCond .ne 13, 3) := by decide +kernel
theorem dX6_erase_18 : decode cX6_erase 18 = .ok (.new 91, 3) := by decide +kernel
theorem dX6_erase_21 : decode cX6_erase 21 = .ok (.dup, 1) := by decide +kernel
theorem dX6_erase_22 : decode cX6_erase 22 = .ok (.ldc 221, 2) := by decide +kernel
theorem dX6_erase_24 : decode cX6_erase 24 = .ok (.invokespecial 95, 3) := by decide +kernel
theorem dX6_erase_27 : decode cX6_erase 27 = .ok (.athrow, 1) := by decide +kernel
theorem dX6_erase_28 : decode cX6_erase 28 = .ok (.aload_n 0, 1) := by decide +kernel
theorem dX6_erase_29 : decode cX6_erase 29 = .ok (.getfield 26, 3) := by decide +kernel
theorem dX6_erase_32 : decode cX6_erase 32 = .ok (.iload_n 3, 1) := by decide +kernel
theorem dX6_erase_33 : decode cX6_erase 33 = .ok (.invokevirtual 223, 3) := by decide +kernel
theorem dX6_erase_36 : decode cX6_erase 36 = .ok (.istore 4, 2) := by decide +kernel
theorem dX6_erase_38 : decode cX6_erase 38 = .ok (.aload_n 0, 1) := by decide +kernel
theorem dX6_erase_39 : decode cX6_erase 39 = .ok (.iload_n 1, 1) := by decide +kernel
theorem dX6_erase_40 : decode cX6_erase 40 = .ok (.iload_n 2, 1) := by decide +kernel
theorem dX6_erase_41 : decode cX6_erase 41 = .ok (.invokevirtual 218, 3) := by decide +kernel
theorem dX6_erase_44 : decode cX6_erase 44 = .ok (.iload 4, 2) := by decide +kernel
theorem dX6_erase_46 : decode cX6_erase 46 = .ok (.ireturn, 1) := by decide +kernel
theorem dX6_signs_0 : decode cX6_signs 0 = .ok (.aload_n 0, 1) := by decide +kernel
theorem dX6_signs_1 : decode cX6_signs 1 = .ok (.getfield 26, 3) := by decide +kernel
theorem dX6_signs_4 : decode cX6_signs 4 = .ok (.aload_n 0, 1) := by decide +kernel
theorem dX6_signs_5 : decode cX6_signs 5 = .ok (.iload_n 1, 1) := by decide +kernel
theorem dX6_signs_6 : decode cX6_signs 6 = .ok (.iload_n 2, 1) := by decide +kernel
theorem dX6_signs_7 : decode cX6_signs 7 = .ok (.invokevirtual 203, 3) := by decide +kernel
theorem dX6_signs_10 : decode cX6_signs 10 = .ok (.invokevirtual 211, 3) := by decide +kernel
theorem dX6_signs_13 : decode cX6_signs 13 = .ok (.ireturn, 1) := by decide +kernel
theorem dX6_signAt_0 : decode cX6_signAt 0 = .ok (.aload_n 0, 1) := by decide +kernel
theorem dX6_signAt_1 : decode cX6_signAt 1 = .ok (.iload_n 1, 1) := by decide +kernel
theorem dX6_signAt_2 : decode cX6_signAt 2 = .ok (.iload_n 2, 1) := by decide +kernel
theorem dX6_signAt_3 : decode cX6_signAt 3 = .ok (.invokevirtual 203, 3) := by decide +kernel
theorem dX6_signAt_6 : decode cX6_signAt 6 = .ok (.istore 4, 2) := by decide +kernel
theorem dX6_signAt_8 : decode cX6_signAt 8 = .ok (.iload_n 3, 1) := by decide +kernel
theorem dX6_signAt_9 : decode cX6_signAt 9 = .ok (.ifCond .lt 16, 3) := by decide +kernel
theorem dX6_signAt_12 : decode cX6_signAt 12 = .ok (.iload_n 3, 1) := by decide +kernel
theorem dX6_signAt_13 : decode cX6_signAt 13 = .ok (.aload_n 0, 1) := by decide +kernel
theorem dX6_signAt_14 : decode cX6_signAt 14 = .ok (.getfield 26, 3) := by decide +kernel
theorem dX6_signAt_17 : decode cX6_signAt 17 = .ok (.iload 4, 2) := by decide +kernel
theorem dX6_signAt_19 : decode cX6_signAt 19 = .ok (.invokevirtual 211, 3) := by decide +kernel
theorem dX6_signAt_22 : decode cX6_signAt 22 = .ok (.if_icmp .lt 13, 3) := by decide +kernel
theorem dX6_signAt_25 : decode cX6_signAt 25 = .ok (.new 106, 3) := by decide +kernel
theorem dX6_signAt_28 : decode cX6_signAt 28 = .ok (.dup, 1) := by decide +kernel
theorem dX6_signAt_29 : decode cX6_signAt 29 = .ok (.ldc 226, 2) := by decide +kernel
theorem dX6_signAt_31 : decode cX6_signAt 31 = .ok (.invokespecial 110, 3) := by decide +kernel
theorem dX6_signAt_34 : decode cX6_signAt 34 = .ok (.athrow, 1) := by decide +kernel
theorem dX6_signAt_35 : decode cX6_signAt 35 = .ok (.aload_n 0, 1) := by decide +kernel
theorem dX6_signAt_36 : decode cX6_signAt 36 = .ok (.getfield 26, 3) := by decide +kernel
theorem dX6_signAt_39 : decode cX6_signAt 39 = .ok (.iload 4, 2) := by decide +kernel
theorem dX6_signAt_41 : decode cX6_signAt 41 = .ok (.iload_n 3, 1) := by decide +kernel
theorem dX6_signAt_42 : decode cX6_signAt 42 = .ok (.invokevirtual 228, 3) := by decide +kernel
theorem dX6_signAt_45 : decode cX6_signAt 45 = .ok (.ireturn, 1) := by decide +kernel
theorem dX6_width_0 : decode cX6_width 0 = .ok (.aload_n 0, 1) := by decide +kernel
theorem dX6_width_1 : decode cX6_width 1 = .ok (.aload_n 0, 1) := by decide +kernel
theorem dX6_width_2 : decode cX6_width 2 = .ok (.iload_n 1, 1) := by decide +kernel
theorem dX6_width_3 : decode cX6_width 3 = .ok (.iload_n 2, 1) := by decide +kernel
theorem dX6_width_4 : decode cX6_width 4 = .ok (.invokevirtual 203, 3) := by decide +kernel
theorem dX6_width_7 : decode cX6_width 7 = .ok (.invokevirtual 231, 3) := by decide +kernel
theorem dX6_width_10 : decode cX6_width 10 = .ok (.ireturn, 1) := by decide +kernel
theorem dX6_rows_0 : decode cX6_rows 0 = .ok (.aload_n 0, 1) := by decide +kernel
theorem dX6_rows_1 : decode cX6_rows 1 = .ok (.getfield 45, 3) := by decide +kernel
theorem dX6_rows_4 : decode cX6_rows 4 = .ok (.aload_n 0, 1) := by decide +kernel
theorem dX6_rows_5 : decode cX6_rows 5 = .ok (.getfield 26, 3) := by decide +kernel
theorem dX6_rows_8 : decode cX6_rows 8 = .ok (.aload_n 0, 1) := by decide +kernel
theorem dX6_rows_9 : decode cX6_rows 9 = .ok (.iload_n 1, 1) := by decide +kernel
theorem dX6_rows_10 : decode cX6_rows 10 = .ok (.iload_n 2, 1) := by decide +kernel
theorem dX6_rows_11 : decode cX6_rows 11 = .ok (.invokevirtual 203, 3) := by decide +kernel
theorem dX6_rows_14 : decode cX6_rows 14 = .ok (.aload_n 0, 1) := by decide +kernel
theorem dX6_rows_15 : decode cX6_rows 15 = .ok (.getfield 74, 3) := by decide +kernel
theorem dX6_rows_18 : decode cX6_rows 18 = .ok (.invokevirtual 234, 3) := by decide +kernel
theorem dX6_rows_21 : decode cX6_rows 21 = .ok (.aload_n 0, 1) := by decide +kernel
theorem dX6_rows_22 : decode cX6_rows 22 = .ok (.getfield 45, 3) := by decide +kernel
theorem dX6_rows_25 : decode cX6_rows 25 = .ok (.invokevirtual 238, 3) := by decide +kernel
theorem dX6_rows_28 : decode cX6_rows 28 = .ok (.ireturn, 1) := by decide +kernel
theorem dX6_row_0 : decode cX6_row 0 = .ok (.aload_n 0, 1) := by decide +kernel
theorem dX6_row_1 : decode cX6_row 1 = .ok (.getfield 45, 3) := by decide +kernel
theorem dX6_row_4 : decode cX6_row 4 = .ok (.aload_n 0, 1) := by decide +kernel
theorem dX6_row_5 : decode cX6_row 5 = .ok (.getfield 26, 3) := by decide +kernel
theorem dX6_row_8 : decode cX6_row 8 = .ok (.aload_n 0, 1) := by decide +kernel
theorem dX6_row_9 : decode cX6_row 9 = .ok (.iload_n 1, 1) := by decide +kernel
theorem dX6_row_10 : decode cX6_row 10 = .ok (.iload_n 2, 1) := by decide +kernel
theorem dX6_row_11 : decode cX6_row 11 = .ok (.invokevirtual 203, 3) := by decide +kernel
theorem dX6_row_14 : decode cX6_row 14 = .ok (.aload_n 0, 1) := by decide +kernel
theorem dX6_row_15 : decode cX6_row 15 = .ok (.getfield 74, 3) := by decide +kernel
theorem dX6_row_18 : decode cX6_row 18 = .ok (.invokevirtual 234, 3) := by decide +kernel
theorem dX6_row_21 : decode cX6_row 21 = .ok (.iload_n 3, 1) := by decide +kernel
theorem dX6_row_22 : decode cX6_row 22 = .ok (.ifCond .lt 14, 3) := by decide +kernel
theorem dX6_row_25 : decode cX6_row 25 = .ok (.iload_n 3, 1) := by decide +kernel
theorem dX6_row_26 : decode cX6_row 26 = .ok (.aload_n 0, 1) := by decide +kernel
theorem dX6_row_27 : decode cX6_row 27 = .ok (.getfield 45, 3) := by decide +kernel
theorem dX6_row_30 : decode cX6_row 30 = .ok (.invokevirtual 238, 3) := by decide +kernel
theorem dX6_row_33 : decode cX6_row 33 = .ok (.if_icmp .lt 13, 3) := by decide +kernel
theorem dX6_row_36 : decode cX6_row 36 = .ok (.new 106, 3) := by decide +kernel
theorem dX6_row_39 : decode cX6_row 39 = .ok (.dup, 1) := by decide +kernel
theorem dX6_row_40 : decode cX6_row 40 = .ok (.ldc 241, 2) := by decide +kernel
theorem dX6_row_42 : decode cX6_row 42 = .ok (.invokespecial 110, 3) := by decide +kernel
theorem dX6_row_45 : decode cX6_row 45 = .ok (.athrow, 1) := by decide +kernel
theorem dX6_row_46 : decode cX6_row 46 = .ok (.bipush 100, 2) := by decide +kernel
theorem dX6_row_48 : decode cX6_row 48 = .ok (.aload_n 0, 1) := by decide +kernel
theorem dX6_row_49 : decode cX6_row 49 = .ok (.getfield 45, 3) := by decide +kernel
theorem dX6_row_52 : decode cX6_row 52 = .ok (.iload_n 3, 1) := by decide +kernel
theorem dX6_row_53 : decode cX6_row 53 = .ok (.invokevirtual 243, 3) := by decide +kernel
theorem dX6_row_56 : decode cX6_row 56 = .ok (.imul, 1) := by decide +kernel
theorem dX6_row_57 : decode cX6_row 57 = .ok (.aload_n 0, 1) := by decide +kernel
theorem dX6_row_58 : decode cX6_row 58 = .ok (.getfield 45, 3) := by decide +kernel
theorem dX6_row_61 : decode cX6_row 61 = .ok (.iload_n 3, 1) := by decide +kernel
theorem dX6_row_62 : decode cX6_row 62 = .ok (.invokevirtual 246, 3) := by decide +kernel
theorem dX6_row_65 : decode cX6_row 65 = .ok (.iadd, 1) := by decide +kernel
theorem dX6_row_66 : decode cX6_row 66 = .ok (.ireturn, 1) := by decide +kernel
theorem dX6_setLimits_0 : decode cX6_setLimits 0 = .ok (.iload_n 1, 1) := by decide +kernel
theorem dX6_setLimits_1 : decode cX6_setLimits 1 = .ok (.iconst 5, 1) := by decide +kernel
theorem dX6_setLimits_2 : decode cX6_setLimits 2 = .ok (.if_icmp .lt 20, 3) := by decide +kernel
theorem dX6_setLimits_5 : decode cX6_setLimits 5 = .ok (.iload_n 1, 1) := by decide +kernel
theorem dX6_setLimits_6 : decode cX6_setLimits 6 = .ok (.bipush 60, 2) := by decide +kernel
theorem dX6_setLimits_8 : decode cX6_setLimits 8 = .ok (.if_icmp .gt 14, 3) := by decide +kernel
theorem dX6_setLimits_11 : decode cX6_setLimits 11 = .ok (.iload_n 2, 1) := by decide +kernel
theorem dX6_setLimits_12 : decode cX6_setLimits 12 = .ok (.iconst 5, 1) := by decide +kernel
theorem dX6_setLimits_13 : decode cX6_setLimits 13 = .ok (.if_icmp .lt 9, 3) := by decide +kernel
theorem dX6_setLimits_16 : decode cX6_setLimits 16 = .ok (.iload_n 2, 1) := by decide +kernel
theorem dX6_setLimits_17 : decode cX6_setLimits 17 = .ok (.bipush 50, 2) := by decide +kernel
theorem dX6_setLimits_19 : decode cX6_setLimits 19 = .ok (.if_icmp .le 13, 3) := by decide +kernel
theorem dX6_setLimits_22 : decode cX6_setLimits 22 = .ok (.new 80, 3) := by decide +kernel
theorem dX6_setLimits_25 : decode cX6_setLimits 25 = .ok (.dup, 1) := by decide +kernel
theorem dX6_setLimits_26 : decode cX6_setLimits 26 = .ok (.ldc 249, 2) := by decide +kernel
theorem dX6_setLimits_28 : decode cX6_setLimits 28 = .ok (.invokespecial 84, 3) := by decide +kernel
theorem dX6_setLimits_31 : decode cX6_setLimits 31 = .ok (.athrow, 1) := by decide +kernel
theorem dX6_setLimits_32 : decode cX6_setLimits 32 = .ok (.aload_n 0, 1) := by decide +kernel
theorem dX6_setLimits_33 : decode cX6_setLimits 33 = .ok (.getfield 74, 3) := by decide +kernel
theorem dX6_setLimits_36 : decode cX6_setLimits 36 = .ok (.istore_n 3, 1) := by decide +kernel
theorem dX6_setLimits_37 : decode cX6_setLimits 37 = .ok (.aload_n 0, 1) := by decide +kernel
theorem dX6_setLimits_38 : decode cX6_setLimits 38 = .ok (.iload_n 1, 1) := by decide +kernel
theorem dX6_setLimits_39 : decode cX6_setLimits 39 = .ok (.putfield 74, 3) := by decide +kernel
theorem dX6_setLimits_42 : decode cX6_setLimits 42 = .ok (.aload_n 0, 1) := by decide +kernel
theorem dX6_setLimits_43 : decode cX6_setLimits 43 = .ok (.iload_n 2, 1) := by decide +kernel
theorem dX6_setLimits_44 : decode cX6_setLimits 44 = .ok (.putfield 77, 3) := by decide +kernel
theorem dX6_setLimits_47 : decode cX6_setLimits 47 = .ok (.iload_n 3, 1) := by decide +kernel
theorem dX6_setLimits_48 : decode cX6_setLimits 48 = .ok (.ireturn, 1) := by decide +kernel
theorem dX6_confirm_0 : decode cX6_confirm 0 = .ok (.aload_n 0, 1) := by decide +kernel
theorem dX6_confirm_1 : decode cX6_confirm 1 = .ok (.iload_n 1, 1) := by decide +kernel
theorem dX6_confirm_2 : decode cX6_confirm 2 = .ok (.iload_n 2, 1) := by decide +kernel
theorem dX6_confirm_3 : decode cX6_confirm 3 = .ok (.invokevirtual 203, 3) := by decide +kernel
theorem dX6_confirm_6 : decode cX6_confirm 6 = .ok (.istore_n 3, 1) := by decide +kernel
theorem dX6_confirm_7 : decode cX6_confirm 7 = .ok (.iload_n 2, 1) := by decide +kernel
theorem dX6_confirm_8 : decode cX6_confirm 8 = .ok (.invokestatic 251, 3) := by decide +kernel
theorem dX6_confirm_11 : decode cX6_confirm 11 = .ok (.iload_n 1, 1) := by decide +kernel
theorem dX6_confirm_12 : decode cX6_confirm 12 = .ok (.iconst 0, 1) := by decide +kernel
theorem dX6_confirm_13 : decode cX6_confirm 13 = .ok (.invokestatic 254, 3) := by decide +kernel
theorem dX6_confirm_16 : decode cX6_confirm 16 = .ok (.istore 4, 2) := by decide +kernel
theorem dX6_confirm_18 : decode cX6_confirm 18 = .ok (.aload_n 0, 1) := by decide +kernel
theorem dX6_confirm_19 : decode cX6_confirm 19 = .ok (.getfield 26, 3) := by decide +kernel
theorem dX6_confirm_22 : decode cX6_confirm 22 = .ok (.iload_n 3, 1) := by decide +kernel
theorem dX6_confirm_23 : decode cX6_confirm 23 = .ok (.invokevirtual 211, 3) := by decide +kernel
theorem dX6_confirm_26 : decode cX6_confirm 26 = .ok (.ifCond .eq 15, 3) := by decide +kernel
theorem dX6_confirm_29 : decode cX6_confirm 29 = .ok (.aload_n 0, 1) := by decide +kernel
theorem dX6_confirm_30 : decode cX6_confirm 30 = .ok (.getfield 26, 3) := by decide +kernel
theorem dX6_confirm_33 : decode cX6_confirm 33 = .ok (.iload 4, 2) := by decide +kernel
theorem dX6_confirm_35 : decode cX6_confirm 35 = .ok (.invokevirtual 211, 3) := by decide +kernel
theorem dX6_confirm_38 : decode cX6_confirm 38 = .ok (.ifCond .ne 14, 3) := by decide +kernel
theorem dX6_confirm_41 : decode cX6_confirm 41 = .ok (.new 91, 3) := by decide +kernel
theorem dX6_confirm_44 : decode cX6_confirm 44 = .ok (.dup, 1) := by decide +kernel
theorem dX6_confirm_45 : decode cX6_confirm 45 = .ok (.ldc_w 257, 3) := by decide +kernel
theorem dX6_confirm_48 : decode cX6_confirm 48 = .ok (.invokespecial 95, 3) := by decide +kernel
theorem dX6_confirm_51 : decode cX6_confirm 51 = .ok (.athrow, 1) := by decide +kernel
theorem dX6_confirm_52 : decode cX6_confirm 52 = .ok (.aload_n 0, 1) := by decide +kernel
theorem dX6_confirm_53 : decode cX6_confirm 53 = .ok (.iload_n 2, 1) := by decide +kernel
theorem dX6_confirm_54 : decode cX6_confirm 54 = .ok (.invokevirtual 259, 3) := by decide +kernel
theorem dX6_confirm_57 : decode cX6_confirm 57 = .ok (.astore 5, 2) := by decide +kernel
theorem dX6_confirm_59 : decode cX6_confirm 59 = .ok (.aload 5, 2) := by decide +kernel
theorem dX6_confirm_61 : decode cX6_confirm 61 = .ok (.aload_n 0, 1) := by decide +kernel
theorem dX6_confirm_62 : decode cX6_confirm 62 = .ok (.getfield 26, 3) := by decide +kernel
theorem dX6_confirm_65 : decode cX6_confirm 65 = .ok (.iload 4, 2) := by decide +kernel
theorem dX6_confirm_67 : decode cX6_confirm 67 = .ok (.iload_n 3, 1) := by decide +kernel
theorem dX6_confirm_68 : decode cX6_confirm 68 = .ok (.invokevirtual 263, 3) := by decide +kernel
theorem dX6_confirm_71 : decode cX6_confirm 71 = .ok (.aload_n 0, 1) := by decide +kernel
theorem dX6_confirm_72 : decode cX6_confirm 72 = .ok (.iload_n 3, 1) := by decide +kernel
theorem dX6_confirm_73 : decode cX6_confirm 73 = .ok (.iconst 0, 1) := by decide +kernel
theorem dX6_confirm_74 : decode cX6_confirm 74 = .ok (.invokevirtual 266, 3) := by decide +kernel
theorem dX6_confirm_77 : decode cX6_confirm 77 = .ok (.aload 5, 2) := by decide +kernel
theorem dX6_confirm_79 : decode cX6_confirm 79 = .ok (.invokevirtual 270, 3) := by decide +kernel
theorem dX6_confirm_82 : decode cX6_confirm 82 = .ok (.ireturn, 1) := by decide +kernel
theorem dX6_fill_0 : decode cX6_fill 0 = .ok (.iload_n 1, 1) := by decide +kernel
theorem dX6_fill_1 : decode cX6_fill 1 = .ok (.invokestatic 251, 3) := by decide +kernel
theorem dX6_fill_4 : decode cX6_fill 4 = .ok (.aload_n 0, 1) := by decide +kernel
theorem dX6_fill_5 : decode cX6_fill 5 = .ok (.iload_n 1, 1) := by decide +kernel
theorem dX6_fill_6 : decode cX6_fill 6 = .ok (.invokevirtual 259, 3) := by decide +kernel
theorem dX6_fill_9 : decode cX6_fill 9 = .ok (.astore_n 2, 1) := by decide +kernel
theorem dX6_fill_10 : decode cX6_fill 10 = .ok (.iconst 0, 1) := by decide +kernel
theorem dX6_fill_11 : decode cX6_fill 11 = .ok (.istore_n 3, 1) := by decide +kernel
theorem dX6_fill_12 : decode cX6_fill 12 = .ok (.iconst 0, 1) := by decide +kernel
theorem dX6_fill_13 : decode cX6_fill 13 = .ok (.istore 4, 2) := by decide +kernel
theorem dX6_fill_15 : decode cX6_fill 15 = .ok (.iload 4, 2) := by decide +kernel
theorem dX6_fill_17 : decode cX6_fill 17 = .ok (.aload_n 0, 1) := by decide +kernel
theorem dX6_fill_18 : decode cX6_fill 18 = .ok (.getfield 70, 3) := by decide +kernel
theorem dX6_fill_21 : decode cX6_fill 21 = .ok (.if_icmp .ge 73, 3) := by decide +kernel
theorem dX6_fill_24 : decode cX6_fill 24 = .ok (.iload 4, 2) := by decide +kernel
theorem dX6_fill_26 : decode cX6_fill 26 = .ok (.iload_n 1, 1) := by decide +kernel
theorem dX6_fill_27 : decode cX6_fill 27 = .ok (.invokestatic 254, 3) := by decide +kernel
theorem dX6_fill_30 : decode cX6_fill 30 = .ok (.istore 5, 2) := by decide +kernel
theorem dX6_fill_32 : decode cX6_fill 32 = .ok (.aload_n 0, 1) := by decide +kernel
theorem dX6_fill_33 : decode cX6_fill 33 = .ok (.getfield 26, 3) := by decide +kernel
theorem dX6_fill_36 : decode cX6_fill 36 = .ok (.iload 5, 2) := by decide +kernel
theorem dX6_fill_38 : decode cX6_fill 38 = .ok (.invokevirtual 211, 3) := by decide +kernel
theorem dX6_fill_41 : decode cX6_fill 41 = .ok (.ifCond .eq 12, 3) := by decide +kernel
theorem dX6_fill_44 : decode cX6_fill 44 = .ok (.aload_n 0, 1) := by decide +kernel
theorem dX6_fill_45 : decode cX6_fill 45 = .ok (.iload 5, 2) := by decide +kernel
theorem dX6_fill_47 : decode cX6_fill 47 = .ok (.invokevirtual 271, 3) := by decide +kernel
theorem dX6_fill_50 : decode cX6_fill 50 = .ok (.ifCond .eq 38, 3) := by decide +kernel
theorem dX6_fill_53 : decode cX6_fill 53 = .ok (.aload_n 2, 1) := by decide +kernel
theorem dX6_fill_54 : decode cX6_fill 54 = .ok (.aload_n 0, 1) := by decide +kernel
theorem dX6_fill_55 : decode cX6_fill 55 = .ok (.getfield 26, 3) := by decide +kernel
theorem dX6_fill_58 : decode cX6_fill 58 = .ok (.iload 4, 2) := by decide +kernel
theorem dX6_fill_60 : decode cX6_fill 60 = .ok (.iconst 0, 1) := by decide +kernel
theorem dX6_fill_61 : decode cX6_fill 61 = .ok (.invokestatic 254, 3) := by decide +kernel
theorem dX6_fill_64 : decode cX6_fill 64 = .ok (.iload 5, 2) := by decide +kernel
theorem dX6_fill_66 : decode cX6_fill 66 = .ok (.invokevirtual 274, 3) := by decide +kernel
theorem dX6_fill_69 : decode cX6_fill 69 = .ok (.ifCond .eq 19, 3) := by decide +kernel
theorem dX6_fill_72 : decode cX6_fill 72 = .ok (.aload_n 0, 1) := by decide +kernel
theorem dX6_fill_73 : decode cX6_fill 73 = .ok (.iload 5, 2) := by decide +kernel
theorem dX6_fill_75 : decode cX6_fill 75 = .ok (.iconst 0, 1) := by decide +kernel
theorem dX6_fill_76 : decode cX6_fill 76 = .ok (.invokevirtual 266, 3) := by decide +kernel
theorem dX6_fill_79 : decode cX6_fill 79 = .ok (.aload_n 0, 1) := by decide +kernel
theorem dX6_fill_80 : decode cX6_fill 80 = .ok (.iload 5, 2) := by decide +kernel
theorem dX6_fill_82 : decode cX6_fill 82 = .ok (.invokevirtual 278, 3) := by decide +kernel
theorem dX6_fill_85 : decode cX6_fill 85 = .ok (.iinc 3 1, 3) := by decide +kernel
theorem dX6_fill_88 : decode cX6_fill 88 = .ok (.iinc 4 1, 3) := by decide +kernel
theorem dX6_fill_91 : decode cX6_fill 91 = .ok (.goto (-76), 3) := by decide +kernel
theorem dX6_fill_94 : decode cX6_fill 94 = .ok (.iload_n 3, 1) := by decide +kernel
theorem dX6_fill_95 : decode cX6_fill 95 = .ok (.ireturn, 1) := by decide +kernel
theorem dX6_isStale_0 : decode cX6_isStale 0 = .ok (.aload_n 0, 1) := by decide +kernel
theorem dX6_isStale_1 : decode cX6_isStale 1 = .ok (.aload_n 0, 1) := by decide +kernel
theorem dX6_isStale_2 : decode cX6_isStale 2 = .ok (.iload_n 1, 1) := by decide +kernel
theorem dX6_isStale_3 : decode cX6_isStale 3 = .ok (.iload_n 2, 1) := by decide +kernel
theorem dX6_isStale_4 : decode cX6_isStale 4 = .ok (.invokevirtual 203, 3) := by decide +kernel
theorem dX6_isStale_7 : decode cX6_isStale 7 = .ok (.invokevirtual 281, 3) := by decide +kernel
theorem dX6_isStale_10 : decode cX6_isStale 10 = .ok (.ireturn, 1) := by decide +kernel
theorem dX6_memory_0 : decode cX6_memory 0 = .ok (.iload_n 1, 1) := by decide +kernel
theorem dX6_memory_1 : decode cX6_memory 1 = .ok (.invokestatic 251, 3) := by decide +kernel
theorem dX6_memory_4 : decode cX6_memory 4 = .ok (.aload_n 0, 1) := by decide +kernel
theorem dX6_memory_5 : decode cX6_memory 5 = .ok (.iload_n 1, 1) := by decide +kernel
theorem dX6_memory_6 : decode cX6_memory 6 = .ok (.invokevirtual 259, 3) := by decide +kernel
theorem dX6_memory_9 : decode cX6_memory 9 = .ok (.invokevirtual 270, 3) := by decide +kernel
theorem dX6_memory_12 : decode cX6_memory 12 = .ok (.ireturn, 1) := by decide +kernel
theorem dX6_broken_0 : decode cX6_broken 0 = .ok (.aload_n 0, 1) := by decide +kernel
theorem dX6_broken_1 : decode cX6_broken 1 = .ok (.iload_n 1, 1) := by decide +kernel
theorem dX6_broken_2 : decode cX6_broken 2 = .ok (.iload_n 2, 1) := by decide +kernel
theorem dX6_broken_3 : decode cX6_broken 3 = .ok (.invokevirtual 203, 3) := by decide +kernel
theorem dX6_broken_6 : decode cX6_broken 6 = .ok (.pop, 1) := by decide +kernel
theorem dX6_broken_7 : decode cX6_broken 7 = .ok (.aload_n 0, 1) := by decide +kernel
theorem dX6_broken_8 : decode cX6_broken 8 = .ok (.iload_n 1, 1) := by decide +kernel
theorem dX6_broken_9 : decode cX6_broken 9 = .ok (.iload_n 2, 1) := by decide +kernel
theorem dX6_broken_10 : decode cX6_broken 10 = .ok (.invokevirtual 284, 3) := by decide +kernel
theorem dX6_broken_13 : decode cX6_broken 13 = .ok (.ireturn, 1) := by decide +kernel
theorem dX6_letGo_0 : decode cX6_letGo 0 = .ok (.aload_n 0, 1) := by decide +kernel
theorem dX6_letGo_1 : decode cX6_letGo 1 = .ok (.iload_n 1, 1) := by decide +kernel
theorem dX6_letGo_2 : decode cX6_letGo 2 = .ok (.iload_n 2, 1) := by decide +kernel
theorem dX6_letGo_3 : decode cX6_letGo 3 = .ok (.invokevirtual 203, 3) := by decide +kernel
theorem dX6_letGo_6 : decode cX6_letGo 6 = .ok (.istore 5, 2) := by decide +kernel
theorem dX6_letGo_8 : decode cX6_letGo 8 = .ok (.iload_n 3, 1) := by decide +kernel
theorem dX6_letGo_9 : decode cX6_letGo 9 = .ok (.invokestatic 287, 3) := by decide +kernel
theorem dX6_letGo_12 : decode cX6_letGo 12 = .ok (.iload 4, 2) := by decide +kernel
theorem dX6_letGo_14 : decode cX6_letGo 14 = .ok (.iconst 1, 1) := by decide +kernel
theorem dX6_letGo_15 : decode cX6_letGo 15 = .ok (.if_icmp .lt 10, 3) := by decide +kernel
theorem dX6_letGo_18 : decode cX6_letGo 18 = .ok (.iload 4, 2) := by decide +kernel
theorem dX6_letGo_20 : decode cX6_letGo 20 = .ok (.bipush 99, 2) := by decide +kernel
theorem dX6_letGo_22 : decode cX6_letGo 22 = .ok (.if_icmp .le 14, 3) := by decide +kernel
theorem dX6_letGo_25 : decode cX6_letGo 25 = .ok (.new 80, 3) := by decide +kernel
theorem dX6_letGo_28 : decode cX6_letGo 28 = .ok (.dup, 1) := by decide +kernel
theorem dX6_letGo_29 : decode cX6_letGo 29 = .ok (.ldc_w 290, 3) := by decide +kernel
theorem dX6_letGo_32 : decode cX6_letGo 32 = .ok (.invokespecial 84, 3) := by decide +kernel
theorem dX6_letGo_35 : decode cX6_letGo 35 = .ok (.athrow, 1) := by decide +kernel
theorem dX6_letGo_36 : decode cX6_letGo 36 = .ok (.aload_n 0, 1) := by decide +kernel
theorem dX6_letGo_37 : decode cX6_letGo 37 = .ok (.iload_n 1, 1) := by decide +kernel
theorem dX6_letGo_38 : decode cX6_letGo 38 = .ok (.iload_n 2, 1) := by decide +kernel
theorem dX6_letGo_39 : decode cX6_letGo 39 = .ok (.invokevirtual 284, 3) := by decide +kernel
theorem dX6_letGo_42 : decode cX6_letGo 42 = .ok (.iload_n 3, 1) := by decide +kernel
theorem dX6_letGo_43 : decode cX6_letGo 43 = .ok (.invokestatic 292, 3) := by decide +kernel
theorem dX6_letGo_46 : decode cX6_letGo 46 = .ok (.iand, 1) := by decide +kernel
theorem dX6_letGo_47 : decode cX6_letGo 47 = .ok (.ifCond .ne 14, 3) := by decide +kernel
theorem dX6_letGo_50 : decode cX6_letGo 50 = .ok (.new 91, 3) := by decide +kernel
theorem dX6_letGo_53 : decode cX6_letGo 53 = .ok (.dup, 1) := by decide +kernel
theorem dX6_letGo_54 : decode cX6_letGo 54 = .ok (.ldc_w 295, 3) := by decide +kernel
theorem dX6_letGo_57 : decode cX6_letGo 57 = .ok (.invokespecial 95, 3) := by decide +kernel
theorem dX6_letGo_60 : decode cX6_letGo 60 = .ok (.athrow, 1) := by decide +kernel
theorem dX6_letGo_61 : decode cX6_letGo 61 = .ok (.aload_n 0, 1) := by decide +kernel
theorem dX6_letGo_62 : decode cX6_letGo 62 = .ok (.getfield 60, 3) := by decide +kernel
theorem dX6_letGo_65 : decode cX6_letGo 65 = .ok (.iload 5, 2) := by decide +kernel
theorem dX6_letGo_67 : decode cX6_letGo 67 = .ok (.bipush 8, 2) := by decide +kernel
theorem dX6_letGo_69 : decode cX6_letGo 69 = .ok (.imul, 1) := by decide +kernel
theorem dX6_letGo_70 : decode cX6_letGo 70 = .ok (.iload_n 3, 1) := by decide +kernel
theorem dX6_letGo_71 : decode cX6_letGo 71 = .ok (.iadd, 1) := by decide +kernel
theorem dX6_letGo_72 : decode cX6_letGo 72 = .ok (.invokestatic 180, 3) := by decide +kernel
theorem dX6_letGo_75 : decode cX6_letGo 75 = .ok (.istore 6, 2) := by decide +kernel
theorem dX6_letGo_77 : decode cX6_letGo 77 = .ok (.aload_n 0, 1) := by decide +kernel
theorem dX6_letGo_78 : decode cX6_letGo 78 = .ok (.getfield 60, 3) := by decide +kernel
theorem dX6_letGo_81 : decode cX6_letGo 81 = .ok (.iload 5, 2) := by decide +kernel
theorem dX6_letGo_83 : decode cX6_letGo 83 = .ok (.bipush 8, 2) := by decide +kernel
theorem dX6_letGo_85 : decode cX6_letGo 85 = .ok (.imul, 1) := by decide +kernel
theorem dX6_letGo_86 : decode cX6_letGo 86 = .ok (.iload_n 3, 1) := by decide +kernel
theorem dX6_letGo_87 : decode cX6_letGo 87 = .ok (.iadd, 1) := by decide +kernel
theorem dX6_letGo_88 : decode cX6_letGo 88 = .ok (.iload 4, 2) := by decide +kernel
theorem dX6_letGo_90 : decode cX6_letGo 90 = .ok (.invokestatic 184, 3) := by decide +kernel
theorem dX6_letGo_93 : decode cX6_letGo 93 = .ok (.iload 6, 2) := by decide +kernel
theorem dX6_letGo_95 : decode cX6_letGo 95 = .ok (.ireturn, 1) := by decide +kernel
theorem dX6_nameOf_0 : decode cX6_nameOf 0 = .ok (.aload_n 0, 1) := by decide +kernel
theorem dX6_nameOf_1 : decode cX6_nameOf 1 = .ok (.iload_n 1, 1) := by decide +kernel
theorem dX6_nameOf_2 : decode cX6_nameOf 2 = .ok (.iload_n 2, 1) := by decide +kernel
theorem dX6_nameOf_3 : decode cX6_nameOf 3 = .ok (.invokevirtual 203, 3) := by decide +kernel
theorem dX6_nameOf_6 : decode cX6_nameOf 6 = .ok (.istore 4, 2) := by decide +kernel
theorem dX6_nameOf_8 : decode cX6_nameOf 8 = .ok (.iload_n 3, 1) := by decide +kernel
theorem dX6_nameOf_9 : decode cX6_nameOf 9 = .ok (.invokestatic 287, 3) := by decide +kernel
theorem dX6_nameOf_12 : decode cX6_nameOf 12 = .ok (.aload_n 0, 1) := by decide +kernel
theorem dX6_nameOf_13 : decode cX6_nameOf 13 = .ok (.getfield 60, 3) := by decide +kernel
theorem dX6_nameOf_16 : decode cX6_nameOf 16 = .ok (.iload 4, 2) := by decide +kernel
theorem dX6_nameOf_18 : decode cX6_nameOf 18 = .ok (.bipush 8, 2) := by decide +kernel
theorem dX6_nameOf_20 : decode cX6_nameOf 20 = .ok (.imul, 1) := by decide +kernel
theorem dX6_nameOf_21 : decode cX6_nameOf 21 = .ok (.iload_n 3, 1) := by decide +kernel
theorem dX6_nameOf_22 : decode cX6_nameOf 22 = .ok (.iadd, 1) := by decide +kernel
theorem dX6_nameOf_23 : decode cX6_nameOf 23 = .ok (.invokestatic 180, 3) := by decide +kernel
theorem dX6_nameOf_26 : decode cX6_nameOf 26 = .ok (.ireturn, 1) := by decide +kernel
theorem dX6_faults_0 : decode cX6_faults 0 = .ok (.iload_n 1, 1) := by decide +kernel
theorem dX6_faults_1 : decode cX6_faults 1 = .ok (.invokestatic 297, 3) := by decide +kernel
theorem dX6_faults_4 : decode cX6_faults 4 = .ok (.iconst 0, 1) := by decide +kernel
theorem dX6_faults_5 : decode cX6_faults 5 = .ok (.istore_n 2, 1) := by decide +kernel
theorem dX6_faults_6 : decode cX6_faults 6 = .ok (.iconst 0, 1) := by decide +kernel
theorem dX6_faults_7 : decode cX6_faults 7 = .ok (.istore_n 3, 1) := by decide +kernel
theorem dX6_faults_8 : decode cX6_faults 8 = .ok (.iload_n 3, 1) := by decide +kernel
theorem dX6_faults_9 : decode cX6_faults 9 = .ok (.aload_n 0, 1) := by decide +kernel
theorem dX6_faults_10 : decode cX6_faults 10 = .ok (.getfield 70, 3) := by decide +kernel
theorem dX6_faults_13 : decode cX6_faults 13 = .ok (.if_icmp .ge 37, 3) := by decide +kernel
theorem dX6_faults_16 : decode cX6_faults 16 = .ok (.aload_n 0, 1) := by decide +kernel
theorem dX6_faults_17 : decode cX6_faults 17 = .ok (.iload_n 3, 1) := by decide +kernel
theorem dX6_faults_18 : decode cX6_faults 18 = .ok (.iload_n 1, 1) := by decide +kernel
theorem dX6_faults_19 : decode cX6_faults 19 = .ok (.invokevirtual 284, 3) := by decide +kernel
theorem dX6_faults_22 : decode cX6_faults 22 = .ok (.aload_n 0, 1) := by decide +kernel
theorem dX6_faults_23 : decode cX6_faults 23 = .ok (.iload_n 3, 1) := by decide +kernel
theorem dX6_faults_24 : decode cX6_faults 24 = .ok (.iload_n 1, 1) := by decide +kernel
theorem dX6_faults_25 : decode cX6_faults 25 = .ok (.invokestatic 254, 3) := by decide +kernel
theorem dX6_faults_28 : decode cX6_faults 28 = .ok (.invokevirtual 300, 3) := by decide +kernel
theorem dX6_faults_31 : decode cX6_faults 31 = .ok (.iconst (-1), 1) := by decide +kernel
theorem dX6_faults_32 : decode cX6_faults 32 = .ok (.ixor, 1) := by decide +kernel
theorem dX6_faults_33 : decode cX6_faults 33 = .ok (.iand, 1) := by decide +kernel
theorem dX6_faults_34 : decode cX6_faults 34 = .ok (.istore 4, 2) := by decide +kernel
theorem dX6_faults_36 : decode cX6_faults 36 = .ok (.iload_n 2, 1) := by decide +kernel
theorem dX6_faults_37 : decode cX6_faults 37 = .ok (.iload 4, 2) := by decide +kernel
theorem dX6_faults_39 : decode cX6_faults 39 = .ok (.invokestatic 303, 3) := by decide +kernel
theorem dX6_faults_42 : decode cX6_faults 42 = .ok (.iadd, 1) := by decide +kernel
theorem dX6_faults_43 : decode cX6_faults 43 = .ok (.istore_n 2, 1) := by decide +kernel
theorem dX6_faults_44 : decode cX6_faults 44 = .ok (.iinc 3 1, 3) := by decide +kernel
theorem dX6_faults_47 : decode cX6_faults 47 = .ok (.goto (-39), 3) := by decide +kernel
theorem dX6_faults_50 : decode cX6_faults 50 = .ok (.iload_n 2, 1) := by decide +kernel
theorem dX6_faults_51 : decode cX6_faults 51 = .ok (.ireturn, 1) := by decide +kernel
theorem dX6_written_0 : decode cX6_written 0 = .ok (.iload_n 1, 1) := by decide +kernel
theorem dX6_written_1 : decode cX6_written 1 = .ok (.invokestatic 308, 3) := by decide +kernel
theorem dX6_written_4 : decode cX6_written 4 = .ok (.iload_n 2, 1) := by decide +kernel
theorem dX6_written_5 : decode cX6_written 5 = .ok (.invokestatic 297, 3) := by decide +kernel
theorem dX6_written_8 : decode cX6_written 8 = .ok (.aload_n 0, 1) := by decide +kernel
theorem dX6_written_9 : decode cX6_written 9 = .ok (.iload_n 1, 1) := by decide +kernel
theorem dX6_written_10 : decode cX6_written 10 = .ok (.iload_n 2, 1) := by decide +kernel
theorem dX6_written_11 : decode cX6_written 11 = .ok (.invokevirtual 311, 3) := by decide +kernel
theorem dX6_written_14 : decode cX6_written 14 = .ok (.aload_n 0, 1) := by decide +kernel
theorem dX6_written_15 : decode cX6_written 15 = .ok (.getfield 52, 3) := by decide +kernel
theorem dX6_written_18 : decode cX6_written 18 = .ok (.invokevirtual 314, 3) := by decide +kernel
theorem dX6_written_21 : decode cX6_written 21 = .ok (.ireturn, 1) := by decide +kernel
theorem dX6_writtenChar_0 : decode cX6_writtenChar 0 = .ok (.iload_n 1, 1) := by decide +kernel
theorem dX6_writtenChar_1 : decode cX6_writtenChar 1 = .ok (.invokestatic 308, 3) := by decide +kernel
theorem dX6_writtenChar_4 : decode cX6_writtenChar 4 = .ok (.iload_n 2, 1) := by decide +kernel
theorem dX6_writtenChar_5 : decode cX6_writtenChar 5 = .ok (.invokestatic 297, 3) := by decide +kernel
theorem dX6_writtenChar_8 : decode cX6_writtenChar 8 = .ok (.aload_n 0, 1) := by decide +kernel
theorem dX6_writtenChar_9 : decode cX6_writtenChar 9 = .ok (.iload_n 1, 1) := by decide +kernel
theorem dX6_writtenChar_10 : decode cX6_writtenChar 10 = .ok (.iload_n 2, 1) := by decide +kernel
theorem dX6_writtenChar_11 : decode cX6_writtenChar 11 = .ok (.invokevirtual 311, 3) := by decide +kernel
theorem dX6_writtenChar_14 : decode cX6_writtenChar 14 = .ok (.iload_n 3, 1) := by decide +kernel
theorem dX6_writtenChar_15 : decode cX6_writtenChar 15 = .ok (.ifCond .lt 14, 3) := by decide +kernel
theorem dX6_writtenChar_18 : decode cX6_writtenChar 18 = .ok (.iload_n 3, 1) := by decide +kernel
theorem dX6_writtenChar_19 : decode cX6_writtenChar 19 = .ok (.aload_n 0, 1) := by decide +kernel
theorem dX6_writtenChar_20 : decode cX6_writtenChar 20 = .ok (.getfield 52, 3) := by decide +kernel
theorem dX6_writtenChar_23 : decode cX6_writtenChar 23 = .ok (.invokevirtual 314, 3) := by decide +kernel
theorem dX6_writtenChar_26 : decode cX6_writtenChar 26 = .ok (.if_icmp .lt 14, 3) := by decide +kernel
theorem dX6_writtenChar_29 : decode cX6_writtenChar 29 = .ok (.new 106, 3) := by decide +kernel
theorem dX6_writtenChar_32 : decode cX6_writtenChar 32 = .ok (.dup, 1) := by decide +kernel
theorem dX6_writtenChar_33 : decode cX6_writtenChar 33 = .ok (.ldc_w 316, 3) := by decide +kernel
theorem dX6_writtenChar_36 : decode cX6_writtenChar 36 = .ok (.invokespecial 110, 3) := by decide +kernel
theorem dX6_writtenChar_39 : decode cX6_writtenChar 39 = .ok (.athrow, 1) := by decide +kernel
theorem dX6_writtenChar_40 : decode cX6_writtenChar 40 = .ok (.aload_n 0, 1) := by decide +kernel
theorem dX6_writtenChar_41 : decode cX6_writtenChar 41 = .ok (.getfield 52, 3) := by decide +kernel
theorem dX6_writtenChar_44 : decode cX6_writtenChar 44 = .ok (.iload_n 3, 1) := by decide +kernel
theorem dX6_writtenChar_45 : decode cX6_writtenChar 45 = .ok (.invokevirtual 318, 3) := by decide +kernel
theorem dX6_writtenChar_48 : decode cX6_writtenChar 48 = .ok (.ireturn, 1) := by decide +kernel
theorem dX6_needPlace_0 : decode cX6_needPlace 0 = .ok (.iload_n 1, 1) := by decide +kernel
theorem dX6_needPlace_1 : decode cX6_needPlace 1 = .ok (.ifCond .lt 14, 3) := by decide +kernel
theorem dX6_needPlace_4 : decode cX6_needPlace 4 = .ok (.iload_n 1, 1) := by decide +kernel
theorem dX6_needPlace_5 : decode cX6_needPlace 5 = .ok (.aload_n 0, 1) := by decide +kernel
theorem dX6_needPlace_6 : decode cX6_needPlace 6 = .ok (.getfield 10, 3) := by decide +kernel
theorem dX6_needPlace_9 : decode cX6_needPlace 9 = .ok (.invokevirtual 103, 3) := by decide +kernel
theorem dX6_needPlace_12 : decode cX6_needPlace 12 = .ok (.if_icmp .lt 14, 3) := by decide +kernel
theorem dX6_needPlace_15 : decode cX6_needPlace 15 = .ok (.new 106, 3) := by decide +kernel
theorem dX6_needPlace_18 : decode cX6_needPlace 18 = .ok (.dup, 1) := by decide +kernel
theorem dX6_needPlace_19 : decode cX6_needPlace 19 = .ok (.ldc_w 322, 3) := by decide +kernel
theorem dX6_needPlace_22 : decode cX6_needPlace 22 = .ok (.invokespecial 110, 3) := by decide +kernel
theorem dX6_needPlace_25 : decode cX6_needPlace 25 = .ok (.athrow, 1) := by decide +kernel
theorem dX6_needPlace_26 : decode cX6_needPlace 26 = .ok (.return_, 1) := by decide +kernel
theorem dX6_needFrame_0 : decode cX6_needFrame 0 = .ok (.iload_n 1, 1) := by decide +kernel
theorem dX6_needFrame_1 : decode cX6_needFrame 1 = .ok (.ifCond .lt 30, 3) := by decide +kernel
theorem dX6_needFrame_4 : decode cX6_needFrame 4 = .ok (.iload_n 1, 1) := by decide +kernel
theorem dX6_needFrame_5 : decode cX6_needFrame 5 = .ok (.aload_n 0, 1) := by decide +kernel
theorem dX6_needFrame_6 : decode cX6_needFrame 6 = .ok (.getfield 10, 3) := by decide +kernel
theorem dX6_needFrame_9 : decode cX6_needFrame 9 = .ok (.invokevirtual 87, 3) := by decide +kernel
theorem dX6_needFrame_12 : decode cX6_needFrame 12 = .ok (.if_icmp .ge 19, 3) := by decide +kernel
theorem dX6_needFrame_15 : decode cX6_needFrame 15 = .ok (.iload_n 2, 1) := by decide +kernel
theorem dX6_needFrame_16 : decode cX6_needFrame 16 = .ok (.ifCond .lt 15, 3) := by decide +kernel
theorem dX6_needFrame_19 : decode cX6_needFrame 19 = .ok (.iload_n 2, 1) := by decide +kernel
theorem dX6_needFrame_20 : decode cX6_needFrame 20 = .ok (.aload_n 0, 1) := by decide +kernel
theorem dX6_needFrame_21 : decode cX6_needFrame 21 = .ok (.getfield 10, 3) := by decide +kernel
theorem dX6_needFrame_24 : decode cX6_needFrame 24 = .ok (.iload_n 1, 1) := by decide +kernel
theorem dX6_needFrame_25 : decode cX6_needFrame 25 = .ok (.invokevirtual 131, 3) := by decide +kernel
theorem dX6_needFrame_28 : decode cX6_needFrame 28 = .ok (.if_icmp .lt 14, 3) := by decide +kernel
theorem dX6_needFrame_31 : decode cX6_needFrame 31 = .ok (.new 106, 3) := by decide +kernel
theorem dX6_needFrame_34 : decode cX6_needFrame 34 = .ok (.dup, 1) := by decide +kernel
theorem dX6_needFrame_35 : decode cX6_needFrame 35 = .ok (.ldc_w 324, 3) := by decide +kernel
theorem dX6_needFrame_38 : decode cX6_needFrame 38 = .ok (.invokespecial 110, 3) := by decide +kernel
theorem dX6_needFrame_41 : decode cX6_needFrame 41 = .ok (.athrow, 1) := by decide +kernel
theorem dX6_needFrame_42 : decode cX6_needFrame 42 = .ok (.return_, 1) := by decide +kernel
theorem dX6_needSome_0 : decode cX6_needSome 0 = .ok (.iload_n 0, 1) := by decide +kernel
theorem dX6_needSome_1 : decode cX6_needSome 1 = .ok (.iconst 1, 1) := by decide +kernel
theorem dX6_needSome_2 : decode cX6_needSome 2 = .ok (.if_icmp .ge 14, 3) := by decide +kernel
theorem dX6_needSome_5 : decode cX6_needSome 5 = .ok (.new 80, 3) := by decide +kernel
theorem dX6_needSome_8 : decode cX6_needSome 8 = .ok (.dup, 1) := by decide +kernel
theorem dX6_needSome_9 : decode cX6_needSome 9 = .ok (.ldc_w 326, 3) := by decide +kernel
theorem dX6_needSome_12 : decode cX6_needSome 12 = .ok (.invokespecial 84, 3) := by decide +kernel
theorem dX6_needSome_15 : decode cX6_needSome 15 = .ok (.athrow, 1) := by decide +kernel
theorem dX6_needSome_16 : decode cX6_needSome 16 = .ok (.return_, 1) := by decide +kernel
theorem dX6_needRun_0 : decode cX6_needRun 0 = .ok (.aload_n 0, 1) := by decide +kernel
theorem dX6_needRun_1 : decode cX6_needRun 1 = .ok (.iload_n 1, 1) := by decide +kernel
theorem dX6_needRun_2 : decode cX6_needRun 2 = .ok (.invokevirtual 100, 3) := by decide +kernel
theorem dX6_needRun_5 : decode cX6_needRun 5 = .ok (.iload_n 2, 1) := by decide +kernel
theorem dX6_needRun_6 : decode cX6_needRun 6 = .ok (.sipush 250, 3) := by decide +kernel
theorem dX6_needRun_9 : decode cX6_needRun 9 = .ok (.if_icmp .gt 26, 3) := by decide +kernel
theorem dX6_needRun_12 : decode cX6_needRun 12 = .ok (.iload_n 2, 1) := by decide +kernel
theorem dX6_needRun_13 : decode cX6_needRun 13 = .ok (.aload_n 0, 1) := by decide +kernel
theorem dX6_needRun_14 : decode cX6_needRun 14 = .ok (.getfield 10, 3) := by decide +kernel
theorem dX6_needRun_17 : decode cX6_needRun 17 = .ok (.invokevirtual 103, 3) := by decide +kernel
theorem dX6_needRun_20 : decode cX6_needRun 20 = .ok (.iload_n 1, 1) := by decide +kernel
theorem dX6_needRun_21 : decode cX6_needRun 21 = .ok (.isub, 1) := by decide +kernel
theorem dX6_needRun_22 : decode cX6_needRun 22 = .ok (.if_icmp .le 13, 3) := by decide +kernel
theorem dX6_needRun_25 : decode cX6_needRun 25 = .ok (.new 106, 3) := by decide +kernel
theorem dX6_needRun_28 : decode cX6_needRun 28 = .ok (.dup, 1) := by decide +kernel
theorem dX6_needRun_29 : decode cX6_needRun 29 = .ok (.ldc 108, 2) := by decide +kernel
theorem dX6_needRun_31 : decode cX6_needRun 31 = .ok (.invokespecial 110, 3) := by decide +kernel
theorem dX6_needRun_34 : decode cX6_needRun 34 = .ok (.athrow, 1) := by decide +kernel
theorem dX6_needRun_35 : decode cX6_needRun 35 = .ok (.iload_n 2, 1) := by decide +kernel
theorem dX6_needRun_36 : decode cX6_needRun 36 = .ok (.iconst 1, 1) := by decide +kernel
theorem dX6_needRun_37 : decode cX6_needRun 37 = .ok (.if_icmp .lt 10, 3) := by decide +kernel
theorem dX6_needRun_40 : decode cX6_needRun 40 = .ok (.iload_n 2, 1) := by decide +kernel
theorem dX6_needRun_41 : decode cX6_needRun 41 = .ok (.sipush 250, 3) := by decide +kernel
theorem dX6_needRun_44 : decode cX6_needRun 44 = .ok (.if_icmp .le 14, 3) := by decide +kernel
theorem dX6_needRun_47 : decode cX6_needRun 47 = .ok (.new 80, 3) := by decide +kernel
theorem dX6_needRun_50 : decode cX6_needRun 50 = .ok (.dup, 1) := by decide +kernel
theorem dX6_needRun_51 : decode cX6_needRun 51 = .ok (.ldc_w 328, 3) := by decide +kernel
theorem dX6_needRun_54 : decode cX6_needRun 54 = .ok (.invokespecial 84, 3) := by decide +kernel
theorem dX6_needRun_57 : decode cX6_needRun 57 = .ok (.athrow, 1) := by decide +kernel
theorem dX6_needRun_58 : decode cX6_needRun 58 = .ok (.return_, 1) := by decide +kernel
theorem dX6_needCaption_0 : decode cX6_needCaption 0 = .ok (.iload_n 1, 1) := by decide +kernel
theorem dX6_needCaption_1 : decode cX6_needCaption 1 = .ok (.ifCond .lt 11, 3) := by decide +kernel
theorem dX6_needCaption_4 : decode cX6_needCaption 4 = .ok (.iload_n 1, 1) := by decide +kernel
theorem dX6_needCaption_5 : decode cX6_needCaption 5 = .ok (.aload_n 0, 1) := by decide +kernel
theorem dX6_needCaption_6 : decode cX6_needCaption 6 = .ok (.getfield 70, 3) := by decide +kernel
theorem dX6_needCaption_9 : decode cX6_needCaption 9 = .ok (.if_icmp .lt 14, 3) := by decide +kernel
theorem dX6_needCaption_12 : decode cX6_needCaption 12 = .ok (.new 106, 3) := by decide +kernel
theorem dX6_needCaption_15 : decode cX6_needCaption 15 = .ok (.dup, 1) := by decide +kernel
theorem dX6_needCaption_16 : decode cX6_needCaption 16 = .ok (.ldc_w 330, 3) := by decide +kernel
theorem dX6_needCaption_19 : decode cX6_needCaption 19 = .ok (.invokespecial 110, 3) := by decide +kernel
theorem dX6_needCaption_22 : decode cX6_needCaption 22 = .ok (.athrow, 1) := by decide +kernel
theorem dX6_needCaption_23 : decode cX6_needCaption 23 = .ok (.return_, 1) := by decide +kernel
theorem dX6_needTongue_0 : decode cX6_needTongue 0 = .ok (.iload_n 0, 1) := by decide +kernel
theorem dX6_needTongue_1 : decode cX6_needTongue 1 = .ok (.ifCond .lt 8, 3) := by decide +kernel
theorem dX6_needTongue_4 : decode cX6_needTongue 4 = .ok (.iload_n 0, 1) := by decide +kernel
theorem dX6_needTongue_5 : decode cX6_needTongue 5 = .ok (.iconst 3, 1) := by decide +kernel
theorem dX6_needTongue_6 : decode cX6_needTongue 6 = .ok (.if_icmp .lt 14, 3) := by decide +kernel
theorem dX6_needTongue_9 : decode cX6_needTongue 9 = .ok (.new 106, 3) := by decide +kernel
theorem dX6_needTongue_12 : decode cX6_needTongue 12 = .ok (.dup, 1) := by decide +kernel
theorem dX6_needTongue_13 : decode cX6_needTongue 13 = .ok (.ldc_w 332, 3) := by decide +kernel
theorem dX6_needTongue_16 : decode cX6_needTongue 16 = .ok (.invokespecial 110, 3) := by decide +kernel
theorem dX6_needTongue_19 : decode cX6_needTongue 19 = .ok (.athrow, 1) := by decide +kernel
theorem dX6_needTongue_20 : decode cX6_needTongue 20 = .ok (.return_, 1) := by decide +kernel
theorem dX6_needMadeTongue_0 : decode cX6_needMadeTongue 0 = .ok (.iload_n 0, 1) := by decide +kernel
theorem dX6_needMadeTongue_1 : decode cX6_needMadeTongue 1 = .ok (.iconst 1, 1) := by decide +kernel
theorem dX6_needMadeTongue_2 : decode cX6_needMadeTongue 2 = .ok (.if_icmp .lt 8, 3) := by decide +kernel
theorem dX6_needMadeTongue_5 : decode cX6_needMadeTongue 5 = .ok (.iload_n 0, 1) := by decide +kernel
theorem dX6_needMadeTongue_6 : decode cX6_needMadeTongue 6 = .ok (.iconst 3, 1) := by decide +kernel
theorem dX6_needMadeTongue_7 : decode cX6_needMadeTongue 7 = .ok (.if_icmp .lt 14, 3) := by decide +kernel
theorem dX6_needMadeTongue_10 : decode cX6_needMadeTongue 10 = .ok (.new 106, 3) := by decide +kernel
theorem dX6_needMadeTongue_13 : decode cX6_needMadeTongue 13 = .ok (.dup, 1) := by decide +kernel
theorem dX6_needMadeTongue_14 : decode cX6_needMadeTongue 14 = .ok (.ldc_w 334, 3) := by decide +kernel
theorem dX6_needMadeTongue_17 : decode cX6_needMadeTongue 17 = .ok (.invokespecial 110, 3) := by decide +kernel
theorem dX6_needMadeTongue_20 : decode cX6_needMadeTongue 20 = .ok (.athrow, 1) := by decide +kernel
theorem dX6_needMadeTongue_21 : decode cX6_needMadeTongue 21 = .ok (.return_, 1) := by decide +kernel
theorem dX6_needText_0 : decode cX6_needText 0 = .ok (.aload_n 0, 1) := by decide +kernel
theorem dX6_needText_1 : decode cX6_needText 1 = .ok (.iload_n 1, 1) := by decide +kernel
theorem dX6_needText_2 : decode cX6_needText 2 = .ok (.invokevirtual 166, 3) := by decide +kernel
theorem dX6_needText_5 : decode cX6_needText 5 = .ok (.iload_n 2, 1) := by decide +kernel
theorem dX6_needText_6 : decode cX6_needText 6 = .ok (.invokestatic 297, 3) := by decide +kernel
theorem dX6_needText_9 : decode cX6_needText 9 = .ok (.iload_n 1, 1) := by decide +kernel
theorem dX6_needText_10 : decode cX6_needText 10 = .ok (.iload_n 2, 1) := by decide +kernel
theorem dX6_needText_11 : decode cX6_needText 11 = .ok (.invokestatic 254, 3) := by decide +kernel
theorem dX6_needText_14 : decode cX6_needText 14 = .ok (.ireturn, 1) := by decide +kernel
theorem dX6_needRule_0 : decode cX6_needRule 0 = .ok (.iload_n 0, 1) := by decide +kernel
theorem dX6_needRule_1 : decode cX6_needRule 1 = .ok (.ifCond .lt 9, 3) := by decide +kernel
theorem dX6_needRule_4 : decode cX6_needRule 4 = .ok (.iload_n 0, 1) := by decide +kernel
theorem dX6_needRule_5 : decode cX6_needRule 5 = .ok (.bipush 8, 2) := by decide +kernel
theorem dX6_needRule_7 : decode cX6_needRule 7 = .ok (.if_icmp .lt 14, 3) := by decide +kernel
theorem dX6_needRule_10 : decode cX6_needRule 10 = .ok (.new 106, 3) := by decide +kernel
theorem dX6_needRule_13 : decode cX6_needRule 13 = .ok (.dup, 1) := by decide +kernel
theorem dX6_needRule_14 : decode cX6_needRule 14 = .ok (.ldc_w 336, 3) := by decide +kernel
theorem dX6_needRule_17 : decode cX6_needRule 17 = .ok (.invokespecial 110, 3) := by decide +kernel
theorem dX6_needRule_20 : decode cX6_needRule 20 = .ok (.athrow, 1) := by decide +kernel
theorem dX6_needRule_21 : decode cX6_needRule 21 = .ok (.return_, 1) := by decide +kernel
theorem dX6_needFormat_0 : decode cX6_needFormat 0 = .ok (.iload_n 0, 1) := by decide +kernel
theorem dX6_needFormat_1 : decode cX6_needFormat 1 = .ok (.ifCond .lt 8, 3) := by decide +kernel
theorem dX6_needFormat_4 : decode cX6_needFormat 4 = .ok (.iload_n 0, 1) := by decide +kernel
theorem dX6_needFormat_5 : decode cX6_needFormat 5 = .ok (.iconst 1, 1) := by decide +kernel
theorem dX6_needFormat_6 : decode cX6_needFormat 6 = .ok (.if_icmp .le 14, 3) := by decide +kernel
theorem dX6_needFormat_9 : decode cX6_needFormat 9 = .ok (.new 80, 3) := by decide +kernel
theorem dX6_needFormat_12 : decode cX6_needFormat 12 = .ok (.dup, 1) := by decide +kernel
theorem dX6_needFormat_13 : decode cX6_needFormat 13 = .ok (.ldc_w 338, 3) := by decide +kernel
theorem dX6_needFormat_16 : decode cX6_needFormat 16 = .ok (.invokespecial 84, 3) := by decide +kernel
theorem dX6_needFormat_19 : decode cX6_needFormat 19 = .ok (.athrow, 1) := by decide +kernel
theorem dX6_needFormat_20 : decode cX6_needFormat 20 = .ok (.return_, 1) := by decide +kernel
theorem dX6_item_0 : decode cX6_item 0 = .ok (.iload_n 1, 1) := by decide +kernel
theorem dX6_item_1 : decode cX6_item 1 = .ok (.ifCond .lt 15, 3) := by decide +kernel
theorem dX6_item_4 : decode cX6_item 4 = .ok (.iload_n 1, 1) := by decide +kernel
theorem dX6_item_5 : decode cX6_item 5 = .ok (.aload_n 0, 1) := by decide +kernel
theorem dX6_item_6 : decode cX6_item 6 = .ok (.arraylength, 1) := by decide +kernel
theorem dX6_item_7 : decode cX6_item 7 = .ok (.if_icmp .ge 9, 3) := by decide +kernel
theorem dX6_item_10 : decode cX6_item 10 = .ok (.aload_n 0, 1) := by decide +kernel
theorem dX6_item_11 : decode cX6_item 11 = .ok (.iload_n 1, 1) := by decide +kernel
theorem dX6_item_12 : decode cX6_item 12 = .ok (.iaload, 1) := by decide +kernel
theorem dX6_item_13 : decode cX6_item 13 = .ok (.goto 4, 3) := by decide +kernel
theorem dX6_item_16 : decode cX6_item 16 = .ok (.iconst 0, 1) := by decide +kernel
theorem dX6_item_17 : decode cX6_item 17 = .ok (.ireturn, 1) := by decide +kernel
theorem dX6_store_0 : decode cX6_store 0 = .ok (.iload_n 1, 1) := by decide +kernel
theorem dX6_store_1 : decode cX6_store 1 = .ok (.ifCond .lt 13, 3) := by decide +kernel
theorem dX6_store_4 : decode cX6_store 4 = .ok (.iload_n 1, 1) := by decide +kernel
theorem dX6_store_5 : decode cX6_store 5 = .ok (.aload_n 0, 1) := by decide +kernel
theorem dX6_store_6 : decode cX6_store 6 = .ok (.arraylength, 1) := by decide +kernel
theorem dX6_store_7 : decode cX6_store 7 = .ok (.if_icmp .ge 7, 3) := by decide +kernel
theorem dX6_store_10 : decode cX6_store 10 = .ok (.aload_n 0, 1) := by decide +kernel
theorem dX6_store_11 : decode cX6_store 11 = .ok (.iload_n 1, 1) := by decide +kernel
theorem dX6_store_12 : decode cX6_store 12 = .ok (.iload_n 2, 1) := by decide +kernel
theorem dX6_store_13 : decode cX6_store 13 = .ok (.iastore, 1) := by decide +kernel
theorem dX6_store_14 : decode cX6_store 14 = .ok (.return_, 1) := by decide +kernel
theorem dX6_copyItems_0 : decode cX6_copyItems 0 = .ok (.iload 4, 2) := by decide +kernel
theorem dX6_copyItems_2 : decode cX6_copyItems 2 = .ok (.ifCond .le 38, 3) := by decide +kernel
theorem dX6_copyItems_5 : decode cX6_copyItems 5 = .ok (.iload_n 1, 1) := by decide +kernel
theorem dX6_copyItems_6 : decode cX6_copyItems 6 = .ok (.ifCond .lt 34, 3) := by decide +kernel
theorem dX6_copyItems_9 : decode cX6_copyItems 9 = .ok (.iload_n 1, 1) := by decide +kernel
theorem dX6_copyItems_10 : decode cX6_copyItems 10 = .ok (.aload_n 0, 1) := by decide +kernel
theorem dX6_copyItems_11 : decode cX6_copyItems 11 = .ok (.arraylength, 1) := by decide +kernel
theorem dX6_copyItems_12 : decode cX6_copyItems 12 = .ok (.iload 4, 2) := by decide +kernel
theorem dX6_copyItems_14 : decode cX6_copyItems 14 = .ok (.isub, 1) := by decide +kernel
theorem dX6_copyItems_15 : decode cX6_copyItems 15 = .ok (.if_icmp .gt 25, 3) := by decide +kernel
theorem dX6_copyItems_18 : decode cX6_copyItems 18 = .ok (.iload_n 3, 1) := by decide +kernel
theorem dX6_copyItems_19 : decode cX6_copyItems 19 = .ok (.ifCond .lt 21, 3) := by decide +kernel
theorem dX6_copyItems_22 : decode cX6_copyItems 22 = .ok (.iload_n 3, 1) := by decide +kernel
theorem dX6_copyItems_23 : decode cX6_copyItems 23 = .ok (.aload_n 2, 1) := by decide +kernel
theorem dX6_copyItems_24 : decode cX6_copyItems 24 = .ok (.arraylength, 1) := by decide +kernel
theorem dX6_copyItems_25 : decode cX6_copyItems 25 = .ok (.iload 4, 2) := by decide +kernel
theorem dX6_copyItems_27 : decode cX6_copyItems 27 = .ok (.isub, 1) := by decide +kernel
theorem dX6_copyItems_28 : decode cX6_copyItems 28 = .ok (.if_icmp .gt 12, 3) := by decide +kernel
theorem dX6_copyItems_31 : decode cX6_copyItems 31 = .ok (.aload_n 0, 1) := by decide +kernel
theorem dX6_copyItems_32 : decode cX6_copyItems 32 = .ok (.iload_n 1, 1) := by decide +kernel
theorem dX6_copyItems_33 : decode cX6_copyItems 33 = .ok (.aload_n 2, 1) := by decide +kernel
theorem dX6_copyItems_34 : decode cX6_copyItems 34 = .ok (.iload_n 3, 1) := by decide +kernel
theorem dX6_copyItems_35 : decode cX6_copyItems 35 = .ok (.iload 4, 2) := by decide +kernel
theorem dX6_copyItems_37 : decode cX6_copyItems 37 = .ok (.invokestatic 340, 3) := by decide +kernel
theorem dX6_copyItems_40 : decode cX6_copyItems 40 = .ok (.return_, 1) := by decide +kernel
theorem dX6_bit_0 : decode cX6_bit 0 = .ok (.iconst 1, 1) := by decide +kernel
theorem dX6_bit_1 : decode cX6_bit 1 = .ok (.iload_n 0, 1) := by decide +kernel
theorem dX6_bit_2 : decode cX6_bit 2 = .ok (.ishl, 1) := by decide +kernel
theorem dX6_bit_3 : decode cX6_bit 3 = .ok (.ireturn, 1) := by decide +kernel
theorem dX6_isMarked_0 : decode cX6_isMarked 0 = .ok (.iload_n 0, 1) := by decide +kernel
theorem dX6_isMarked_1 : decode cX6_isMarked 1 = .ok (.iload_n 1, 1) := by decide +kernel
theorem dX6_isMarked_2 : decode cX6_isMarked 2 = .ok (.invokestatic 292, 3) := by decide +kernel
theorem dX6_isMarked_5 : decode cX6_isMarked 5 = .ok (.iand, 1) := by decide +kernel
theorem dX6_isMarked_6 : decode cX6_isMarked 6 = .ok (.ifCond .eq 7, 3) := by decide +kernel
theorem dX6_isMarked_9 : decode cX6_isMarked 9 = .ok (.iconst 1, 1) := by decide +kernel
theorem dX6_isMarked_10 : decode cX6_isMarked 10 = .ok (.goto 4, 3) := by decide +kernel
theorem dX6_isMarked_13 : decode cX6_isMarked 13 = .ok (.iconst 0, 1) := by decide +kernel
theorem dX6_isMarked_14 : decode cX6_isMarked 14 = .ok (.ireturn, 1) := by decide +kernel
theorem dX6_orderCaptions_0 : decode cX6_orderCaptions 0 = .ok (.iconst 0, 1) := by decide +kernel
theorem dX6_orderCaptions_1 : decode cX6_orderCaptions 1 = .ok (.istore_n 1, 1) := by decide +kernel
theorem dX6_orderCaptions_2 : decode cX6_orderCaptions 2 = .ok (.iconst 0, 1) := by decide +kernel
theorem dX6_orderCaptions_3 : decode cX6_orderCaptions 3 = .ok (.istore_n 2, 1) := by decide +kernel
theorem dX6_orderCaptions_4 : decode cX6_orderCaptions 4 = .ok (.iload_n 2, 1) := by decide +kernel
theorem dX6_orderCaptions_5 : decode cX6_orderCaptions 5 = .ok (.aload_n 0, 1) := by decide +kernel
theorem dX6_orderCaptions_6 : decode cX6_orderCaptions 6 = .ok (.getfield 70, 3) := by decide +kernel
theorem dX6_orderCaptions_9 : decode cX6_orderCaptions 9 = .ok (.if_icmp .ge 29, 3) := by decide +kernel
theorem dX6_orderCaptions_12 : decode cX6_orderCaptions 12 = .ok (.aload_n 0, 1) := by decide +kernel
theorem dX6_orderCaptions_13 : decode cX6_orderCaptions 13 = .ok (.getfield 19, 3) := by decide +kernel
theorem dX6_orderCaptions_16 : decode cX6_orderCaptions 16 = .ok (.iload_n 2, 1) := by decide +kernel
theorem dX6_orderCaptions_17 : decode cX6_orderCaptions 17 = .ok (.invokevirtual 346, 3) := by decide +kernel
theorem dX6_orderCaptions_20 : decode cX6_orderCaptions 20 = .ok (.ifCond .eq 12, 3) := by decide +kernel
theorem dX6_orderCaptions_23 : decode cX6_orderCaptions 23 = .ok (.aload_n 0, 1) := by decide +kernel
theorem dX6_orderCaptions_24 : decode cX6_orderCaptions 24 = .ok (.iload_n 2, 1) := by decide +kernel
theorem dX6_orderCaptions_25 : decode cX6_orderCaptions 25 = .ok (.iload_n 1, 1) := by decide +kernel
theorem dX6_orderCaptions_26 : decode cX6_orderCaptions 26 = .ok (.invokevirtual 349, 3) := by decide +kernel
theorem dX6_orderCaptions_29 : decode cX6_orderCaptions 29 = .ok (.iinc 1 1, 3) := by decide +kernel
theorem dX6_orderCaptions_32 : decode cX6_orderCaptions 32 = .ok (.iinc 2 1, 3) := by decide +kernel
theorem dX6_orderCaptions_35 : decode cX6_orderCaptions 35 = .ok (.goto (-31), 3) := by decide +kernel
theorem dX6_orderCaptions_38 : decode cX6_orderCaptions 38 = .ok (.iload_n 1, 1) := by decide +kernel
theorem dX6_orderCaptions_39 : decode cX6_orderCaptions 39 = .ok (.ireturn, 1) := by decide +kernel
theorem dX6_insertCaption_0 : decode cX6_insertCaption 0 = .ok (.iload_n 2, 1) := by decide +kernel
theorem dX6_insertCaption_1 : decode cX6_insertCaption 1 = .ok (.istore_n 3, 1) := by decide +kernel
theorem dX6_insertCaption_2 : decode cX6_insertCaption 2 = .ok (.iload_n 3, 1) := by decide +kernel
theorem dX6_insertCaption_3 : decode cX6_insertCaption 3 = .ok (.ifCond .le 55, 3) := by decide +kernel
theorem dX6_insertCaption_6 : decode cX6_insertCaption 6 = .ok (.aload_n 0, 1) := by decide +kernel
theorem dX6_insertCaption_7 : decode cX6_insertCaption 7 = .ok (.getfield 19, 3) := by decide +kernel
theorem dX6_insertCaption_10 : decode cX6_insertCaption 10 = .ok (.aload_n 0, 1) := by decide +kernel
theorem dX6_insertCaption_11 : decode cX6_insertCaption 11 = .ok (.getfield 67, 3) := by decide +kernel
theorem dX6_insertCaption_14 : decode cX6_insertCaption 14 = .ok (.iload_n 3, 1) := by decide +kernel
theorem dX6_insertCaption_15 : decode cX6_insertCaption 15 = .ok (.iconst 1, 1) := by decide +kernel
theorem dX6_insertCaption_16 : decode cX6_insertCaption 16 = .ok (.isub, 1) := by decide +kernel
theorem dX6_insertCaption_17 : decode cX6_insertCaption 17 = .ok (.invokestatic 180, 3) := by decide +kernel
theorem dX6_insertCaption_20 : decode cX6_insertCaption 20 = .ok (.invokevirtual 169, 3) := by decide +kernel
theorem dX6_insertCaption_23 : decode cX6_insertCaption 23 = .ok (.aload_n 0, 1) := by decide +kernel
theorem dX6_insertCaption_24 : decode cX6_insertCaption 24 = .ok (.getfield 19, 3) := by decide +kernel
theorem dX6_insertCaption_27 : decode cX6_insertCaption 27 = .ok (.iload_n 1, 1) := by decide +kernel
theorem dX6_insertCaption_28 : decode cX6_insertCaption 28 = .ok (.invokevirtual 169, 3) := by decide +kernel
theorem dX6_insertCaption_31 : decode cX6_insertCaption 31 = .ok (.if_icmp .le 27, 3) := by decide +kernel
theorem dX6_insertCaption_34 : decode cX6_insertCaption 34 = .ok (.aload_n 0, 1) := by decide +kernel
theorem dX6_insertCaption_35 : decode cX6_insertCaption 35 = .ok (.getfield 67, 3) := by decide +kernel
theorem dX6_insertCaption_38 : decode cX6_insertCaption 38 = .ok (.iload_n 3, 1) := by decide +kernel
theorem dX6_insertCaption_39 : decode cX6_insertCaption 39 = .ok (.aload_n 0, 1) := by decide +kernel
theorem dX6_insertCaption_40 : decode cX6_insertCaption 40 = .ok (.getfield 67, 3) := by decide +kernel
theorem dX6_insertCaption_43 : decode cX6_insertCaption 43 = .ok (.iload_n 3, 1) := by decide +kernel
theorem dX6_insertCaption_44 : decode cX6_insertCaption 44 = .ok (.iconst 1, 1) := by decide +kernel
theorem dX6_insertCaption_45 : decode cX6_insertCaption 45 = .ok (.isub, 1) := by decide +kernel
theorem dX6_insertCaption_46 : decode cX6_insertCaption 46 = .ok (.invokestatic 180, 3) := by decide +kernel
theorem dX6_insertCaption_49 : decode cX6_insertCaption 49 = .ok (.invokestatic 184, 3) := by decide +kernel
theorem dX6_insertCaption_52 : decode cX6_insertCaption 52 = .ok (.iinc 3 (-1), 3) := by decide +kernel
theorem dX6_insertCaption_55 : decode cX6_insertCaption 55 = .ok (.goto (-53), 3) := by decide +kernel
theorem dX6_insertCaption_58 : decode cX6_insertCaption 58 = .ok (.aload_n 0, 1) := by decide +kernel
theorem dX6_insertCaption_59 : decode cX6_insertCaption 59 = .ok (.getfield 67, 3) := by decide +kernel
theorem dX6_insertCaption_62 : decode cX6_insertCaption 62 = .ok (.iload_n 3, 1) := by decide +kernel
theorem dX6_insertCaption_63 : decode cX6_insertCaption 63 = .ok (.iload_n 1, 1) := by decide +kernel
theorem dX6_insertCaption_64 : decode cX6_insertCaption 64 = .ok (.invokestatic 184, 3) := by decide +kernel
theorem dX6_insertCaption_67 : decode cX6_insertCaption 67 = .ok (.return_, 1) := by decide +kernel
theorem dX6_isSign_0 : decode cX6_isSign 0 = .ok (.iload_n 0, 1) := by decide +kernel
theorem dX6_isSign_1 : decode cX6_isSign 1 = .ok (.bipush 10, 2) := by decide +kernel
theorem dX6_isSign_3 : decode cX6_isSign 3 = .ok (.if_icmp .eq 30, 3) := by decide +kernel
theorem dX6_isSign_6 : decode cX6_isSign 6 = .ok (.iload_n 0, 1) := by decide +kernel
theorem dX6_isSign_7 : decode cX6_isSign 7 = .ok (.bipush 32, 2) := by decide +kernel
theorem dX6_isSign_9 : decode cX6_isSign 9 = .ok (.if_icmp .lt 28, 3) := by decide +kernel
theorem dX6_isSign_12 : decode cX6_isSign 12 = .ok (.iload_n 0, 1) := by decide +kernel
theorem dX6_isSign_13 : decode cX6_isSign 13 = .ok (.ldc_w 352, 3) := by decide +kernel
theorem dX6_isSign_16 : decode cX6_isSign 16 = .ok (.if_icmp .gt 21, 3) := by decide +kernel
theorem dX6_isSign_19 : decode cX6_isSign 19 = .ok (.iload_n 0, 1) := by decide +kernel
theorem dX6_isSign_20 : decode cX6_isSign 20 = .ok (.ldc_w 353, 3) := by decide +kernel
theorem dX6_isSign_23 : decode cX6_isSign 23 = .ok (.if_icmp .lt 10, 3) := by decide +kernel
theorem dX6_isSign_26 : decode cX6_isSign 26 = .ok (.iload_n 0, 1) := by decide +kernel
theorem dX6_isSign_27 : decode cX6_isSign 27 = .ok (.ldc_w 354, 3) := by decide +kernel
theorem dX6_isSign_30 : decode cX6_isSign 30 = .ok (.if_icmp .le 7, 3) := by decide +kernel
theorem dX6_isSign_33 : decode cX6_isSign 33 = .ok (.iconst 1, 1) := by decide +kernel
theorem dX6_isSign_34 : decode cX6_isSign 34 = .ok (.goto 4, 3) := by decide +kernel
theorem dX6_isSign_37 : decode cX6_isSign 37 = .ok (.iconst 0, 1) := by decide +kernel
theorem dX6_isSign_38 : decode cX6_isSign 38 = .ok (.ireturn, 1) := by decide +kernel
theorem dX6_signWidth_0 : decode cX6_signWidth 0 = .ok (.iload_n 0, 1) := by decide +kernel
theorem dX6_signWidth_1 : decode cX6_signWidth 1 = .ok (.bipush 10, 2) := by decide +kernel
theorem dX6_signWidth_3 : decode cX6_signWidth 3 = .ok (.if_icmp .eq 17, 3) := by decide +kernel
theorem dX6_signWidth_6 : decode cX6_signWidth 6 = .ok (.iload_n 0, 1) := by decide +kernel
theorem dX6_signWidth_7 : decode cX6_signWidth 7 = .ok (.sipush 768, 3) := by decide +kernel
theorem dX6_signWidth_10 : decode cX6_signWidth 10 = .ok (.if_icmp .lt 12, 3) := by decide +kernel
theorem dX6_signWidth_13 : decode cX6_signWidth 13 = .ok (.iload_n 0, 1) := by decide +kernel
theorem dX6_signWidth_14 : decode cX6_signWidth 14 = .ok (.sipush 879, 3) := by decide +kernel
theorem dX6_signWidth_17 : decode cX6_signWidth 17 = .ok (.if_icmp .gt 5, 3) := by decide +kernel
theorem dX6_signWidth_20 : decode cX6_signWidth 20 = .ok (.iconst 0, 1) := by decide +kernel
theorem dX6_signWidth_21 : decode cX6_signWidth 21 = .ok (.ireturn, 1) := by decide +kernel
theorem dX6_signWidth_22 : decode cX6_signWidth 22 = .ok (.iload_n 0, 1) := by decide +kernel
theorem dX6_signWidth_23 : decode cX6_signWidth 23 = .ok (.sipush 11904, 3) := by decide +kernel
theorem dX6_signWidth_26 : decode cX6_signWidth 26 = .ok (.if_icmp .lt 10, 3) := by decide +kernel
theorem dX6_signWidth_29 : decode cX6_signWidth 29 = .ok (.iload_n 0, 1) := by decide +kernel
theorem dX6_signWidth_30 : decode cX6_signWidth 30 = .ok (.ldc_w 355, 3) := by decide +kernel
theorem dX6_signWidth_33 : decode cX6_signWidth 33 = .ok (.if_icmp .le 10, 3) := by decide +kernel
theorem dX6_signWidth_36 : decode cX6_signWidth 36 = .ok (.iload_n 0, 1) := by decide +kernel
theorem dX6_signWidth_37 : decode cX6_signWidth 37 = .ok (.ldc_w 356, 3) := by decide +kernel
theorem dX6_signWidth_40 : decode cX6_signWidth 40 = .ok (.if_icmp .lt 7, 3) := by decide +kernel
theorem dX6_signWidth_43 : decode cX6_signWidth 43 = .ok (.iconst 2, 1) := by decide +kernel
theorem dX6_signWidth_44 : decode cX6_signWidth 44 = .ok (.goto 4, 3) := by decide +kernel
theorem dX6_signWidth_47 : decode cX6_signWidth 47 = .ok (.iconst 1, 1) := by decide +kernel
theorem dX6_signWidth_48 : decode cX6_signWidth 48 = .ok (.ireturn, 1) := by decide +kernel
theorem dX6_isStop_0 : decode cX6_isStop 0 = .ok (.iload_n 0, 1) := by decide +kernel
theorem dX6_isStop_1 : decode cX6_isStop 1 = .ok (.bipush 46, 2) := by decide +kernel
theorem dX6_isStop_3 : decode cX6_isStop 3 = .ok (.if_icmp .eq 33, 3) := by decide +kernel
theorem dX6_isStop_6 : decode cX6_isStop 6 = .ok (.iload_n 0, 1) := by decide +kernel
theorem dX6_isStop_7 : decode cX6_isStop 7 = .ok (.bipush 44, 2) := by decide +kernel
theorem dX6_isStop_9 : decode cX6_isStop 9 = .ok (.if_icmp .eq 27, 3) := by decide +kernel
theorem dX6_isStop_12 : decode cX6_isStop 12 = .ok (.iload_n 0, 1) := by decide +kernel
theorem dX6_isStop_13 : decode cX6_isStop 13 = .ok (.bipush 59, 2) := by decide +kernel
theorem dX6_isStop_15 : decode cX6_isStop 15 = .ok (.if_icmp .eq 21, 3) := by decide +kernel
theorem dX6_isStop_18 : decode cX6_isStop 18 = .ok (.iload_n 0, 1) := by decide +kernel
theorem dX6_isStop_19 : decode cX6_isStop 19 = .ok (.bipush 58, 2) := by decide +kernel
theorem dX6_isStop_21 : decode cX6_isStop 21 = .ok (.if_icmp .eq 15, 3) := by decide +kernel
theorem dX6_isStop_24 : decode cX6_isStop 24 = .ok (.iload_n 0, 1) := by decide +kernel
theorem dX6_isStop_25 : decode cX6_isStop 25 = .ok (.bipush 33, 2) := by decide +kernel
theorem dX6_isStop_27 : decode cX6_isStop 27 = .ok (.if_icmp .eq 9, 3) := by decide +kernel
theorem dX6_isStop_30 : decode cX6_isStop 30 = .ok (.iload_n 0, 1) := by decide +kernel
theorem dX6_isStop_31 : decode cX6_isStop 31 = .ok (.bipush 63, 2) := by decide +kernel
theorem dX6_isStop_33 : decode cX6_isStop 33 = .ok (.if_icmp .ne 7, 3) := by decide +kernel
theorem dX6_isStop_36 : decode cX6_isStop 36 = .ok (.iconst 1, 1) := by decide +kernel
theorem dX6_isStop_37 : decode cX6_isStop 37 = .ok (.goto 4, 3) := by decide +kernel
theorem dX6_isStop_40 : decode cX6_isStop 40 = .ok (.iconst 0, 1) := by decide +kernel
theorem dX6_isStop_41 : decode cX6_isStop 41 = .ok (.ireturn, 1) := by decide +kernel
theorem dX6_textOf_0 : decode cX6_textOf 0 = .ok (.iload_n 0, 1) := by decide +kernel
theorem dX6_textOf_1 : decode cX6_textOf 1 = .ok (.iconst 3, 1) := by decide +kernel
theorem dX6_textOf_2 : decode cX6_textOf 2 = .ok (.imul, 1) := by decide +kernel
theorem dX6_textOf_3 : decode cX6_textOf 3 = .ok (.iload_n 1, 1) := by decide +kernel
theorem dX6_textOf_4 : decode cX6_textOf 4 = .ok (.iadd, 1) := by decide +kernel
theorem dX6_textOf_5 : decode cX6_textOf 5 = .ok (.ireturn, 1) := by decide +kernel
theorem dX6_textWidth_0 : decode cX6_textWidth 0 = .ok (.iconst 0, 1) := by decide +kernel
theorem dX6_textWidth_1 : decode cX6_textWidth 1 = .ok (.istore_n 2, 1) := by decide +kernel
theorem dX6_textWidth_2 : decode cX6_textWidth 2 = .ok (.iconst 0, 1) := by decide +kernel
theorem dX6_textWidth_3 : decode cX6_textWidth 3 = .ok (.istore_n 3, 1) := by decide +kernel
theorem dX6_textWidth_4 : decode cX6_textWidth 4 = .ok (.iload_n 3, 1) := by decide +kernel
theorem dX6_textWidth_5 : decode cX6_textWidth 5 = .ok (.aload_n 0, 1) := by decide +kernel
theorem dX6_textWidth_6 : decode cX6_textWidth 6 = .ok (.getfield 26, 3) := by decide +kernel
theorem dX6_textWidth_9 : decode cX6_textWidth 9 = .ok (.iload_n 1, 1) := by decide +kernel
theorem dX6_textWidth_10 : decode cX6_textWidth 10 = .ok (.invokevirtual 211, 3) := by decide +kernel
theorem dX6_textWidth_13 : decode cX6_textWidth 13 = .ok (.if_icmp .ge 24, 3) := by decide +kernel
theorem dX6_textWidth_16 : decode cX6_textWidth 16 = .ok (.iload_n 2, 1) := by decide +kernel
theorem dX6_textWidth_17 : decode cX6_textWidth 17 = .ok (.aload_n 0, 1) := by decide +kernel
theorem dX6_textWidth_18 : decode cX6_textWidth 18 = .ok (.getfield 26, 3) := by decide +kernel
theorem dX6_textWidth_21 : decode cX6_textWidth 21 = .ok (.iload_n 1, 1) := by decide +kernel
theorem dX6_textWidth_22 : decode cX6_textWidth 22 = .ok (.iload_n 3, 1) := by decide +kernel
theorem dX6_textWidth_23 : decode cX6_textWidth 23 = .ok (.invokevirtual 228, 3) := by decide +kernel
theorem dX6_textWidth_26 : decode cX6_textWidth 26 = .ok (.invokestatic 357, 3) := by decide +kernel
theorem dX6_textWidth_29 : decode cX6_textWidth 29 = .ok (.iadd, 1) := by decide +kernel
theorem dX6_textWidth_30 : decode cX6_textWidth 30 = .ok (.istore_n 2, 1) := by decide +kernel
theorem dX6_textWidth_31 : decode cX6_textWidth 31 = .ok (.iinc 3 1, 3) := by decide +kernel
theorem dX6_textWidth_34 : decode cX6_textWidth 34 = .ok (.goto (-30), 3) := by decide +kernel
theorem dX6_textWidth_37 : decode cX6_textWidth 37 = .ok (.iload_n 2, 1) := by decide +kernel
theorem dX6_textWidth_38 : decode cX6_textWidth 38 = .ok (.ireturn, 1) := by decide +kernel
theorem dX6_noteChange_0 : decode cX6_noteChange 0 = .ok (.iload_n 1, 1) := by decide +kernel
theorem dX6_noteChange_1 : decode cX6_noteChange 1 = .ok (.iload_n 2, 1) := by decide +kernel
theorem dX6_noteChange_2 : decode cX6_noteChange 2 = .ok (.invokestatic 254, 3) := by decide +kernel
theorem dX6_noteChange_5 : decode cX6_noteChange 5 = .ok (.istore_n 3, 1) := by decide +kernel
theorem dX6_noteChange_6 : decode cX6_noteChange 6 = .ok (.aload_n 0, 1) := by decide +kernel
theorem dX6_noteChange_7 : decode cX6_noteChange 7 = .ok (.iload_n 3, 1) := by decide +kernel
theorem dX6_noteChange_8 : decode cX6_noteChange 8 = .ok (.iconst 0, 1) := by decide +kernel
theorem dX6_noteChange_9 : decode cX6_noteChange 9 = .ok (.invokevirtual 266, 3) := by decide +kernel
theorem dX6_noteChange_12 : decode cX6_noteChange 12 = .ok (.aload_n 0, 1) := by decide +kernel
theorem dX6_noteChange_13 : decode cX6_noteChange 13 = .ok (.iload_n 3, 1) := by decide +kernel
theorem dX6_noteChange_14 : decode cX6_noteChange 14 = .ok (.invokevirtual 278, 3) := by decide +kernel
theorem dX6_noteChange_17 : decode cX6_noteChange 17 = .ok (.iload_n 2, 1) := by decide +kernel
theorem dX6_noteChange_18 : decode cX6_noteChange 18 = .ok (.ifCond .ne 23, 3) := by decide +kernel
theorem dX6_noteChange_21 : decode cX6_noteChange 21 = .ok (.aload_n 0, 1) := by decide +kernel
theorem dX6_noteChange_22 : decode cX6_noteChange 22 = .ok (.iload_n 1, 1) := by decide +kernel
theorem dX6_noteChange_23 : decode cX6_noteChange 23 = .ok (.iconst 1, 1) := by decide +kernel
theorem dX6_noteChange_24 : decode cX6_noteChange 24 = .ok (.invokestatic 254, 3) := by decide +kernel
theorem dX6_noteChange_27 : decode cX6_noteChange 27 = .ok (.iconst 1, 1) := by decide +kernel
theorem dX6_noteChange_28 : decode cX6_noteChange 28 = .ok (.invokevirtual 266, 3) := by decide +kernel
theorem dX6_noteChange_31 : decode cX6_noteChange 31 = .ok (.aload_n 0, 1) := by decide +kernel
theorem dX6_noteChange_32 : decode cX6_noteChange 32 = .ok (.iload_n 1, 1) := by decide +kernel
theorem dX6_noteChange_33 : decode cX6_noteChange 33 = .ok (.iconst 2, 1) := by decide +kernel
theorem dX6_noteChange_34 : decode cX6_noteChange 34 = .ok (.invokestatic 254, 3) := by decide +kernel
theorem dX6_noteChange_37 : decode cX6_noteChange 37 = .ok (.iconst 1, 1) := by decide +kernel
theorem dX6_noteChange_38 : decode cX6_noteChange 38 = .ok (.invokevirtual 266, 3) := by decide +kernel
theorem dX6_noteChange_41 : decode cX6_noteChange 41 = .ok (.return_, 1) := by decide +kernel
theorem dX6_memoryOf_0 : decode cX6_memoryOf 0 = .ok (.iload_n 1, 1) := by decide +kernel
theorem dX6_memoryOf_1 : decode cX6_memoryOf 1 = .ok (.iconst 1, 1) := by decide +kernel
theorem dX6_memoryOf_2 : decode cX6_memoryOf 2 = .ok (.if_icmp .ne 10, 3) := by decide +kernel
theorem dX6_memoryOf_5 : decode cX6_memoryOf 5 = .ok (.aload_n 0, 1) := by decide +kernel
theorem dX6_memoryOf_6 : decode cX6_memoryOf 6 = .ok (.getfield 35, 3) := by decide +kernel
theorem dX6_memoryOf_9 : decode cX6_memoryOf 9 = .ok (.goto 7, 3) := by decide +kernel
theorem dX6_memoryOf_12 : decode cX6_memoryOf 12 = .ok (.aload_n 0, 1) := by decide +kernel
theorem dX6_memoryOf_13 : decode cX6_memoryOf 13 = .ok (.getfield 39, 3) := by decide +kernel
theorem dX6_memoryOf_16 : decode cX6_memoryOf 16 = .ok (.areturn, 1) := by decide +kernel
theorem dX6_isBehind_0 : decode cX6_isBehind 0 = .ok (.iload_n 1, 1) := by decide +kernel
theorem dX6_isBehind_1 : decode cX6_isBehind 1 = .ok (.ifCond .lt 25, 3) := by decide +kernel
theorem dX6_isBehind_4 : decode cX6_isBehind 4 = .ok (.iload_n 1, 1) := by decide +kernel
theorem dX6_isBehind_5 : decode cX6_isBehind 5 = .ok (.aload_n 0, 1) := by decide +kernel
theorem dX6_isBehind_6 : decode cX6_isBehind 6 = .ok (.getfield 63, 3) := by decide +kernel
theorem dX6_isBehind_9 : decode cX6_isBehind 9 = .ok (.arraylength, 1) := by decide +kernel
theorem dX6_isBehind_10 : decode cX6_isBehind 10 = .ok (.if_icmp .ge 16, 3) := by decide +kernel
theorem dX6_isBehind_13 : decode cX6_isBehind 13 = .ok (.aload_n 0, 1) := by decide +kernel
theorem dX6_isBehind_14 : decode cX6_isBehind 14 = .ok (.getfield 63, 3) := by decide +kernel
theorem dX6_isBehind_17 : decode cX6_isBehind 17 = .ok (.iload_n 1, 1) := by decide +kernel
theorem dX6_isBehind_18 : decode cX6_isBehind 18 = .ok (.baload, 1) := by decide +kernel
theorem dX6_isBehind_19 : decode cX6_isBehind 19 = .ok (.ifCond .eq 7, 3) := by decide +kernel
theorem dX6_isBehind_22 : decode cX6_isBehind 22 = .ok (.iconst 1, 1) := by decide +kernel
theorem dX6_isBehind_23 : decode cX6_isBehind 23 = .ok (.goto 4, 3) := by decide +kernel
theorem dX6_isBehind_26 : decode cX6_isBehind 26 = .ok (.iconst 0, 1) := by decide +kernel
theorem dX6_isBehind_27 : decode cX6_isBehind 27 = .ok (.ireturn, 1) := by decide +kernel
theorem dX6_setBehind_0 : decode cX6_setBehind 0 = .ok (.iload_n 1, 1) := by decide +kernel
theorem dX6_setBehind_1 : decode cX6_setBehind 1 = .ok (.ifCond .lt 19, 3) := by decide +kernel
theorem dX6_setBehind_4 : decode cX6_setBehind 4 = .ok (.iload_n 1, 1) := by decide +kernel
theorem dX6_setBehind_5 : decode cX6_setBehind 5 = .ok (.aload_n 0, 1) := by decide +kernel
theorem dX6_setBehind_6 : decode cX6_setBehind 6 = .ok (.getfield 63, 3) := by decide +kernel
theorem dX6_setBehind_9 : decode cX6_setBehind 9 = .ok (.arraylength, 1) := by decide +kernel
theorem dX6_setBehind_10 : decode cX6_setBehind 10 = .ok (.if_icmp .ge 10, 3) := by decide +kernel
theorem dX6_setBehind_13 : decode cX6_setBehind 13 = .ok (.aload_n 0, 1) := by decide +kernel
theorem dX6_setBehind_14 : decode cX6_setBehind 14 = .ok (.getfield 63, 3) := by decide +kernel
theorem dX6_setBehind_17 : decode cX6_setBehind 17 = .ok (.iload_n 1, 1) := by decide +kernel
theorem dX6_setBehind_18 : decode cX6_setBehind 18 = .ok (.iload_n 2, 1) := by decide +kernel
theorem dX6_setBehind_19 : decode cX6_setBehind 19 = .ok (.bastore, 1) := by decide +kernel
theorem dX6_setBehind_20 : decode cX6_setBehind 20 = .ok (.return_, 1) := by decide +kernel
theorem dX6_isOutdated_0 : decode cX6_isOutdated 0 = .ok (.aload_n 0, 1) := by decide +kernel
theorem dX6_isOutdated_1 : decode cX6_isOutdated 1 = .ok (.iload_n 1, 1) := by decide +kernel
theorem dX6_isOutdated_2 : decode cX6_isOutdated 2 = .ok (.invokevirtual 271, 3) := by decide +kernel
theorem dX6_isOutdated_5 : decode cX6_isOutdated 5 = .ok (.ifCond .eq 18, 3) := by decide +kernel
theorem dX6_isOutdated_8 : decode cX6_isOutdated 8 = .ok (.aload_n 0, 1) := by decide +kernel
theorem dX6_isOutdated_9 : decode cX6_isOutdated 9 = .ok (.getfield 26, 3) := by decide +kernel
theorem dX6_isOutdated_12 : decode cX6_isOutdated 12 = .ok (.iload_n 1, 1) := by decide +kernel
theorem dX6_isOutdated_13 : decode cX6_isOutdated 13 = .ok (.invokevirtual 211, 3) := by decide +kernel
theorem dX6_isOutdated_16 : decode cX6_isOutdated 16 = .ok (.ifCond .le 7, 3) := by decide +kernel
theorem dX6_isOutdated_19 : decode cX6_isOutdated 19 = .ok (.iconst 1, 1) := by decide +kernel
theorem dX6_isOutdated_20 : decode cX6_isOutdated 20 = .ok (.goto 4, 3) := by decide +kernel
theorem dX6_isOutdated_23 : decode cX6_isOutdated 23 = .ok (.iconst 0, 1) := by decide +kernel
theorem dX6_isOutdated_24 : decode cX6_isOutdated 24 = .ok (.ireturn, 1) := by decide +kernel
theorem dX6_brokenRules_0 : decode cX6_brokenRules 0 = .ok (.iload_n 1, 1) := by decide +kernel
theorem dX6_brokenRules_1 : decode cX6_brokenRules 1 = .ok (.iload_n 2, 1) := by decide +kernel
theorem dX6_brokenRules_2 : decode cX6_brokenRules 2 = .ok (.invokestatic 254, 3) := by decide +kernel
theorem dX6_brokenRules_5 : decode cX6_brokenRules 5 = .ok (.istore_n 3, 1) := by decide +kernel
theorem dX6_brokenRules_6 : decode cX6_brokenRules 6 = .ok (.aload_n 0, 1) := by decide +kernel
theorem dX6_brokenRules_7 : decode cX6_brokenRules 7 = .ok (.getfield 19, 3) := by decide +kernel
theorem dX6_brokenRules_10 : decode cX6_brokenRules 10 = .ok (.iload_n 1, 1) := by decide +kernel
theorem dX6_brokenRules_11 : decode cX6_brokenRules 11 = .ok (.invokevirtual 346, 3) := by decide +kernel
theorem dX6_brokenRules_14 : decode cX6_brokenRules 14 = .ok (.istore 4, 2) := by decide +kernel
theorem dX6_brokenRules_16 : decode cX6_brokenRules 16 = .ok (.aload_n 0, 1) := by decide +kernel
theorem dX6_brokenRules_17 : decode cX6_brokenRules 17 = .ok (.getfield 45, 3) := by decide +kernel
theorem dX6_brokenRules_20 : decode cX6_brokenRules 20 = .ok (.aload_n 0, 1) := by decide +kernel
theorem dX6_brokenRules_21 : decode cX6_brokenRules 21 = .ok (.getfield 26, 3) := by decide +kernel
theorem dX6_brokenRules_24 : decode cX6_brokenRules 24 = .ok (.iload_n 3, 1) := by decide +kernel
theorem dX6_brokenRules_25 : decode cX6_brokenRules 25 = .ok (.aload_n 0, 1) := by decide +kernel
theorem dX6_brokenRules_26 : decode cX6_brokenRules 26 = .ok (.getfield 74, 3) := by decide +kernel
theorem dX6_brokenRules_29 : decode cX6_brokenRules 29 = .ok (.invokevirtual 234, 3) := by decide +kernel
theorem dX6_brokenRules_32 : decode cX6_brokenRules 32 = .ok (.aload_n 0, 1) := by decide +kernel
theorem dX6_brokenRules_33 : decode cX6_brokenRules 33 = .ok (.getfield 26, 3) := by decide +kernel
theorem dX6_brokenRules_36 : decode cX6_brokenRules 36 = .ok (.iload_n 3, 1) := by decide +kernel
theorem dX6_brokenRules_37 : decode cX6_brokenRules 37 = .ok (.invokevirtual 211, 3) := by decide +kernel
theorem dX6_brokenRules_40 : decode cX6_brokenRules 40 = .ok (.ifCond .ne 10, 3) := by decide +kernel
theorem dX6_brokenRules_43 : decode cX6_brokenRules 43 = .ok (.iconst 0, 1) := by decide +kernel
theorem dX6_brokenRules_44 : decode cX6_brokenRules 44 = .ok (.invokestatic 292, 3) := by decide +kernel
theorem dX6_brokenRules_47 : decode cX6_brokenRules 47 = .ok (.goto 4, 3) := by decide +kernel
theorem dX6_brokenRules_50 : decode cX6_brokenRules 50 = .ok (.iconst 0, 1) := by decide +kernel
theorem dX6_brokenRules_51 : decode cX6_brokenRules 51 = .ok (.istore 5, 2) := by decide +kernel
theorem dX6_brokenRules_53 : decode cX6_brokenRules 53 = .ok (.iload 5, 2) := by decide +kernel
theorem dX6_brokenRules_55 : decode cX6_brokenRules 55 = .ok (.aload_n 0, 1) := by decide +kernel
theorem dX6_brokenRules_56 : decode cX6_brokenRules 56 = .ok (.getfield 45, 3) := by decide +kernel
theorem dX6_brokenRules_59 : decode cX6_brokenRules 59 = .ok (.invokevirtual 238, 3) := by decide +kernel
theorem dX6_brokenRules_62 : decode cX6_brokenRules 62 = .ok (.iconst 2, 1) := by decide +kernel
theorem dX6_brokenRules_63 : decode cX6_brokenRules 63 = .ok (.if_icmp .gt 17, 3) := by decide +kernel
theorem dX6_brokenRules_66 : decode cX6_brokenRules 66 = .ok (.aload_n 0, 1) := by decide +kernel
theorem dX6_brokenRules_67 : decode cX6_brokenRules 67 = .ok (.getfield 45, 3) := by decide +kernel
theorem dX6_brokenRules_70 : decode cX6_brokenRules 70 = .ok (.invokevirtual 360, 3) := by decide +kernel
theorem dX6_brokenRules_73 : decode cX6_brokenRules 73 = .ok (.aload_n 0, 1) := by decide +kernel
theorem dX6_brokenRules_74 : decode cX6_brokenRules 74 = .ok (.getfield 74, 3) := by decide +kernel
theorem dX6_brokenRules_77 : decode cX6_brokenRules 77 = .ok (.if_icmp .le 10, 3) := by decide +kernel
theorem dX6_brokenRules_80 : decode cX6_brokenRules 80 = .ok (.iconst 1, 1) := by decide +kernel
theorem dX6_brokenRules_81 : decode cX6_brokenRules 81 = .ok (.invokestatic 292, 3) := by decide +kernel
theorem dX6_brokenRules_84 : decode cX6_brokenRules 84 = .ok (.goto 4, 3) := by decide +kernel
theorem dX6_brokenRules_87 : decode cX6_brokenRules 87 = .ok (.iconst 0, 1) := by decide +kernel
theorem dX6_brokenRules_88 : decode cX6_brokenRules 88 = .ok (.ior, 1) := by decide +kernel
theorem dX6_brokenRules_89 : decode cX6_brokenRules 89 = .ok (.istore 5, 2) := by decide +kernel
theorem dX6_brokenRules_91 : decode cX6_brokenRules 91 = .ok (.iload 5, 2) := by decide +kernel
theorem dX6_brokenRules_93 : decode cX6_brokenRules 93 = .ok (.iload 4, 2) := by decide +kernel
theorem dX6_brokenRules_95 : decode cX6_brokenRules 95 = .ok (.ifCond .eq 34, 3) := by decide +kernel
theorem dX6_brokenRules_98 : decode cX6_brokenRules 98 = .ok (.bipush 25, 2) := by decide +kernel
theorem dX6_brokenRules_100 : decode cX6_brokenRules 100 = .ok (.aload_n 0, 1) := by decide +kernel
theorem dX6_brokenRules_101 : decode cX6_brokenRules 101 = .ok (.iload_n 3, 1) := by decide +kernel
theorem dX6_brokenRules_102 : decode cX6_brokenRules 102 = .ok (.invokevirtual 231, 3) := by decide +kernel
theorem dX6_brokenRules_105 : decode cX6_brokenRules 105 = .ok (.imul, 1) := by decide +kernel
theorem dX6_brokenRules_106 : decode cX6_brokenRules 106 = .ok (.aload_n 0, 1) := by decide +kernel
theorem dX6_brokenRules_107 : decode cX6_brokenRules 107 = .ok (.getfield 77, 3) := by decide +kernel
theorem dX6_brokenRules_110 : decode cX6_brokenRules 110 = .ok (.aload_n 0, 1) := by decide +kernel
theorem dX6_brokenRules_111 : decode cX6_brokenRules 111 = .ok (.getfield 19, 3) := by decide +kernel
theorem dX6_brokenRules_114 : decode cX6_brokenRules 114 = .ok (.iload_n 1, 1) := by decide +kernel
theorem dX6_brokenRules_115 : decode cX6_brokenRules 115 = .ok (.invokevirtual 188, 3) := by decide +kernel
theorem dX6_brokenRules_118 : decode cX6_brokenRules 118 = .ok (.imul, 1) := by decide +kernel
theorem dX6_brokenRules_119 : decode cX6_brokenRules 119 = .ok (.if_icmp .le 10, 3) := by decide +kernel
theorem dX6_brokenRules_122 : decode cX6_brokenRules 122 = .ok (.iconst 2, 1) := by decide +kernel
theorem dX6_brokenRules_123 : decode cX6_brokenRules 123 = .ok (.invokestatic 292, 3) := by decide +kernel
theorem dX6_brokenRules_126 : decode cX6_brokenRules 126 = .ok (.goto 4, 3) := by decide +kernel
theorem dX6_brokenRules_129 : decode cX6_brokenRules 129 = .ok (.iconst 0, 1) := by decide +kernel
theorem dX6_brokenRules_130 : decode cX6_brokenRules 130 = .ok (.ior, 1) := by decide +kernel
theorem dX6_brokenRules_131 : decode cX6_brokenRules 131 = .ok (.istore 5, 2) := by decide +kernel
theorem dX6_brokenRules_133 : decode cX6_brokenRules 133 = .ok (.iload 5, 2) := by decide +kernel
theorem dX6_brokenRules_135 : decode cX6_brokenRules 135 = .ok (.iload 4, 2) := by decide +kernel
theorem dX6_brokenRules_137 : decode cX6_brokenRules 137 = .ok (.ifCond .eq 18, 3) := by decide +kernel
theorem dX6_brokenRules_140 : decode cX6_brokenRules 140 = .ok (.aload_n 0, 1) := by decide +kernel
theorem dX6_brokenRules_141 : decode cX6_brokenRules 141 = .ok (.iload_n 1, 1) := by decide +kernel
theorem dX6_brokenRules_142 : decode cX6_brokenRules 142 = .ok (.invokevirtual 363, 3) := by decide +kernel
theorem dX6_brokenRules_145 : decode cX6_brokenRules 145 = .ok (.ifCond .eq 10, 3) := by decide +kernel
theorem dX6_brokenRules_148 : decode cX6_brokenRules 148 = .ok (.iconst 3, 1) := by decide +kernel
theorem dX6_brokenRules_149 : decode cX6_brokenRules 149 = .ok (.invokestatic 292, 3) := by decide +kernel
theorem dX6_brokenRules_152 : decode cX6_brokenRules 152 = .ok (.goto 4, 3) := by decide +kernel
theorem dX6_brokenRules_155 : decode cX6_brokenRules 155 = .ok (.iconst 0, 1) := by decide +kernel
theorem dX6_brokenRules_156 : decode cX6_brokenRules 156 = .ok (.ior, 1) := by decide +kernel
theorem dX6_brokenRules_157 : decode cX6_brokenRules 157 = .ok (.istore 5, 2) := by decide +kernel
theorem dX6_brokenRules_159 : decode cX6_brokenRules 159 = .ok (.iload 5, 2) := by decide +kernel
theorem dX6_brokenRules_161 : decode cX6_brokenRules 161 = .ok (.iload 4, 2) := by decide +kernel
theorem dX6_brokenRules_163 : decode cX6_brokenRules 163 = .ok (.ifCond .eq 18, 3) := by decide +kernel
theorem dX6_brokenRules_166 : decode cX6_brokenRules 166 = .ok (.aload_n 0, 1) := by decide +kernel
theorem dX6_brokenRules_167 : decode cX6_brokenRules 167 = .ok (.iload_n 1, 1) := by decide +kernel
theorem dX6_brokenRules_168 : decode cX6_brokenRules 168 = .ok (.invokevirtual 366, 3) := by decide +kernel
theorem dX6_brokenRules_171 : decode cX6_brokenRules 171 = .ok (.ifCond .eq 10, 3) := by decide +kernel
theorem dX6_brokenRules_174 : decode cX6_brokenRules 174 = .ok (.iconst 4, 1) := by decide +kernel
theorem dX6_brokenRules_175 : decode cX6_brokenRules 175 = .ok (.invokestatic 292, 3) := by decide +kernel
theorem dX6_brokenRules_178 : decode cX6_brokenRules 178 = .ok (.goto 4, 3) := by decide +kernel
theorem dX6_brokenRules_181 : decode cX6_brokenRules 181 = .ok (.iconst 0, 1) := by decide +kernel
theorem dX6_brokenRules_182 : decode cX6_brokenRules 182 = .ok (.ior, 1) := by decide +kernel
theorem dX6_brokenRules_183 : decode cX6_brokenRules 183 = .ok (.istore 5, 2) := by decide +kernel
theorem dX6_brokenRules_185 : decode cX6_brokenRules 185 = .ok (.iload 5, 2) := by decide +kernel
theorem dX6_brokenRules_187 : decode cX6_brokenRules 187 = .ok (.aload_n 0, 1) := by decide +kernel
theorem dX6_brokenRules_188 : decode cX6_brokenRules 188 = .ok (.iload_n 3, 1) := by decide +kernel
theorem dX6_brokenRules_189 : decode cX6_brokenRules 189 = .ok (.invokevirtual 281, 3) := by decide +kernel
theorem dX6_brokenRules_192 : decode cX6_brokenRules 192 = .ok (.ifCond .eq 10, 3) := by decide +kernel
theorem dX6_brokenRules_195 : decode cX6_brokenRules 195 = .ok (.iconst 5, 1) := by decide +kernel
theorem dX6_brokenRules_196 : decode cX6_brokenRules 196 = .ok (.invokestatic 292, 3) := by decide +kernel
theorem dX6_brokenRules_199 : decode cX6_brokenRules 199 = .ok (.goto 4, 3) := by decide +kernel
theorem dX6_brokenRules_202 : decode cX6_brokenRules 202 = .ok (.iconst 0, 1) := by decide +kernel
theorem dX6_brokenRules_203 : decode cX6_brokenRules 203 = .ok (.ior, 1) := by decide +kernel
theorem dX6_brokenRules_204 : decode cX6_brokenRules 204 = .ok (.istore 5, 2) := by decide +kernel
theorem dX6_brokenRules_206 : decode cX6_brokenRules 206 = .ok (.iload 5, 2) := by decide +kernel
theorem dX6_brokenRules_208 : decode cX6_brokenRules 208 = .ok (.iload 4, 2) := by decide +kernel
theorem dX6_brokenRules_210 : decode cX6_brokenRules 210 = .ok (.ifCond .eq 7, 3) := by decide +kernel
theorem dX6_brokenRules_213 : decode cX6_brokenRules 213 = .ok (.iconst 0, 1) := by decide +kernel
theorem dX6_brokenRules_214 : decode cX6_brokenRules 214 = .ok (.goto 8, 3) := by decide +kernel
theorem dX6_brokenRules_217 : decode cX6_brokenRules 217 = .ok (.bipush 6, 2) := by decide +kernel
theorem dX6_brokenRules_219 : decode cX6_brokenRules 219 = .ok (.invokestatic 292, 3) := by decide +kernel
theorem dX6_brokenRules_222 : decode cX6_brokenRules 222 = .ok (.ior, 1) := by decide +kernel
theorem dX6_brokenRules_223 : decode cX6_brokenRules 223 = .ok (.istore 5, 2) := by decide +kernel
theorem dX6_brokenRules_225 : decode cX6_brokenRules 225 = .ok (.iload 5, 2) := by decide +kernel
theorem dX6_brokenRules_227 : decode cX6_brokenRules 227 = .ok (.aload_n 0, 1) := by decide +kernel
theorem dX6_brokenRules_228 : decode cX6_brokenRules 228 = .ok (.getfield 56, 3) := by decide +kernel
theorem dX6_brokenRules_231 : decode cX6_brokenRules 231 = .ok (.iload_n 1, 1) := by decide +kernel
theorem dX6_brokenRules_232 : decode cX6_brokenRules 232 = .ok (.invokestatic 180, 3) := by decide +kernel
theorem dX6_brokenRules_235 : decode cX6_brokenRules 235 = .ok (.iconst 1, 1) := by decide +kernel
theorem dX6_brokenRules_236 : decode cX6_brokenRules 236 = .ok (.if_icmp .ne 19, 3) := by decide +kernel
theorem dX6_brokenRules_239 : decode cX6_brokenRules 239 = .ok (.aload_n 0, 1) := by decide +kernel
theorem dX6_brokenRules_240 : decode cX6_brokenRules 240 = .ok (.iload_n 3, 1) := by decide +kernel
theorem dX6_brokenRules_241 : decode cX6_brokenRules 241 = .ok (.invokevirtual 369, 3) := by decide +kernel
theorem dX6_brokenRules_244 : decode cX6_brokenRules 244 = .ok (.ifCond .eq 11, 3) := by decide +kernel
theorem dX6_brokenRules_247 : decode cX6_brokenRules 247 = .ok (.bipush 7, 2) := by decide +kernel
theorem dX6_brokenRules_249 : decode cX6_brokenRules 249 = .ok (.invokestatic 292, 3) := by decide +kernel
theorem dX6_brokenRules_252 : decode cX6_brokenRules 252 = .ok (.goto 4, 3) := by decide +kernel
theorem dX6_brokenRules_255 : decode cX6_brokenRules 255 = .ok (.iconst 0, 1) := by decide +kernel
theorem dX6_brokenRules_256 : decode cX6_brokenRules 256 = .ok (.ior, 1) := by decide +kernel
theorem dX6_brokenRules_257 : decode cX6_brokenRules 257 = .ok (.istore 5, 2) := by decide +kernel
theorem dX6_brokenRules_259 : decode cX6_brokenRules 259 = .ok (.iload 5, 2) := by decide +kernel
theorem dX6_brokenRules_261 : decode cX6_brokenRules 261 = .ok (.ireturn, 1) := by decide +kernel
theorem dX6_hangs_0 : decode cX6_hangs 0 = .ok (.aload_n 0, 1) := by decide +kernel
theorem dX6_hangs_1 : decode cX6_hangs 1 = .ok (.getfield 19, 3) := by decide +kernel
theorem dX6_hangs_4 : decode cX6_hangs 4 = .ok (.iload_n 1, 1) := by decide +kernel
theorem dX6_hangs_5 : decode cX6_hangs 5 = .ok (.invokevirtual 169, 3) := by decide +kernel
theorem dX6_hangs_8 : decode cX6_hangs 8 = .ok (.istore_n 2, 1) := by decide +kernel
theorem dX6_hangs_9 : decode cX6_hangs 9 = .ok (.aload_n 0, 1) := by decide +kernel
theorem dX6_hangs_10 : decode cX6_hangs 10 = .ok (.getfield 19, 3) := by decide +kernel
theorem dX6_hangs_13 : decode cX6_hangs 13 = .ok (.iload_n 1, 1) := by decide +kernel
theorem dX6_hangs_14 : decode cX6_hangs 14 = .ok (.invokevirtual 372, 3) := by decide +kernel
theorem dX6_hangs_17 : decode cX6_hangs 17 = .ok (.istore_n 3, 1) := by decide +kernel
theorem dX6_hangs_18 : decode cX6_hangs 18 = .ok (.iload_n 2, 1) := by decide +kernel
theorem dX6_hangs_19 : decode cX6_hangs 19 = .ok (.iconst 1, 1) := by decide +kernel
theorem dX6_hangs_20 : decode cX6_hangs 20 = .ok (.iadd, 1) := by decide +kernel
theorem dX6_hangs_21 : decode cX6_hangs 21 = .ok (.istore 4, 2) := by decide +kernel
theorem dX6_hangs_23 : decode cX6_hangs 23 = .ok (.iload 4, 2) := by decide +kernel
theorem dX6_hangs_25 : decode cX6_hangs 25 = .ok (.iload_n 3, 1) := by decide +kernel
theorem dX6_hangs_26 : decode cX6_hangs 26 = .ok (.if_icmp .ge 41, 3) := by decide +kernel
theorem dX6_hangs_29 : decode cX6_hangs 29 = .ok (.iload 4, 2) := by decide +kernel
theorem dX6_hangs_31 : decode cX6_hangs 31 = .ok (.iload_n 2, 1) := by decide +kernel
theorem dX6_hangs_32 : decode cX6_hangs 32 = .ok (.isub, 1) := by decide +kernel
theorem dX6_hangs_33 : decode cX6_hangs 33 = .ok (.bipush 12, 2) := by decide +kernel
theorem dX6_hangs_35 : decode cX6_hangs 35 = .ok (.if_icmp .lt 12, 3) := by decide +kernel
theorem dX6_hangs_38 : decode cX6_hangs 38 = .ok (.iload_n 3, 1) := by decide +kernel
theorem dX6_hangs_39 : decode cX6_hangs 39 = .ok (.iload 4, 2) := by decide +kernel
theorem dX6_hangs_41 : decode cX6_hangs 41 = .ok (.isub, 1) := by decide +kernel
theorem dX6_hangs_42 : decode cX6_hangs 42 = .ok (.bipush 12, 2) := by decide +kernel
theorem dX6_hangs_44 : decode cX6_hangs 44 = .ok (.if_icmp .ge 17, 3) := by decide +kernel
theorem dX6_hangs_47 : decode cX6_hangs 47 = .ok (.aload_n 0, 1) := by decide +kernel
theorem dX6_hangs_48 : decode cX6_hangs 48 = .ok (.getfield 10, 3) := by decide +kernel
theorem dX6_hangs_51 : decode cX6_hangs 51 = .ok (.iload 4, 2) := by decide +kernel
theorem dX6_hangs_53 : decode cX6_hangs 53 = .ok (.invokevirtual 151, 3) := by decide +kernel
theorem dX6_hangs_56 : decode cX6_hangs 56 = .ok (.ifCond .eq 5, 3) := by decide +kernel
theorem dX6_hangs_59 : decode cX6_hangs 59 = .ok (.iconst 1, 1) := by decide +kernel
theorem dX6_hangs_60 : decode cX6_hangs 60 = .ok (.ireturn, 1) := by decide +kernel
theorem dX6_hangs_61 : decode cX6_hangs 61 = .ok (.iinc 4 1, 3) := by decide +kernel
theorem dX6_hangs_64 : decode cX6_hangs 64 = .ok (.goto (-41), 3) := by decide +kernel
theorem dX6_hangs_67 : decode cX6_hangs 67 = .ok (.iconst 0, 1) := by decide +kernel
theorem dX6_hangs_68 : decode cX6_hangs 68 = .ok (.ireturn, 1) := by decide +kernel
theorem dX6_isClose_0 : decode cX6_isClose 0 = .ok (.aload_n 0, 1) := by decide +kernel
theorem dX6_isClose_1 : decode cX6_isClose 1 = .ok (.getfield 56, 3) := by decide +kernel
theorem dX6_isClose_4 : decode cX6_isClose 4 = .ok (.iload_n 1, 1) := by decide +kernel
theorem dX6_isClose_5 : decode cX6_isClose 5 = .ok (.invokestatic 180, 3) := by decide +kernel
theorem dX6_isClose_8 : decode cX6_isClose 8 = .ok (.iconst 3, 1) := by decide +kernel
theorem dX6_isClose_9 : decode cX6_isClose 9 = .ok (.if_icmp .ne 7, 3) := by decide +kernel
theorem dX6_isClose_12 : decode cX6_isClose 12 = .ok (.iconst 1, 1) := by decide +kernel
theorem dX6_isClose_13 : decode cX6_isClose 13 = .ok (.goto 4, 3) := by decide +kernel
theorem dX6_isClose_16 : decode cX6_isClose 16 = .ok (.iconst 0, 1) := by decide +kernel
theorem dX6_isClose_17 : decode cX6_isClose 17 = .ok (.istore_n 2, 1) := by decide +kernel
theorem dX6_isClose_18 : decode cX6_isClose 18 = .ok (.iconst 0, 1) := by decide +kernel
theorem dX6_isClose_19 : decode cX6_isClose 19 = .ok (.istore_n 3, 1) := by decide +kernel
theorem dX6_isClose_20 : decode cX6_isClose 20 = .ok (.iload_n 3, 1) := by decide +kernel
theorem dX6_isClose_21 : decode cX6_isClose 21 = .ok (.aload_n 0, 1) := by decide +kernel
theorem dX6_isClose_22 : decode cX6_isClose 22 = .ok (.getfield 70, 3) := by decide +kernel
theorem dX6_isClose_25 : decode cX6_isClose 25 = .ok (.if_icmp .ge 64, 3) := by decide +kernel
theorem dX6_isClose_28 : decode cX6_isClose 28 = .ok (.aload_n 0, 1) := by decide +kernel
theorem dX6_isClose_29 : decode cX6_isClose 29 = .ok (.getfield 56, 3) := by decide +kernel
theorem dX6_isClose_32 : decode cX6_isClose 32 = .ok (.iload_n 3, 1) := by decide +kernel
theorem dX6_isClose_33 : decode cX6_isClose 33 = .ok (.invokestatic 180, 3) := by decide +kernel
theorem dX6_isClose_36 : decode cX6_isClose 36 = .ok (.iconst 3, 1) := by decide +kernel
theorem dX6_isClose_37 : decode cX6_isClose 37 = .ok (.if_icmp .ne 7, 3) := by decide +kernel
theorem dX6_isClose_40 : decode cX6_isClose 40 = .ok (.iconst 1, 1) := by decide +kernel
theorem dX6_isClose_41 : decode cX6_isClose 41 = .ok (.goto 4, 3) := by decide +kernel
theorem dX6_isClose_44 : decode cX6_isClose 44 = .ok (.iconst 0, 1) := by decide +kernel
theorem dX6_isClose_45 : decode cX6_isClose 45 = .ok (.iload_n 2, 1) := by decide +kernel
theorem dX6_isClose_46 : decode cX6_isClose 46 = .ok (.if_icmp .ne 7, 3) := by decide +kernel
theorem dX6_isClose_49 : decode cX6_isClose 49 = .ok (.iconst 1, 1) := by decide +kernel
theorem dX6_isClose_50 : decode cX6_isClose 50 = .ok (.goto 4, 3) := by decide +kernel
theorem dX6_isClose_53 : decode cX6_isClose 53 = .ok (.iconst 0, 1) := by decide +kernel
theorem dX6_isClose_54 : decode cX6_isClose 54 = .ok (.istore 4, 2) := by decide +kernel
theorem dX6_isClose_56 : decode cX6_isClose 56 = .ok (.iload 4, 2) := by decide +kernel
theorem dX6_isClose_58 : decode cX6_isClose 58 = .ok (.ifCond .eq 25, 3) := by decide +kernel
theorem dX6_isClose_61 : decode cX6_isClose 61 = .ok (.aload_n 0, 1) := by decide +kernel
theorem dX6_isClose_62 : decode cX6_isClose 62 = .ok (.getfield 19, 3) := by decide +kernel
theorem dX6_isClose_65 : decode cX6_isClose 65 = .ok (.iload_n 3, 1) := by decide +kernel
theorem dX6_isClose_66 : decode cX6_isClose 66 = .ok (.invokevirtual 346, 3) := by decide +kernel
theorem dX6_isClose_69 : decode cX6_isClose 69 = .ok (.ifCond .eq 14, 3) := by decide +kernel
theorem dX6_isClose_72 : decode cX6_isClose 72 = .ok (.aload_n 0, 1) := by decide +kernel
theorem dX6_isClose_73 : decode cX6_isClose 73 = .ok (.iload_n 3, 1) := by decide +kernel
theorem dX6_isClose_74 : decode cX6_isClose 74 = .ok (.iload_n 1, 1) := by decide +kernel
theorem dX6_isClose_75 : decode cX6_isClose 75 = .ok (.invokevirtual 373, 3) := by decide +kernel
theorem dX6_isClose_78 : decode cX6_isClose 78 = .ok (.ifCond .eq 5, 3) := by decide +kernel
theorem dX6_isClose_81 : decode cX6_isClose 81 = .ok (.iconst 1, 1) := by decide +kernel
theorem dX6_isClose_82 : decode cX6_isClose 82 = .ok (.ireturn, 1) := by decide +kernel
theorem dX6_isClose_83 : decode cX6_isClose 83 = .ok (.iinc 3 1, 3) := by decide +kernel
theorem dX6_isClose_86 : decode cX6_isClose 86 = .ok (.goto (-66), 3) := by decide +kernel
theorem dX6_isClose_89 : decode cX6_isClose 89 = .ok (.iconst 0, 1) := by decide +kernel
theorem dX6_isClose_90 : decode cX6_isClose 90 = .ok (.ireturn, 1) := by decide +kernel
theorem dX6_followsClosely_0 : decode cX6_followsClosely 0 = .ok (.aload_n 0, 1) := by decide +kernel
theorem dX6_followsClosely_1 : decode cX6_followsClosely 1 = .ok (.getfield 19, 3) := by decide +kernel
theorem dX6_followsClosely_4 : decode cX6_followsClosely 4 = .ok (.iload_n 2, 1) := by decide +kernel
theorem dX6_followsClosely_5 : decode cX6_followsClosely 5 = .ok (.invokevirtual 169, 3) := by decide +kernel
theorem dX6_followsClosely_8 : decode cX6_followsClosely 8 = .ok (.istore_n 3, 1) := by decide +kernel
theorem dX6_followsClosely_9 : decode cX6_followsClosely 9 = .ok (.aload_n 0, 1) := by decide +kernel
theorem dX6_followsClosely_10 : decode cX6_followsClosely 10 = .ok (.getfield 19, 3) := by decide +kernel
theorem dX6_followsClosely_13 : decode cX6_followsClosely 13 = .ok (.iload_n 1, 1) := by decide +kernel
theorem dX6_followsClosely_14 : decode cX6_followsClosely 14 = .ok (.invokevirtual 169, 3) := by decide +kernel
theorem dX6_followsClosely_17 : decode cX6_followsClosely 17 = .ok (.istore 4, 2) := by decide +kernel
theorem dX6_followsClosely_19 : decode cX6_followsClosely 19 = .ok (.iload 4, 2) := by decide +kernel
theorem dX6_followsClosely_21 : decode cX6_followsClosely 21 = .ok (.iload_n 3, 1) := by decide +kernel
theorem dX6_followsClosely_22 : decode cX6_followsClosely 22 = .ok (.if_icmp .ne 14, 3) := by decide +kernel
theorem dX6_followsClosely_25 : decode cX6_followsClosely 25 = .ok (.iload_n 1, 1) := by decide +kernel
theorem dX6_followsClosely_26 : decode cX6_followsClosely 26 = .ok (.iload_n 2, 1) := by decide +kernel
theorem dX6_followsClosely_27 : decode cX6_followsClosely 27 = .ok (.if_icmp .le 7, 3) := by decide +kernel
theorem dX6_followsClosely_30 : decode cX6_followsClosely 30 = .ok (.iconst 1, 1) := by decide +kernel
theorem dX6_followsClosely_31 : decode cX6_followsClosely 31 = .ok (.goto 4, 3) := by decide +kernel
theorem dX6_followsClosely_34 : decode cX6_followsClosely 34 = .ok (.iconst 0, 1) := by decide +kernel
theorem dX6_followsClosely_35 : decode cX6_followsClosely 35 = .ok (.ireturn, 1) := by decide +kernel
theorem dX6_followsClosely_36 : decode cX6_followsClosely 36 = .ok (.iload 4, 2) := by decide +kernel
theorem dX6_followsClosely_38 : decode cX6_followsClosely 38 = .ok (.iload_n 3, 1) := by decide +kernel
theorem dX6_followsClosely_39 : decode cX6_followsClosely 39 = .ok (.if_icmp .le 22, 3) := by decide +kernel
theorem dX6_followsClosely_42 : decode cX6_followsClosely 42 = .ok (.iload 4, 2) := by decide +kernel
theorem dX6_followsClosely_44 : decode cX6_followsClosely 44 = .ok (.aload_n 0, 1) := by decide +kernel
theorem dX6_followsClosely_45 : decode cX6_followsClosely 45 = .ok (.getfield 19, 3) := by decide +kernel
theorem dX6_followsClosely_48 : decode cX6_followsClosely 48 = .ok (.iload_n 2, 1) := by decide +kernel
theorem dX6_followsClosely_49 : decode cX6_followsClosely 49 = .ok (.invokevirtual 372, 3) := by decide +kernel
theorem dX6_followsClosely_52 : decode cX6_followsClosely 52 = .ok (.isub, 1) := by decide +kernel
theorem dX6_followsClosely_53 : decode cX6_followsClosely 53 = .ok (.iconst 2, 1) := by decide +kernel
theorem dX6_followsClosely_54 : decode cX6_followsClosely 54 = .ok (.if_icmp .ge 7, 3) := by decide +kernel
theorem dX6_followsClosely_57 : decode cX6_followsClosely 57 = .ok (.iconst 1, 1) := by decide +kernel
theorem dX6_followsClosely_58 : decode cX6_followsClosely 58 = .ok (.goto 4, 3) := by decide +kernel
theorem dX6_followsClosely_61 : decode cX6_followsClosely 61 = .ok (.iconst 0, 1) := by decide +kernel
theorem dX6_followsClosely_62 : decode cX6_followsClosely 62 = .ok (.ireturn, 1) := by decide +kernel
theorem dX6_lacksVoices_0 : decode cX6_lacksVoices 0 = .ok (.aload_n 0, 1) := by decide +kernel
theorem dX6_lacksVoices_1 : decode cX6_lacksVoices 1 = .ok (.getfield 26, 3) := by decide +kernel
theorem dX6_lacksVoices_4 : decode cX6_lacksVoices 4 = .ok (.iload_n 1, 1) := by decide +kernel
theorem dX6_lacksVoices_5 : decode cX6_lacksVoices 5 = .ok (.invokevirtual 211, 3) := by decide +kernel
theorem dX6_lacksVoices_8 : decode cX6_lacksVoices 8 = .ok (.istore_n 2, 1) := by decide +kernel
theorem dX6_lacksVoices_9 : decode cX6_lacksVoices 9 = .ok (.iconst 1, 1) := by decide +kernel
theorem dX6_lacksVoices_10 : decode cX6_lacksVoices 10 = .ok (.istore_n 3, 1) := by decide +kernel
theorem dX6_lacksVoices_11 : decode cX6_lacksVoices 11 = .ok (.aload_n 0, 1) := by decide +kernel
theorem dX6_lacksVoices_12 : decode cX6_lacksVoices 12 = .ok (.getfield 26, 3) := by decide +kernel
theorem dX6_lacksVoices_15 : decode cX6_lacksVoices 15 = .ok (.iload_n 1, 1) := by decide +kernel
theorem dX6_lacksVoices_16 : decode cX6_lacksVoices 16 = .ok (.iconst 0, 1) := by decide +kernel
theorem dX6_lacksVoices_17 : decode cX6_lacksVoices 17 = .ok (.invokevirtual 228, 3) := by decide +kernel
theorem dX6_lacksVoices_20 : decode cX6_lacksVoices 20 = .ok (.bipush 45, 2) := by decide +kernel
theorem dX6_lacksVoices_22 : decode cX6_lacksVoices 22 = .ok (.if_icmp .ne 7, 3) := by decide +kernel
theorem dX6_lacksVoices_25 : decode cX6_lacksVoices 25 = .ok (.iconst 1, 1) := by decide +kernel
theorem dX6_lacksVoices_26 : decode cX6_lacksVoices 26 = .ok (.goto 4, 3) := by decide +kernel
theorem dX6_lacksVoices_29 : decode cX6_lacksVoices 29 = .ok (.iconst 0, 1) := by decide +kernel
theorem dX6_lacksVoices_30 : decode cX6_lacksVoices 30 = .ok (.istore 4, 2) := by decide +kernel
theorem dX6_lacksVoices_32 : decode cX6_lacksVoices 32 = .ok (.iconst 0, 1) := by decide +kernel
theorem dX6_lacksVoices_33 : decode cX6_lacksVoices 33 = .ok (.istore 5, 2) := by decide +kernel
theorem dX6_lacksVoices_35 : decode cX6_lacksVoices 35 = .ok (.iload 5, 2) := by decide +kernel
theorem dX6_lacksVoices_37 : decode cX6_lacksVoices 37 = .ok (.iload_n 2, 1) := by decide +kernel
theorem dX6_lacksVoices_38 : decode cX6_lacksVoices 38 = .ok (.if_icmp .ge 54, 3) := by decide +kernel
theorem dX6_lacksVoices_41 : decode cX6_lacksVoices 41 = .ok (.aload_n 0, 1) := by decide +kernel
theorem dX6_lacksVoices_42 : decode cX6_lacksVoices 42 = .ok (.getfield 26, 3) := by decide +kernel
theorem dX6_lacksVoices_45 : decode cX6_lacksVoices 45 = .ok (.iload_n 1, 1) := by decide +kernel
theorem dX6_lacksVoices_46 : decode cX6_lacksVoices 46 = .ok (.iload 5, 2) := by decide +kernel
theorem dX6_lacksVoices_48 : decode cX6_lacksVoices 48 = .ok (.invokevirtual 228, 3) := by decide +kernel
theorem dX6_lacksVoices_51 : decode cX6_lacksVoices 51 = .ok (.bipush 10, 2) := by decide +kernel
theorem dX6_lacksVoices_53 : decode cX6_lacksVoices 53 = .ok (.if_icmp .ne 33, 3) := by decide +kernel
theorem dX6_lacksVoices_56 : decode cX6_lacksVoices 56 = .ok (.iinc 3 1, 3) := by decide +kernel
theorem dX6_lacksVoices_59 : decode cX6_lacksVoices 59 = .ok (.iload 4, 2) := by decide +kernel
theorem dX6_lacksVoices_61 : decode cX6_lacksVoices 61 = .ok (.aload_n 0, 1) := by decide +kernel
theorem dX6_lacksVoices_62 : decode cX6_lacksVoices 62 = .ok (.getfield 26, 3) := by decide +kernel
theorem dX6_lacksVoices_65 : decode cX6_lacksVoices 65 = .ok (.iload_n 1, 1) := by decide +kernel
theorem dX6_lacksVoices_66 : decode cX6_lacksVoices 66 = .ok (.iload 5, 2) := by decide +kernel
theorem dX6_lacksVoices_68 : decode cX6_lacksVoices 68 = .ok (.iconst 1, 1) := by decide +kernel
theorem dX6_lacksVoices_69 : decode cX6_lacksVoices 69 = .ok (.iadd, 1) := by decide +kernel
theorem dX6_lacksVoices_70 : decode cX6_lacksVoices 70 = .ok (.invokevirtual 228, 3) := by decide +kernel
theorem dX6_lacksVoices_73 : decode cX6_lacksVoices 73 = .ok (.bipush 45, 2) := by decide +kernel
theorem dX6_lacksVoices_75 : decode cX6_lacksVoices 75 = .ok (.if_icmp .ne 7, 3) := by decide +kernel
theorem dX6_lacksVoices_78 : decode cX6_lacksVoices 78 = .ok (.iconst 1, 1) := by decide +kernel
theorem dX6_lacksVoices_79 : decode cX6_lacksVoices 79 = .ok (.goto 4, 3) := by decide +kernel
theorem dX6_lacksVoices_82 : decode cX6_lacksVoices 82 = .ok (.iconst 0, 1) := by decide +kernel
theorem dX6_lacksVoices_83 : decode cX6_lacksVoices 83 = .ok (.iadd, 1) := by decide +kernel
theorem dX6_lacksVoices_84 : decode cX6_lacksVoices 84 = .ok (.istore 4, 2) := by decide +kernel
theorem dX6_lacksVoices_86 : decode cX6_lacksVoices 86 = .ok (.iinc 5 1, 3) := by decide +kernel
theorem dX6_lacksVoices_89 : decode cX6_lacksVoices 89 = .ok (.goto (-54), 3) := by decide +kernel
theorem dX6_lacksVoices_92 : decode cX6_lacksVoices 92 = .ok (.iload_n 2, 1) := by decide +kernel
theorem dX6_lacksVoices_93 : decode cX6_lacksVoices 93 = .ok (.ifCond .le 18, 3) := by decide +kernel
theorem dX6_lacksVoices_96 : decode cX6_lacksVoices 96 = .ok (.iload_n 3, 1) := by decide +kernel
theorem dX6_lacksVoices_97 : decode cX6_lacksVoices 97 = .ok (.iconst 2, 1) := by decide +kernel
theorem dX6_lacksVoices_98 : decode cX6_lacksVoices 98 = .ok (.if_icmp .ne 9, 3) := by decide +kernel
theorem dX6_lacksVoices_101 : decode cX6_lacksVoices 101 = .ok (.iload 4, 2) := by decide +kernel
theorem dX6_lacksVoices_103 : decode cX6_lacksVoices 103 = .ok (.iconst 2, 1) := by decide +kernel
theorem dX6_lacksVoices_104 : decode cX6_lacksVoices 104 = .ok (.if_icmp .eq 7, 3) := by decide +kernel
theorem dX6_lacksVoices_107 : decode cX6_lacksVoices 107 = .ok (.iconst 1, 1) := by decide +kernel
theorem dX6_lacksVoices_108 : decode cX6_lacksVoices 108 = .ok (.goto 4, 3) := by decide +kernel
theorem dX6_lacksVoices_111 : decode cX6_lacksVoices 111 = .ok (.iconst 0, 1) := by decide +kernel
theorem dX6_lacksVoices_112 : decode cX6_lacksVoices 112 = .ok (.ireturn, 1) := by decide +kernel
theorem dX6_namedRules_0 : decode cX6_namedRules 0 = .ok (.iconst 0, 1) := by decide +kernel
theorem dX6_namedRules_1 : decode cX6_namedRules 1 = .ok (.istore_n 2, 1) := by decide +kernel
theorem dX6_namedRules_2 : decode cX6_namedRules 2 = .ok (.iconst 0, 1) := by decide +kernel
theorem dX6_namedRules_3 : decode cX6_namedRules 3 = .ok (.istore_n 3, 1) := by decide +kernel
theorem dX6_namedRules_4 : decode cX6_namedRules 4 = .ok (.iload_n 3, 1) := by decide +kernel
theorem dX6_namedRules_5 : decode cX6_namedRules 5 = .ok (.bipush 8, 2) := by decide +kernel
theorem dX6_namedRules_7 : decode cX6_namedRules 7 = .ok (.if_icmp .ge 36, 3) := by decide +kernel
theorem dX6_namedRules_10 : decode cX6_namedRules 10 = .ok (.iload_n 2, 1) := by decide +kernel
theorem dX6_namedRules_11 : decode cX6_namedRules 11 = .ok (.aload_n 0, 1) := by decide +kernel
theorem dX6_namedRules_12 : decode cX6_namedRules 12 = .ok (.getfield 60, 3) := by decide +kernel
theorem dX6_namedRules_15 : decode cX6_namedRules 15 = .ok (.iload_n 1, 1) := by decide +kernel
theorem dX6_namedRules_16 : decode cX6_namedRules 16 = .ok (.bipush 8, 2) := by decide +kernel
theorem dX6_namedRules_18 : decode cX6_namedRules 18 = .ok (.imul, 1) := by decide +kernel
theorem dX6_namedRules_19 : decode cX6_namedRules 19 = .ok (.iload_n 3, 1) := by decide +kernel
theorem dX6_namedRules_20 : decode cX6_namedRules 20 = .ok (.iadd, 1) := by decide +kernel
theorem dX6_namedRules_21 : decode cX6_namedRules 21 = .ok (.invokestatic 180, 3) := by decide +kernel
theorem dX6_namedRules_24 : decode cX6_namedRules 24 = .ok (.ifCond .eq 10, 3) := by decide +kernel
theorem dX6_namedRules_27 : decode cX6_namedRules 27 = .ok (.iload_n 3, 1) := by decide +kernel
theorem dX6_namedRules_28 : decode cX6_namedRules 28 = .ok (.invokestatic 292, 3) := by decide +kernel
theorem dX6_namedRules_31 : decode cX6_namedRules 31 = .ok (.goto 4, 3) := by decide +kernel
theorem dX6_namedRules_34 : decode cX6_namedRules 34 = .ok (.iconst 0, 1) := by decide +kernel
theorem dX6_namedRules_35 : decode cX6_namedRules 35 = .ok (.ior, 1) := by decide +kernel
theorem dX6_namedRules_36 : decode cX6_namedRules 36 = .ok (.istore_n 2, 1) := by decide +kernel
theorem dX6_namedRules_37 : decode cX6_namedRules 37 = .ok (.iinc 3 1, 3) := by decide +kernel
theorem dX6_namedRules_40 : decode cX6_namedRules 40 = .ok (.goto (-36), 3) := by decide +kernel
theorem dX6_namedRules_43 : decode cX6_namedRules 43 = .ok (.iload_n 2, 1) := by decide +kernel
theorem dX6_namedRules_44 : decode cX6_namedRules 44 = .ok (.ireturn, 1) := by decide +kernel
theorem dX6_forgetNames_0 : decode cX6_forgetNames 0 = .ok (.iconst 0, 1) := by decide +kernel
theorem dX6_forgetNames_1 : decode cX6_forgetNames 1 = .ok (.istore_n 2, 1) := by decide +kernel
theorem dX6_forgetNames_2 : decode cX6_forgetNames 2 = .ok (.iload_n 2, 1) := by decide +kernel
theorem dX6_forgetNames_3 : decode cX6_forgetNames 3 = .ok (.bipush 8, 2) := by decide +kernel
theorem dX6_forgetNames_5 : decode cX6_forgetNames 5 = .ok (.if_icmp .ge 23, 3) := by decide +kernel
theorem dX6_forgetNames_8 : decode cX6_forgetNames 8 = .ok (.aload_n 0, 1) := by decide +kernel
theorem dX6_forgetNames_9 : decode cX6_forgetNames 9 = .ok (.getfield 60, 3) := by decide +kernel
theorem dX6_forgetNames_12 : decode cX6_forgetNames 12 = .ok (.iload_n 1, 1) := by decide +kernel
theorem dX6_forgetNames_13 : decode cX6_forgetNames 13 = .ok (.bipush 8, 2) := by decide +kernel
theorem dX6_forgetNames_15 : decode cX6_forgetNames 15 = .ok (.imul, 1) := by decide +kernel
theorem dX6_forgetNames_16 : decode cX6_forgetNames 16 = .ok (.iload_n 2, 1) := by decide +kernel
theorem dX6_forgetNames_17 : decode cX6_forgetNames 17 = .ok (.iadd, 1) := by decide +kernel
theorem dX6_forgetNames_18 : decode cX6_forgetNames 18 = .ok (.iconst 0, 1) := by decide +kernel
theorem dX6_forgetNames_19 : decode cX6_forgetNames 19 = .ok (.invokestatic 184, 3) := by decide +kernel
theorem dX6_forgetNames_22 : decode cX6_forgetNames 22 = .ok (.iinc 2 1, 3) := by decide +kernel
theorem dX6_forgetNames_25 : decode cX6_forgetNames 25 = .ok (.goto (-23), 3) := by decide +kernel
theorem dX6_forgetNames_28 : decode cX6_forgetNames 28 = .ok (.return_, 1) := by decide +kernel
theorem dX6_forgetAllNames_0 : decode cX6_forgetAllNames 0 = .ok (.iconst 0, 1) := by decide +kernel
theorem dX6_forgetAllNames_1 : decode cX6_forgetAllNames 1 = .ok (.istore_n 2, 1) := by decide +kernel
theorem dX6_forgetAllNames_2 : decode cX6_forgetAllNames 2 = .ok (.iload_n 2, 1) := by decide +kernel
theorem dX6_forgetAllNames_3 : decode cX6_forgetAllNames 3 = .ok (.iconst 3, 1) := by decide +kernel
theorem dX6_forgetAllNames_4 : decode cX6_forgetAllNames 4 = .ok (.if_icmp .ge 18, 3) := by decide +kernel
theorem dX6_forgetAllNames_7 : decode cX6_forgetAllNames 7 = .ok (.aload_n 0, 1) := by decide +kernel
theorem dX6_forgetAllNames_8 : decode cX6_forgetAllNames 8 = .ok (.iload_n 1, 1) := by decide +kernel
theorem dX6_forgetAllNames_9 : decode cX6_forgetAllNames 9 = .ok (.iload_n 2, 1) := by decide +kernel
theorem dX6_forgetAllNames_10 : decode cX6_forgetAllNames 10 = .ok (.invokestatic 254, 3) := by decide +kernel
theorem dX6_forgetAllNames_13 : decode cX6_forgetAllNames 13 = .ok (.invokevirtual 278, 3) := by decide +kernel
theorem dX6_forgetAllNames_16 : decode cX6_forgetAllNames 16 = .ok (.iinc 2 1, 3) := by decide +kernel
theorem dX6_forgetAllNames_19 : decode cX6_forgetAllNames 19 = .ok (.goto (-17), 3) := by decide +kernel
theorem dX6_forgetAllNames_22 : decode cX6_forgetAllNames 22 = .ok (.return_, 1) := by decide +kernel
theorem dX6_writeAll_0 : decode cX6_writeAll 0 = .ok (.aload_n 0, 1) := by decide +kernel
theorem dX6_writeAll_1 : decode cX6_writeAll 1 = .ok (.invokevirtual 200, 3) := by decide +kernel
theorem dX6_writeAll_4 : decode cX6_writeAll 4 = .ok (.istore_n 3, 1) := by decide +kernel
theorem dX6_writeAll_5 : decode cX6_writeAll 5 = .ok (.iconst 0, 1) := by decide +kernel
theorem dX6_writeAll_6 : decode cX6_writeAll 6 = .ok (.istore 4, 2) := by decide +kernel
theorem dX6_writeAll_8 : decode cX6_writeAll 8 = .ok (.aload_n 0, 1) := by decide +kernel
theorem dX6_writeAll_9 : decode cX6_writeAll 9 = .ok (.getfield 52, 3) := by decide +kernel
theorem dX6_writeAll_12 : decode cX6_writeAll 12 = .ok (.invokevirtual 376, 3) := by decide +kernel
theorem dX6_writeAll_15 : decode cX6_writeAll 15 = .ok (.iconst 0, 1) := by decide +kernel
theorem dX6_writeAll_16 : decode cX6_writeAll 16 = .ok (.istore 5, 2) := by decide +kernel
theorem dX6_writeAll_18 : decode cX6_writeAll 18 = .ok (.iload 5, 2) := by decide +kernel
theorem dX6_writeAll_20 : decode cX6_writeAll 20 = .ok (.iload_n 3, 1) := by decide +kernel
theorem dX6_writeAll_21 : decode cX6_writeAll 21 = .ok (.if_icmp .ge 85, 3) := by decide +kernel
theorem dX6_writeAll_24 : decode cX6_writeAll 24 = .ok (.aload_n 0, 1) := by decide +kernel
theorem dX6_writeAll_25 : decode cX6_writeAll 25 = .ok (.getfield 67, 3) := by decide +kernel
theorem dX6_writeAll_28 : decode cX6_writeAll 28 = .ok (.iload 5, 2) := by decide +kernel
theorem dX6_writeAll_30 : decode cX6_writeAll 30 = .ok (.invokestatic 180, 3) := by decide +kernel
theorem dX6_writeAll_33 : decode cX6_writeAll 33 = .ok (.istore 6, 2) := by decide +kernel
theorem dX6_writeAll_35 : decode cX6_writeAll 35 = .ok (.iload 6, 2) := by decide +kernel
theorem dX6_writeAll_37 : decode cX6_writeAll 37 = .ok (.iload_n 2, 1) := by decide +kernel
theorem dX6_writeAll_38 : decode cX6_writeAll 38 = .ok (.invokestatic 254, 3) := by decide +kernel
theorem dX6_writeAll_41 : decode cX6_writeAll 41 = .ok (.istore 7, 2) := by decide +kernel
theorem dX6_writeAll_43 : decode cX6_writeAll 43 = .ok (.aload_n 0, 1) := by decide +kernel
theorem dX6_writeAll_44 : decode cX6_writeAll 44 = .ok (.getfield 26, 3) := by decide +kernel
theorem dX6_writeAll_47 : decode cX6_writeAll 47 = .ok (.iload 7, 2) := by decide +kernel
theorem dX6_writeAll_49 : decode cX6_writeAll 49 = .ok (.invokevirtual 211, 3) := by decide +kernel
theorem dX6_writeAll_52 : decode cX6_writeAll 52 = .ok (.ifCond .le 48, 3) := by decide +kernel
theorem dX6_writeAll_55 : decode cX6_writeAll 55 = .ok (.iinc 4 1, 3) := by decide +kernel
theorem dX6_writeAll_58 : decode cX6_writeAll 58 = .ok (.aload_n 0, 1) := by decide +kernel
theorem dX6_writeAll_59 : decode cX6_writeAll 59 = .ok (.getfield 45, 3) := by decide +kernel
theorem dX6_writeAll_62 : decode cX6_writeAll 62 = .ok (.aload_n 0, 1) := by decide +kernel
theorem dX6_writeAll_63 : decode cX6_writeAll 63 = .ok (.getfield 26, 3) := by decide +kernel
theorem dX6_writeAll_66 : decode cX6_writeAll 66 = .ok (.iload 7, 2) := by decide +kernel
theorem dX6_writeAll_68 : decode cX6_writeAll 68 = .ok (.aload_n 0, 1) := by decide +kernel
theorem dX6_writeAll_69 : decode cX6_writeAll 69 = .ok (.getfield 74, 3) := by decide +kernel
theorem dX6_writeAll_72 : decode cX6_writeAll 72 = .ok (.invokevirtual 234, 3) := by decide +kernel
theorem dX6_writeAll_75 : decode cX6_writeAll 75 = .ok (.iload_n 1, 1) := by decide +kernel
theorem dX6_writeAll_76 : decode cX6_writeAll 76 = .ok (.ifCond .ne 16, 3) := by decide +kernel
theorem dX6_writeAll_79 : decode cX6_writeAll 79 = .ok (.aload_n 0, 1) := by decide +kernel
theorem dX6_writeAll_80 : decode cX6_writeAll 80 = .ok (.iload 6, 2) := by decide +kernel
theorem dX6_writeAll_82 : decode cX6_writeAll 82 = .ok (.iload 7, 2) := by decide +kernel
theorem dX6_writeAll_84 : decode cX6_writeAll 84 = .ok (.iload 4, 2) := by decide +kernel
theorem dX6_writeAll_86 : decode cX6_writeAll 86 = .ok (.invokevirtual 379, 3) := by decide +kernel
theorem dX6_writeAll_89 : decode cX6_writeAll 89 = .ok (.goto 11, 3) := by decide +kernel
theorem dX6_writeAll_92 : decode cX6_writeAll 92 = .ok (.aload_n 0, 1) := by decide +kernel
theorem dX6_writeAll_93 : decode cX6_writeAll 93 = .ok (.iload 6, 2) := by decide +kernel
theorem dX6_writeAll_95 : decode cX6_writeAll 95 = .ok (.iload 7, 2) := by decide +kernel
theorem dX6_writeAll_97 : decode cX6_writeAll 97 = .ok (.invokevirtual 382, 3) := by decide +kernel
theorem dX6_writeAll_100 : decode cX6_writeAll 100 = .ok (.iinc 5 1, 3) := by decide +kernel
theorem dX6_writeAll_103 : decode cX6_writeAll 103 = .ok (.goto (-85), 3) := by decide +kernel
theorem dX6_writeAll_106 : decode cX6_writeAll 106 = .ok (.return_, 1) := by decide +kernel
theorem dX6_writeNumbered_0 : decode cX6_writeNumbered 0 = .ok (.aload_n 0, 1) := by decide +kernel
theorem dX6_writeNumbered_1 : decode cX6_writeNumbered 1 = .ok (.getfield 56, 3) := by decide +kernel
theorem dX6_writeNumbered_4 : decode cX6_writeNumbered 4 = .ok (.iload_n 1, 1) := by decide +kernel
theorem dX6_writeNumbered_5 : decode cX6_writeNumbered 5 = .ok (.invokestatic 180, 3) := by decide +kernel
theorem dX6_writeNumbered_8 : decode cX6_writeNumbered 8 = .ok (.iconst 2, 1) := by decide +kernel
theorem dX6_writeNumbered_9 : decode cX6_writeNumbered 9 = .ok (.if_icmp .ne 7, 3) := by decide +kernel
theorem dX6_writeNumbered_12 : decode cX6_writeNumbered 12 = .ok (.iconst 1, 1) := by decide +kernel
theorem dX6_writeNumbered_13 : decode cX6_writeNumbered 13 = .ok (.goto 4, 3) := by decide +kernel
theorem dX6_writeNumbered_16 : decode cX6_writeNumbered 16 = .ok (.iconst 0, 1) := by decide +kernel
theorem dX6_writeNumbered_17 : decode cX6_writeNumbered 17 = .ok (.istore 4, 2) := by decide +kernel
theorem dX6_writeNumbered_19 : decode cX6_writeNumbered 19 = .ok (.aload_n 0, 1) := by decide +kernel
theorem dX6_writeNumbered_20 : decode cX6_writeNumbered 20 = .ok (.getfield 52, 3) := by decide +kernel
theorem dX6_writeNumbered_23 : decode cX6_writeNumbered 23 = .ok (.iload_n 3, 1) := by decide +kernel
theorem dX6_writeNumbered_24 : decode cX6_writeNumbered 24 = .ok (.invokevirtual 385, 3) := by decide +kernel
theorem dX6_writeNumbered_27 : decode cX6_writeNumbered 27 = .ok (.aload_n 0, 1) := by decide +kernel
theorem dX6_writeNumbered_28 : decode cX6_writeNumbered 28 = .ok (.getfield 52, 3) := by decide +kernel
theorem dX6_writeNumbered_31 : decode cX6_writeNumbered 31 = .ok (.bipush 10, 2) := by decide +kernel
theorem dX6_writeNumbered_33 : decode cX6_writeNumbered 33 = .ok (.invokevirtual 388, 3) := by decide +kernel
theorem dX6_writeNumbered_36 : decode cX6_writeNumbered 36 = .ok (.aload_n 0, 1) := by decide +kernel
theorem dX6_writeNumbered_37 : decode cX6_writeNumbered 37 = .ok (.aload_n 0, 1) := by decide +kernel
theorem dX6_writeNumbered_38 : decode cX6_writeNumbered 38 = .ok (.getfield 19, 3) := by decide +kernel
theorem dX6_writeNumbered_41 : decode cX6_writeNumbered 41 = .ok (.iload_n 1, 1) := by decide +kernel
theorem dX6_writeNumbered_42 : decode cX6_writeNumbered 42 = .ok (.invokevirtual 169, 3) := by decide +kernel
theorem dX6_writeNumbered_45 : decode cX6_writeNumbered 45 = .ok (.invokevirtual 391, 3) := by decide +kernel
theorem dX6_writeNumbered_48 : decode cX6_writeNumbered 48 = .ok (.aload_n 0, 1) := by decide +kernel
theorem dX6_writeNumbered_49 : decode cX6_writeNumbered 49 = .ok (.getfield 52, 3) := by decide +kernel
theorem dX6_writeNumbered_52 : decode cX6_writeNumbered 52 = .ok (.bipush 32, 2) := by decide +kernel
theorem dX6_writeNumbered_54 : decode cX6_writeNumbered 54 = .ok (.invokevirtual 388, 3) := by decide +kernel
theorem dX6_writeNumbered_57 : decode cX6_writeNumbered 57 = .ok (.aload_n 0, 1) := by decide +kernel
theorem dX6_writeNumbered_58 : decode cX6_writeNumbered 58 = .ok (.getfield 52, 3) := by decide +kernel
theorem dX6_writeNumbered_61 : decode cX6_writeNumbered 61 = .ok (.bipush 62, 2) := by decide +kernel
theorem dX6_writeNumbered_63 : decode cX6_writeNumbered 63 = .ok (.invokevirtual 388, 3) := by decide +kernel
theorem dX6_writeNumbered_66 : decode cX6_writeNumbered 66 = .ok (.aload_n 0, 1) := by decide +kernel
theorem dX6_writeNumbered_67 : decode cX6_writeNumbered 67 = .ok (.getfield 52, 3) := by decide +kernel
theorem dX6_writeNumbered_70 : decode cX6_writeNumbered 70 = .ok (.bipush 32, 2) := by decide +kernel
theorem dX6_writeNumbered_72 : decode cX6_writeNumbered 72 = .ok (.invokevirtual 388, 3) := by decide +kernel
theorem dX6_writeNumbered_75 : decode cX6_writeNumbered 75 = .ok (.aload_n 0, 1) := by decide +kernel
theorem dX6_writeNumbered_76 : decode cX6_writeNumbered 76 = .ok (.aload_n 0, 1) := by decide +kernel
theorem dX6_writeNumbered_77 : decode cX6_writeNumbered 77 = .ok (.getfield 19, 3) := by decide +kernel
theorem dX6_writeNumbered_80 : decode cX6_writeNumbered 80 = .ok (.iload_n 1, 1) := by decide +kernel
theorem dX6_writeNumbered_81 : decode cX6_writeNumbered 81 = .ok (.invokevirtual 372, 3) := by decide +kernel
theorem dX6_writeNumbered_84 : decode cX6_writeNumbered 84 = .ok (.invokevirtual 391, 3) := by decide +kernel
theorem dX6_writeNumbered_87 : decode cX6_writeNumbered 87 = .ok (.aload_n 0, 1) := by decide +kernel
theorem dX6_writeNumbered_88 : decode cX6_writeNumbered 88 = .ok (.getfield 52, 3) := by decide +kernel
theorem dX6_writeNumbered_91 : decode cX6_writeNumbered 91 = .ok (.bipush 10, 2) := by decide +kernel
theorem dX6_writeNumbered_93 : decode cX6_writeNumbered 93 = .ok (.invokevirtual 388, 3) := by decide +kernel
theorem dX6_writeNumbered_96 : decode cX6_writeNumbered 96 = .ok (.iload 4, 2) := by decide +kernel
theorem dX6_writeNumbered_98 : decode cX6_writeNumbered 98 = .ok (.ifCond .eq 22, 3) := by decide +kernel
theorem dX6_writeNumbered_101 : decode cX6_writeNumbered 101 = .ok (.aload_n 0, 1) := by decide +kernel
theorem dX6_writeNumbered_102 : decode cX6_writeNumbered 102 = .ok (.getfield 52, 3) := by decide +kernel
theorem dX6_writeNumbered_105 : decode cX6_writeNumbered 105 = .ok (.sipush 9834, 3) := by decide +kernel
theorem dX6_writeNumbered_108 : decode cX6_writeNumbered 108 = .ok (.invokevirtual 388, 3) := by decide +kernel
theorem dX6_writeNumbered_111 : decode cX6_writeNumbered 111 = .ok (.aload_n 0, 1) := by decide +kernel
theorem dX6_writeNumbered_112 : decode cX6_writeNumbered 112 = .ok (.getfield 52, 3) := by decide +kernel
theorem dX6_writeNumbered_115 : decode cX6_writeNumbered 115 = .ok (.bipush 32, 2) := by decide +kernel
theorem dX6_writeNumbered_117 : decode cX6_writeNumbered 117 = .ok (.invokevirtual 388, 3) := by decide +kernel
theorem dX6_writeNumbered_120 : decode cX6_writeNumbered 120 = .ok (.aload_n 0, 1) := by decide +kernel
theorem dX6_writeNumbered_121 : decode cX6_writeNumbered 121 = .ok (.iload_n 2, 1) := by decide +kernel
theorem dX6_writeNumbered_122 : decode cX6_writeNumbered 122 = .ok (.bipush 10, 2) := by decide +kernel
theorem dX6_writeNumbered_124 : decode cX6_writeNumbered 124 = .ok (.invokevirtual 394, 3) := by decide +kernel
theorem dX6_writeNumbered_127 : decode cX6_writeNumbered 127 = .ok (.iload 4, 2) := by decide +kernel
theorem dX6_writeNumbered_129 : decode cX6_writeNumbered 129 = .ok (.ifCond .eq 22, 3) := by decide +kernel
theorem dX6_writeNumbered_132 : decode cX6_writeNumbered 132 = .ok (.aload_n 0, 1) := by decide +kernel
theorem dX6_writeNumbered_133 : decode cX6_writeNumbered 133 = .ok (.getfield 52, 3) := by decide +kernel
theorem dX6_writeNumbered_136 : decode cX6_writeNumbered 136 = .ok (.bipush 32, 2) := by decide +kernel
theorem dX6_writeNumbered_138 : decode cX6_writeNumbered 138 = .ok (.invokevirtual 388, 3) := by decide +kernel
theorem dX6_writeNumbered_141 : decode cX6_writeNumbered 141 = .ok (.aload_n 0, 1) := by decide +kernel
theorem dX6_writeNumbered_142 : decode cX6_writeNumbered 142 = .ok (.getfield 52, 3) := by decide +kernel
theorem dX6_writeNumbered_145 : decode cX6_writeNumbered 145 = .ok (.sipush 9834, 3) := by decide +kernel
theorem dX6_writeNumbered_148 : decode cX6_writeNumbered 148 = .ok (.invokevirtual 388, 3) := by decide +kernel
theorem dX6_writeNumbered_151 : decode cX6_writeNumbered 151 = .ok (.aload_n 0, 1) := by decide +kernel
theorem dX6_writeNumbered_152 : decode cX6_writeNumbered 152 = .ok (.getfield 52, 3) := by decide +kernel
theorem dX6_writeNumbered_155 : decode cX6_writeNumbered 155 = .ok (.bipush 10, 2) := by decide +kernel
theorem dX6_writeNumbered_157 : decode cX6_writeNumbered 157 = .ok (.invokevirtual 388, 3) := by decide +kernel
theorem dX6_writeNumbered_160 : decode cX6_writeNumbered 160 = .ok (.aload_n 0, 1) := by decide +kernel
theorem dX6_writeNumbered_161 : decode cX6_writeNumbered 161 = .ok (.getfield 52, 3) := by decide +kernel
theorem dX6_writeNumbered_164 : decode cX6_writeNumbered 164 = .ok (.bipush 10, 2) := by decide +kernel
theorem dX6_writeNumbered_166 : decode cX6_writeNumbered 166 = .ok (.invokevirtual 388, 3) := by decide +kernel
theorem dX6_writeNumbered_169 : decode cX6_writeNumbered 169 = .ok (.return_, 1) := by decide +kernel
theorem dX6_writeBraced_0 : decode cX6_writeBraced 0 = .ok (.aload_n 0, 1) := by decide +kernel
theorem dX6_writeBraced_1 : decode cX6_writeBraced 1 = .ok (.getfield 56, 3) := by decide +kernel
theorem dX6_writeBraced_4 : decode cX6_writeBraced 4 = .ok (.iload_n 1, 1) := by decide +kernel
theorem dX6_writeBraced_5 : decode cX6_writeBraced 5 = .ok (.invokestatic 180, 3) := by decide +kernel
theorem dX6_writeBraced_8 : decode cX6_writeBraced 8 = .ok (.istore_n 3, 1) := by decide +kernel
theorem dX6_writeBraced_9 : decode cX6_writeBraced 9 = .ok (.aload_n 0, 1) := by decide +kernel
theorem dX6_writeBraced_10 : decode cX6_writeBraced 10 = .ok (.aload_n 0, 1) := by decide +kernel
theorem dX6_writeBraced_11 : decode cX6_writeBraced 11 = .ok (.getfield 19, 3) := by decide +kernel
theorem dX6_writeBraced_14 : decode cX6_writeBraced 14 = .ok (.iload_n 1, 1) := by decide +kernel
theorem dX6_writeBraced_15 : decode cX6_writeBraced 15 = .ok (.invokevirtual 169, 3) := by decide +kernel
theorem dX6_writeBraced_18 : decode cX6_writeBraced 18 = .ok (.invokevirtual 397, 3) := by decide +kernel
theorem dX6_writeBraced_21 : decode cX6_writeBraced 21 = .ok (.aload_n 0, 1) := by decide +kernel
theorem dX6_writeBraced_22 : decode cX6_writeBraced 22 = .ok (.aload_n 0, 1) := by decide +kernel
theorem dX6_writeBraced_23 : decode cX6_writeBraced 23 = .ok (.getfield 19, 3) := by decide +kernel
theorem dX6_writeBraced_26 : decode cX6_writeBraced 26 = .ok (.iload_n 1, 1) := by decide +kernel
theorem dX6_writeBraced_27 : decode cX6_writeBraced 27 = .ok (.invokevirtual 372, 3) := by decide +kernel
theorem dX6_writeBraced_30 : decode cX6_writeBraced 30 = .ok (.invokevirtual 397, 3) := by decide +kernel
theorem dX6_writeBraced_33 : decode cX6_writeBraced 33 = .ok (.iload_n 3, 1) := by decide +kernel
theorem dX6_writeBraced_34 : decode cX6_writeBraced 34 = .ok (.iconst 2, 1) := by decide +kernel
theorem dX6_writeBraced_35 : decode cX6_writeBraced 35 = .ok (.if_icmp .ne 12, 3) := by decide +kernel
theorem dX6_writeBraced_38 : decode cX6_writeBraced 38 = .ok (.aload_n 0, 1) := by decide +kernel
theorem dX6_writeBraced_39 : decode cX6_writeBraced 39 = .ok (.getfield 52, 3) := by decide +kernel
theorem dX6_writeBraced_42 : decode cX6_writeBraced 42 = .ok (.bipush 47, 2) := by decide +kernel
theorem dX6_writeBraced_44 : decode cX6_writeBraced 44 = .ok (.invokevirtual 388, 3) := by decide +kernel
theorem dX6_writeBraced_47 : decode cX6_writeBraced 47 = .ok (.iload_n 3, 1) := by decide +kernel
theorem dX6_writeBraced_48 : decode cX6_writeBraced 48 = .ok (.iconst 3, 1) := by decide +kernel
theorem dX6_writeBraced_49 : decode cX6_writeBraced 49 = .ok (.if_icmp .ne 12, 3) := by decide +kernel
theorem dX6_writeBraced_52 : decode cX6_writeBraced 52 = .ok (.aload_n 0, 1) := by decide +kernel
theorem dX6_writeBraced_53 : decode cX6_writeBraced 53 = .ok (.getfield 52, 3) := by decide +kernel
theorem dX6_writeBraced_56 : decode cX6_writeBraced 56 = .ok (.bipush 94, 2) := by decide +kernel
theorem dX6_writeBraced_58 : decode cX6_writeBraced 58 = .ok (.invokevirtual 388, 3) := by decide +kernel
theorem dX6_writeBraced_61 : decode cX6_writeBraced 61 = .ok (.aload_n 0, 1) := by decide +kernel
theorem dX6_writeBraced_62 : decode cX6_writeBraced 62 = .ok (.iload_n 2, 1) := by decide +kernel
theorem dX6_writeBraced_63 : decode cX6_writeBraced 63 = .ok (.bipush 124, 2) := by decide +kernel
theorem dX6_writeBraced_65 : decode cX6_writeBraced 65 = .ok (.invokevirtual 394, 3) := by decide +kernel
theorem dX6_writeBraced_68 : decode cX6_writeBraced 68 = .ok (.aload_n 0, 1) := by decide +kernel
theorem dX6_writeBraced_69 : decode cX6_writeBraced 69 = .ok (.getfield 52, 3) := by decide +kernel
theorem dX6_writeBraced_72 : decode cX6_writeBraced 72 = .ok (.bipush 10, 2) := by decide +kernel
theorem dX6_writeBraced_74 : decode cX6_writeBraced 74 = .ok (.invokevirtual 388, 3) := by decide +kernel
theorem dX6_writeBraced_77 : decode cX6_writeBraced 77 = .ok (.return_, 1) := by decide +kernel
theorem dX6_writeInBraces_0 : decode cX6_writeInBraces 0 = .ok (.aload_n 0, 1) := by decide +kernel
theorem dX6_writeInBraces_1 : decode cX6_writeInBraces 1 = .ok (.getfield 52, 3) := by decide +kernel
theorem dX6_writeInBraces_4 : decode cX6_writeInBraces 4 = .ok (.bipush 123, 2) := by decide +kernel
theorem dX6_writeInBraces_6 : decode cX6_writeInBraces 6 = .ok (.invokevirtual 388, 3) := by decide +kernel
theorem dX6_writeInBraces_9 : decode cX6_writeInBraces 9 = .ok (.aload_n 0, 1) := by decide +kernel
theorem dX6_writeInBraces_10 : decode cX6_writeInBraces 10 = .ok (.getfield 52, 3) := by decide +kernel
theorem dX6_writeInBraces_13 : decode cX6_writeInBraces 13 = .ok (.iload_n 1, 1) := by decide +kernel
theorem dX6_writeInBraces_14 : decode cX6_writeInBraces 14 = .ok (.invokevirtual 385, 3) := by decide +kernel
theorem dX6_writeInBraces_17 : decode cX6_writeInBraces 17 = .ok (.aload_n 0, 1) := by decide +kernel
theorem dX6_writeInBraces_18 : decode cX6_writeInBraces 18 = .ok (.getfield 52, 3) := by decide +kernel
theorem dX6_writeInBraces_21 : decode cX6_writeInBraces 21 = .ok (.bipush 125, 2) := by decide +kernel
theorem dX6_writeInBraces_23 : decode cX6_writeInBraces 23 = .ok (.invokevirtual 388, 3) := by decide +kernel
theorem dX6_writeInBraces_26 : decode cX6_writeInBraces 26 = .ok (.return_, 1) := by decide +kernel
theorem dX6_writeTime_0 : decode cX6_writeTime 0 = .ok (.aload_n 0, 1) := by decide +kernel
theorem dX6_writeTime_1 : decode cX6_writeTime 1 = .ok (.getfield 52, 3) := by decide +kernel
theorem dX6_writeTime_4 : decode cX6_writeTime 4 = .ok (.iload_n 1, 1) := by decide +kernel
theorem dX6_writeTime_5 : decode cX6_writeTime 5 = .ok (.sipush 1500, 3) := by decide +kernel
theorem dX6_writeTime_8 : decode cX6_writeTime 8 = .ok (.idiv, 1) := by decide +kernel
theorem dX6_writeTime_9 : decode cX6_writeTime 9 = .ok (.invokevirtual 385, 3) := by decide +kernel
theorem dX6_writeTime_12 : decode cX6_writeTime 12 = .ok (.aload_n 0, 1) := by decide +kernel
theorem dX6_writeTime_13 : decode cX6_writeTime 13 = .ok (.getfield 52, 3) := by decide +kernel
theorem dX6_writeTime_16 : decode cX6_writeTime 16 = .ok (.bipush 58, 2) := by decide +kernel
theorem dX6_writeTime_18 : decode cX6_writeTime 18 = .ok (.invokevirtual 388, 3) := by decide +kernel
theorem dX6_writeTime_21 : decode cX6_writeTime 21 = .ok (.aload_n 0, 1) := by decide +kernel
theorem dX6_writeTime_22 : decode cX6_writeTime 22 = .ok (.getfield 52, 3) := by decide +kernel
theorem dX6_writeTime_25 : decode cX6_writeTime 25 = .ok (.iload_n 1, 1) := by decide +kernel
theorem dX6_writeTime_26 : decode cX6_writeTime 26 = .ok (.bipush 25, 2) := by decide +kernel
theorem dX6_writeTime_28 : decode cX6_writeTime 28 = .ok (.idiv, 1) := by decide +kernel
theorem dX6_writeTime_29 : decode cX6_writeTime 29 = .ok (.bipush 60, 2) := by decide +kernel
theorem dX6_writeTime_31 : decode cX6_writeTime 31 = .ok (.irem, 1) := by decide +kernel
theorem dX6_writeTime_32 : decode cX6_writeTime 32 = .ok (.invokevirtual 400, 3) := by decide +kernel
theorem dX6_writeTime_35 : decode cX6_writeTime 35 = .ok (.aload_n 0, 1) := by decide +kernel
theorem dX6_writeTime_36 : decode cX6_writeTime 36 = .ok (.getfield 52, 3) := by decide +kernel
theorem dX6_writeTime_39 : decode cX6_writeTime 39 = .ok (.bipush 58, 2) := by decide +kernel
theorem dX6_writeTime_41 : decode cX6_writeTime 41 = .ok (.invokevirtual 388, 3) := by decide +kernel
theorem dX6_writeTime_44 : decode cX6_writeTime 44 = .ok (.aload_n 0, 1) := by decide +kernel
theorem dX6_writeTime_45 : decode cX6_writeTime 45 = .ok (.getfield 52, 3) := by decide +kernel
theorem dX6_writeTime_48 : decode cX6_writeTime 48 = .ok (.iload_n 1, 1) := by decide +kernel
theorem dX6_writeTime_49 : decode cX6_writeTime 49 = .ok (.bipush 25, 2) := by decide +kernel
theorem dX6_writeTime_51 : decode cX6_writeTime 51 = .ok (.irem, 1) := by decide +kernel
theorem dX6_writeTime_52 : decode cX6_writeTime 52 = .ok (.invokevirtual 400, 3) := by decide +kernel
theorem dX6_writeTime_55 : decode cX6_writeTime 55 = .ok (.return_, 1) := by decide +kernel
theorem dX6_writeRows_0 : decode cX6_writeRows 0 = .ok (.iconst 0, 1) := by decide +kernel
theorem dX6_writeRows_1 : decode cX6_writeRows 1 = .ok (.istore_n 3, 1) := by decide +kernel
theorem dX6_writeRows_2 : decode cX6_writeRows 2 = .ok (.iload_n 3, 1) := by decide +kernel
theorem dX6_writeRows_3 : decode cX6_writeRows 3 = .ok (.aload_n 0, 1) := by decide +kernel
theorem dX6_writeRows_4 : decode cX6_writeRows 4 = .ok (.getfield 45, 3) := by decide +kernel
theorem dX6_writeRows_7 : decode cX6_writeRows 7 = .ok (.invokevirtual 238, 3) := by decide +kernel
theorem dX6_writeRows_10 : decode cX6_writeRows 10 = .ok (.if_icmp .ge 67, 3) := by decide +kernel
theorem dX6_writeRows_13 : decode cX6_writeRows 13 = .ok (.iload_n 3, 1) := by decide +kernel
theorem dX6_writeRows_14 : decode cX6_writeRows 14 = .ok (.ifCond .le 11, 3) := by decide +kernel
theorem dX6_writeRows_17 : decode cX6_writeRows 17 = .ok (.aload_n 0, 1) := by decide +kernel
theorem dX6_writeRows_18 : decode cX6_writeRows 18 = .ok (.getfield 52, 3) := by decide +kernel
theorem dX6_writeRows_21 : decode cX6_writeRows 21 = .ok (.iload_n 2, 1) := by decide +kernel
theorem dX6_writeRows_22 : decode cX6_writeRows 22 = .ok (.invokevirtual 388, 3) := by decide +kernel
theorem dX6_writeRows_25 : decode cX6_writeRows 25 = .ok (.aload_n 0, 1) := by decide +kernel
theorem dX6_writeRows_26 : decode cX6_writeRows 26 = .ok (.getfield 45, 3) := by decide +kernel
theorem dX6_writeRows_29 : decode cX6_writeRows 29 = .ok (.iload_n 3, 1) := by decide +kernel
theorem dX6_writeRows_30 : decode cX6_writeRows 30 = .ok (.invokevirtual 243, 3) := by decide +kernel
theorem dX6_writeRows_33 : decode cX6_writeRows 33 = .ok (.istore 4, 2) := by decide +kernel
theorem dX6_writeRows_35 : decode cX6_writeRows 35 = .ok (.iload 4, 2) := by decide +kernel
theorem dX6_writeRows_37 : decode cX6_writeRows 37 = .ok (.aload_n 0, 1) := by decide +kernel
theorem dX6_writeRows_38 : decode cX6_writeRows 38 = .ok (.getfield 45, 3) := by decide +kernel
theorem dX6_writeRows_41 : decode cX6_writeRows 41 = .ok (.iload_n 3, 1) := by decide +kernel
theorem dX6_writeRows_42 : decode cX6_writeRows 42 = .ok (.invokevirtual 246, 3) := by decide +kernel
theorem dX6_writeRows_45 : decode cX6_writeRows 45 = .ok (.if_icmp .ge 26, 3) := by decide +kernel
theorem dX6_writeRows_48 : decode cX6_writeRows 48 = .ok (.aload_n 0, 1) := by decide +kernel
theorem dX6_writeRows_49 : decode cX6_writeRows 49 = .ok (.getfield 52, 3) := by decide +kernel
theorem dX6_writeRows_52 : decode cX6_writeRows 52 = .ok (.aload_n 0, 1) := by decide +kernel
theorem dX6_writeRows_53 : decode cX6_writeRows 53 = .ok (.getfield 26, 3) := by decide +kernel
theorem dX6_writeRows_56 : decode cX6_writeRows 56 = .ok (.iload_n 1, 1) := by decide +kernel
theorem dX6_writeRows_57 : decode cX6_writeRows 57 = .ok (.iload 4, 2) := by decide +kernel
theorem dX6_writeRows_59 : decode cX6_writeRows 59 = .ok (.invokevirtual 228, 3) := by decide +kernel
theorem dX6_writeRows_62 : decode cX6_writeRows 62 = .ok (.invokevirtual 388, 3) := by decide +kernel
theorem dX6_writeRows_65 : decode cX6_writeRows 65 = .ok (.iinc 4 1, 3) := by decide +kernel
theorem dX6_writeRows_68 : decode cX6_writeRows 68 = .ok (.goto (-33), 3) := by decide +kernel
theorem dX6_writeRows_71 : decode cX6_writeRows 71 = .ok (.iinc 3 1, 3) := by decide +kernel
theorem dX6_writeRows_74 : decode cX6_writeRows 74 = .ok (.goto (-72), 3) := by decide +kernel
theorem dX6_writeRows_77 : decode cX6_writeRows 77 = .ok (.return_, 1) := by decide +kernel
theorem dJ6_bitCount_0f7a4_0 : decode cJ6_bitCount_0f7a4 0 = .ok (.iload_n 0, 1) := by decide +kernel
theorem dJ6_bitCount_0f7a4_1 : decode cJ6_bitCount_0f7a4 1 = .ok (.iload_n 0, 1) := by decide +kernel
theorem dJ6_bitCount_0f7a4_2 : decode cJ6_bitCount_0f7a4 2 = .ok (.iconst 1, 1) := by decide +kernel
theorem dJ6_bitCount_0f7a4_3 : decode cJ6_bitCount_0f7a4 3 = .ok (.iushr, 1) := by decide +kernel
theorem dJ6_bitCount_0f7a4_4 : decode cJ6_bitCount_0f7a4 4 = .ok (.ldc_w 265, 3) := by decide +kernel
theorem dJ6_bitCount_0f7a4_7 : decode cJ6_bitCount_0f7a4 7 = .ok (.iand, 1) := by decide +kernel
theorem dJ6_bitCount_0f7a4_8 : decode cJ6_bitCount_0f7a4 8 = .ok (.isub, 1) := by decide +kernel
theorem dJ6_bitCount_0f7a4_9 : decode cJ6_bitCount_0f7a4 9 = .ok (.istore_n 0, 1) := by decide +kernel
theorem dJ6_bitCount_0f7a4_10 : decode cJ6_bitCount_0f7a4 10 = .ok (.iload_n 0, 1) := by decide +kernel
theorem dJ6_bitCount_0f7a4_11 : decode cJ6_bitCount_0f7a4 11 = .ok (.ldc_w 266, 3) := by decide +kernel
theorem dJ6_bitCount_0f7a4_14 : decode cJ6_bitCount_0f7a4 14 = .ok (.iand, 1) := by decide +kernel
theorem dJ6_bitCount_0f7a4_15 : decode cJ6_bitCount_0f7a4 15 = .ok (.iload_n 0, 1) := by decide +kernel
theorem dJ6_bitCount_0f7a4_16 : decode cJ6_bitCount_0f7a4 16 = .ok (.iconst 2, 1) := by decide +kernel
theorem dJ6_bitCount_0f7a4_17 : decode cJ6_bitCount_0f7a4 17 = .ok (.iushr, 1) := by decide +kernel
theorem dJ6_bitCount_0f7a4_18 : decode cJ6_bitCount_0f7a4 18 = .ok (.ldc_w 266, 3) := by decide +kernel
theorem dJ6_bitCount_0f7a4_21 : decode cJ6_bitCount_0f7a4 21 = .ok (.iand, 1) := by decide +kernel
theorem dJ6_bitCount_0f7a4_22 : decode cJ6_bitCount_0f7a4 22 = .ok (.iadd, 1) := by decide +kernel
theorem dJ6_bitCount_0f7a4_23 : decode cJ6_bitCount_0f7a4 23 = .ok (.istore_n 0, 1) := by decide +kernel
theorem dJ6_bitCount_0f7a4_24 : decode cJ6_bitCount_0f7a4 24 = .ok (.iload_n 0, 1) := by decide +kernel
theorem dJ6_bitCount_0f7a4_25 : decode cJ6_bitCount_0f7a4 25 = .ok (.iload_n 0, 1) := by decide +kernel
theorem dJ6_bitCount_0f7a4_26 : decode cJ6_bitCount_0f7a4 26 = .ok (.iconst 4, 1) := by decide +kernel
theorem dJ6_bitCount_0f7a4_27 : decode cJ6_bitCount_0f7a4 27 = .ok (.iushr, 1) := by decide +kernel
theorem dJ6_bitCount_0f7a4_28 : decode cJ6_bitCount_0f7a4 28 = .ok (.iadd, 1) := by decide +kernel
theorem dJ6_bitCount_0f7a4_29 : decode cJ6_bitCount_0f7a4 29 = .ok (.ldc_w 267, 3) := by decide +kernel
theorem dJ6_bitCount_0f7a4_32 : decode cJ6_bitCount_0f7a4 32 = .ok (.iand, 1) := by decide +kernel
theorem dJ6_bitCount_0f7a4_33 : decode cJ6_bitCount_0f7a4 33 = .ok (.istore_n 0, 1) := by decide +kernel
theorem dJ6_bitCount_0f7a4_34 : decode cJ6_bitCount_0f7a4 34 = .ok (.iload_n 0, 1) := by decide +kernel
theorem dJ6_bitCount_0f7a4_35 : decode cJ6_bitCount_0f7a4 35 = .ok (.iload_n 0, 1) := by decide +kernel
theorem dJ6_bitCount_0f7a4_36 : decode cJ6_bitCount_0f7a4 36 = .ok (.bipush 8, 2) := by decide +kernel
theorem dJ6_bitCount_0f7a4_38 : decode cJ6_bitCount_0f7a4 38 = .ok (.iushr, 1) := by decide +kernel
theorem dJ6_bitCount_0f7a4_39 : decode cJ6_bitCount_0f7a4 39 = .ok (.iadd, 1) := by decide +kernel
theorem dJ6_bitCount_0f7a4_40 : decode cJ6_bitCount_0f7a4 40 = .ok (.istore_n 0, 1) := by decide +kernel
theorem dJ6_bitCount_0f7a4_41 : decode cJ6_bitCount_0f7a4 41 = .ok (.iload_n 0, 1) := by decide +kernel
theorem dJ6_bitCount_0f7a4_42 : decode cJ6_bitCount_0f7a4 42 = .ok (.iload_n 0, 1) := by decide +kernel
theorem dJ6_bitCount_0f7a4_43 : decode cJ6_bitCount_0f7a4 43 = .ok (.bipush 16, 2) := by decide +kernel
theorem dJ6_bitCount_0f7a4_45 : decode cJ6_bitCount_0f7a4 45 = .ok (.iushr, 1) := by decide +kernel
theorem dJ6_bitCount_0f7a4_46 : decode cJ6_bitCount_0f7a4 46 = .ok (.iadd, 1) := by decide +kernel
theorem dJ6_bitCount_0f7a4_47 : decode cJ6_bitCount_0f7a4 47 = .ok (.istore_n 0, 1) := by decide +kernel
theorem dJ6_bitCount_0f7a4_48 : decode cJ6_bitCount_0f7a4 48 = .ok (.iload_n 0, 1) := by decide +kernel
theorem dJ6_bitCount_0f7a4_49 : decode cJ6_bitCount_0f7a4 49 = .ok (.bipush 63, 2) := by decide +kernel
theorem dJ6_bitCount_0f7a4_51 : decode cJ6_bitCount_0f7a4 51 = .ok (.iand, 1) := by decide +kernel
theorem dJ6_bitCount_0f7a4_52 : decode cJ6_bitCount_0f7a4 52 = .ok (.ireturn, 1) := by decide +kernel
theorem dJ9_abs_0f7a4_0 : decode cJ9_abs_0f7a4 0 = .ok (.iload_n 0, 1) := by decide +kernel
theorem dJ9_abs_0f7a4_1 : decode cJ9_abs_0f7a4 1 = .ok (.ifCond .ge 8, 3) := by decide +kernel
theorem dJ9_abs_0f7a4_4 : decode cJ9_abs_0f7a4 4 = .ok (.iload_n 0, 1) := by decide +kernel
theorem dJ9_abs_0f7a4_5 : decode cJ9_abs_0f7a4 5 = .ok (.ineg, 1) := by decide +kernel
theorem dJ9_abs_0f7a4_6 : decode cJ9_abs_0f7a4 6 = .ok (.goto 4, 3) := by decide +kernel
theorem dJ9_abs_0f7a4_9 : decode cJ9_abs_0f7a4 9 = .ok (.iload_n 0, 1) := by decide +kernel
theorem dJ9_abs_0f7a4_10 : decode cJ9_abs_0f7a4 10 = .ok (.ireturn, 1) := by decide +kernel
theorem dJ9_max_7cf53_0 : decode cJ9_max_7cf53 0 = .ok (.iload_n 0, 1) := by decide +kernel
theorem dJ9_max_7cf53_1 : decode cJ9_max_7cf53 1 = .ok (.iload_n 1, 1) := by decide +kernel
theorem dJ9_max_7cf53_2 : decode cJ9_max_7cf53 2 = .ok (.if_icmp .lt 7, 3) := by decide +kernel
theorem dJ9_max_7cf53_5 : decode cJ9_max_7cf53 5 = .ok (.iload_n 0, 1) := by decide +kernel
theorem dJ9_max_7cf53_6 : decode cJ9_max_7cf53 6 = .ok (.goto 4, 3) := by decide +kernel
theorem dJ9_max_7cf53_9 : decode cJ9_max_7cf53 9 = .ok (.iload_n 1, 1) := by decide +kernel
theorem dJ9_max_7cf53_10 : decode cJ9_max_7cf53 10 = .ok (.ireturn, 1) := by decide +kernel
theorem dJ9_min_7cf53_0 : decode cJ9_min_7cf53 0 = .ok (.iload_n 0, 1) := by decide +kernel
theorem dJ9_min_7cf53_1 : decode cJ9_min_7cf53 1 = .ok (.iload_n 1, 1) := by decide +kernel
theorem dJ9_min_7cf53_2 : decode cJ9_min_7cf53 2 = .ok (.if_icmp .gt 7, 3) := by decide +kernel
theorem dJ9_min_7cf53_5 : decode cJ9_min_7cf53 5 = .ok (.iload_n 0, 1) := by decide +kernel
theorem dJ9_min_7cf53_6 : decode cJ9_min_7cf53 6 = .ok (.goto 4, 3) := by decide +kernel
theorem dJ9_min_7cf53_9 : decode cJ9_min_7cf53 9 = .ok (.iload_n 1, 1) := by decide +kernel
theorem dJ9_min_7cf53_10 : decode cJ9_min_7cf53 10 = .ok (.ireturn, 1) := by decide +kernel
theorem dJ7_fill_53178_0 : decode cJ7_fill_53178 0 = .ok (.iconst 0, 1) := by decide +kernel
theorem dJ7_fill_53178_1 : decode cJ7_fill_53178 1 = .ok (.istore_n 2, 1) := by decide +kernel
theorem dJ7_fill_53178_2 : decode cJ7_fill_53178 2 = .ok (.aload_n 0, 1) := by decide +kernel
theorem dJ7_fill_53178_3 : decode cJ7_fill_53178 3 = .ok (.arraylength, 1) := by decide +kernel
theorem dJ7_fill_53178_4 : decode cJ7_fill_53178 4 = .ok (.istore_n 3, 1) := by decide +kernel
theorem dJ7_fill_53178_5 : decode cJ7_fill_53178 5 = .ok (.iload_n 2, 1) := by decide +kernel
theorem dJ7_fill_53178_6 : decode cJ7_fill_53178 6 = .ok (.iload_n 3, 1) := by decide +kernel
theorem dJ7_fill_53178_7 : decode cJ7_fill_53178 7 = .ok (.if_icmp .ge 13, 3) := by decide +kernel
theorem dJ7_fill_53178_10 : decode cJ7_fill_53178 10 = .ok (.aload_n 0, 1) := by decide +kernel
theorem dJ7_fill_53178_11 : decode cJ7_fill_53178 11 = .ok (.iload_n 2, 1) := by decide +kernel
theorem dJ7_fill_53178_12 : decode cJ7_fill_53178 12 = .ok (.iload_n 1, 1) := by decide +kernel
theorem dJ7_fill_53178_13 : decode cJ7_fill_53178 13 = .ok (.iastore, 1) := by decide +kernel
theorem dJ7_fill_53178_14 : decode cJ7_fill_53178 14 = .ok (.iinc 2 1, 3) := by decide +kernel
theorem dJ7_fill_53178_17 : decode cJ7_fill_53178 17 = .ok (.goto (-12), 3) := by decide +kernel
theorem dJ7_fill_53178_20 : decode cJ7_fill_53178 20 = .ok (.return_, 1) := by decide +kernel
end
section
theorem dX7_init_0 : decode cX7_init 0 = .ok (.aload_n 0, 1) := by decide +kernel
theorem dX7_init_1 : decode cX7_init 1 = .ok (.invokespecial 1, 3) := by decide +kernel
theorem dX7_init_4 : decode cX7_init 4 = .ok (.aload_n 0, 1) := by decide +kernel
theorem dX7_init_5 : decode cX7_init 5 = .ok (.bipush 12, 2) := by decide +kernel
theorem dX7_init_7 : decode cX7_init 7 = .ok (.newarray .int, 2) := by decide +kernel
theorem dX7_init_9 : decode cX7_init 9 = .ok (.putfield 7, 3) := by decide +kernel
theorem dX7_init_12 : decode cX7_init 12 = .ok (.aload_n 0, 1) := by decide +kernel
theorem dX7_init_13 : decode cX7_init 13 = .ok (.sipush 4800, 3) := by decide +kernel
theorem dX7_init_16 : decode cX7_init 16 = .ok (.newarray .int, 2) := by decide +kernel
theorem dX7_init_18 : decode cX7_init 18 = .ok (.putfield 13, 3) := by decide +kernel
theorem dX7_init_21 : decode cX7_init 21 = .ok (.aload_n 0, 1) := by decide +kernel
theorem dX7_init_22 : decode cX7_init 22 = .ok (.sipush 4800, 3) := by decide +kernel
theorem dX7_init_25 : decode cX7_init 25 = .ok (.newarray .int, 2) := by decide +kernel
theorem dX7_init_27 : decode cX7_init 27 = .ok (.putfield 16, 3) := by decide +kernel
theorem dX7_init_30 : decode cX7_init 30 = .ok (.aload_n 0, 1) := by decide +kernel
theorem dX7_init_31 : decode cX7_init 31 = .ok (.sipush 4800, 3) := by decide +kernel
theorem dX7_init_34 : decode cX7_init 34 = .ok (.newarray .int, 2) := by decide +kernel
theorem dX7_init_36 : decode cX7_init 36 = .ok (.putfield 19, 3) := by decide +kernel
theorem dX7_init_39 : decode cX7_init 39 = .ok (.aload_n 0, 1) := by decide +kernel
theorem dX7_init_40 : decode cX7_init 40 = .ok (.sipush 4800, 3) := by decide +kernel
theorem dX7_init_43 : decode cX7_init 43 = .ok (.newarray .int, 2) := by decide +kernel
theorem dX7_init_45 : decode cX7_init 45 = .ok (.putfield 22, 3) := by decide +kernel
theorem dX7_init_48 : decode cX7_init 48 = .ok (.aload_n 0, 1) := by decide +kernel
theorem dX7_init_49 : decode cX7_init 49 = .ok (.bipush 16, 2) := by decide +kernel
theorem dX7_init_51 : decode cX7_init 51 = .ok (.newarray .int, 2) := by decide +kernel
theorem dX7_init_53 : decode cX7_init 53 = .ok (.putfield 25, 3) := by decide +kernel
theorem dX7_init_56 : decode cX7_init 56 = .ok (.aload_n 0, 1) := by decide +kernel
theorem dX7_init_57 : decode cX7_init 57 = .ok (.bipush 16, 2) := by decide +kernel
theorem dX7_init_59 : decode cX7_init 59 = .ok (.newarray .int, 2) := by decide +kernel
theorem dX7_init_61 : decode cX7_init 61 = .ok (.putfield 28, 3) := by decide +kernel
theorem dX7_init_64 : decode cX7_init 64 = .ok (.aload_n 0, 1) := by decide +kernel
theorem dX7_init_65 : decode cX7_init 65 = .ok (.bipush 16, 2) := by decide +kernel
theorem dX7_init_67 : decode cX7_init 67 = .ok (.newarray .int, 2) := by decide +kernel
theorem dX7_init_69 : decode cX7_init 69 = .ok (.putfield 31, 3) := by decide +kernel
theorem dX7_init_72 : decode cX7_init 72 = .ok (.aload_n 0, 1) := by decide +kernel
theorem dX7_init_73 : decode cX7_init 73 = .ok (.bipush 16, 2) := by decide +kernel
theorem dX7_init_75 : decode cX7_init 75 = .ok (.newarray .int, 2) := by decide +kernel
theorem dX7_init_77 : decode cX7_init 77 = .ok (.putfield 34, 3) := by decide +kernel
theorem dX7_init_80 : decode cX7_init 80 = .ok (.aload_n 0, 1) := by decide +kernel
theorem dX7_init_81 : decode cX7_init 81 = .ok (.bipush 16, 2) := by decide +kernel
theorem dX7_init_83 : decode cX7_init 83 = .ok (.newarray .int, 2) := by decide +kernel
theorem dX7_init_85 : decode cX7_init 85 = .ok (.putfield 37, 3) := by decide +kernel
theorem dX7_init_88 : decode cX7_init 88 = .ok (.aload_n 0, 1) := by decide +kernel
theorem dX7_init_89 : decode cX7_init 89 = .ok (.bipush 48, 2) := by decide +kernel
theorem dX7_init_91 : decode cX7_init 91 = .ok (.newarray .int, 2) := by decide +kernel
theorem dX7_init_93 : decode cX7_init 93 = .ok (.putfield 40, 3) := by decide +kernel
theorem dX7_init_96 : decode cX7_init 96 = .ok (.aload_n 0, 1) := by decide +kernel
theorem dX7_init_97 : decode cX7_init 97 = .ok (.sipush 2880, 3) := by decide +kernel
theorem dX7_init_100 : decode cX7_init 100 = .ok (.newarray .int, 2) := by decide +kernel
theorem dX7_init_102 : decode cX7_init 102 = .ok (.putfield 43, 3) := by decide +kernel
theorem dX7_init_105 : decode cX7_init 105 = .ok (.aload_n 0, 1) := by decide +kernel
theorem dX7_init_106 : decode cX7_init 106 = .ok (.bipush 48, 2) := by decide +kernel
theorem dX7_init_108 : decode cX7_init 108 = .ok (.newarray .int, 2) := by decide +kernel
theorem dX7_init_110 : decode cX7_init 110 = .ok (.putfield 46, 3) := by decide +kernel
theorem dX7_init_113 : decode cX7_init 113 = .ok (.aload_n 0, 1) := by decide +kernel
theorem dX7_init_114 : decode cX7_init 114 = .ok (.sipush 384, 3) := by decide +kernel
theorem dX7_init_117 : decode cX7_init 117 = .ok (.newarray .int, 2) := by decide +kernel
theorem dX7_init_119 : decode cX7_init 119 = .ok (.putfield 49, 3) := by decide +kernel
theorem dX7_init_122 : decode cX7_init 122 = .ok (.aload_n 0, 1) := by decide +kernel
theorem dX7_init_123 : decode cX7_init 123 = .ok (.iconst 2, 1) := by decide +kernel
theorem dX7_init_124 : decode cX7_init 124 = .ok (.newarray .int, 2) := by decide +kernel
theorem dX7_init_126 : decode cX7_init 126 = .ok (.putfield 52, 3) := by decide +kernel
theorem dX7_init_129 : decode cX7_init 129 = .ok (.aload_n 0, 1) := by decide +kernel
theorem dX7_init_130 : decode cX7_init 130 = .ok (.bipush 18, 2) := by decide +kernel
theorem dX7_init_132 : decode cX7_init 132 = .ok (.newarray .int, 2) := by decide +kernel
theorem dX7_init_134 : decode cX7_init 134 = .ok (.putfield 55, 3) := by decide +kernel
theorem dX7_init_137 : decode cX7_init 137 = .ok (.aload_n 0, 1) := by decide +kernel
theorem dX7_init_138 : decode cX7_init 138 = .ok (.sipush 1080, 3) := by decide +kernel
theorem dX7_init_141 : decode cX7_init 141 = .ok (.newarray .int, 2) := by decide +kernel
theorem dX7_init_143 : decode cX7_init 143 = .ok (.putfield 58, 3) := by decide +kernel
theorem dX7_init_146 : decode cX7_init 146 = .ok (.aload_n 0, 1) := by decide +kernel
theorem dX7_init_147 : decode cX7_init 147 = .ok (.bipush 18, 2) := by decide +kernel
theorem dX7_init_149 : decode cX7_init 149 = .ok (.newarray .int, 2) := by decide +kernel
theorem dX7_init_151 : decode cX7_init 151 = .ok (.putfield 61, 3) := by decide +kernel
theorem dX7_init_154 : decode cX7_init 154 = .ok (.aload_n 0, 1) := by decide +kernel
theorem dX7_init_155 : decode cX7_init 155 = .ok (.sipush 1080, 3) := by decide +kernel
theorem dX7_init_158 : decode cX7_init 158 = .ok (.newarray .int, 2) := by decide +kernel
theorem dX7_init_160 : decode cX7_init 160 = .ok (.putfield 64, 3) := by decide +kernel
theorem dX7_init_163 : decode cX7_init 163 = .ok (.aload_n 0, 1) := by decide +kernel
theorem dX7_init_164 : decode cX7_init 164 = .ok (.bipush 18, 2) := by decide +kernel
theorem dX7_init_166 : decode cX7_init 166 = .ok (.newarray .int, 2) := by decide +kernel
theorem dX7_init_168 : decode cX7_init 168 = .ok (.putfield 67, 3) := by decide +kernel
theorem dX7_init_171 : decode cX7_init 171 = .ok (.aload_n 0, 1) := by decide +kernel
theorem dX7_init_172 : decode cX7_init 172 = .ok (.bipush 32, 2) := by decide +kernel
theorem dX7_init_174 : decode cX7_init 174 = .ok (.putfield 70, 3) := by decide +kernel
theorem dX7_init_177 : decode cX7_init 177 = .ok (.aload_n 0, 1) := by decide +kernel
theorem dX7_init_178 : decode cX7_init 178 = .ok (.bipush 15, 2) := by decide +kernel
theorem dX7_init_180 : decode cX7_init 180 = .ok (.putfield 74, 3) := by decide +kernel
theorem dX7_init_183 : decode cX7_init 183 = .ok (.aload_n 0, 1) := by decide +kernel
theorem dX7_init_184 : decode cX7_init 184 = .ok (.bipush 64, 2) := by decide +kernel
theorem dX7_init_186 : decode cX7_init 186 = .ok (.newarray .int, 2) := by decide +kernel
theorem dX7_init_188 : decode cX7_init 188 = .ok (.putfield 77, 3) := by decide +kernel
theorem dX7_init_191 : decode cX7_init 191 = .ok (.aload_n 0, 1) := by decide +kernel
theorem dX7_init_192 : decode cX7_init 192 = .ok (.bipush 64, 2) := by decide +kernel
theorem dX7_init_194 : decode cX7_init 194 = .ok (.newarray .int, 2) := by decide +kernel
theorem dX7_init_196 : decode cX7_init 196 = .ok (.putfield 80, 3) := by decide +kernel
theorem dX7_init_199 : decode cX7_init 199 = .ok (.aload_n 0, 1) := by decide +kernel
theorem dX7_init_200 : decode cX7_init 200 = .ok (.sipush 6000, 3) := by decide +kernel
theorem dX7_init_203 : decode cX7_init 203 = .ok (.newarray .char, 2) := by decide +kernel
theorem dX7_init_205 : decode cX7_init 205 = .ok (.putfield 83, 3) := by decide +kernel
theorem dX7_init_208 : decode cX7_init 208 = .ok (.return_, 1) := by decide +kernel
theorem dX7_thrown_0 : decode cX7_thrown 0 = .ok (.aload_n 0, 1) := by decide +kernel
theorem dX7_thrown_1 : decode cX7_thrown 1 = .ok (.getfield 87, 3) := by decide +kernel
theorem dX7_thrown_4 : decode cX7_thrown 4 = .ok (.ireturn, 1) := by decide +kernel
theorem dX7_in_0 : decode cX7_in 0 = .ok (.iload_n 0, 1) := by decide +kernel
theorem dX7_in_1 : decode cX7_in 1 = .ok (.iload_n 1, 1) := by decide +kernel
theorem dX7_in_2 : decode cX7_in 2 = .ok (.if_icmp .lt 12, 3) := by decide +kernel
theorem dX7_in_5 : decode cX7_in 5 = .ok (.iload_n 0, 1) := by decide +kernel
theorem dX7_in_6 : decode cX7_in 6 = .ok (.iload_n 2, 1) := by decide +kernel
theorem dX7_in_7 : decode cX7_in 7 = .ok (.if_icmp .gt 7, 3) := by decide +kernel
theorem dX7_in_10 : decode cX7_in 10 = .ok (.iconst 1, 1) := by decide +kernel
theorem dX7_in_11 : decode cX7_in 11 = .ok (.goto 4, 3) := by decide +kernel
theorem dX7_in_14 : decode cX7_in 14 = .ok (.iconst 0, 1) := by decide +kernel
theorem dX7_in_15 : decode cX7_in 15 = .ok (.ireturn, 1) := by decide +kernel
theorem dX7_isFrame_0 : decode cX7_isFrame 0 = .ok (.iload_n 1, 1) := by decide +kernel
theorem dX7_isFrame_1 : decode cX7_isFrame 1 = .ok (.iconst 0, 1) := by decide +kernel
theorem dX7_isFrame_2 : decode cX7_isFrame 2 = .ok (.aload_n 0, 1) := by decide +kernel
theorem dX7_isFrame_3 : decode cX7_isFrame 3 = .ok (.getfield 90, 3) := by decide +kernel
theorem dX7_isFrame_6 : decode cX7_isFrame 6 = .ok (.iconst 1, 1) := by decide +kernel
theorem dX7_isFrame_7 : decode cX7_isFrame 7 = .ok (.isub, 1) := by decide +kernel
theorem dX7_isFrame_8 : decode cX7_isFrame 8 = .ok (.invokestatic 93, 3) := by decide +kernel
theorem dX7_isFrame_11 : decode cX7_isFrame 11 = .ok (.ifCond .eq 23, 3) := by decide +kernel
theorem dX7_isFrame_14 : decode cX7_isFrame 14 = .ok (.iload_n 2, 1) := by decide +kernel
theorem dX7_isFrame_15 : decode cX7_isFrame 15 = .ok (.iconst 0, 1) := by decide +kernel
theorem dX7_isFrame_16 : decode cX7_isFrame 16 = .ok (.aload_n 0, 1) := by decide +kernel
theorem dX7_isFrame_17 : decode cX7_isFrame 17 = .ok (.getfield 7, 3) := by decide +kernel
theorem dX7_isFrame_20 : decode cX7_isFrame 20 = .ok (.iload_n 1, 1) := by decide +kernel
theorem dX7_isFrame_21 : decode cX7_isFrame 21 = .ok (.iaload, 1) := by decide +kernel
theorem dX7_isFrame_22 : decode cX7_isFrame 22 = .ok (.iconst 1, 1) := by decide +kernel
theorem dX7_isFrame_23 : decode cX7_isFrame 23 = .ok (.isub, 1) := by decide +kernel
theorem dX7_isFrame_24 : decode cX7_isFrame 24 = .ok (.invokestatic 93, 3) := by decide +kernel
theorem dX7_isFrame_27 : decode cX7_isFrame 27 = .ok (.ifCond .eq 7, 3) := by decide +kernel
theorem dX7_isFrame_30 : decode cX7_isFrame 30 = .ok (.iconst 1, 1) := by decide +kernel
theorem dX7_isFrame_31 : decode cX7_isFrame 31 = .ok (.goto 4, 3) := by decide +kernel
theorem dX7_isFrame_34 : decode cX7_isFrame 34 = .ok (.iconst 0, 1) := by decide +kernel
theorem dX7_isFrame_35 : decode cX7_isFrame 35 = .ok (.ireturn, 1) := by decide +kernel
theorem dX7_isPlace_0 : decode cX7_isPlace 0 = .ok (.iload_n 1, 1) := by decide +kernel
theorem dX7_isPlace_1 : decode cX7_isPlace 1 = .ok (.iconst 0, 1) := by decide +kernel
theorem dX7_isPlace_2 : decode cX7_isPlace 2 = .ok (.aload_n 0, 1) := by decide +kernel
theorem dX7_isPlace_3 : decode cX7_isPlace 3 = .ok (.getfield 97, 3) := by decide +kernel
theorem dX7_isPlace_6 : decode cX7_isPlace 6 = .ok (.iconst 1, 1) := by decide +kernel
theorem dX7_isPlace_7 : decode cX7_isPlace 7 = .ok (.isub, 1) := by decide +kernel
theorem dX7_isPlace_8 : decode cX7_isPlace 8 = .ok (.invokestatic 93, 3) := by decide +kernel
theorem dX7_isPlace_11 : decode cX7_isPlace 11 = .ok (.ireturn, 1) := by decide +kernel
theorem dX7_isCaption_0 : decode cX7_isCaption 0 = .ok (.iload_n 1, 1) := by decide +kernel
theorem dX7_isCaption_1 : decode cX7_isCaption 1 = .ok (.iconst 0, 1) := by decide +kernel
theorem dX7_isCaption_2 : decode cX7_isCaption 2 = .ok (.aload_n 0, 1) := by decide +kernel
theorem dX7_isCaption_3 : decode cX7_isCaption 3 = .ok (.getfield 100, 3) := by decide +kernel
theorem dX7_isCaption_6 : decode cX7_isCaption 6 = .ok (.iconst 1, 1) := by decide +kernel
theorem dX7_isCaption_7 : decode cX7_isCaption 7 = .ok (.isub, 1) := by decide +kernel
theorem dX7_isCaption_8 : decode cX7_isCaption 8 = .ok (.invokestatic 93, 3) := by decide +kernel
theorem dX7_isCaption_11 : decode cX7_isCaption 11 = .ok (.ireturn, 1) := by decide +kernel
theorem dX7_isText_0 : decode cX7_isText 0 = .ok (.aload_n 0, 1) := by decide +kernel
theorem dX7_isText_1 : decode cX7_isText 1 = .ok (.iload_n 1, 1) := by decide +kernel
theorem dX7_isText_2 : decode cX7_isText 2 = .ok (.invokevirtual 103, 3) := by decide +kernel
theorem dX7_isText_5 : decode cX7_isText 5 = .ok (.ifCond .eq 16, 3) := by decide +kernel
theorem dX7_isText_8 : decode cX7_isText 8 = .ok (.iload_n 2, 1) := by decide +kernel
theorem dX7_isText_9 : decode cX7_isText 9 = .ok (.iconst 0, 1) := by decide +kernel
theorem dX7_isText_10 : decode cX7_isText 10 = .ok (.iconst 2, 1) := by decide +kernel
theorem dX7_isText_11 : decode cX7_isText 11 = .ok (.invokestatic 93, 3) := by decide +kernel
theorem dX7_isText_14 : decode cX7_isText 14 = .ok (.ifCond .eq 7, 3) := by decide +kernel
theorem dX7_isText_17 : decode cX7_isText 17 = .ok (.iconst 1, 1) := by decide +kernel
theorem dX7_isText_18 : decode cX7_isText 18 = .ok (.goto 4, 3) := by decide +kernel
theorem dX7_isText_21 : decode cX7_isText 21 = .ok (.iconst 0, 1) := by decide +kernel
theorem dX7_isText_22 : decode cX7_isText 22 = .ok (.ireturn, 1) := by decide +kernel
theorem dX7_findsPlaces_0 : decode cX7_findsPlaces 0 = .ok (.iconst 0, 1) := by decide +kernel
theorem dX7_findsPlaces_1 : decode cX7_findsPlaces 1 = .ok (.istore_n 1, 1) := by decide +kernel
theorem dX7_findsPlaces_2 : decode cX7_findsPlaces 2 = .ok (.iload_n 1, 1) := by decide +kernel
theorem dX7_findsPlaces_3 : decode cX7_findsPlaces 3 = .ok (.sipush 400, 3) := by decide +kernel
theorem dX7_findsPlaces_6 : decode cX7_findsPlaces 6 = .ok (.aload_n 0, 1) := by decide +kernel
theorem dX7_findsPlaces_7 : decode cX7_findsPlaces 7 = .ok (.getfield 90, 3) := by decide +kernel
theorem dX7_findsPlaces_10 : decode cX7_findsPlaces 10 = .ok (.imul, 1) := by decide +kernel
theorem dX7_findsPlaces_11 : decode cX7_findsPlaces 11 = .ok (.if_icmp .ge 16, 3) := by decide +kernel
theorem dX7_findsPlaces_14 : decode cX7_findsPlaces 14 = .ok (.aload_n 0, 1) := by decide +kernel
theorem dX7_findsPlaces_15 : decode cX7_findsPlaces 15 = .ok (.getfield 13, 3) := by decide +kernel
theorem dX7_findsPlaces_18 : decode cX7_findsPlaces 18 = .ok (.iload_n 1, 1) := by decide +kernel
theorem dX7_findsPlaces_19 : decode cX7_findsPlaces 19 = .ok (.iconst (-1), 1) := by decide +kernel
theorem dX7_findsPlaces_20 : decode cX7_findsPlaces 20 = .ok (.iastore, 1) := by decide +kernel
theorem dX7_findsPlaces_21 : decode cX7_findsPlaces 21 = .ok (.iinc 1 1, 3) := by decide +kernel
theorem dX7_findsPlaces_24 : decode cX7_findsPlaces 24 = .ok (.goto (-22), 3) := by decide +kernel
theorem dX7_findsPlaces_27 : decode cX7_findsPlaces 27 = .ok (.iconst 0, 1) := by decide +kernel
theorem dX7_findsPlaces_28 : decode cX7_findsPlaces 28 = .ok (.istore_n 1, 1) := by decide +kernel
theorem dX7_findsPlaces_29 : decode cX7_findsPlaces 29 = .ok (.iload_n 1, 1) := by decide +kernel
theorem dX7_findsPlaces_30 : decode cX7_findsPlaces 30 = .ok (.aload_n 0, 1) := by decide +kernel
theorem dX7_findsPlaces_31 : decode cX7_findsPlaces 31 = .ok (.getfield 97, 3) := by decide +kernel
theorem dX7_findsPlaces_34 : decode cX7_findsPlaces 34 = .ok (.if_icmp .ge 21, 3) := by decide +kernel
theorem dX7_findsPlaces_37 : decode cX7_findsPlaces 37 = .ok (.aload_n 0, 1) := by decide +kernel
theorem dX7_findsPlaces_38 : decode cX7_findsPlaces 38 = .ok (.getfield 13, 3) := by decide +kernel
theorem dX7_findsPlaces_41 : decode cX7_findsPlaces 41 = .ok (.aload_n 0, 1) := by decide +kernel
theorem dX7_findsPlaces_42 : decode cX7_findsPlaces 42 = .ok (.getfield 19, 3) := by decide +kernel
theorem dX7_findsPlaces_45 : decode cX7_findsPlaces 45 = .ok (.iload_n 1, 1) := by decide +kernel
theorem dX7_findsPlaces_46 : decode cX7_findsPlaces 46 = .ok (.iaload, 1) := by decide +kernel
theorem dX7_findsPlaces_47 : decode cX7_findsPlaces 47 = .ok (.iload_n 1, 1) := by decide +kernel
theorem dX7_findsPlaces_48 : decode cX7_findsPlaces 48 = .ok (.iastore, 1) := by decide +kernel
theorem dX7_findsPlaces_49 : decode cX7_findsPlaces 49 = .ok (.iinc 1 1, 3) := by decide +kernel
theorem dX7_findsPlaces_52 : decode cX7_findsPlaces 52 = .ok (.goto (-23), 3) := by decide +kernel
theorem dX7_findsPlaces_55 : decode cX7_findsPlaces 55 = .ok (.return_, 1) := by decide +kernel
theorem dX7_findsTime_0 : decode cX7_findsTime 0 = .ok (.aload_n 0, 1) := by decide +kernel
theorem dX7_findsTime_1 : decode cX7_findsTime 1 = .ok (.getfield 28, 3) := by decide +kernel
theorem dX7_findsTime_4 : decode cX7_findsTime 4 = .ok (.iload_n 1, 1) := by decide +kernel
theorem dX7_findsTime_5 : decode cX7_findsTime 5 = .ok (.iconst (-1), 1) := by decide +kernel
theorem dX7_findsTime_6 : decode cX7_findsTime 6 = .ok (.iastore, 1) := by decide +kernel
theorem dX7_findsTime_7 : decode cX7_findsTime 7 = .ok (.aload_n 0, 1) := by decide +kernel
theorem dX7_findsTime_8 : decode cX7_findsTime 8 = .ok (.getfield 31, 3) := by decide +kernel
theorem dX7_findsTime_11 : decode cX7_findsTime 11 = .ok (.iload_n 1, 1) := by decide +kernel
theorem dX7_findsTime_12 : decode cX7_findsTime 12 = .ok (.iconst 0, 1) := by decide +kernel
theorem dX7_findsTime_13 : decode cX7_findsTime 13 = .ok (.iastore, 1) := by decide +kernel
theorem dX7_findsTime_14 : decode cX7_findsTime 14 = .ok (.iconst 0, 1) := by decide +kernel
theorem dX7_findsTime_15 : decode cX7_findsTime 15 = .ok (.istore_n 2, 1) := by decide +kernel
theorem dX7_findsTime_16 : decode cX7_findsTime 16 = .ok (.iconst 0, 1) := by decide +kernel
theorem dX7_findsTime_17 : decode cX7_findsTime 17 = .ok (.istore_n 3, 1) := by decide +kernel
theorem dX7_findsTime_18 : decode cX7_findsTime 18 = .ok (.iload_n 3, 1) := by decide +kernel
theorem dX7_findsTime_19 : decode cX7_findsTime 19 = .ok (.aload_n 0, 1) := by decide +kernel
theorem dX7_findsTime_20 : decode cX7_findsTime 20 = .ok (.getfield 97, 3) := by decide +kernel
theorem dX7_findsTime_23 : decode cX7_findsTime 23 = .ok (.if_icmp .ge 64, 3) := by decide +kernel
theorem dX7_findsTime_26 : decode cX7_findsTime 26 = .ok (.aload_n 0, 1) := by decide +kernel
theorem dX7_findsTime_27 : decode cX7_findsTime 27 = .ok (.getfield 16, 3) := by decide +kernel
theorem dX7_findsTime_30 : decode cX7_findsTime 30 = .ok (.aload_n 0, 1) := by decide +kernel
theorem dX7_findsTime_31 : decode cX7_findsTime 31 = .ok (.getfield 19, 3) := by decide +kernel
theorem dX7_findsTime_34 : decode cX7_findsTime 34 = .ok (.iload_n 3, 1) := by decide +kernel
theorem dX7_findsTime_35 : decode cX7_findsTime 35 = .ok (.iaload, 1) := by decide +kernel
theorem dX7_findsTime_36 : decode cX7_findsTime 36 = .ok (.iaload, 1) := by decide +kernel
theorem dX7_findsTime_37 : decode cX7_findsTime 37 = .ok (.iload_n 1, 1) := by decide +kernel
theorem dX7_findsTime_38 : decode cX7_findsTime 38 = .ok (.ishr, 1) := by decide +kernel
theorem dX7_findsTime_39 : decode cX7_findsTime 39 = .ok (.iconst 1, 1) := by decide +kernel
theorem dX7_findsTime_40 : decode cX7_findsTime 40 = .ok (.iand, 1) := by decide +kernel
theorem dX7_findsTime_41 : decode cX7_findsTime 41 = .ok (.iconst 1, 1) := by decide +kernel
theorem dX7_findsTime_42 : decode cX7_findsTime 42 = .ok (.if_icmp .ne 9, 3) := by decide +kernel
theorem dX7_findsTime_45 : decode cX7_findsTime 45 = .ok (.iload_n 2, 1) := by decide +kernel
theorem dX7_findsTime_46 : decode cX7_findsTime 46 = .ok (.iconst 1, 1) := by decide +kernel
theorem dX7_findsTime_47 : decode cX7_findsTime 47 = .ok (.iadd, 1) := by decide +kernel
theorem dX7_findsTime_48 : decode cX7_findsTime 48 = .ok (.goto 4, 3) := by decide +kernel
theorem dX7_findsTime_51 : decode cX7_findsTime 51 = .ok (.iconst 0, 1) := by decide +kernel
theorem dX7_findsTime_52 : decode cX7_findsTime 52 = .ok (.istore_n 2, 1) := by decide +kernel
theorem dX7_findsTime_53 : decode cX7_findsTime 53 = .ok (.iload_n 2, 1) := by decide +kernel
theorem dX7_findsTime_54 : decode cX7_findsTime 54 = .ok (.aload_n 0, 1) := by decide +kernel
theorem dX7_findsTime_55 : decode cX7_findsTime 55 = .ok (.getfield 31, 3) := by decide +kernel
theorem dX7_findsTime_58 : decode cX7_findsTime 58 = .ok (.iload_n 1, 1) := by decide +kernel
theorem dX7_findsTime_59 : decode cX7_findsTime 59 = .ok (.iaload, 1) := by decide +kernel
theorem dX7_findsTime_60 : decode cX7_findsTime 60 = .ok (.if_icmp .le 21, 3) := by decide +kernel
theorem dX7_findsTime_63 : decode cX7_findsTime 63 = .ok (.aload_n 0, 1) := by decide +kernel
theorem dX7_findsTime_64 : decode cX7_findsTime 64 = .ok (.getfield 31, 3) := by decide +kernel
theorem dX7_findsTime_67 : decode cX7_findsTime 67 = .ok (.iload_n 1, 1) := by decide +kernel
theorem dX7_findsTime_68 : decode cX7_findsTime 68 = .ok (.iload_n 2, 1) := by decide +kernel
theorem dX7_findsTime_69 : decode cX7_findsTime 69 = .ok (.iastore, 1) := by decide +kernel
theorem dX7_findsTime_70 : decode cX7_findsTime 70 = .ok (.aload_n 0, 1) := by decide +kernel
theorem dX7_findsTime_71 : decode cX7_findsTime 71 = .ok (.getfield 28, 3) := by decide +kernel
theorem dX7_findsTime_74 : decode cX7_findsTime 74 = .ok (.iload_n 1, 1) := by decide +kernel
theorem dX7_findsTime_75 : decode cX7_findsTime 75 = .ok (.iload_n 3, 1) := by decide +kernel
theorem dX7_findsTime_76 : decode cX7_findsTime 76 = .ok (.iload_n 2, 1) := by decide +kernel
theorem dX7_findsTime_77 : decode cX7_findsTime 77 = .ok (.isub, 1) := by decide +kernel
theorem dX7_findsTime_78 : decode cX7_findsTime 78 = .ok (.iconst 1, 1) := by decide +kernel
theorem dX7_findsTime_79 : decode cX7_findsTime 79 = .ok (.iadd, 1) := by decide +kernel
theorem dX7_findsTime_80 : decode cX7_findsTime 80 = .ok (.iastore, 1) := by decide +kernel
theorem dX7_findsTime_81 : decode cX7_findsTime 81 = .ok (.iinc 3 1, 3) := by decide +kernel
theorem dX7_findsTime_84 : decode cX7_findsTime 84 = .ok (.goto (-66), 3) := by decide +kernel
theorem dX7_findsTime_87 : decode cX7_findsTime 87 = .ok (.return_, 1) := by decide +kernel
theorem dX7_settles_0 : decode cX7_settles 0 = .ok (.aload_n 0, 1) := by decide +kernel
theorem dX7_settles_1 : decode cX7_settles 1 = .ok (.invokevirtual 107, 3) := by decide +kernel
theorem dX7_settles_4 : decode cX7_settles 4 = .ok (.iconst 0, 1) := by decide +kernel
theorem dX7_settles_5 : decode cX7_settles 5 = .ok (.istore_n 1, 1) := by decide +kernel
theorem dX7_settles_6 : decode cX7_settles 6 = .ok (.iload_n 1, 1) := by decide +kernel
theorem dX7_settles_7 : decode cX7_settles 7 = .ok (.aload_n 0, 1) := by decide +kernel
theorem dX7_settles_8 : decode cX7_settles 8 = .ok (.getfield 100, 3) := by decide +kernel
theorem dX7_settles_11 : decode cX7_settles 11 = .ok (.if_icmp .ge 14, 3) := by decide +kernel
theorem dX7_settles_14 : decode cX7_settles 14 = .ok (.aload_n 0, 1) := by decide +kernel
theorem dX7_settles_15 : decode cX7_settles 15 = .ok (.iload_n 1, 1) := by decide +kernel
theorem dX7_settles_16 : decode cX7_settles 16 = .ok (.invokevirtual 110, 3) := by decide +kernel
theorem dX7_settles_19 : decode cX7_settles 19 = .ok (.iinc 1 1, 3) := by decide +kernel
theorem dX7_settles_22 : decode cX7_settles 22 = .ok (.goto (-16), 3) := by decide +kernel
theorem dX7_settles_25 : decode cX7_settles 25 = .ok (.return_, 1) := by decide +kernel
theorem dX7_addShot_0 : decode cX7_addShot 0 = .ok (.aload_n 0, 1) := by decide +kernel
theorem dX7_addShot_1 : decode cX7_addShot 1 = .ok (.iload_n 1, 1) := by decide +kernel
theorem dX7_addShot_2 : decode cX7_addShot 2 = .ok (.iconst 1, 1) := by decide +kernel
theorem dX7_addShot_3 : decode cX7_addShot 3 = .ok (.sipush 400, 3) := by decide +kernel
theorem dX7_addShot_6 : decode cX7_addShot 6 = .ok (.invokestatic 93, 3) := by decide +kernel
theorem dX7_addShot_9 : decode cX7_addShot 9 = .ok (.ifCond .ne 7, 3) := by decide +kernel
theorem dX7_addShot_12 : decode cX7_addShot 12 = .ok (.iconst 1, 1) := by decide +kernel
theorem dX7_addShot_13 : decode cX7_addShot 13 = .ok (.goto 17, 3) := by decide +kernel
theorem dX7_addShot_16 : decode cX7_addShot 16 = .ok (.aload_n 0, 1) := by decide +kernel
theorem dX7_addShot_17 : decode cX7_addShot 17 = .ok (.getfield 90, 3) := by decide +kernel
theorem dX7_addShot_20 : decode cX7_addShot 20 = .ok (.bipush 12, 2) := by decide +kernel
theorem dX7_addShot_22 : decode cX7_addShot 22 = .ok (.if_icmp .ne 7, 3) := by decide +kernel
theorem dX7_addShot_25 : decode cX7_addShot 25 = .ok (.iconst 2, 1) := by decide +kernel
theorem dX7_addShot_26 : decode cX7_addShot 26 = .ok (.goto 4, 3) := by decide +kernel
theorem dX7_addShot_29 : decode cX7_addShot 29 = .ok (.iconst 0, 1) := by decide +kernel
theorem dX7_addShot_30 : decode cX7_addShot 30 = .ok (.putfield 87, 3) := by decide +kernel
theorem dX7_addShot_33 : decode cX7_addShot 33 = .ok (.aload_n 0, 1) := by decide +kernel
theorem dX7_addShot_34 : decode cX7_addShot 34 = .ok (.getfield 87, 3) := by decide +kernel
theorem dX7_addShot_37 : decode cX7_addShot 37 = .ok (.ifCond .le 5, 3) := by decide +kernel
theorem dX7_addShot_40 : decode cX7_addShot 40 = .ok (.iconst 0, 1) := by decide +kernel
theorem dX7_addShot_41 : decode cX7_addShot 41 = .ok (.ireturn, 1) := by decide +kernel
theorem dX7_addShot_42 : decode cX7_addShot 42 = .ok (.aload_n 0, 1) := by decide +kernel
theorem dX7_addShot_43 : decode cX7_addShot 43 = .ok (.getfield 7, 3) := by decide +kernel
theorem dX7_addShot_46 : decode cX7_addShot 46 = .ok (.aload_n 0, 1) := by decide +kernel
theorem dX7_addShot_47 : decode cX7_addShot 47 = .ok (.getfield 90, 3) := by decide +kernel
theorem dX7_addShot_50 : decode cX7_addShot 50 = .ok (.iload_n 1, 1) := by decide +kernel
theorem dX7_addShot_51 : decode cX7_addShot 51 = .ok (.iastore, 1) := by decide +kernel
theorem dX7_addShot_52 : decode cX7_addShot 52 = .ok (.iconst 0, 1) := by decide +kernel
theorem dX7_addShot_53 : decode cX7_addShot 53 = .ok (.istore_n 2, 1) := by decide +kernel
theorem dX7_addShot_54 : decode cX7_addShot 54 = .ok (.iload_n 2, 1) := by decide +kernel
theorem dX7_addShot_55 : decode cX7_addShot 55 = .ok (.iload_n 1, 1) := by decide +kernel
theorem dX7_addShot_56 : decode cX7_addShot 56 = .ok (.if_icmp .ge 54, 3) := by decide +kernel
theorem dX7_addShot_59 : decode cX7_addShot 59 = .ok (.aload_n 0, 1) := by decide +kernel
theorem dX7_addShot_60 : decode cX7_addShot 60 = .ok (.getfield 16, 3) := by decide +kernel
theorem dX7_addShot_63 : decode cX7_addShot 63 = .ok (.sipush 400, 3) := by decide +kernel
theorem dX7_addShot_66 : decode cX7_addShot 66 = .ok (.aload_n 0, 1) := by decide +kernel
theorem dX7_addShot_67 : decode cX7_addShot 67 = .ok (.getfield 90, 3) := by decide +kernel
theorem dX7_addShot_70 : decode cX7_addShot 70 = .ok (.imul, 1) := by decide +kernel
theorem dX7_addShot_71 : decode cX7_addShot 71 = .ok (.iload_n 2, 1) := by decide +kernel
theorem dX7_addShot_72 : decode cX7_addShot 72 = .ok (.iadd, 1) := by decide +kernel
theorem dX7_addShot_73 : decode cX7_addShot 73 = .ok (.iconst 0, 1) := by decide +kernel
theorem dX7_addShot_74 : decode cX7_addShot 74 = .ok (.iastore, 1) := by decide +kernel
theorem dX7_addShot_75 : decode cX7_addShot 75 = .ok (.aload_n 0, 1) := by decide +kernel
theorem dX7_addShot_76 : decode cX7_addShot 76 = .ok (.getfield 19, 3) := by decide +kernel
theorem dX7_addShot_79 : decode cX7_addShot 79 = .ok (.aload_n 0, 1) := by decide +kernel
theorem dX7_addShot_80 : decode cX7_addShot 80 = .ok (.getfield 97, 3) := by decide +kernel
theorem dX7_addShot_83 : decode cX7_addShot 83 = .ok (.sipush 400, 3) := by decide +kernel
theorem dX7_addShot_86 : decode cX7_addShot 86 = .ok (.aload_n 0, 1) := by decide +kernel
theorem dX7_addShot_87 : decode cX7_addShot 87 = .ok (.getfield 90, 3) := by decide +kernel
theorem dX7_addShot_90 : decode cX7_addShot 90 = .ok (.imul, 1) := by decide +kernel
theorem dX7_addShot_91 : decode cX7_addShot 91 = .ok (.iload_n 2, 1) := by decide +kernel
theorem dX7_addShot_92 : decode cX7_addShot 92 = .ok (.iadd, 1) := by decide +kernel
theorem dX7_addShot_93 : decode cX7_addShot 93 = .ok (.iastore, 1) := by decide +kernel
theorem dX7_addShot_94 : decode cX7_addShot 94 = .ok (.aload_n 0, 1) := by decide +kernel
theorem dX7_addShot_95 : decode cX7_addShot 95 = .ok (.dup, 1) := by decide +kernel
theorem dX7_addShot_96 : decode cX7_addShot 96 = .ok (.getfield 97, 3) := by decide +kernel
theorem dX7_addShot_99 : decode cX7_addShot 99 = .ok (.iconst 1, 1) := by decide +kernel
theorem dX7_addShot_100 : decode cX7_addShot 100 = .ok (.iadd, 1) := by decide +kernel
theorem dX7_addShot_101 : decode cX7_addShot 101 = .ok (.putfield 97, 3) := by decide +kernel
theorem dX7_addShot_104 : decode cX7_addShot 104 = .ok (.iinc 2 1, 3) := by decide +kernel
theorem dX7_addShot_107 : decode cX7_addShot 107 = .ok (.goto (-53), 3) := by decide +kernel
theorem dX7_addShot_110 : decode cX7_addShot 110 = .ok (.aload_n 0, 1) := by decide +kernel
theorem dX7_addShot_111 : decode cX7_addShot 111 = .ok (.dup, 1) := by decide +kernel
theorem dX7_addShot_112 : decode cX7_addShot 112 = .ok (.getfield 90, 3) := by decide +kernel
theorem dX7_addShot_115 : decode cX7_addShot 115 = .ok (.iconst 1, 1) := by decide +kernel
theorem dX7_addShot_116 : decode cX7_addShot 116 = .ok (.iadd, 1) := by decide +kernel
theorem dX7_addShot_117 : decode cX7_addShot 117 = .ok (.putfield 90, 3) := by decide +kernel
theorem dX7_addShot_120 : decode cX7_addShot 120 = .ok (.aload_n 0, 1) := by decide +kernel
theorem dX7_addShot_121 : decode cX7_addShot 121 = .ok (.invokevirtual 114, 3) := by decide +kernel
theorem dX7_addShot_124 : decode cX7_addShot 124 = .ok (.aload_n 0, 1) := by decide +kernel
theorem dX7_addShot_125 : decode cX7_addShot 125 = .ok (.getfield 90, 3) := by decide +kernel
theorem dX7_addShot_128 : decode cX7_addShot 128 = .ok (.iconst 1, 1) := by decide +kernel
theorem dX7_addShot_129 : decode cX7_addShot 129 = .ok (.isub, 1) := by decide +kernel
theorem dX7_addShot_130 : decode cX7_addShot 130 = .ok (.ireturn, 1) := by decide +kernel
theorem dX7_areFrames_0 : decode cX7_areFrames 0 = .ok (.iload_n 2, 1) := by decide +kernel
theorem dX7_areFrames_1 : decode cX7_areFrames 1 = .ok (.aload_n 0, 1) := by decide +kernel
theorem dX7_areFrames_2 : decode cX7_areFrames 2 = .ok (.getfield 97, 3) := by decide +kernel
theorem dX7_areFrames_5 : decode cX7_areFrames 5 = .ok (.iload_n 1, 1) := by decide +kernel
theorem dX7_areFrames_6 : decode cX7_areFrames 6 = .ok (.isub, 1) := by decide +kernel
theorem dX7_areFrames_7 : decode cX7_areFrames 7 = .ok (.if_icmp .gt 7, 3) := by decide +kernel
theorem dX7_areFrames_10 : decode cX7_areFrames 10 = .ok (.iconst 1, 1) := by decide +kernel
theorem dX7_areFrames_11 : decode cX7_areFrames 11 = .ok (.goto 4, 3) := by decide +kernel
theorem dX7_areFrames_14 : decode cX7_areFrames 14 = .ok (.iconst 0, 1) := by decide +kernel
theorem dX7_areFrames_15 : decode cX7_areFrames 15 = .ok (.ireturn, 1) := by decide +kernel
theorem dX7_takes_0 : decode cX7_takes 0 = .ok (.iconst 0, 1) := by decide +kernel
theorem dX7_takes_1 : decode cX7_takes 1 = .ok (.istore_n 3, 1) := by decide +kernel
theorem dX7_takes_2 : decode cX7_takes 2 = .ok (.iload_n 3, 1) := by decide +kernel
theorem dX7_takes_3 : decode cX7_takes 3 = .ok (.iload_n 2, 1) := by decide +kernel
theorem dX7_takes_4 : decode cX7_takes 4 = .ok (.if_icmp .ge 23, 3) := by decide +kernel
theorem dX7_takes_7 : decode cX7_takes 7 = .ok (.aload_n 0, 1) := by decide +kernel
theorem dX7_takes_8 : decode cX7_takes 8 = .ok (.getfield 22, 3) := by decide +kernel
theorem dX7_takes_11 : decode cX7_takes 11 = .ok (.iload_n 3, 1) := by decide +kernel
theorem dX7_takes_12 : decode cX7_takes 12 = .ok (.aload_n 0, 1) := by decide +kernel
theorem dX7_takes_13 : decode cX7_takes 13 = .ok (.getfield 19, 3) := by decide +kernel
theorem dX7_takes_16 : decode cX7_takes 16 = .ok (.iload_n 1, 1) := by decide +kernel
theorem dX7_takes_17 : decode cX7_takes 17 = .ok (.iload_n 3, 1) := by decide +kernel
theorem dX7_takes_18 : decode cX7_takes 18 = .ok (.iadd, 1) := by decide +kernel
theorem dX7_takes_19 : decode cX7_takes 19 = .ok (.iaload, 1) := by decide +kernel
theorem dX7_takes_20 : decode cX7_takes 20 = .ok (.iastore, 1) := by decide +kernel
theorem dX7_takes_21 : decode cX7_takes 21 = .ok (.iinc 3 1, 3) := by decide +kernel
theorem dX7_takes_24 : decode cX7_takes 24 = .ok (.goto (-22), 3) := by decide +kernel
theorem dX7_takes_27 : decode cX7_takes 27 = .ok (.aload_n 0, 1) := by decide +kernel
theorem dX7_takes_28 : decode cX7_takes 28 = .ok (.dup, 1) := by decide +kernel
theorem dX7_takes_29 : decode cX7_takes 29 = .ok (.getfield 97, 3) := by decide +kernel
theorem dX7_takes_32 : decode cX7_takes 32 = .ok (.iload_n 2, 1) := by decide +kernel
theorem dX7_takes_33 : decode cX7_takes 33 = .ok (.isub, 1) := by decide +kernel
theorem dX7_takes_34 : decode cX7_takes 34 = .ok (.putfield 97, 3) := by decide +kernel
theorem dX7_takes_37 : decode cX7_takes 37 = .ok (.iload_n 1, 1) := by decide +kernel
theorem dX7_takes_38 : decode cX7_takes 38 = .ok (.istore_n 3, 1) := by decide +kernel
theorem dX7_takes_39 : decode cX7_takes 39 = .ok (.iload_n 3, 1) := by decide +kernel
theorem dX7_takes_40 : decode cX7_takes 40 = .ok (.aload_n 0, 1) := by decide +kernel
theorem dX7_takes_41 : decode cX7_takes 41 = .ok (.getfield 97, 3) := by decide +kernel
theorem dX7_takes_44 : decode cX7_takes 44 = .ok (.if_icmp .ge 23, 3) := by decide +kernel
theorem dX7_takes_47 : decode cX7_takes 47 = .ok (.aload_n 0, 1) := by decide +kernel
theorem dX7_takes_48 : decode cX7_takes 48 = .ok (.getfield 19, 3) := by decide +kernel
theorem dX7_takes_51 : decode cX7_takes 51 = .ok (.iload_n 3, 1) := by decide +kernel
theorem dX7_takes_52 : decode cX7_takes 52 = .ok (.aload_n 0, 1) := by decide +kernel
theorem dX7_takes_53 : decode cX7_takes 53 = .ok (.getfield 19, 3) := by decide +kernel
theorem dX7_takes_56 : decode cX7_takes 56 = .ok (.iload_n 3, 1) := by decide +kernel
theorem dX7_takes_57 : decode cX7_takes 57 = .ok (.iload_n 2, 1) := by decide +kernel
theorem dX7_takes_58 : decode cX7_takes 58 = .ok (.iadd, 1) := by decide +kernel
theorem dX7_takes_59 : decode cX7_takes 59 = .ok (.iaload, 1) := by decide +kernel
theorem dX7_takes_60 : decode cX7_takes 60 = .ok (.iastore, 1) := by decide +kernel
theorem dX7_takes_61 : decode cX7_takes 61 = .ok (.iinc 3 1, 3) := by decide +kernel
theorem dX7_takes_64 : decode cX7_takes 64 = .ok (.goto (-25), 3) := by decide +kernel
theorem dX7_takes_67 : decode cX7_takes 67 = .ok (.return_, 1) := by decide +kernel
theorem dX7_puts_0 : decode cX7_puts 0 = .ok (.aload_n 0, 1) := by decide +kernel
theorem dX7_puts_1 : decode cX7_puts 1 = .ok (.getfield 97, 3) := by decide +kernel
theorem dX7_puts_4 : decode cX7_puts 4 = .ok (.iconst 1, 1) := by decide +kernel
theorem dX7_puts_5 : decode cX7_puts 5 = .ok (.isub, 1) := by decide +kernel
theorem dX7_puts_6 : decode cX7_puts 6 = .ok (.istore_n 3, 1) := by decide +kernel
theorem dX7_puts_7 : decode cX7_puts 7 = .ok (.iload_n 3, 1) := by decide +kernel
theorem dX7_puts_8 : decode cX7_puts 8 = .ok (.iload_n 1, 1) := by decide +kernel
theorem dX7_puts_9 : decode cX7_puts 9 = .ok (.if_icmp .lt 23, 3) := by decide +kernel
theorem dX7_puts_12 : decode cX7_puts 12 = .ok (.aload_n 0, 1) := by decide +kernel
theorem dX7_puts_13 : decode cX7_puts 13 = .ok (.getfield 19, 3) := by decide +kernel
theorem dX7_puts_16 : decode cX7_puts 16 = .ok (.iload_n 3, 1) := by decide +kernel
theorem dX7_puts_17 : decode cX7_puts 17 = .ok (.iload_n 2, 1) := by decide +kernel
theorem dX7_puts_18 : decode cX7_puts 18 = .ok (.iadd, 1) := by decide +kernel
theorem dX7_puts_19 : decode cX7_puts 19 = .ok (.aload_n 0, 1) := by decide +kernel
theorem dX7_puts_20 : decode cX7_puts 20 = .ok (.getfield 19, 3) := by decide +kernel
theorem dX7_puts_23 : decode cX7_puts 23 = .ok (.iload_n 3, 1) := by decide +kernel
theorem dX7_puts_24 : decode cX7_puts 24 = .ok (.iaload, 1) := by decide +kernel
theorem dX7_puts_25 : decode cX7_puts 25 = .ok (.iastore, 1) := by decide +kernel
theorem dX7_puts_26 : decode cX7_puts 26 = .ok (.iinc 3 (-1), 3) := by decide +kernel
theorem dX7_puts_29 : decode cX7_puts 29 = .ok (.goto (-22), 3) := by decide +kernel
theorem dX7_puts_32 : decode cX7_puts 32 = .ok (.iconst 0, 1) := by decide +kernel
theorem dX7_puts_33 : decode cX7_puts 33 = .ok (.istore_n 3, 1) := by decide +kernel
theorem dX7_puts_34 : decode cX7_puts 34 = .ok (.iload_n 3, 1) := by decide +kernel
theorem dX7_puts_35 : decode cX7_puts 35 = .ok (.iload_n 2, 1) := by decide +kernel
theorem dX7_puts_36 : decode cX7_puts 36 = .ok (.if_icmp .ge 23, 3) := by decide +kernel
theorem dX7_puts_39 : decode cX7_puts 39 = .ok (.aload_n 0, 1) := by decide +kernel
theorem dX7_puts_40 : decode cX7_puts 40 = .ok (.getfield 19, 3) := by decide +kernel
theorem dX7_puts_43 : decode cX7_puts 43 = .ok (.iload_n 1, 1) := by decide +kernel
theorem dX7_puts_44 : decode cX7_puts 44 = .ok (.iload_n 3, 1) := by decide +kernel
theorem dX7_puts_45 : decode cX7_puts 45 = .ok (.iadd, 1) := by decide +kernel
theorem dX7_puts_46 : decode cX7_puts 46 = .ok (.aload_n 0, 1) := by decide +kernel
theorem dX7_puts_47 : decode cX7_puts 47 = .ok (.getfield 22, 3) := by decide +kernel
theorem dX7_puts_50 : decode cX7_puts 50 = .ok (.iload_n 3, 1) := by decide +kernel
theorem dX7_puts_51 : decode cX7_puts 51 = .ok (.iaload, 1) := by decide +kernel
theorem dX7_puts_52 : decode cX7_puts 52 = .ok (.iastore, 1) := by decide +kernel
theorem dX7_puts_53 : decode cX7_puts 53 = .ok (.iinc 3 1, 3) := by decide +kernel
theorem dX7_puts_56 : decode cX7_puts 56 = .ok (.goto (-22), 3) := by decide +kernel
theorem dX7_puts_59 : decode cX7_puts 59 = .ok (.aload_n 0, 1) := by decide +kernel
theorem dX7_puts_60 : decode cX7_puts 60 = .ok (.dup, 1) := by decide +kernel
theorem dX7_puts_61 : decode cX7_puts 61 = .ok (.getfield 97, 3) := by decide +kernel
theorem dX7_puts_64 : decode cX7_puts 64 = .ok (.iload_n 2, 1) := by decide +kernel
theorem dX7_puts_65 : decode cX7_puts 65 = .ok (.iadd, 1) := by decide +kernel
theorem dX7_puts_66 : decode cX7_puts 66 = .ok (.putfield 97, 3) := by decide +kernel
theorem dX7_puts_69 : decode cX7_puts 69 = .ok (.return_, 1) := by decide +kernel
theorem dX7_cut_0 : decode cX7_cut 0 = .ok (.aload_n 0, 1) := by decide +kernel
theorem dX7_cut_1 : decode cX7_cut 1 = .ok (.aload_n 0, 1) := by decide +kernel
theorem dX7_cut_2 : decode cX7_cut 2 = .ok (.iload_n 1, 1) := by decide +kernel
theorem dX7_cut_3 : decode cX7_cut 3 = .ok (.invokevirtual 117, 3) := by decide +kernel
theorem dX7_cut_6 : decode cX7_cut 6 = .ok (.ifCond .ne 7, 3) := by decide +kernel
theorem dX7_cut_9 : decode cX7_cut 9 = .ok (.iconst 1, 1) := by decide +kernel
theorem dX7_cut_10 : decode cX7_cut 10 = .ok (.goto 26, 3) := by decide +kernel
theorem dX7_cut_13 : decode cX7_cut 13 = .ok (.iload_n 2, 1) := by decide +kernel
theorem dX7_cut_14 : decode cX7_cut 14 = .ok (.iconst 1, 1) := by decide +kernel
theorem dX7_cut_15 : decode cX7_cut 15 = .ok (.if_icmp .ge 7, 3) := by decide +kernel
theorem dX7_cut_18 : decode cX7_cut 18 = .ok (.iconst 2, 1) := by decide +kernel
theorem dX7_cut_19 : decode cX7_cut 19 = .ok (.goto 17, 3) := by decide +kernel
theorem dX7_cut_22 : decode cX7_cut 22 = .ok (.aload_n 0, 1) := by decide +kernel
theorem dX7_cut_23 : decode cX7_cut 23 = .ok (.iload_n 1, 1) := by decide +kernel
theorem dX7_cut_24 : decode cX7_cut 24 = .ok (.iload_n 2, 1) := by decide +kernel
theorem dX7_cut_25 : decode cX7_cut 25 = .ok (.invokevirtual 120, 3) := by decide +kernel
theorem dX7_cut_28 : decode cX7_cut 28 = .ok (.ifCond .eq 7, 3) := by decide +kernel
theorem dX7_cut_31 : decode cX7_cut 31 = .ok (.iconst 0, 1) := by decide +kernel
theorem dX7_cut_32 : decode cX7_cut 32 = .ok (.goto 4, 3) := by decide +kernel
theorem dX7_cut_35 : decode cX7_cut 35 = .ok (.iconst 1, 1) := by decide +kernel
theorem dX7_cut_36 : decode cX7_cut 36 = .ok (.putfield 87, 3) := by decide +kernel
theorem dX7_cut_39 : decode cX7_cut 39 = .ok (.aload_n 0, 1) := by decide +kernel
theorem dX7_cut_40 : decode cX7_cut 40 = .ok (.getfield 87, 3) := by decide +kernel
theorem dX7_cut_43 : decode cX7_cut 43 = .ok (.ifCond .le 5, 3) := by decide +kernel
theorem dX7_cut_46 : decode cX7_cut 46 = .ok (.iconst 0, 1) := by decide +kernel
theorem dX7_cut_47 : decode cX7_cut 47 = .ok (.ireturn, 1) := by decide +kernel
theorem dX7_cut_48 : decode cX7_cut 48 = .ok (.aload_n 0, 1) := by decide +kernel
theorem dX7_cut_49 : decode cX7_cut 49 = .ok (.iload_n 1, 1) := by decide +kernel
theorem dX7_cut_50 : decode cX7_cut 50 = .ok (.iload_n 2, 1) := by decide +kernel
theorem dX7_cut_51 : decode cX7_cut 51 = .ok (.invokevirtual 124, 3) := by decide +kernel
theorem dX7_cut_54 : decode cX7_cut 54 = .ok (.aload_n 0, 1) := by decide +kernel
theorem dX7_cut_55 : decode cX7_cut 55 = .ok (.invokevirtual 114, 3) := by decide +kernel
theorem dX7_cut_58 : decode cX7_cut 58 = .ok (.aload_n 0, 1) := by decide +kernel
theorem dX7_cut_59 : decode cX7_cut 59 = .ok (.getfield 97, 3) := by decide +kernel
theorem dX7_cut_62 : decode cX7_cut 62 = .ok (.ireturn, 1) := by decide +kernel
theorem dX7_move_0 : decode cX7_move 0 = .ok (.aload_n 0, 1) := by decide +kernel
theorem dX7_move_1 : decode cX7_move 1 = .ok (.aload_n 0, 1) := by decide +kernel
theorem dX7_move_2 : decode cX7_move 2 = .ok (.iload_n 1, 1) := by decide +kernel
theorem dX7_move_3 : decode cX7_move 3 = .ok (.invokevirtual 117, 3) := by decide +kernel
theorem dX7_move_6 : decode cX7_move 6 = .ok (.ifCond .ne 7, 3) := by decide +kernel
theorem dX7_move_9 : decode cX7_move 9 = .ok (.iconst 1, 1) := by decide +kernel
theorem dX7_move_10 : decode cX7_move 10 = .ok (.goto 40, 3) := by decide +kernel
theorem dX7_move_13 : decode cX7_move 13 = .ok (.iload_n 2, 1) := by decide +kernel
theorem dX7_move_14 : decode cX7_move 14 = .ok (.iconst 1, 1) := by decide +kernel
theorem dX7_move_15 : decode cX7_move 15 = .ok (.if_icmp .ge 7, 3) := by decide +kernel
theorem dX7_move_18 : decode cX7_move 18 = .ok (.iconst 2, 1) := by decide +kernel
theorem dX7_move_19 : decode cX7_move 19 = .ok (.goto 31, 3) := by decide +kernel
theorem dX7_move_22 : decode cX7_move 22 = .ok (.aload_n 0, 1) := by decide +kernel
theorem dX7_move_23 : decode cX7_move 23 = .ok (.iload_n 1, 1) := by decide +kernel
theorem dX7_move_24 : decode cX7_move 24 = .ok (.iload_n 2, 1) := by decide +kernel
theorem dX7_move_25 : decode cX7_move 25 = .ok (.invokevirtual 120, 3) := by decide +kernel
theorem dX7_move_28 : decode cX7_move 28 = .ok (.ifCond .eq 21, 3) := by decide +kernel
theorem dX7_move_31 : decode cX7_move 31 = .ok (.iload_n 3, 1) := by decide +kernel
theorem dX7_move_32 : decode cX7_move 32 = .ok (.iconst 0, 1) := by decide +kernel
theorem dX7_move_33 : decode cX7_move 33 = .ok (.aload_n 0, 1) := by decide +kernel
theorem dX7_move_34 : decode cX7_move 34 = .ok (.getfield 97, 3) := by decide +kernel
theorem dX7_move_37 : decode cX7_move 37 = .ok (.iload_n 2, 1) := by decide +kernel
theorem dX7_move_38 : decode cX7_move 38 = .ok (.isub, 1) := by decide +kernel
theorem dX7_move_39 : decode cX7_move 39 = .ok (.invokestatic 93, 3) := by decide +kernel
theorem dX7_move_42 : decode cX7_move 42 = .ok (.ifCond .eq 7, 3) := by decide +kernel
theorem dX7_move_45 : decode cX7_move 45 = .ok (.iconst 0, 1) := by decide +kernel
theorem dX7_move_46 : decode cX7_move 46 = .ok (.goto 4, 3) := by decide +kernel
theorem dX7_move_49 : decode cX7_move 49 = .ok (.iconst 1, 1) := by decide +kernel
theorem dX7_move_50 : decode cX7_move 50 = .ok (.putfield 87, 3) := by decide +kernel
theorem dX7_move_53 : decode cX7_move 53 = .ok (.aload_n 0, 1) := by decide +kernel
theorem dX7_move_54 : decode cX7_move 54 = .ok (.getfield 87, 3) := by decide +kernel
theorem dX7_move_57 : decode cX7_move 57 = .ok (.ifCond .le 5, 3) := by decide +kernel
theorem dX7_move_60 : decode cX7_move 60 = .ok (.iconst 0, 1) := by decide +kernel
theorem dX7_move_61 : decode cX7_move 61 = .ok (.ireturn, 1) := by decide +kernel
theorem dX7_move_62 : decode cX7_move 62 = .ok (.iconst 0, 1) := by decide +kernel
theorem dX7_move_63 : decode cX7_move 63 = .ok (.istore 4, 2) := by decide +kernel
theorem dX7_move_65 : decode cX7_move 65 = .ok (.iload 4, 2) := by decide +kernel
theorem dX7_move_67 : decode cX7_move 67 = .ok (.aload_n 0, 1) := by decide +kernel
theorem dX7_move_68 : decode cX7_move 68 = .ok (.getfield 100, 3) := by decide +kernel
theorem dX7_move_71 : decode cX7_move 71 = .ok (.if_icmp .ge 37, 3) := by decide +kernel
theorem dX7_move_74 : decode cX7_move 74 = .ok (.aload_n 0, 1) := by decide +kernel
theorem dX7_move_75 : decode cX7_move 75 = .ok (.getfield 34, 3) := by decide +kernel
theorem dX7_move_78 : decode cX7_move 78 = .ok (.iload 4, 2) := by decide +kernel
theorem dX7_move_80 : decode cX7_move 80 = .ok (.aload_n 0, 1) := by decide +kernel
theorem dX7_move_81 : decode cX7_move 81 = .ok (.getfield 28, 3) := by decide +kernel
theorem dX7_move_84 : decode cX7_move 84 = .ok (.iload 4, 2) := by decide +kernel
theorem dX7_move_86 : decode cX7_move 86 = .ok (.iaload, 1) := by decide +kernel
theorem dX7_move_87 : decode cX7_move 87 = .ok (.iastore, 1) := by decide +kernel
theorem dX7_move_88 : decode cX7_move 88 = .ok (.aload_n 0, 1) := by decide +kernel
theorem dX7_move_89 : decode cX7_move 89 = .ok (.getfield 37, 3) := by decide +kernel
theorem dX7_move_92 : decode cX7_move 92 = .ok (.iload 4, 2) := by decide +kernel
theorem dX7_move_94 : decode cX7_move 94 = .ok (.aload_n 0, 1) := by decide +kernel
theorem dX7_move_95 : decode cX7_move 95 = .ok (.getfield 31, 3) := by decide +kernel
theorem dX7_move_98 : decode cX7_move 98 = .ok (.iload 4, 2) := by decide +kernel
theorem dX7_move_100 : decode cX7_move 100 = .ok (.iaload, 1) := by decide +kernel
theorem dX7_move_101 : decode cX7_move 101 = .ok (.iastore, 1) := by decide +kernel
theorem dX7_move_102 : decode cX7_move 102 = .ok (.iinc 4 1, 3) := by decide +kernel
theorem dX7_move_105 : decode cX7_move 105 = .ok (.goto (-40), 3) := by decide +kernel
theorem dX7_move_108 : decode cX7_move 108 = .ok (.aload_n 0, 1) := by decide +kernel
theorem dX7_move_109 : decode cX7_move 109 = .ok (.iload_n 1, 1) := by decide +kernel
theorem dX7_move_110 : decode cX7_move 110 = .ok (.iload_n 2, 1) := by decide +kernel
theorem dX7_move_111 : decode cX7_move 111 = .ok (.invokevirtual 124, 3) := by decide +kernel
theorem dX7_move_114 : decode cX7_move 114 = .ok (.aload_n 0, 1) := by decide +kernel
theorem dX7_move_115 : decode cX7_move 115 = .ok (.iload_n 3, 1) := by decide +kernel
theorem dX7_move_116 : decode cX7_move 116 = .ok (.iload_n 2, 1) := by decide +kernel
theorem dX7_move_117 : decode cX7_move 117 = .ok (.invokevirtual 128, 3) := by decide +kernel
theorem dX7_move_120 : decode cX7_move 120 = .ok (.aload_n 0, 1) := by decide +kernel
theorem dX7_move_121 : decode cX7_move 121 = .ok (.invokevirtual 114, 3) := by decide +kernel
theorem dX7_move_124 : decode cX7_move 124 = .ok (.iconst 0, 1) := by decide +kernel
theorem dX7_move_125 : decode cX7_move 125 = .ok (.istore 4, 2) := by decide +kernel
theorem dX7_move_127 : decode cX7_move 127 = .ok (.iconst 0, 1) := by decide +kernel
theorem dX7_move_128 : decode cX7_move 128 = .ok (.istore 5, 2) := by decide +kernel
theorem dX7_move_130 : decode cX7_move 130 = .ok (.iload 5, 2) := by decide +kernel
theorem dX7_move_132 : decode cX7_move 132 = .ok (.aload_n 0, 1) := by decide +kernel
theorem dX7_move_133 : decode cX7_move 133 = .ok (.getfield 100, 3) := by decide +kernel
theorem dX7_move_136 : decode cX7_move 136 = .ok (.if_icmp .ge 53, 3) := by decide +kernel
theorem dX7_move_139 : decode cX7_move 139 = .ok (.iload 4, 2) := by decide +kernel
theorem dX7_move_141 : decode cX7_move 141 = .ok (.aload_n 0, 1) := by decide +kernel
theorem dX7_move_142 : decode cX7_move 142 = .ok (.getfield 28, 3) := by decide +kernel
theorem dX7_move_145 : decode cX7_move 145 = .ok (.iload 5, 2) := by decide +kernel
theorem dX7_move_147 : decode cX7_move 147 = .ok (.iaload, 1) := by decide +kernel
theorem dX7_move_148 : decode cX7_move 148 = .ok (.aload_n 0, 1) := by decide +kernel
theorem dX7_move_149 : decode cX7_move 149 = .ok (.getfield 34, 3) := by decide +kernel
theorem dX7_move_152 : decode cX7_move 152 = .ok (.iload 5, 2) := by decide +kernel
theorem dX7_move_154 : decode cX7_move 154 = .ok (.iaload, 1) := by decide +kernel
theorem dX7_move_155 : decode cX7_move 155 = .ok (.if_icmp .ne 20, 3) := by decide +kernel
theorem dX7_move_158 : decode cX7_move 158 = .ok (.aload_n 0, 1) := by decide +kernel
theorem dX7_move_159 : decode cX7_move 159 = .ok (.getfield 31, 3) := by decide +kernel
theorem dX7_move_162 : decode cX7_move 162 = .ok (.iload 5, 2) := by decide +kernel
theorem dX7_move_164 : decode cX7_move 164 = .ok (.iaload, 1) := by decide +kernel
theorem dX7_move_165 : decode cX7_move 165 = .ok (.aload_n 0, 1) := by decide +kernel
theorem dX7_move_166 : decode cX7_move 166 = .ok (.getfield 37, 3) := by decide +kernel
theorem dX7_move_169 : decode cX7_move 169 = .ok (.iload 5, 2) := by decide +kernel
theorem dX7_move_171 : decode cX7_move 171 = .ok (.iaload, 1) := by decide +kernel
theorem dX7_move_172 : decode cX7_move 172 = .ok (.if_icmp .eq 7, 3) := by decide +kernel
theorem dX7_move_175 : decode cX7_move 175 = .ok (.iconst 1, 1) := by decide +kernel
theorem dX7_move_176 : decode cX7_move 176 = .ok (.goto 4, 3) := by decide +kernel
theorem dX7_move_179 : decode cX7_move 179 = .ok (.iconst 0, 1) := by decide +kernel
theorem dX7_move_180 : decode cX7_move 180 = .ok (.iadd, 1) := by decide +kernel
theorem dX7_move_181 : decode cX7_move 181 = .ok (.istore 4, 2) := by decide +kernel
theorem dX7_move_183 : decode cX7_move 183 = .ok (.iinc 5 1, 3) := by decide +kernel
theorem dX7_move_186 : decode cX7_move 186 = .ok (.goto (-56), 3) := by decide +kernel
theorem dX7_move_189 : decode cX7_move 189 = .ok (.iload 4, 2) := by decide +kernel
theorem dX7_move_191 : decode cX7_move 191 = .ok (.ireturn, 1) := by decide +kernel
theorem dX7_putBack_0 : decode cX7_putBack 0 = .ok (.aload_n 0, 1) := by decide +kernel
theorem dX7_putBack_1 : decode cX7_putBack 1 = .ok (.aload_n 0, 1) := by decide +kernel
theorem dX7_putBack_2 : decode cX7_putBack 2 = .ok (.iload_n 1, 1) := by decide +kernel
theorem dX7_putBack_3 : decode cX7_putBack 3 = .ok (.iload_n 2, 1) := by decide +kernel
theorem dX7_putBack_4 : decode cX7_putBack 4 = .ok (.invokevirtual 131, 3) := by decide +kernel
theorem dX7_putBack_7 : decode cX7_putBack 7 = .ok (.ifCond .ne 7, 3) := by decide +kernel
theorem dX7_putBack_10 : decode cX7_putBack 10 = .ok (.iconst 1, 1) := by decide +kernel
theorem dX7_putBack_11 : decode cX7_putBack 11 = .ok (.goto 42, 3) := by decide +kernel
theorem dX7_putBack_14 : decode cX7_putBack 14 = .ok (.iload_n 3, 1) := by decide +kernel
theorem dX7_putBack_15 : decode cX7_putBack 15 = .ok (.iconst 1, 1) := by decide +kernel
theorem dX7_putBack_16 : decode cX7_putBack 16 = .ok (.if_icmp .ge 7, 3) := by decide +kernel
theorem dX7_putBack_19 : decode cX7_putBack 19 = .ok (.iconst 2, 1) := by decide +kernel
theorem dX7_putBack_20 : decode cX7_putBack 20 = .ok (.goto 33, 3) := by decide +kernel
theorem dX7_putBack_23 : decode cX7_putBack 23 = .ok (.iload_n 3, 1) := by decide +kernel
theorem dX7_putBack_24 : decode cX7_putBack 24 = .ok (.aload_n 0, 1) := by decide +kernel
theorem dX7_putBack_25 : decode cX7_putBack 25 = .ok (.getfield 7, 3) := by decide +kernel
theorem dX7_putBack_28 : decode cX7_putBack 28 = .ok (.iload_n 1, 1) := by decide +kernel
theorem dX7_putBack_29 : decode cX7_putBack 29 = .ok (.iaload, 1) := by decide +kernel
theorem dX7_putBack_30 : decode cX7_putBack 30 = .ok (.iload_n 2, 1) := by decide +kernel
theorem dX7_putBack_31 : decode cX7_putBack 31 = .ok (.isub, 1) := by decide +kernel
theorem dX7_putBack_32 : decode cX7_putBack 32 = .ok (.if_icmp .gt 20, 3) := by decide +kernel
theorem dX7_putBack_35 : decode cX7_putBack 35 = .ok (.iload 4, 2) := by decide +kernel
theorem dX7_putBack_37 : decode cX7_putBack 37 = .ok (.iconst 0, 1) := by decide +kernel
theorem dX7_putBack_38 : decode cX7_putBack 38 = .ok (.aload_n 0, 1) := by decide +kernel
theorem dX7_putBack_39 : decode cX7_putBack 39 = .ok (.getfield 97, 3) := by decide +kernel
theorem dX7_putBack_42 : decode cX7_putBack 42 = .ok (.invokestatic 93, 3) := by decide +kernel
theorem dX7_putBack_45 : decode cX7_putBack 45 = .ok (.ifCond .eq 7, 3) := by decide +kernel
theorem dX7_putBack_48 : decode cX7_putBack 48 = .ok (.iconst 0, 1) := by decide +kernel
theorem dX7_putBack_49 : decode cX7_putBack 49 = .ok (.goto 4, 3) := by decide +kernel
theorem dX7_putBack_52 : decode cX7_putBack 52 = .ok (.iconst 1, 1) := by decide +kernel
theorem dX7_putBack_53 : decode cX7_putBack 53 = .ok (.putfield 87, 3) := by decide +kernel
theorem dX7_putBack_56 : decode cX7_putBack 56 = .ok (.iconst 0, 1) := by decide +kernel
theorem dX7_putBack_57 : decode cX7_putBack 57 = .ok (.istore 5, 2) := by decide +kernel
theorem dX7_putBack_59 : decode cX7_putBack 59 = .ok (.aload_n 0, 1) := by decide +kernel
theorem dX7_putBack_60 : decode cX7_putBack 60 = .ok (.getfield 87, 3) := by decide +kernel
theorem dX7_putBack_63 : decode cX7_putBack 63 = .ok (.ifCond .ne 43, 3) := by decide +kernel
theorem dX7_putBack_66 : decode cX7_putBack 66 = .ok (.iload 5, 2) := by decide +kernel
theorem dX7_putBack_68 : decode cX7_putBack 68 = .ok (.iload_n 3, 1) := by decide +kernel
theorem dX7_putBack_69 : decode cX7_putBack 69 = .ok (.if_icmp .ge 37, 3) := by decide +kernel
theorem dX7_putBack_72 : decode cX7_putBack 72 = .ok (.aload_n 0, 1) := by decide +kernel
theorem dX7_putBack_73 : decode cX7_putBack 73 = .ok (.aload_n 0, 1) := by decide +kernel
theorem dX7_putBack_74 : decode cX7_putBack 74 = .ok (.getfield 13, 3) := by decide +kernel
theorem dX7_putBack_77 : decode cX7_putBack 77 = .ok (.sipush 400, 3) := by decide +kernel
theorem dX7_putBack_80 : decode cX7_putBack 80 = .ok (.iload_n 1, 1) := by decide +kernel
theorem dX7_putBack_81 : decode cX7_putBack 81 = .ok (.imul, 1) := by decide +kernel
theorem dX7_putBack_82 : decode cX7_putBack 82 = .ok (.iload_n 2, 1) := by decide +kernel
theorem dX7_putBack_83 : decode cX7_putBack 83 = .ok (.iadd, 1) := by decide +kernel
theorem dX7_putBack_84 : decode cX7_putBack 84 = .ok (.iload 5, 2) := by decide +kernel
theorem dX7_putBack_86 : decode cX7_putBack 86 = .ok (.iadd, 1) := by decide +kernel
theorem dX7_putBack_87 : decode cX7_putBack 87 = .ok (.iaload, 1) := by decide +kernel
theorem dX7_putBack_88 : decode cX7_putBack 88 = .ok (.iconst (-1), 1) := by decide +kernel
theorem dX7_putBack_89 : decode cX7_putBack 89 = .ok (.if_icmp .ne 7, 3) := by decide +kernel
theorem dX7_putBack_92 : decode cX7_putBack 92 = .ok (.iconst 0, 1) := by decide +kernel
theorem dX7_putBack_93 : decode cX7_putBack 93 = .ok (.goto 4, 3) := by decide +kernel
theorem dX7_putBack_96 : decode cX7_putBack 96 = .ok (.iconst 3, 1) := by decide +kernel
theorem dX7_putBack_97 : decode cX7_putBack 97 = .ok (.putfield 87, 3) := by decide +kernel
theorem dX7_putBack_100 : decode cX7_putBack 100 = .ok (.iinc 5 1, 3) := by decide +kernel
theorem dX7_putBack_103 : decode cX7_putBack 103 = .ok (.goto (-44), 3) := by decide +kernel
theorem dX7_putBack_106 : decode cX7_putBack 106 = .ok (.aload_n 0, 1) := by decide +kernel
theorem dX7_putBack_107 : decode cX7_putBack 107 = .ok (.getfield 87, 3) := by decide +kernel
theorem dX7_putBack_110 : decode cX7_putBack 110 = .ok (.ifCond .le 5, 3) := by decide +kernel
theorem dX7_putBack_113 : decode cX7_putBack 113 = .ok (.iconst 0, 1) := by decide +kernel
theorem dX7_putBack_114 : decode cX7_putBack 114 = .ok (.ireturn, 1) := by decide +kernel
theorem dX7_putBack_115 : decode cX7_putBack 115 = .ok (.iconst 0, 1) := by decide +kernel
theorem dX7_putBack_116 : decode cX7_putBack 116 = .ok (.istore 5, 2) := by decide +kernel
theorem dX7_putBack_118 : decode cX7_putBack 118 = .ok (.iload 5, 2) := by decide +kernel
theorem dX7_putBack_120 : decode cX7_putBack 120 = .ok (.iload_n 3, 1) := by decide +kernel
theorem dX7_putBack_121 : decode cX7_putBack 121 = .ok (.if_icmp .ge 26, 3) := by decide +kernel
theorem dX7_putBack_124 : decode cX7_putBack 124 = .ok (.aload_n 0, 1) := by decide +kernel
theorem dX7_putBack_125 : decode cX7_putBack 125 = .ok (.getfield 22, 3) := by decide +kernel
theorem dX7_putBack_128 : decode cX7_putBack 128 = .ok (.iload 5, 2) := by decide +kernel
theorem dX7_putBack_130 : decode cX7_putBack 130 = .ok (.sipush 400, 3) := by decide +kernel
theorem dX7_putBack_133 : decode cX7_putBack 133 = .ok (.iload_n 1, 1) := by decide +kernel
theorem dX7_putBack_134 : decode cX7_putBack 134 = .ok (.imul, 1) := by decide +kernel
theorem dX7_putBack_135 : decode cX7_putBack 135 = .ok (.iload_n 2, 1) := by decide +kernel
theorem dX7_putBack_136 : decode cX7_putBack 136 = .ok (.iadd, 1) := by decide +kernel
theorem dX7_putBack_137 : decode cX7_putBack 137 = .ok (.iload 5, 2) := by decide +kernel
theorem dX7_putBack_139 : decode cX7_putBack 139 = .ok (.iadd, 1) := by decide +kernel
theorem dX7_putBack_140 : decode cX7_putBack 140 = .ok (.iastore, 1) := by decide +kernel
theorem dX7_putBack_141 : decode cX7_putBack 141 = .ok (.iinc 5 1, 3) := by decide +kernel
theorem dX7_putBack_144 : decode cX7_putBack 144 = .ok (.goto (-26), 3) := by decide +kernel
theorem dX7_putBack_147 : decode cX7_putBack 147 = .ok (.aload_n 0, 1) := by decide +kernel
theorem dX7_putBack_148 : decode cX7_putBack 148 = .ok (.iload 4, 2) := by decide +kernel
theorem dX7_putBack_150 : decode cX7_putBack 150 = .ok (.iload_n 3, 1) := by decide +kernel
theorem dX7_putBack_151 : decode cX7_putBack 151 = .ok (.invokevirtual 128, 3) := by decide +kernel
theorem dX7_putBack_154 : decode cX7_putBack 154 = .ok (.aload_n 0, 1) := by decide +kernel
theorem dX7_putBack_155 : decode cX7_putBack 155 = .ok (.invokevirtual 114, 3) := by decide +kernel
theorem dX7_putBack_158 : decode cX7_putBack 158 = .ok (.aload_n 0, 1) := by decide +kernel
theorem dX7_putBack_159 : decode cX7_putBack 159 = .ok (.getfield 97, 3) := by decide +kernel
theorem dX7_putBack_162 : decode cX7_putBack 162 = .ok (.ireturn, 1) := by decide +kernel
theorem dX7_frames_0 : decode cX7_frames 0 = .ok (.aload_n 0, 1) := by decide +kernel
theorem dX7_frames_1 : decode cX7_frames 1 = .ok (.iconst 0, 1) := by decide +kernel
theorem dX7_frames_2 : decode cX7_frames 2 = .ok (.putfield 87, 3) := by decide +kernel
theorem dX7_frames_5 : decode cX7_frames 5 = .ok (.aload_n 0, 1) := by decide +kernel
theorem dX7_frames_6 : decode cX7_frames 6 = .ok (.getfield 97, 3) := by decide +kernel
theorem dX7_frames_9 : decode cX7_frames 9 = .ok (.ireturn, 1) := by decide +kernel
theorem dX7_frameAt_0 : decode cX7_frameAt 0 = .ok (.aload_n 0, 1) := by decide +kernel
theorem dX7_frameAt_1 : decode cX7_frameAt 1 = .ok (.aload_n 0, 1) := by decide +kernel
theorem dX7_frameAt_2 : decode cX7_frameAt 2 = .ok (.iload_n 1, 1) := by decide +kernel
theorem dX7_frameAt_3 : decode cX7_frameAt 3 = .ok (.invokevirtual 117, 3) := by decide +kernel
theorem dX7_frameAt_6 : decode cX7_frameAt 6 = .ok (.ifCond .eq 7, 3) := by decide +kernel
theorem dX7_frameAt_9 : decode cX7_frameAt 9 = .ok (.iconst 0, 1) := by decide +kernel
theorem dX7_frameAt_10 : decode cX7_frameAt 10 = .ok (.goto 4, 3) := by decide +kernel
theorem dX7_frameAt_13 : decode cX7_frameAt 13 = .ok (.iconst 1, 1) := by decide +kernel
theorem dX7_frameAt_14 : decode cX7_frameAt 14 = .ok (.putfield 87, 3) := by decide +kernel
theorem dX7_frameAt_17 : decode cX7_frameAt 17 = .ok (.aload_n 0, 1) := by decide +kernel
theorem dX7_frameAt_18 : decode cX7_frameAt 18 = .ok (.getfield 87, 3) := by decide +kernel
theorem dX7_frameAt_21 : decode cX7_frameAt 21 = .ok (.ifCond .le 7, 3) := by decide +kernel
theorem dX7_frameAt_24 : decode cX7_frameAt 24 = .ok (.iconst 0, 1) := by decide +kernel
theorem dX7_frameAt_25 : decode cX7_frameAt 25 = .ok (.goto 28, 3) := by decide +kernel
theorem dX7_frameAt_28 : decode cX7_frameAt 28 = .ok (.sipush 1000, 3) := by decide +kernel
theorem dX7_frameAt_31 : decode cX7_frameAt 31 = .ok (.aload_n 0, 1) := by decide +kernel
theorem dX7_frameAt_32 : decode cX7_frameAt 32 = .ok (.getfield 19, 3) := by decide +kernel
theorem dX7_frameAt_35 : decode cX7_frameAt 35 = .ok (.iload_n 1, 1) := by decide +kernel
theorem dX7_frameAt_36 : decode cX7_frameAt 36 = .ok (.iaload, 1) := by decide +kernel
theorem dX7_frameAt_37 : decode cX7_frameAt 37 = .ok (.sipush 400, 3) := by decide +kernel
theorem dX7_frameAt_40 : decode cX7_frameAt 40 = .ok (.idiv, 1) := by decide +kernel
theorem dX7_frameAt_41 : decode cX7_frameAt 41 = .ok (.imul, 1) := by decide +kernel
theorem dX7_frameAt_42 : decode cX7_frameAt 42 = .ok (.aload_n 0, 1) := by decide +kernel
theorem dX7_frameAt_43 : decode cX7_frameAt 43 = .ok (.getfield 19, 3) := by decide +kernel
theorem dX7_frameAt_46 : decode cX7_frameAt 46 = .ok (.iload_n 1, 1) := by decide +kernel
theorem dX7_frameAt_47 : decode cX7_frameAt 47 = .ok (.iaload, 1) := by decide +kernel
theorem dX7_frameAt_48 : decode cX7_frameAt 48 = .ok (.sipush 400, 3) := by decide +kernel
theorem dX7_frameAt_51 : decode cX7_frameAt 51 = .ok (.irem, 1) := by decide +kernel
theorem dX7_frameAt_52 : decode cX7_frameAt 52 = .ok (.iadd, 1) := by decide +kernel
theorem dX7_frameAt_53 : decode cX7_frameAt 53 = .ok (.ireturn, 1) := by decide +kernel
theorem dX7_placeOf_0 : decode cX7_placeOf 0 = .ok (.aload_n 0, 1) := by decide +kernel
theorem dX7_placeOf_1 : decode cX7_placeOf 1 = .ok (.aload_n 0, 1) := by decide +kernel
theorem dX7_placeOf_2 : decode cX7_placeOf 2 = .ok (.iload_n 1, 1) := by decide +kernel
theorem dX7_placeOf_3 : decode cX7_placeOf 3 = .ok (.iload_n 2, 1) := by decide +kernel
theorem dX7_placeOf_4 : decode cX7_placeOf 4 = .ok (.invokevirtual 131, 3) := by decide +kernel
theorem dX7_placeOf_7 : decode cX7_placeOf 7 = .ok (.ifCond .eq 7, 3) := by decide +kernel
theorem dX7_placeOf_10 : decode cX7_placeOf 10 = .ok (.iconst 0, 1) := by decide +kernel
theorem dX7_placeOf_11 : decode cX7_placeOf 11 = .ok (.goto 4, 3) := by decide +kernel
theorem dX7_placeOf_14 : decode cX7_placeOf 14 = .ok (.iconst 1, 1) := by decide +kernel
theorem dX7_placeOf_15 : decode cX7_placeOf 15 = .ok (.putfield 87, 3) := by decide +kernel
theorem dX7_placeOf_18 : decode cX7_placeOf 18 = .ok (.aload_n 0, 1) := by decide +kernel
theorem dX7_placeOf_19 : decode cX7_placeOf 19 = .ok (.getfield 87, 3) := by decide +kernel
theorem dX7_placeOf_22 : decode cX7_placeOf 22 = .ok (.ifCond .le 7, 3) := by decide +kernel
theorem dX7_placeOf_25 : decode cX7_placeOf 25 = .ok (.iconst 0, 1) := by decide +kernel
theorem dX7_placeOf_26 : decode cX7_placeOf 26 = .ok (.goto 15, 3) := by decide +kernel
theorem dX7_placeOf_29 : decode cX7_placeOf 29 = .ok (.aload_n 0, 1) := by decide +kernel
theorem dX7_placeOf_30 : decode cX7_placeOf 30 = .ok (.getfield 13, 3) := by decide +kernel
theorem dX7_placeOf_33 : decode cX7_placeOf 33 = .ok (.sipush 400, 3) := by decide +kernel
theorem dX7_placeOf_36 : decode cX7_placeOf 36 = .ok (.iload_n 1, 1) := by decide +kernel
theorem dX7_placeOf_37 : decode cX7_placeOf 37 = .ok (.imul, 1) := by decide +kernel
theorem dX7_placeOf_38 : decode cX7_placeOf 38 = .ok (.iload_n 2, 1) := by decide +kernel
theorem dX7_placeOf_39 : decode cX7_placeOf 39 = .ok (.iadd, 1) := by decide +kernel
theorem dX7_placeOf_40 : decode cX7_placeOf 40 = .ok (.iaload, 1) := by decide +kernel
theorem dX7_placeOf_41 : decode cX7_placeOf 41 = .ok (.ireturn, 1) := by decide +kernel
theorem dX7_isBoundaryAt_0 : decode cX7_isBoundaryAt 0 = .ok (.iload_n 1, 1) := by decide +kernel
theorem dX7_isBoundaryAt_1 : decode cX7_isBoundaryAt 1 = .ok (.ifCond .le 39, 3) := by decide +kernel
theorem dX7_isBoundaryAt_4 : decode cX7_isBoundaryAt 4 = .ok (.aload_n 0, 1) := by decide +kernel
theorem dX7_isBoundaryAt_5 : decode cX7_isBoundaryAt 5 = .ok (.getfield 19, 3) := by decide +kernel
theorem dX7_isBoundaryAt_8 : decode cX7_isBoundaryAt 8 = .ok (.iload_n 1, 1) := by decide +kernel
theorem dX7_isBoundaryAt_9 : decode cX7_isBoundaryAt 9 = .ok (.iaload, 1) := by decide +kernel
theorem dX7_isBoundaryAt_10 : decode cX7_isBoundaryAt 10 = .ok (.aload_n 0, 1) := by decide +kernel
theorem dX7_isBoundaryAt_11 : decode cX7_isBoundaryAt 11 = .ok (.getfield 19, 3) := by decide +kernel
theorem dX7_isBoundaryAt_14 : decode cX7_isBoundaryAt 14 = .ok (.iload_n 1, 1) := by decide +kernel
theorem dX7_isBoundaryAt_15 : decode cX7_isBoundaryAt 15 = .ok (.iconst 1, 1) := by decide +kernel
theorem dX7_isBoundaryAt_16 : decode cX7_isBoundaryAt 16 = .ok (.isub, 1) := by decide +kernel
theorem dX7_isBoundaryAt_17 : decode cX7_isBoundaryAt 17 = .ok (.iaload, 1) := by decide +kernel
theorem dX7_isBoundaryAt_18 : decode cX7_isBoundaryAt 18 = .ok (.iconst 1, 1) := by decide +kernel
theorem dX7_isBoundaryAt_19 : decode cX7_isBoundaryAt 19 = .ok (.iadd, 1) := by decide +kernel
theorem dX7_isBoundaryAt_20 : decode cX7_isBoundaryAt 20 = .ok (.if_icmp .ne 16, 3) := by decide +kernel
theorem dX7_isBoundaryAt_23 : decode cX7_isBoundaryAt 23 = .ok (.aload_n 0, 1) := by decide +kernel
theorem dX7_isBoundaryAt_24 : decode cX7_isBoundaryAt 24 = .ok (.getfield 19, 3) := by decide +kernel
theorem dX7_isBoundaryAt_27 : decode cX7_isBoundaryAt 27 = .ok (.iload_n 1, 1) := by decide +kernel
theorem dX7_isBoundaryAt_28 : decode cX7_isBoundaryAt 28 = .ok (.iaload, 1) := by decide +kernel
theorem dX7_isBoundaryAt_29 : decode cX7_isBoundaryAt 29 = .ok (.sipush 400, 3) := by decide +kernel
theorem dX7_isBoundaryAt_32 : decode cX7_isBoundaryAt 32 = .ok (.irem, 1) := by decide +kernel
theorem dX7_isBoundaryAt_33 : decode cX7_isBoundaryAt 33 = .ok (.ifCond .ne 7, 3) := by decide +kernel
theorem dX7_isBoundaryAt_36 : decode cX7_isBoundaryAt 36 = .ok (.iconst 1, 1) := by decide +kernel
theorem dX7_isBoundaryAt_37 : decode cX7_isBoundaryAt 37 = .ok (.goto 4, 3) := by decide +kernel
theorem dX7_isBoundaryAt_40 : decode cX7_isBoundaryAt 40 = .ok (.iconst 0, 1) := by decide +kernel
theorem dX7_isBoundaryAt_41 : decode cX7_isBoundaryAt 41 = .ok (.ireturn, 1) := by decide +kernel
theorem dX7_isBoundary_0 : decode cX7_isBoundary 0 = .ok (.aload_n 0, 1) := by decide +kernel
theorem dX7_isBoundary_1 : decode cX7_isBoundary 1 = .ok (.aload_n 0, 1) := by decide +kernel
theorem dX7_isBoundary_2 : decode cX7_isBoundary 2 = .ok (.iload_n 1, 1) := by decide +kernel
theorem dX7_isBoundary_3 : decode cX7_isBoundary 3 = .ok (.invokevirtual 117, 3) := by decide +kernel
theorem dX7_isBoundary_6 : decode cX7_isBoundary 6 = .ok (.ifCond .eq 7, 3) := by decide +kernel
theorem dX7_isBoundary_9 : decode cX7_isBoundary 9 = .ok (.iconst 0, 1) := by decide +kernel
theorem dX7_isBoundary_10 : decode cX7_isBoundary 10 = .ok (.goto 4, 3) := by decide +kernel
theorem dX7_isBoundary_13 : decode cX7_isBoundary 13 = .ok (.iconst 1, 1) := by decide +kernel
theorem dX7_isBoundary_14 : decode cX7_isBoundary 14 = .ok (.putfield 87, 3) := by decide +kernel
theorem dX7_isBoundary_17 : decode cX7_isBoundary 17 = .ok (.aload_n 0, 1) := by decide +kernel
theorem dX7_isBoundary_18 : decode cX7_isBoundary 18 = .ok (.getfield 87, 3) := by decide +kernel
theorem dX7_isBoundary_21 : decode cX7_isBoundary 21 = .ok (.ifCond .ne 15, 3) := by decide +kernel
theorem dX7_isBoundary_24 : decode cX7_isBoundary 24 = .ok (.aload_n 0, 1) := by decide +kernel
theorem dX7_isBoundary_25 : decode cX7_isBoundary 25 = .ok (.iload_n 1, 1) := by decide +kernel
theorem dX7_isBoundary_26 : decode cX7_isBoundary 26 = .ok (.invokevirtual 134, 3) := by decide +kernel
theorem dX7_isBoundary_29 : decode cX7_isBoundary 29 = .ok (.ifCond .eq 7, 3) := by decide +kernel
theorem dX7_isBoundary_32 : decode cX7_isBoundary 32 = .ok (.iconst 1, 1) := by decide +kernel
theorem dX7_isBoundary_33 : decode cX7_isBoundary 33 = .ok (.goto 4, 3) := by decide +kernel
theorem dX7_isBoundary_36 : decode cX7_isBoundary 36 = .ok (.iconst 0, 1) := by decide +kernel
theorem dX7_isBoundary_37 : decode cX7_isBoundary 37 = .ok (.ireturn, 1) := by decide +kernel
theorem dX7_lays_0 : decode cX7_lays 0 = .ok (.iconst 0, 1) := by decide +kernel
theorem dX7_lays_1 : decode cX7_lays 1 = .ok (.istore 4, 2) := by decide +kernel
theorem dX7_lays_3 : decode cX7_lays 3 = .ok (.iload 4, 2) := by decide +kernel
theorem dX7_lays_5 : decode cX7_lays 5 = .ok (.sipush 400, 3) := by decide +kernel
theorem dX7_lays_8 : decode cX7_lays 8 = .ok (.aload_n 0, 1) := by decide +kernel
theorem dX7_lays_9 : decode cX7_lays 9 = .ok (.getfield 90, 3) := by decide +kernel
theorem dX7_lays_12 : decode cX7_lays 12 = .ok (.imul, 1) := by decide +kernel
theorem dX7_lays_13 : decode cX7_lays 13 = .ok (.if_icmp .ge 24, 3) := by decide +kernel
theorem dX7_lays_16 : decode cX7_lays 16 = .ok (.aload_n 0, 1) := by decide +kernel
theorem dX7_lays_17 : decode cX7_lays 17 = .ok (.getfield 16, 3) := by decide +kernel
theorem dX7_lays_20 : decode cX7_lays 20 = .ok (.iload 4, 2) := by decide +kernel
theorem dX7_lays_22 : decode cX7_lays 22 = .ok (.dup2, 1) := by decide +kernel
theorem dX7_lays_23 : decode cX7_lays 23 = .ok (.iaload, 1) := by decide +kernel
theorem dX7_lays_24 : decode cX7_lays 24 = .ok (.iconst 1, 1) := by decide +kernel
theorem dX7_lays_25 : decode cX7_lays 25 = .ok (.iload_n 1, 1) := by decide +kernel
theorem dX7_lays_26 : decode cX7_lays 26 = .ok (.ishl, 1) := by decide +kernel
theorem dX7_lays_27 : decode cX7_lays 27 = .ok (.iconst (-1), 1) := by decide +kernel
theorem dX7_lays_28 : decode cX7_lays 28 = .ok (.ixor, 1) := by decide +kernel
theorem dX7_lays_29 : decode cX7_lays 29 = .ok (.iand, 1) := by decide +kernel
theorem dX7_lays_30 : decode cX7_lays 30 = .ok (.iastore, 1) := by decide +kernel
theorem dX7_lays_31 : decode cX7_lays 31 = .ok (.iinc 4 1, 3) := by decide +kernel
theorem dX7_lays_34 : decode cX7_lays 34 = .ok (.goto (-31), 3) := by decide +kernel
theorem dX7_lays_37 : decode cX7_lays 37 = .ok (.iload_n 2, 1) := by decide +kernel
theorem dX7_lays_38 : decode cX7_lays 38 = .ok (.istore 4, 2) := by decide +kernel
theorem dX7_lays_40 : decode cX7_lays 40 = .ok (.iload 4, 2) := by decide +kernel
theorem dX7_lays_42 : decode cX7_lays 42 = .ok (.iload_n 2, 1) := by decide +kernel
theorem dX7_lays_43 : decode cX7_lays 43 = .ok (.iload_n 3, 1) := by decide +kernel
theorem dX7_lays_44 : decode cX7_lays 44 = .ok (.iadd, 1) := by decide +kernel
theorem dX7_lays_45 : decode cX7_lays 45 = .ok (.if_icmp .ge 27, 3) := by decide +kernel
theorem dX7_lays_48 : decode cX7_lays 48 = .ok (.aload_n 0, 1) := by decide +kernel
theorem dX7_lays_49 : decode cX7_lays 49 = .ok (.getfield 16, 3) := by decide +kernel
theorem dX7_lays_52 : decode cX7_lays 52 = .ok (.aload_n 0, 1) := by decide +kernel
theorem dX7_lays_53 : decode cX7_lays 53 = .ok (.getfield 19, 3) := by decide +kernel
theorem dX7_lays_56 : decode cX7_lays 56 = .ok (.iload 4, 2) := by decide +kernel
theorem dX7_lays_58 : decode cX7_lays 58 = .ok (.iaload, 1) := by decide +kernel
theorem dX7_lays_59 : decode cX7_lays 59 = .ok (.dup2, 1) := by decide +kernel
theorem dX7_lays_60 : decode cX7_lays 60 = .ok (.iaload, 1) := by decide +kernel
theorem dX7_lays_61 : decode cX7_lays 61 = .ok (.iconst 1, 1) := by decide +kernel
theorem dX7_lays_62 : decode cX7_lays 62 = .ok (.iload_n 1, 1) := by decide +kernel
theorem dX7_lays_63 : decode cX7_lays 63 = .ok (.ishl, 1) := by decide +kernel
theorem dX7_lays_64 : decode cX7_lays 64 = .ok (.ior, 1) := by decide +kernel
theorem dX7_lays_65 : decode cX7_lays 65 = .ok (.iastore, 1) := by decide +kernel
theorem dX7_lays_66 : decode cX7_lays 66 = .ok (.iinc 4 1, 3) := by decide +kernel
theorem dX7_lays_69 : decode cX7_lays 69 = .ok (.goto (-29), 3) := by decide +kernel
theorem dX7_lays_72 : decode cX7_lays 72 = .ok (.aload_n 0, 1) := by decide +kernel
theorem dX7_lays_73 : decode cX7_lays 73 = .ok (.iload_n 1, 1) := by decide +kernel
theorem dX7_lays_74 : decode cX7_lays 74 = .ok (.invokevirtual 110, 3) := by decide +kernel
theorem dX7_lays_77 : decode cX7_lays 77 = .ok (.return_, 1) := by decide +kernel
theorem dX7_forgets_0 : decode cX7_forgets 0 = .ok (.iconst 0, 1) := by decide +kernel
theorem dX7_forgets_1 : decode cX7_forgets 1 = .ok (.istore_n 3, 1) := by decide +kernel
theorem dX7_forgets_2 : decode cX7_forgets 2 = .ok (.iload_n 3, 1) := by decide +kernel
theorem dX7_forgets_3 : decode cX7_forgets 3 = .ok (.bipush 8, 2) := by decide +kernel
theorem dX7_forgets_5 : decode cX7_forgets 5 = .ok (.if_icmp .ge 25, 3) := by decide +kernel
theorem dX7_forgets_8 : decode cX7_forgets 8 = .ok (.aload_n 0, 1) := by decide +kernel
theorem dX7_forgets_9 : decode cX7_forgets 9 = .ok (.getfield 49, 3) := by decide +kernel
theorem dX7_forgets_12 : decode cX7_forgets 12 = .ok (.bipush 8, 2) := by decide +kernel
theorem dX7_forgets_14 : decode cX7_forgets 14 = .ok (.iconst 3, 1) := by decide +kernel
theorem dX7_forgets_15 : decode cX7_forgets 15 = .ok (.iload_n 1, 1) := by decide +kernel
theorem dX7_forgets_16 : decode cX7_forgets 16 = .ok (.imul, 1) := by decide +kernel
theorem dX7_forgets_17 : decode cX7_forgets 17 = .ok (.iload_n 2, 1) := by decide +kernel
theorem dX7_forgets_18 : decode cX7_forgets 18 = .ok (.iadd, 1) := by decide +kernel
theorem dX7_forgets_19 : decode cX7_forgets 19 = .ok (.imul, 1) := by decide +kernel
theorem dX7_forgets_20 : decode cX7_forgets 20 = .ok (.iload_n 3, 1) := by decide +kernel
theorem dX7_forgets_21 : decode cX7_forgets 21 = .ok (.iadd, 1) := by decide +kernel
theorem dX7_forgets_22 : decode cX7_forgets 22 = .ok (.iconst 0, 1) := by decide +kernel
theorem dX7_forgets_23 : decode cX7_forgets 23 = .ok (.iastore, 1) := by decide +kernel
theorem dX7_forgets_24 : decode cX7_forgets 24 = .ok (.iinc 3 1, 3) := by decide +kernel
theorem dX7_forgets_27 : decode cX7_forgets 27 = .ok (.goto (-25), 3) := by decide +kernel
theorem dX7_forgets_30 : decode cX7_forgets 30 = .ok (.return_, 1) := by decide +kernel
theorem dX7_forgetsAll_0 : decode cX7_forgetsAll 0 = .ok (.iconst 0, 1) := by decide +kernel
theorem dX7_forgetsAll_1 : decode cX7_forgetsAll 1 = .ok (.istore_n 2, 1) := by decide +kernel
theorem dX7_forgetsAll_2 : decode cX7_forgetsAll 2 = .ok (.iload_n 2, 1) := by decide +kernel
theorem dX7_forgetsAll_3 : decode cX7_forgetsAll 3 = .ok (.iconst 3, 1) := by decide +kernel
theorem dX7_forgetsAll_4 : decode cX7_forgetsAll 4 = .ok (.if_icmp .ge 15, 3) := by decide +kernel
theorem dX7_forgetsAll_7 : decode cX7_forgetsAll 7 = .ok (.aload_n 0, 1) := by decide +kernel
theorem dX7_forgetsAll_8 : decode cX7_forgetsAll 8 = .ok (.iload_n 1, 1) := by decide +kernel
theorem dX7_forgetsAll_9 : decode cX7_forgetsAll 9 = .ok (.iload_n 2, 1) := by decide +kernel
theorem dX7_forgetsAll_10 : decode cX7_forgetsAll 10 = .ok (.invokevirtual 137, 3) := by decide +kernel
theorem dX7_forgetsAll_13 : decode cX7_forgetsAll 13 = .ok (.iinc 2 1, 3) := by decide +kernel
theorem dX7_forgetsAll_16 : decode cX7_forgetsAll 16 = .ok (.goto (-14), 3) := by decide +kernel
theorem dX7_forgetsAll_19 : decode cX7_forgetsAll 19 = .ok (.return_, 1) := by decide +kernel
theorem dX7_add_0 : decode cX7_add 0 = .ok (.aload_n 0, 1) := by decide +kernel
theorem dX7_add_1 : decode cX7_add 1 = .ok (.aload_n 0, 1) := by decide +kernel
theorem dX7_add_2 : decode cX7_add 2 = .ok (.iload_n 1, 1) := by decide +kernel
theorem dX7_add_3 : decode cX7_add 3 = .ok (.invokevirtual 117, 3) := by decide +kernel
theorem dX7_add_6 : decode cX7_add 6 = .ok (.ifCond .ne 7, 3) := by decide +kernel
theorem dX7_add_9 : decode cX7_add 9 = .ok (.iconst 1, 1) := by decide +kernel
theorem dX7_add_10 : decode cX7_add 10 = .ok (.goto 45, 3) := by decide +kernel
theorem dX7_add_13 : decode cX7_add 13 = .ok (.iload_n 2, 1) := by decide +kernel
theorem dX7_add_14 : decode cX7_add 14 = .ok (.iconst 1, 1) := by decide +kernel
theorem dX7_add_15 : decode cX7_add 15 = .ok (.sipush 250, 3) := by decide +kernel
theorem dX7_add_18 : decode cX7_add 18 = .ok (.invokestatic 93, 3) := by decide +kernel
theorem dX7_add_21 : decode cX7_add 21 = .ok (.ifCond .ne 7, 3) := by decide +kernel
theorem dX7_add_24 : decode cX7_add 24 = .ok (.iconst 2, 1) := by decide +kernel
theorem dX7_add_25 : decode cX7_add 25 = .ok (.goto 30, 3) := by decide +kernel
theorem dX7_add_28 : decode cX7_add 28 = .ok (.aload_n 0, 1) := by decide +kernel
theorem dX7_add_29 : decode cX7_add 29 = .ok (.iload_n 1, 1) := by decide +kernel
theorem dX7_add_30 : decode cX7_add 30 = .ok (.iload_n 2, 1) := by decide +kernel
theorem dX7_add_31 : decode cX7_add 31 = .ok (.invokevirtual 120, 3) := by decide +kernel
theorem dX7_add_34 : decode cX7_add 34 = .ok (.ifCond .ne 7, 3) := by decide +kernel
theorem dX7_add_37 : decode cX7_add 37 = .ok (.iconst 1, 1) := by decide +kernel
theorem dX7_add_38 : decode cX7_add 38 = .ok (.goto 17, 3) := by decide +kernel
theorem dX7_add_41 : decode cX7_add 41 = .ok (.aload_n 0, 1) := by decide +kernel
theorem dX7_add_42 : decode cX7_add 42 = .ok (.getfield 100, 3) := by decide +kernel
theorem dX7_add_45 : decode cX7_add 45 = .ok (.bipush 16, 2) := by decide +kernel
theorem dX7_add_47 : decode cX7_add 47 = .ok (.if_icmp .ne 7, 3) := by decide +kernel
theorem dX7_add_50 : decode cX7_add 50 = .ok (.iconst 3, 1) := by decide +kernel
theorem dX7_add_51 : decode cX7_add 51 = .ok (.goto 4, 3) := by decide +kernel
theorem dX7_add_54 : decode cX7_add 54 = .ok (.iconst 0, 1) := by decide +kernel
theorem dX7_add_55 : decode cX7_add 55 = .ok (.putfield 87, 3) := by decide +kernel
theorem dX7_add_58 : decode cX7_add 58 = .ok (.aload_n 0, 1) := by decide +kernel
theorem dX7_add_59 : decode cX7_add 59 = .ok (.getfield 87, 3) := by decide +kernel
theorem dX7_add_62 : decode cX7_add 62 = .ok (.ifCond .le 5, 3) := by decide +kernel
theorem dX7_add_65 : decode cX7_add 65 = .ok (.iconst 0, 1) := by decide +kernel
theorem dX7_add_66 : decode cX7_add 66 = .ok (.ireturn, 1) := by decide +kernel
theorem dX7_add_67 : decode cX7_add 67 = .ok (.aload_n 0, 1) := by decide +kernel
theorem dX7_add_68 : decode cX7_add 68 = .ok (.dup, 1) := by decide +kernel
theorem dX7_add_69 : decode cX7_add 69 = .ok (.getfield 100, 3) := by decide +kernel
theorem dX7_add_72 : decode cX7_add 72 = .ok (.iconst 1, 1) := by decide +kernel
theorem dX7_add_73 : decode cX7_add 73 = .ok (.iadd, 1) := by decide +kernel
theorem dX7_add_74 : decode cX7_add 74 = .ok (.putfield 100, 3) := by decide +kernel
theorem dX7_add_77 : decode cX7_add 77 = .ok (.aload_n 0, 1) := by decide +kernel
theorem dX7_add_78 : decode cX7_add 78 = .ok (.aload_n 0, 1) := by decide +kernel
theorem dX7_add_79 : decode cX7_add 79 = .ok (.getfield 100, 3) := by decide +kernel
theorem dX7_add_82 : decode cX7_add 82 = .ok (.iconst 1, 1) := by decide +kernel
theorem dX7_add_83 : decode cX7_add 83 = .ok (.isub, 1) := by decide +kernel
theorem dX7_add_84 : decode cX7_add 84 = .ok (.iload_n 1, 1) := by decide +kernel
theorem dX7_add_85 : decode cX7_add 85 = .ok (.iload_n 2, 1) := by decide +kernel
theorem dX7_add_86 : decode cX7_add 86 = .ok (.invokevirtual 140, 3) := by decide +kernel
theorem dX7_add_89 : decode cX7_add 89 = .ok (.aload_n 0, 1) := by decide +kernel
theorem dX7_add_90 : decode cX7_add 90 = .ok (.getfield 100, 3) := by decide +kernel
theorem dX7_add_93 : decode cX7_add 93 = .ok (.iconst 1, 1) := by decide +kernel
theorem dX7_add_94 : decode cX7_add 94 = .ok (.isub, 1) := by decide +kernel
theorem dX7_add_95 : decode cX7_add 95 = .ok (.ireturn, 1) := by decide +kernel
theorem dX7_lay_0 : decode cX7_lay 0 = .ok (.aload_n 0, 1) := by decide +kernel
theorem dX7_lay_1 : decode cX7_lay 1 = .ok (.aload_n 0, 1) := by decide +kernel
theorem dX7_lay_2 : decode cX7_lay 2 = .ok (.iload_n 1, 1) := by decide +kernel
theorem dX7_lay_3 : decode cX7_lay 3 = .ok (.invokevirtual 103, 3) := by decide +kernel
theorem dX7_lay_6 : decode cX7_lay 6 = .ok (.ifCond .eq 11, 3) := by decide +kernel
theorem dX7_lay_9 : decode cX7_lay 9 = .ok (.aload_n 0, 1) := by decide +kernel
theorem dX7_lay_10 : decode cX7_lay 10 = .ok (.iload_n 2, 1) := by decide +kernel
theorem dX7_lay_11 : decode cX7_lay 11 = .ok (.invokevirtual 117, 3) := by decide +kernel
theorem dX7_lay_14 : decode cX7_lay 14 = .ok (.ifCond .ne 7, 3) := by decide +kernel
theorem dX7_lay_17 : decode cX7_lay 17 = .ok (.iconst 1, 1) := by decide +kernel
theorem dX7_lay_18 : decode cX7_lay 18 = .ok (.goto 32, 3) := by decide +kernel
theorem dX7_lay_21 : decode cX7_lay 21 = .ok (.iload_n 3, 1) := by decide +kernel
theorem dX7_lay_22 : decode cX7_lay 22 = .ok (.iconst 1, 1) := by decide +kernel
theorem dX7_lay_23 : decode cX7_lay 23 = .ok (.sipush 250, 3) := by decide +kernel
theorem dX7_lay_26 : decode cX7_lay 26 = .ok (.invokestatic 93, 3) := by decide +kernel
theorem dX7_lay_29 : decode cX7_lay 29 = .ok (.ifCond .ne 7, 3) := by decide +kernel
theorem dX7_lay_32 : decode cX7_lay 32 = .ok (.iconst 2, 1) := by decide +kernel
theorem dX7_lay_33 : decode cX7_lay 33 = .ok (.goto 17, 3) := by decide +kernel
theorem dX7_lay_36 : decode cX7_lay 36 = .ok (.aload_n 0, 1) := by decide +kernel
theorem dX7_lay_37 : decode cX7_lay 37 = .ok (.iload_n 2, 1) := by decide +kernel
theorem dX7_lay_38 : decode cX7_lay 38 = .ok (.iload_n 3, 1) := by decide +kernel
theorem dX7_lay_39 : decode cX7_lay 39 = .ok (.invokevirtual 120, 3) := by decide +kernel
theorem dX7_lay_42 : decode cX7_lay 42 = .ok (.ifCond .eq 7, 3) := by decide +kernel
theorem dX7_lay_45 : decode cX7_lay 45 = .ok (.iconst 0, 1) := by decide +kernel
theorem dX7_lay_46 : decode cX7_lay 46 = .ok (.goto 4, 3) := by decide +kernel
theorem dX7_lay_49 : decode cX7_lay 49 = .ok (.iconst 1, 1) := by decide +kernel
theorem dX7_lay_50 : decode cX7_lay 50 = .ok (.putfield 87, 3) := by decide +kernel
theorem dX7_lay_53 : decode cX7_lay 53 = .ok (.aload_n 0, 1) := by decide +kernel
theorem dX7_lay_54 : decode cX7_lay 54 = .ok (.getfield 87, 3) := by decide +kernel
theorem dX7_lay_57 : decode cX7_lay 57 = .ok (.ifCond .le 5, 3) := by decide +kernel
theorem dX7_lay_60 : decode cX7_lay 60 = .ok (.iconst 0, 1) := by decide +kernel
theorem dX7_lay_61 : decode cX7_lay 61 = .ok (.ireturn, 1) := by decide +kernel
theorem dX7_lay_62 : decode cX7_lay 62 = .ok (.aload_n 0, 1) := by decide +kernel
theorem dX7_lay_63 : decode cX7_lay 63 = .ok (.getfield 28, 3) := by decide +kernel
theorem dX7_lay_66 : decode cX7_lay 66 = .ok (.iload_n 1, 1) := by decide +kernel
theorem dX7_lay_67 : decode cX7_lay 67 = .ok (.iaload, 1) := by decide +kernel
theorem dX7_lay_68 : decode cX7_lay 68 = .ok (.istore 4, 2) := by decide +kernel
theorem dX7_lay_70 : decode cX7_lay 70 = .ok (.aload_n 0, 1) := by decide +kernel
theorem dX7_lay_71 : decode cX7_lay 71 = .ok (.iload_n 1, 1) := by decide +kernel
theorem dX7_lay_72 : decode cX7_lay 72 = .ok (.iload_n 2, 1) := by decide +kernel
theorem dX7_lay_73 : decode cX7_lay 73 = .ok (.iload_n 3, 1) := by decide +kernel
theorem dX7_lay_74 : decode cX7_lay 74 = .ok (.invokevirtual 140, 3) := by decide +kernel
theorem dX7_lay_77 : decode cX7_lay 77 = .ok (.aload_n 0, 1) := by decide +kernel
theorem dX7_lay_78 : decode cX7_lay 78 = .ok (.iload_n 1, 1) := by decide +kernel
theorem dX7_lay_79 : decode cX7_lay 79 = .ok (.invokevirtual 144, 3) := by decide +kernel
theorem dX7_lay_82 : decode cX7_lay 82 = .ok (.iload 4, 2) := by decide +kernel
theorem dX7_lay_84 : decode cX7_lay 84 = .ok (.ireturn, 1) := by decide +kernel
theorem dX7_setLook_0 : decode cX7_setLook 0 = .ok (.aload_n 0, 1) := by decide +kernel
theorem dX7_setLook_1 : decode cX7_setLook 1 = .ok (.aload_n 0, 1) := by decide +kernel
theorem dX7_setLook_2 : decode cX7_setLook 2 = .ok (.iload_n 1, 1) := by decide +kernel
theorem dX7_setLook_3 : decode cX7_setLook 3 = .ok (.invokevirtual 103, 3) := by decide +kernel
theorem dX7_setLook_6 : decode cX7_setLook 6 = .ok (.ifCond .ne 7, 3) := by decide +kernel
theorem dX7_setLook_9 : decode cX7_setLook 9 = .ok (.iconst 1, 1) := by decide +kernel
theorem dX7_setLook_10 : decode cX7_setLook 10 = .ok (.goto 17, 3) := by decide +kernel
theorem dX7_setLook_13 : decode cX7_setLook 13 = .ok (.iload_n 2, 1) := by decide +kernel
theorem dX7_setLook_14 : decode cX7_setLook 14 = .ok (.iconst 0, 1) := by decide +kernel
theorem dX7_setLook_15 : decode cX7_setLook 15 = .ok (.iconst 3, 1) := by decide +kernel
theorem dX7_setLook_16 : decode cX7_setLook 16 = .ok (.invokestatic 93, 3) := by decide +kernel
theorem dX7_setLook_19 : decode cX7_setLook 19 = .ok (.ifCond .eq 7, 3) := by decide +kernel
theorem dX7_setLook_22 : decode cX7_setLook 22 = .ok (.iconst 0, 1) := by decide +kernel
theorem dX7_setLook_23 : decode cX7_setLook 23 = .ok (.goto 4, 3) := by decide +kernel
theorem dX7_setLook_26 : decode cX7_setLook 26 = .ok (.iconst 2, 1) := by decide +kernel
theorem dX7_setLook_27 : decode cX7_setLook 27 = .ok (.putfield 87, 3) := by decide +kernel
theorem dX7_setLook_30 : decode cX7_setLook 30 = .ok (.aload_n 0, 1) := by decide +kernel
theorem dX7_setLook_31 : decode cX7_setLook 31 = .ok (.getfield 87, 3) := by decide +kernel
theorem dX7_setLook_34 : decode cX7_setLook 34 = .ok (.ifCond .le 5, 3) := by decide +kernel
theorem dX7_setLook_37 : decode cX7_setLook 37 = .ok (.iconst 0, 1) := by decide +kernel
theorem dX7_setLook_38 : decode cX7_setLook 38 = .ok (.ireturn, 1) := by decide +kernel
theorem dX7_setLook_39 : decode cX7_setLook 39 = .ok (.aload_n 0, 1) := by decide +kernel
theorem dX7_setLook_40 : decode cX7_setLook 40 = .ok (.getfield 25, 3) := by decide +kernel
theorem dX7_setLook_43 : decode cX7_setLook 43 = .ok (.iload_n 1, 1) := by decide +kernel
theorem dX7_setLook_44 : decode cX7_setLook 44 = .ok (.iaload, 1) := by decide +kernel
theorem dX7_setLook_45 : decode cX7_setLook 45 = .ok (.istore_n 3, 1) := by decide +kernel
theorem dX7_setLook_46 : decode cX7_setLook 46 = .ok (.aload_n 0, 1) := by decide +kernel
theorem dX7_setLook_47 : decode cX7_setLook 47 = .ok (.getfield 25, 3) := by decide +kernel
theorem dX7_setLook_50 : decode cX7_setLook 50 = .ok (.iload_n 1, 1) := by decide +kernel
theorem dX7_setLook_51 : decode cX7_setLook 51 = .ok (.iload_n 2, 1) := by decide +kernel
theorem dX7_setLook_52 : decode cX7_setLook 52 = .ok (.iastore, 1) := by decide +kernel
theorem dX7_setLook_53 : decode cX7_setLook 53 = .ok (.iload_n 3, 1) := by decide +kernel
theorem dX7_setLook_54 : decode cX7_setLook 54 = .ok (.iload_n 2, 1) := by decide +kernel
theorem dX7_setLook_55 : decode cX7_setLook 55 = .ok (.if_icmp .eq 8, 3) := by decide +kernel
theorem dX7_setLook_58 : decode cX7_setLook 58 = .ok (.aload_n 0, 1) := by decide +kernel
theorem dX7_setLook_59 : decode cX7_setLook 59 = .ok (.iload_n 1, 1) := by decide +kernel
theorem dX7_setLook_60 : decode cX7_setLook 60 = .ok (.invokevirtual 144, 3) := by decide +kernel
theorem dX7_setLook_63 : decode cX7_setLook 63 = .ok (.iload_n 3, 1) := by decide +kernel
theorem dX7_setLook_64 : decode cX7_setLook 64 = .ok (.ireturn, 1) := by decide +kernel
theorem dX7_captions_0 : decode cX7_captions 0 = .ok (.aload_n 0, 1) := by decide +kernel
theorem dX7_captions_1 : decode cX7_captions 1 = .ok (.iconst 0, 1) := by decide +kernel
theorem dX7_captions_2 : decode cX7_captions 2 = .ok (.putfield 87, 3) := by decide +kernel
theorem dX7_captions_5 : decode cX7_captions 5 = .ok (.aload_n 0, 1) := by decide +kernel
theorem dX7_captions_6 : decode cX7_captions 6 = .ok (.getfield 100, 3) := by decide +kernel
theorem dX7_captions_9 : decode cX7_captions 9 = .ok (.ireturn, 1) := by decide +kernel
theorem dX7_asksCaption_0 : decode cX7_asksCaption 0 = .ok (.aload_n 0, 1) := by decide +kernel
theorem dX7_asksCaption_1 : decode cX7_asksCaption 1 = .ok (.aload_n 0, 1) := by decide +kernel
theorem dX7_asksCaption_2 : decode cX7_asksCaption 2 = .ok (.iload_n 1, 1) := by decide +kernel
theorem dX7_asksCaption_3 : decode cX7_asksCaption 3 = .ok (.invokevirtual 103, 3) := by decide +kernel
theorem dX7_asksCaption_6 : decode cX7_asksCaption 6 = .ok (.ifCond .eq 7, 3) := by decide +kernel
theorem dX7_asksCaption_9 : decode cX7_asksCaption 9 = .ok (.iconst 0, 1) := by decide +kernel
theorem dX7_asksCaption_10 : decode cX7_asksCaption 10 = .ok (.goto 4, 3) := by decide +kernel
theorem dX7_asksCaption_13 : decode cX7_asksCaption 13 = .ok (.iconst 1, 1) := by decide +kernel
theorem dX7_asksCaption_14 : decode cX7_asksCaption 14 = .ok (.putfield 87, 3) := by decide +kernel
theorem dX7_asksCaption_17 : decode cX7_asksCaption 17 = .ok (.aload_n 0, 1) := by decide +kernel
theorem dX7_asksCaption_18 : decode cX7_asksCaption 18 = .ok (.getfield 87, 3) := by decide +kernel
theorem dX7_asksCaption_21 : decode cX7_asksCaption 21 = .ok (.ifCond .ne 7, 3) := by decide +kernel
theorem dX7_asksCaption_24 : decode cX7_asksCaption 24 = .ok (.iconst 1, 1) := by decide +kernel
theorem dX7_asksCaption_25 : decode cX7_asksCaption 25 = .ok (.goto 4, 3) := by decide +kernel
theorem dX7_asksCaption_28 : decode cX7_asksCaption 28 = .ok (.iconst 0, 1) := by decide +kernel
theorem dX7_asksCaption_29 : decode cX7_asksCaption 29 = .ok (.ireturn, 1) := by decide +kernel
theorem dX7_startOf_0 : decode cX7_startOf 0 = .ok (.aload_n 0, 1) := by decide +kernel
theorem dX7_startOf_1 : decode cX7_startOf 1 = .ok (.iload_n 1, 1) := by decide +kernel
theorem dX7_startOf_2 : decode cX7_startOf 2 = .ok (.invokevirtual 147, 3) := by decide +kernel
theorem dX7_startOf_5 : decode cX7_startOf 5 = .ok (.ifCond .eq 12, 3) := by decide +kernel
theorem dX7_startOf_8 : decode cX7_startOf 8 = .ok (.aload_n 0, 1) := by decide +kernel
theorem dX7_startOf_9 : decode cX7_startOf 9 = .ok (.getfield 28, 3) := by decide +kernel
theorem dX7_startOf_12 : decode cX7_startOf 12 = .ok (.iload_n 1, 1) := by decide +kernel
theorem dX7_startOf_13 : decode cX7_startOf 13 = .ok (.iaload, 1) := by decide +kernel
theorem dX7_startOf_14 : decode cX7_startOf 14 = .ok (.goto 4, 3) := by decide +kernel
theorem dX7_startOf_17 : decode cX7_startOf 17 = .ok (.iconst 0, 1) := by decide +kernel
theorem dX7_startOf_18 : decode cX7_startOf 18 = .ok (.ireturn, 1) := by decide +kernel
theorem dX7_lengthOf_0 : decode cX7_lengthOf 0 = .ok (.aload_n 0, 1) := by decide +kernel
theorem dX7_lengthOf_1 : decode cX7_lengthOf 1 = .ok (.iload_n 1, 1) := by decide +kernel
theorem dX7_lengthOf_2 : decode cX7_lengthOf 2 = .ok (.invokevirtual 147, 3) := by decide +kernel
theorem dX7_lengthOf_5 : decode cX7_lengthOf 5 = .ok (.ifCond .eq 12, 3) := by decide +kernel
theorem dX7_lengthOf_8 : decode cX7_lengthOf 8 = .ok (.aload_n 0, 1) := by decide +kernel
theorem dX7_lengthOf_9 : decode cX7_lengthOf 9 = .ok (.getfield 31, 3) := by decide +kernel
theorem dX7_lengthOf_12 : decode cX7_lengthOf 12 = .ok (.iload_n 1, 1) := by decide +kernel
theorem dX7_lengthOf_13 : decode cX7_lengthOf 13 = .ok (.iaload, 1) := by decide +kernel
theorem dX7_lengthOf_14 : decode cX7_lengthOf 14 = .ok (.goto 4, 3) := by decide +kernel
theorem dX7_lengthOf_17 : decode cX7_lengthOf 17 = .ok (.iconst 0, 1) := by decide +kernel
theorem dX7_lengthOf_18 : decode cX7_lengthOf 18 = .ok (.ireturn, 1) := by decide +kernel
theorem dX7_startByFrames_0 : decode cX7_startByFrames 0 = .ok (.aload_n 0, 1) := by decide +kernel
theorem dX7_startByFrames_1 : decode cX7_startByFrames 1 = .ok (.iload_n 1, 1) := by decide +kernel
theorem dX7_startByFrames_2 : decode cX7_startByFrames 2 = .ok (.invokevirtual 147, 3) := by decide +kernel
theorem dX7_startByFrames_5 : decode cX7_startByFrames 5 = .ok (.ifCond .eq 12, 3) := by decide +kernel
theorem dX7_startByFrames_8 : decode cX7_startByFrames 8 = .ok (.aload_n 0, 1) := by decide +kernel
theorem dX7_startByFrames_9 : decode cX7_startByFrames 9 = .ok (.getfield 28, 3) := by decide +kernel
theorem dX7_startByFrames_12 : decode cX7_startByFrames 12 = .ok (.iload_n 1, 1) := by decide +kernel
theorem dX7_startByFrames_13 : decode cX7_startByFrames 13 = .ok (.iaload, 1) := by decide +kernel
theorem dX7_startByFrames_14 : decode cX7_startByFrames 14 = .ok (.goto 4, 3) := by decide +kernel
theorem dX7_startByFrames_17 : decode cX7_startByFrames 17 = .ok (.iconst 0, 1) := by decide +kernel
theorem dX7_startByFrames_18 : decode cX7_startByFrames 18 = .ok (.ireturn, 1) := by decide +kernel
theorem dX7_isAhead_0 : decode cX7_isAhead 0 = .ok (.aload_n 0, 1) := by decide +kernel
theorem dX7_isAhead_1 : decode cX7_isAhead 1 = .ok (.getfield 28, 3) := by decide +kernel
theorem dX7_isAhead_4 : decode cX7_isAhead 4 = .ok (.iload_n 1, 1) := by decide +kernel
theorem dX7_isAhead_5 : decode cX7_isAhead 5 = .ok (.iaload, 1) := by decide +kernel
theorem dX7_isAhead_6 : decode cX7_isAhead 6 = .ok (.aload_n 0, 1) := by decide +kernel
theorem dX7_isAhead_7 : decode cX7_isAhead 7 = .ok (.getfield 28, 3) := by decide +kernel
theorem dX7_isAhead_10 : decode cX7_isAhead 10 = .ok (.iload_n 2, 1) := by decide +kernel
theorem dX7_isAhead_11 : decode cX7_isAhead 11 = .ok (.iaload, 1) := by decide +kernel
theorem dX7_isAhead_12 : decode cX7_isAhead 12 = .ok (.if_icmp .lt 23, 3) := by decide +kernel
theorem dX7_isAhead_15 : decode cX7_isAhead 15 = .ok (.aload_n 0, 1) := by decide +kernel
theorem dX7_isAhead_16 : decode cX7_isAhead 16 = .ok (.getfield 28, 3) := by decide +kernel
theorem dX7_isAhead_19 : decode cX7_isAhead 19 = .ok (.iload_n 1, 1) := by decide +kernel
theorem dX7_isAhead_20 : decode cX7_isAhead 20 = .ok (.iaload, 1) := by decide +kernel
theorem dX7_isAhead_21 : decode cX7_isAhead 21 = .ok (.aload_n 0, 1) := by decide +kernel
theorem dX7_isAhead_22 : decode cX7_isAhead 22 = .ok (.getfield 28, 3) := by decide +kernel
theorem dX7_isAhead_25 : decode cX7_isAhead 25 = .ok (.iload_n 2, 1) := by decide +kernel
theorem dX7_isAhead_26 : decode cX7_isAhead 26 = .ok (.iaload, 1) := by decide +kernel
theorem dX7_isAhead_27 : decode cX7_isAhead 27 = .ok (.if_icmp .ne 12, 3) := by decide +kernel
theorem dX7_isAhead_30 : decode cX7_isAhead 30 = .ok (.iload_n 1, 1) := by decide +kernel
theorem dX7_isAhead_31 : decode cX7_isAhead 31 = .ok (.iload_n 2, 1) := by decide +kernel
theorem dX7_isAhead_32 : decode cX7_isAhead 32 = .ok (.if_icmp .ge 7, 3) := by decide +kernel
theorem dX7_isAhead_35 : decode cX7_isAhead 35 = .ok (.iconst 1, 1) := by decide +kernel
theorem dX7_isAhead_36 : decode cX7_isAhead 36 = .ok (.goto 4, 3) := by decide +kernel
theorem dX7_isAhead_39 : decode cX7_isAhead 39 = .ok (.iconst 0, 1) := by decide +kernel
theorem dX7_isAhead_40 : decode cX7_isAhead 40 = .ok (.ireturn, 1) := by decide +kernel
theorem dX7_captionAt_0 : decode cX7_captionAt 0 = .ok (.iconst (-1), 1) := by decide +kernel
theorem dX7_captionAt_1 : decode cX7_captionAt 1 = .ok (.istore_n 2, 1) := by decide +kernel
theorem dX7_captionAt_2 : decode cX7_captionAt 2 = .ok (.iconst 0, 1) := by decide +kernel
theorem dX7_captionAt_3 : decode cX7_captionAt 3 = .ok (.istore_n 3, 1) := by decide +kernel
theorem dX7_captionAt_4 : decode cX7_captionAt 4 = .ok (.iload_n 3, 1) := by decide +kernel
theorem dX7_captionAt_5 : decode cX7_captionAt 5 = .ok (.aload_n 0, 1) := by decide +kernel
theorem dX7_captionAt_6 : decode cX7_captionAt 6 = .ok (.getfield 100, 3) := by decide +kernel
theorem dX7_captionAt_9 : decode cX7_captionAt 9 = .ok (.if_icmp .ge 83, 3) := by decide +kernel
theorem dX7_captionAt_12 : decode cX7_captionAt 12 = .ok (.iconst 0, 1) := by decide +kernel
theorem dX7_captionAt_13 : decode cX7_captionAt 13 = .ok (.istore 4, 2) := by decide +kernel
theorem dX7_captionAt_15 : decode cX7_captionAt 15 = .ok (.iconst 0, 1) := by decide +kernel
theorem dX7_captionAt_16 : decode cX7_captionAt 16 = .ok (.istore 5, 2) := by decide +kernel
theorem dX7_captionAt_18 : decode cX7_captionAt 18 = .ok (.iload 5, 2) := by decide +kernel
theorem dX7_captionAt_20 : decode cX7_captionAt 20 = .ok (.aload_n 0, 1) := by decide +kernel
theorem dX7_captionAt_21 : decode cX7_captionAt 21 = .ok (.getfield 100, 3) := by decide +kernel
theorem dX7_captionAt_24 : decode cX7_captionAt 24 = .ok (.if_icmp .ge 40, 3) := by decide +kernel
theorem dX7_captionAt_27 : decode cX7_captionAt 27 = .ok (.iload 4, 2) := by decide +kernel
theorem dX7_captionAt_29 : decode cX7_captionAt 29 = .ok (.aload_n 0, 1) := by decide +kernel
theorem dX7_captionAt_30 : decode cX7_captionAt 30 = .ok (.getfield 28, 3) := by decide +kernel
theorem dX7_captionAt_33 : decode cX7_captionAt 33 = .ok (.iload 5, 2) := by decide +kernel
theorem dX7_captionAt_35 : decode cX7_captionAt 35 = .ok (.iaload, 1) := by decide +kernel
theorem dX7_captionAt_36 : decode cX7_captionAt 36 = .ok (.iconst (-1), 1) := by decide +kernel
theorem dX7_captionAt_37 : decode cX7_captionAt 37 = .ok (.if_icmp .eq 17, 3) := by decide +kernel
theorem dX7_captionAt_40 : decode cX7_captionAt 40 = .ok (.aload_n 0, 1) := by decide +kernel
theorem dX7_captionAt_41 : decode cX7_captionAt 41 = .ok (.iload 5, 2) := by decide +kernel
theorem dX7_captionAt_43 : decode cX7_captionAt 43 = .ok (.iload_n 3, 1) := by decide +kernel
theorem dX7_captionAt_44 : decode cX7_captionAt 44 = .ok (.invokevirtual 150, 3) := by decide +kernel
theorem dX7_captionAt_47 : decode cX7_captionAt 47 = .ok (.ifCond .eq 7, 3) := by decide +kernel
theorem dX7_captionAt_50 : decode cX7_captionAt 50 = .ok (.iconst 1, 1) := by decide +kernel
theorem dX7_captionAt_51 : decode cX7_captionAt 51 = .ok (.goto 4, 3) := by decide +kernel
theorem dX7_captionAt_54 : decode cX7_captionAt 54 = .ok (.iconst 0, 1) := by decide +kernel
theorem dX7_captionAt_55 : decode cX7_captionAt 55 = .ok (.iadd, 1) := by decide +kernel
theorem dX7_captionAt_56 : decode cX7_captionAt 56 = .ok (.istore 4, 2) := by decide +kernel
theorem dX7_captionAt_58 : decode cX7_captionAt 58 = .ok (.iinc 5 1, 3) := by decide +kernel
theorem dX7_captionAt_61 : decode cX7_captionAt 61 = .ok (.goto (-43), 3) := by decide +kernel
theorem dX7_captionAt_64 : decode cX7_captionAt 64 = .ok (.aload_n 0, 1) := by decide +kernel
theorem dX7_captionAt_65 : decode cX7_captionAt 65 = .ok (.getfield 28, 3) := by decide +kernel
theorem dX7_captionAt_68 : decode cX7_captionAt 68 = .ok (.iload_n 3, 1) := by decide +kernel
theorem dX7_captionAt_69 : decode cX7_captionAt 69 = .ok (.iaload, 1) := by decide +kernel
theorem dX7_captionAt_70 : decode cX7_captionAt 70 = .ok (.iconst (-1), 1) := by decide +kernel
theorem dX7_captionAt_71 : decode cX7_captionAt 71 = .ok (.if_icmp .eq 13, 3) := by decide +kernel
theorem dX7_captionAt_74 : decode cX7_captionAt 74 = .ok (.iload 4, 2) := by decide +kernel
theorem dX7_captionAt_76 : decode cX7_captionAt 76 = .ok (.iload_n 1, 1) := by decide +kernel
theorem dX7_captionAt_77 : decode cX7_captionAt 77 = .ok (.if_icmp .ne 7, 3) := by decide +kernel
theorem dX7_captionAt_80 : decode cX7_captionAt 80 = .ok (.iload_n 3, 1) := by decide +kernel
theorem dX7_captionAt_81 : decode cX7_captionAt 81 = .ok (.goto 4, 3) := by decide +kernel
theorem dX7_captionAt_84 : decode cX7_captionAt 84 = .ok (.iload_n 2, 1) := by decide +kernel
theorem dX7_captionAt_85 : decode cX7_captionAt 85 = .ok (.istore_n 2, 1) := by decide +kernel
theorem dX7_captionAt_86 : decode cX7_captionAt 86 = .ok (.iinc 3 1, 3) := by decide +kernel
theorem dX7_captionAt_89 : decode cX7_captionAt 89 = .ok (.goto (-85), 3) := by decide +kernel
theorem dX7_captionAt_92 : decode cX7_captionAt 92 = .ok (.iload_n 2, 1) := by decide +kernel
theorem dX7_captionAt_93 : decode cX7_captionAt 93 = .ok (.ireturn, 1) := by decide +kernel
theorem dX7_inOrder_0 : decode cX7_inOrder 0 = .ok (.aload_n 0, 1) := by decide +kernel
theorem dX7_inOrder_1 : decode cX7_inOrder 1 = .ok (.iload_n 1, 1) := by decide +kernel
theorem dX7_inOrder_2 : decode cX7_inOrder 2 = .ok (.ifCond .ge 7, 3) := by decide +kernel
theorem dX7_inOrder_5 : decode cX7_inOrder 5 = .ok (.iconst 1, 1) := by decide +kernel
theorem dX7_inOrder_6 : decode cX7_inOrder 6 = .ok (.goto 4, 3) := by decide +kernel
theorem dX7_inOrder_9 : decode cX7_inOrder 9 = .ok (.iconst 0, 1) := by decide +kernel
theorem dX7_inOrder_10 : decode cX7_inOrder 10 = .ok (.putfield 87, 3) := by decide +kernel
theorem dX7_inOrder_13 : decode cX7_inOrder 13 = .ok (.aload_n 0, 1) := by decide +kernel
theorem dX7_inOrder_14 : decode cX7_inOrder 14 = .ok (.getfield 87, 3) := by decide +kernel
theorem dX7_inOrder_17 : decode cX7_inOrder 17 = .ok (.ifCond .le 7, 3) := by decide +kernel
theorem dX7_inOrder_20 : decode cX7_inOrder 20 = .ok (.iconst 0, 1) := by decide +kernel
theorem dX7_inOrder_21 : decode cX7_inOrder 21 = .ok (.goto 8, 3) := by decide +kernel
theorem dX7_inOrder_24 : decode cX7_inOrder 24 = .ok (.aload_n 0, 1) := by decide +kernel
theorem dX7_inOrder_25 : decode cX7_inOrder 25 = .ok (.iload_n 1, 1) := by decide +kernel
theorem dX7_inOrder_26 : decode cX7_inOrder 26 = .ok (.invokevirtual 153, 3) := by decide +kernel
theorem dX7_inOrder_29 : decode cX7_inOrder 29 = .ok (.ireturn, 1) := by decide +kernel
theorem dX7_asks_0 : decode cX7_asks 0 = .ok (.aload_n 0, 1) := by decide +kernel
theorem dX7_asks_1 : decode cX7_asks 1 = .ok (.aload_n 0, 1) := by decide +kernel
theorem dX7_asks_2 : decode cX7_asks 2 = .ok (.iload_n 1, 1) := by decide +kernel
theorem dX7_asks_3 : decode cX7_asks 3 = .ok (.iload_n 2, 1) := by decide +kernel
theorem dX7_asks_4 : decode cX7_asks 4 = .ok (.invokevirtual 157, 3) := by decide +kernel
theorem dX7_asks_7 : decode cX7_asks 7 = .ok (.ifCond .eq 7, 3) := by decide +kernel
theorem dX7_asks_10 : decode cX7_asks 10 = .ok (.iconst 0, 1) := by decide +kernel
theorem dX7_asks_11 : decode cX7_asks 11 = .ok (.goto 4, 3) := by decide +kernel
theorem dX7_asks_14 : decode cX7_asks 14 = .ok (.iconst 1, 1) := by decide +kernel
theorem dX7_asks_15 : decode cX7_asks 15 = .ok (.putfield 87, 3) := by decide +kernel
theorem dX7_asks_18 : decode cX7_asks 18 = .ok (.aload_n 0, 1) := by decide +kernel
theorem dX7_asks_19 : decode cX7_asks 19 = .ok (.getfield 87, 3) := by decide +kernel
theorem dX7_asks_22 : decode cX7_asks 22 = .ok (.ifCond .ne 7, 3) := by decide +kernel
theorem dX7_asks_25 : decode cX7_asks 25 = .ok (.iconst 1, 1) := by decide +kernel
theorem dX7_asks_26 : decode cX7_asks 26 = .ok (.goto 4, 3) := by decide +kernel
theorem dX7_asks_29 : decode cX7_asks 29 = .ok (.iconst 0, 1) := by decide +kernel
theorem dX7_asks_30 : decode cX7_asks 30 = .ok (.ireturn, 1) := by decide +kernel
theorem dX7_isSign_0 : decode cX7_isSign 0 = .ok (.iload_n 0, 1) := by decide +kernel
theorem dX7_isSign_1 : decode cX7_isSign 1 = .ok (.bipush 10, 2) := by decide +kernel
theorem dX7_isSign_3 : decode cX7_isSign 3 = .ok (.if_icmp .eq 25, 3) := by decide +kernel
theorem dX7_isSign_6 : decode cX7_isSign 6 = .ok (.iload_n 0, 1) := by decide +kernel
theorem dX7_isSign_7 : decode cX7_isSign 7 = .ok (.bipush 32, 2) := by decide +kernel
theorem dX7_isSign_9 : decode cX7_isSign 9 = .ok (.ldc 160, 2) := by decide +kernel
theorem dX7_isSign_11 : decode cX7_isSign 11 = .ok (.invokestatic 93, 3) := by decide +kernel
theorem dX7_isSign_14 : decode cX7_isSign 14 = .ok (.ifCond .ne 14, 3) := by decide +kernel
theorem dX7_isSign_17 : decode cX7_isSign 17 = .ok (.iload_n 0, 1) := by decide +kernel
theorem dX7_isSign_18 : decode cX7_isSign 18 = .ok (.ldc 161, 2) := by decide +kernel
theorem dX7_isSign_20 : decode cX7_isSign 20 = .ok (.ldc 162, 2) := by decide +kernel
theorem dX7_isSign_22 : decode cX7_isSign 22 = .ok (.invokestatic 93, 3) := by decide +kernel
theorem dX7_isSign_25 : decode cX7_isSign 25 = .ok (.ifCond .eq 7, 3) := by decide +kernel
theorem dX7_isSign_28 : decode cX7_isSign 28 = .ok (.iconst 1, 1) := by decide +kernel
theorem dX7_isSign_29 : decode cX7_isSign 29 = .ok (.goto 4, 3) := by decide +kernel
theorem dX7_isSign_32 : decode cX7_isSign 32 = .ok (.iconst 0, 1) := by decide +kernel
theorem dX7_isSign_33 : decode cX7_isSign 33 = .ok (.ireturn, 1) := by decide +kernel
theorem dX7_marks_0 : decode cX7_marks 0 = .ok (.aload_n 0, 1) := by decide +kernel
theorem dX7_marks_1 : decode cX7_marks 1 = .ok (.dup, 1) := by decide +kernel
theorem dX7_marks_2 : decode cX7_marks 2 = .ok (.getfield 163, 3) := by decide +kernel
theorem dX7_marks_5 : decode cX7_marks 5 = .ok (.iconst 1, 1) := by decide +kernel
theorem dX7_marks_6 : decode cX7_marks 6 = .ok (.iadd, 1) := by decide +kernel
theorem dX7_marks_7 : decode cX7_marks 7 = .ok (.putfield 163, 3) := by decide +kernel
theorem dX7_marks_10 : decode cX7_marks 10 = .ok (.aload_n 0, 1) := by decide +kernel
theorem dX7_marks_11 : decode cX7_marks 11 = .ok (.getfield 46, 3) := by decide +kernel
theorem dX7_marks_14 : decode cX7_marks 14 = .ok (.iconst 3, 1) := by decide +kernel
theorem dX7_marks_15 : decode cX7_marks 15 = .ok (.iload_n 1, 1) := by decide +kernel
theorem dX7_marks_16 : decode cX7_marks 16 = .ok (.imul, 1) := by decide +kernel
theorem dX7_marks_17 : decode cX7_marks 17 = .ok (.iload_n 2, 1) := by decide +kernel
theorem dX7_marks_18 : decode cX7_marks 18 = .ok (.iadd, 1) := by decide +kernel
theorem dX7_marks_19 : decode cX7_marks 19 = .ok (.aload_n 0, 1) := by decide +kernel
theorem dX7_marks_20 : decode cX7_marks 20 = .ok (.getfield 163, 3) := by decide +kernel
theorem dX7_marks_23 : decode cX7_marks 23 = .ok (.iastore, 1) := by decide +kernel
theorem dX7_marks_24 : decode cX7_marks 24 = .ok (.return_, 1) := by decide +kernel
theorem dX7_type_0 : decode cX7_type 0 = .ok (.aload_n 0, 1) := by decide +kernel
theorem dX7_type_1 : decode cX7_type 1 = .ok (.aload_n 0, 1) := by decide +kernel
theorem dX7_type_2 : decode cX7_type 2 = .ok (.iload_n 1, 1) := by decide +kernel
theorem dX7_type_3 : decode cX7_type 3 = .ok (.iload_n 2, 1) := by decide +kernel
theorem dX7_type_4 : decode cX7_type 4 = .ok (.invokevirtual 157, 3) := by decide +kernel
theorem dX7_type_7 : decode cX7_type 7 = .ok (.ifCond .ne 7, 3) := by decide +kernel
theorem dX7_type_10 : decode cX7_type 10 = .ok (.iconst 1, 1) := by decide +kernel
theorem dX7_type_11 : decode cX7_type 11 = .ok (.goto 34, 3) := by decide +kernel
theorem dX7_type_14 : decode cX7_type 14 = .ok (.iload_n 3, 1) := by decide +kernel
theorem dX7_type_15 : decode cX7_type 15 = .ok (.invokestatic 166, 3) := by decide +kernel
theorem dX7_type_18 : decode cX7_type 18 = .ok (.ifCond .ne 7, 3) := by decide +kernel
theorem dX7_type_21 : decode cX7_type 21 = .ok (.iconst 2, 1) := by decide +kernel
theorem dX7_type_22 : decode cX7_type 22 = .ok (.goto 23, 3) := by decide +kernel
theorem dX7_type_25 : decode cX7_type 25 = .ok (.aload_n 0, 1) := by decide +kernel
theorem dX7_type_26 : decode cX7_type 26 = .ok (.getfield 40, 3) := by decide +kernel
theorem dX7_type_29 : decode cX7_type 29 = .ok (.iconst 3, 1) := by decide +kernel
theorem dX7_type_30 : decode cX7_type 30 = .ok (.iload_n 1, 1) := by decide +kernel
theorem dX7_type_31 : decode cX7_type 31 = .ok (.imul, 1) := by decide +kernel
theorem dX7_type_32 : decode cX7_type 32 = .ok (.iload_n 2, 1) := by decide +kernel
theorem dX7_type_33 : decode cX7_type 33 = .ok (.iadd, 1) := by decide +kernel
theorem dX7_type_34 : decode cX7_type 34 = .ok (.iaload, 1) := by decide +kernel
theorem dX7_type_35 : decode cX7_type 35 = .ok (.bipush 60, 2) := by decide +kernel
theorem dX7_type_37 : decode cX7_type 37 = .ok (.if_icmp .ne 7, 3) := by decide +kernel
theorem dX7_type_40 : decode cX7_type 40 = .ok (.iconst 3, 1) := by decide +kernel
theorem dX7_type_41 : decode cX7_type 41 = .ok (.goto 4, 3) := by decide +kernel
theorem dX7_type_44 : decode cX7_type 44 = .ok (.iconst 0, 1) := by decide +kernel
theorem dX7_type_45 : decode cX7_type 45 = .ok (.putfield 87, 3) := by decide +kernel
theorem dX7_type_48 : decode cX7_type 48 = .ok (.aload_n 0, 1) := by decide +kernel
theorem dX7_type_49 : decode cX7_type 49 = .ok (.getfield 87, 3) := by decide +kernel
theorem dX7_type_52 : decode cX7_type 52 = .ok (.ifCond .le 5, 3) := by decide +kernel
theorem dX7_type_55 : decode cX7_type 55 = .ok (.iconst 0, 1) := by decide +kernel
theorem dX7_type_56 : decode cX7_type 56 = .ok (.ireturn, 1) := by decide +kernel
theorem dX7_type_57 : decode cX7_type 57 = .ok (.iconst 3, 1) := by decide +kernel
theorem dX7_type_58 : decode cX7_type 58 = .ok (.iload_n 1, 1) := by decide +kernel
theorem dX7_type_59 : decode cX7_type 59 = .ok (.imul, 1) := by decide +kernel
theorem dX7_type_60 : decode cX7_type 60 = .ok (.iload_n 2, 1) := by decide +kernel
theorem dX7_type_61 : decode cX7_type 61 = .ok (.iadd, 1) := by decide +kernel
theorem dX7_type_62 : decode cX7_type 62 = .ok (.istore 4, 2) := by decide +kernel
theorem dX7_type_64 : decode cX7_type 64 = .ok (.aload_n 0, 1) := by decide +kernel
theorem dX7_type_65 : decode cX7_type 65 = .ok (.getfield 43, 3) := by decide +kernel
theorem dX7_type_68 : decode cX7_type 68 = .ok (.bipush 60, 2) := by decide +kernel
theorem dX7_type_70 : decode cX7_type 70 = .ok (.iload 4, 2) := by decide +kernel
theorem dX7_type_72 : decode cX7_type 72 = .ok (.imul, 1) := by decide +kernel
theorem dX7_type_73 : decode cX7_type 73 = .ok (.aload_n 0, 1) := by decide +kernel
theorem dX7_type_74 : decode cX7_type 74 = .ok (.getfield 40, 3) := by decide +kernel
theorem dX7_type_77 : decode cX7_type 77 = .ok (.iload 4, 2) := by decide +kernel
theorem dX7_type_79 : decode cX7_type 79 = .ok (.iaload, 1) := by decide +kernel
theorem dX7_type_80 : decode cX7_type 80 = .ok (.iadd, 1) := by decide +kernel
theorem dX7_type_81 : decode cX7_type 81 = .ok (.iload_n 3, 1) := by decide +kernel
theorem dX7_type_82 : decode cX7_type 82 = .ok (.iastore, 1) := by decide +kernel
theorem dX7_type_83 : decode cX7_type 83 = .ok (.aload_n 0, 1) := by decide +kernel
theorem dX7_type_84 : decode cX7_type 84 = .ok (.getfield 40, 3) := by decide +kernel
theorem dX7_type_87 : decode cX7_type 87 = .ok (.iload 4, 2) := by decide +kernel
theorem dX7_type_89 : decode cX7_type 89 = .ok (.dup2, 1) := by decide +kernel
theorem dX7_type_90 : decode cX7_type 90 = .ok (.iaload, 1) := by decide +kernel
theorem dX7_type_91 : decode cX7_type 91 = .ok (.iconst 1, 1) := by decide +kernel
theorem dX7_type_92 : decode cX7_type 92 = .ok (.iadd, 1) := by decide +kernel
theorem dX7_type_93 : decode cX7_type 93 = .ok (.iastore, 1) := by decide +kernel
theorem dX7_type_94 : decode cX7_type 94 = .ok (.aload_n 0, 1) := by decide +kernel
theorem dX7_type_95 : decode cX7_type 95 = .ok (.iload_n 1, 1) := by decide +kernel
theorem dX7_type_96 : decode cX7_type 96 = .ok (.iload_n 2, 1) := by decide +kernel
theorem dX7_type_97 : decode cX7_type 97 = .ok (.invokevirtual 169, 3) := by decide +kernel
theorem dX7_type_100 : decode cX7_type 100 = .ok (.aload_n 0, 1) := by decide +kernel
theorem dX7_type_101 : decode cX7_type 101 = .ok (.iload_n 1, 1) := by decide +kernel
theorem dX7_type_102 : decode cX7_type 102 = .ok (.iload_n 2, 1) := by decide +kernel
theorem dX7_type_103 : decode cX7_type 103 = .ok (.invokevirtual 137, 3) := by decide +kernel
theorem dX7_type_106 : decode cX7_type 106 = .ok (.aload_n 0, 1) := by decide +kernel
theorem dX7_type_107 : decode cX7_type 107 = .ok (.getfield 40, 3) := by decide +kernel
theorem dX7_type_110 : decode cX7_type 110 = .ok (.iload 4, 2) := by decide +kernel
theorem dX7_type_112 : decode cX7_type 112 = .ok (.iaload, 1) := by decide +kernel
theorem dX7_type_113 : decode cX7_type 113 = .ok (.ireturn, 1) := by decide +kernel
theorem dX7_erase_0 : decode cX7_erase 0 = .ok (.aload_n 0, 1) := by decide +kernel
theorem dX7_erase_1 : decode cX7_erase 1 = .ok (.aload_n 0, 1) := by decide +kernel
theorem dX7_erase_2 : decode cX7_erase 2 = .ok (.iload_n 1, 1) := by decide +kernel
theorem dX7_erase_3 : decode cX7_erase 3 = .ok (.iload_n 2, 1) := by decide +kernel
theorem dX7_erase_4 : decode cX7_erase 4 = .ok (.invokevirtual 157, 3) := by decide +kernel
theorem dX7_erase_7 : decode cX7_erase 7 = .ok (.ifCond .ne 7, 3) := by decide +kernel
theorem dX7_erase_10 : decode cX7_erase 10 = .ok (.iconst 1, 1) := by decide +kernel
theorem dX7_erase_11 : decode cX7_erase 11 = .ok (.goto 21, 3) := by decide +kernel
theorem dX7_erase_14 : decode cX7_erase 14 = .ok (.aload_n 0, 1) := by decide +kernel
theorem dX7_erase_15 : decode cX7_erase 15 = .ok (.getfield 40, 3) := by decide +kernel
theorem dX7_erase_18 : decode cX7_erase 18 = .ok (.iconst 3, 1) := by decide +kernel
theorem dX7_erase_19 : decode cX7_erase 19 = .ok (.iload_n 1, 1) := by decide +kernel
theorem dX7_erase_20 : decode cX7_erase 20 = .ok (.imul, 1) := by decide +kernel
theorem dX7_erase_21 : decode cX7_erase 21 = .ok (.iload_n 2, 1) := by decide +kernel
theorem dX7_erase_22 : decode cX7_erase 22 = .ok (.iadd, 1) := by decide +kernel
theorem dX7_erase_23 : decode cX7_erase 23 = .ok (.iaload, 1) := by decide +kernel
theorem dX7_erase_24 : decode cX7_erase 24 = .ok (.ifCond .ne 7, 3) := by decide +kernel
theorem dX7_erase_27 : decode cX7_erase 27 = .ok (.iconst 2, 1) := by decide +kernel
theorem dX7_erase_28 : decode cX7_erase 28 = .ok (.goto 4, 3) := by decide +kernel
theorem dX7_erase_31 : decode cX7_erase 31 = .ok (.iconst 0, 1) := by decide +kernel
theorem dX7_erase_32 : decode cX7_erase 32 = .ok (.putfield 87, 3) := by decide +kernel
theorem dX7_erase_35 : decode cX7_erase 35 = .ok (.aload_n 0, 1) := by decide +kernel
theorem dX7_erase_36 : decode cX7_erase 36 = .ok (.getfield 87, 3) := by decide +kernel
theorem dX7_erase_39 : decode cX7_erase 39 = .ok (.ifCond .le 5, 3) := by decide +kernel
theorem dX7_erase_42 : decode cX7_erase 42 = .ok (.iconst 0, 1) := by decide +kernel
theorem dX7_erase_43 : decode cX7_erase 43 = .ok (.ireturn, 1) := by decide +kernel
theorem dX7_erase_44 : decode cX7_erase 44 = .ok (.iconst 3, 1) := by decide +kernel
theorem dX7_erase_45 : decode cX7_erase 45 = .ok (.iload_n 1, 1) := by decide +kernel
theorem dX7_erase_46 : decode cX7_erase 46 = .ok (.imul, 1) := by decide +kernel
theorem dX7_erase_47 : decode cX7_erase 47 = .ok (.iload_n 2, 1) := by decide +kernel
theorem dX7_erase_48 : decode cX7_erase 48 = .ok (.iadd, 1) := by decide +kernel
theorem dX7_erase_49 : decode cX7_erase 49 = .ok (.istore_n 3, 1) := by decide +kernel
theorem dX7_erase_50 : decode cX7_erase 50 = .ok (.aload_n 0, 1) := by decide +kernel
theorem dX7_erase_51 : decode cX7_erase 51 = .ok (.getfield 40, 3) := by decide +kernel
theorem dX7_erase_54 : decode cX7_erase 54 = .ok (.iload_n 3, 1) := by decide +kernel
theorem dX7_erase_55 : decode cX7_erase 55 = .ok (.dup2, 1) := by decide +kernel
theorem dX7_erase_56 : decode cX7_erase 56 = .ok (.iaload, 1) := by decide +kernel
theorem dX7_erase_57 : decode cX7_erase 57 = .ok (.iconst 1, 1) := by decide +kernel
theorem dX7_erase_58 : decode cX7_erase 58 = .ok (.isub, 1) := by decide +kernel
theorem dX7_erase_59 : decode cX7_erase 59 = .ok (.iastore, 1) := by decide +kernel
theorem dX7_erase_60 : decode cX7_erase 60 = .ok (.aload_n 0, 1) := by decide +kernel
theorem dX7_erase_61 : decode cX7_erase 61 = .ok (.iload_n 1, 1) := by decide +kernel
theorem dX7_erase_62 : decode cX7_erase 62 = .ok (.iload_n 2, 1) := by decide +kernel
theorem dX7_erase_63 : decode cX7_erase 63 = .ok (.invokevirtual 169, 3) := by decide +kernel
theorem dX7_erase_66 : decode cX7_erase 66 = .ok (.aload_n 0, 1) := by decide +kernel
theorem dX7_erase_67 : decode cX7_erase 67 = .ok (.iload_n 1, 1) := by decide +kernel
theorem dX7_erase_68 : decode cX7_erase 68 = .ok (.iload_n 2, 1) := by decide +kernel
theorem dX7_erase_69 : decode cX7_erase 69 = .ok (.invokevirtual 137, 3) := by decide +kernel
theorem dX7_erase_72 : decode cX7_erase 72 = .ok (.aload_n 0, 1) := by decide +kernel
theorem dX7_erase_73 : decode cX7_erase 73 = .ok (.getfield 43, 3) := by decide +kernel
theorem dX7_erase_76 : decode cX7_erase 76 = .ok (.bipush 60, 2) := by decide +kernel
theorem dX7_erase_78 : decode cX7_erase 78 = .ok (.iload_n 3, 1) := by decide +kernel
theorem dX7_erase_79 : decode cX7_erase 79 = .ok (.imul, 1) := by decide +kernel
theorem dX7_erase_80 : decode cX7_erase 80 = .ok (.aload_n 0, 1) := by decide +kernel
theorem dX7_erase_81 : decode cX7_erase 81 = .ok (.getfield 40, 3) := by decide +kernel
theorem dX7_erase_84 : decode cX7_erase 84 = .ok (.iload_n 3, 1) := by decide +kernel
theorem dX7_erase_85 : decode cX7_erase 85 = .ok (.iaload, 1) := by decide +kernel
theorem dX7_erase_86 : decode cX7_erase 86 = .ok (.iadd, 1) := by decide +kernel
theorem dX7_erase_87 : decode cX7_erase 87 = .ok (.iaload, 1) := by decide +kernel
theorem dX7_erase_88 : decode cX7_erase 88 = .ok (.ireturn, 1) := by decide +kernel
theorem dX7_signs_0 : decode cX7_signs 0 = .ok (.aload_n 0, 1) := by decide +kernel
theorem dX7_signs_1 : decode cX7_signs 1 = .ok (.iload_n 1, 1) := by decide +kernel
theorem dX7_signs_2 : decode cX7_signs 2 = .ok (.iload_n 2, 1) := by decide +kernel
theorem dX7_signs_3 : decode cX7_signs 3 = .ok (.invokevirtual 172, 3) := by decide +kernel
theorem dX7_signs_6 : decode cX7_signs 6 = .ok (.ifCond .eq 16, 3) := by decide +kernel
theorem dX7_signs_9 : decode cX7_signs 9 = .ok (.aload_n 0, 1) := by decide +kernel
theorem dX7_signs_10 : decode cX7_signs 10 = .ok (.getfield 40, 3) := by decide +kernel
theorem dX7_signs_13 : decode cX7_signs 13 = .ok (.iconst 3, 1) := by decide +kernel
theorem dX7_signs_14 : decode cX7_signs 14 = .ok (.iload_n 1, 1) := by decide +kernel
theorem dX7_signs_15 : decode cX7_signs 15 = .ok (.imul, 1) := by decide +kernel
theorem dX7_signs_16 : decode cX7_signs 16 = .ok (.iload_n 2, 1) := by decide +kernel
theorem dX7_signs_17 : decode cX7_signs 17 = .ok (.iadd, 1) := by decide +kernel
theorem dX7_signs_18 : decode cX7_signs 18 = .ok (.iaload, 1) := by decide +kernel
theorem dX7_signs_19 : decode cX7_signs 19 = .ok (.goto 4, 3) := by decide +kernel
theorem dX7_signs_22 : decode cX7_signs 22 = .ok (.iconst 0, 1) := by decide +kernel
theorem dX7_signs_23 : decode cX7_signs 23 = .ok (.ireturn, 1) := by decide +kernel
theorem dX7_signAt_0 : decode cX7_signAt 0 = .ok (.aload_n 0, 1) := by decide +kernel
theorem dX7_signAt_1 : decode cX7_signAt 1 = .ok (.aload_n 0, 1) := by decide +kernel
theorem dX7_signAt_2 : decode cX7_signAt 2 = .ok (.iload_n 1, 1) := by decide +kernel
theorem dX7_signAt_3 : decode cX7_signAt 3 = .ok (.iload_n 2, 1) := by decide +kernel
theorem dX7_signAt_4 : decode cX7_signAt 4 = .ok (.invokevirtual 157, 3) := by decide +kernel
theorem dX7_signAt_7 : decode cX7_signAt 7 = .ok (.ifCond .eq 27, 3) := by decide +kernel
theorem dX7_signAt_10 : decode cX7_signAt 10 = .ok (.iload_n 3, 1) := by decide +kernel
theorem dX7_signAt_11 : decode cX7_signAt 11 = .ok (.iconst 0, 1) := by decide +kernel
theorem dX7_signAt_12 : decode cX7_signAt 12 = .ok (.aload_n 0, 1) := by decide +kernel
theorem dX7_signAt_13 : decode cX7_signAt 13 = .ok (.getfield 40, 3) := by decide +kernel
theorem dX7_signAt_16 : decode cX7_signAt 16 = .ok (.iconst 3, 1) := by decide +kernel
theorem dX7_signAt_17 : decode cX7_signAt 17 = .ok (.iload_n 1, 1) := by decide +kernel
theorem dX7_signAt_18 : decode cX7_signAt 18 = .ok (.imul, 1) := by decide +kernel
theorem dX7_signAt_19 : decode cX7_signAt 19 = .ok (.iload_n 2, 1) := by decide +kernel
theorem dX7_signAt_20 : decode cX7_signAt 20 = .ok (.iadd, 1) := by decide +kernel
theorem dX7_signAt_21 : decode cX7_signAt 21 = .ok (.iaload, 1) := by decide +kernel
theorem dX7_signAt_22 : decode cX7_signAt 22 = .ok (.iconst 1, 1) := by decide +kernel
theorem dX7_signAt_23 : decode cX7_signAt 23 = .ok (.isub, 1) := by decide +kernel
theorem dX7_signAt_24 : decode cX7_signAt 24 = .ok (.invokestatic 93, 3) := by decide +kernel
theorem dX7_signAt_27 : decode cX7_signAt 27 = .ok (.ifCond .eq 7, 3) := by decide +kernel
theorem dX7_signAt_30 : decode cX7_signAt 30 = .ok (.iconst 0, 1) := by decide +kernel
theorem dX7_signAt_31 : decode cX7_signAt 31 = .ok (.goto 4, 3) := by decide +kernel
theorem dX7_signAt_34 : decode cX7_signAt 34 = .ok (.iconst 1, 1) := by decide +kernel
theorem dX7_signAt_35 : decode cX7_signAt 35 = .ok (.putfield 87, 3) := by decide +kernel
theorem dX7_signAt_38 : decode cX7_signAt 38 = .ok (.aload_n 0, 1) := by decide +kernel
theorem dX7_signAt_39 : decode cX7_signAt 39 = .ok (.getfield 87, 3) := by decide +kernel
theorem dX7_signAt_42 : decode cX7_signAt 42 = .ok (.ifCond .le 7, 3) := by decide +kernel
theorem dX7_signAt_45 : decode cX7_signAt 45 = .ok (.iconst 0, 1) := by decide +kernel
theorem dX7_signAt_46 : decode cX7_signAt 46 = .ok (.goto 18, 3) := by decide +kernel
theorem dX7_signAt_49 : decode cX7_signAt 49 = .ok (.aload_n 0, 1) := by decide +kernel
theorem dX7_signAt_50 : decode cX7_signAt 50 = .ok (.getfield 43, 3) := by decide +kernel
theorem dX7_signAt_53 : decode cX7_signAt 53 = .ok (.bipush 60, 2) := by decide +kernel
theorem dX7_signAt_55 : decode cX7_signAt 55 = .ok (.iconst 3, 1) := by decide +kernel
theorem dX7_signAt_56 : decode cX7_signAt 56 = .ok (.iload_n 1, 1) := by decide +kernel
theorem dX7_signAt_57 : decode cX7_signAt 57 = .ok (.imul, 1) := by decide +kernel
theorem dX7_signAt_58 : decode cX7_signAt 58 = .ok (.iload_n 2, 1) := by decide +kernel
theorem dX7_signAt_59 : decode cX7_signAt 59 = .ok (.iadd, 1) := by decide +kernel
theorem dX7_signAt_60 : decode cX7_signAt 60 = .ok (.imul, 1) := by decide +kernel
theorem dX7_signAt_61 : decode cX7_signAt 61 = .ok (.iload_n 3, 1) := by decide +kernel
theorem dX7_signAt_62 : decode cX7_signAt 62 = .ok (.iadd, 1) := by decide +kernel
theorem dX7_signAt_63 : decode cX7_signAt 63 = .ok (.iaload, 1) := by decide +kernel
theorem dX7_signAt_64 : decode cX7_signAt 64 = .ok (.ireturn, 1) := by decide +kernel
theorem dX7_widthOf_0 : decode cX7_widthOf 0 = .ok (.iload_n 0, 1) := by decide +kernel
theorem dX7_widthOf_1 : decode cX7_widthOf 1 = .ok (.bipush 10, 2) := by decide +kernel
theorem dX7_widthOf_3 : decode cX7_widthOf 3 = .ok (.if_icmp .eq 16, 3) := by decide +kernel
theorem dX7_widthOf_6 : decode cX7_widthOf 6 = .ok (.iload_n 0, 1) := by decide +kernel
theorem dX7_widthOf_7 : decode cX7_widthOf 7 = .ok (.sipush 768, 3) := by decide +kernel
theorem dX7_widthOf_10 : decode cX7_widthOf 10 = .ok (.sipush 879, 3) := by decide +kernel
theorem dX7_widthOf_13 : decode cX7_widthOf 13 = .ok (.invokestatic 93, 3) := by decide +kernel
theorem dX7_widthOf_16 : decode cX7_widthOf 16 = .ok (.ifCond .eq 7, 3) := by decide +kernel
theorem dX7_widthOf_19 : decode cX7_widthOf 19 = .ok (.iconst 0, 1) := by decide +kernel
theorem dX7_widthOf_20 : decode cX7_widthOf 20 = .ok (.goto 26, 3) := by decide +kernel
theorem dX7_widthOf_23 : decode cX7_widthOf 23 = .ok (.iload_n 0, 1) := by decide +kernel
theorem dX7_widthOf_24 : decode cX7_widthOf 24 = .ok (.sipush 11904, 3) := by decide +kernel
theorem dX7_widthOf_27 : decode cX7_widthOf 27 = .ok (.ldc 175, 2) := by decide +kernel
theorem dX7_widthOf_29 : decode cX7_widthOf 29 = .ok (.invokestatic 93, 3) := by decide +kernel
theorem dX7_widthOf_32 : decode cX7_widthOf 32 = .ok (.ifCond .ne 9, 3) := by decide +kernel
theorem dX7_widthOf_35 : decode cX7_widthOf 35 = .ok (.iload_n 0, 1) := by decide +kernel
theorem dX7_widthOf_36 : decode cX7_widthOf 36 = .ok (.ldc 176, 2) := by decide +kernel
theorem dX7_widthOf_38 : decode cX7_widthOf 38 = .ok (.if_icmp .lt 7, 3) := by decide +kernel
theorem dX7_widthOf_41 : decode cX7_widthOf 41 = .ok (.iconst 2, 1) := by decide +kernel
theorem dX7_widthOf_42 : decode cX7_widthOf 42 = .ok (.goto 4, 3) := by decide +kernel
theorem dX7_widthOf_45 : decode cX7_widthOf 45 = .ok (.iconst 1, 1) := by decide +kernel
theorem dX7_widthOf_46 : decode cX7_widthOf 46 = .ok (.ireturn, 1) := by decide +kernel
theorem dX7_widthFrom_0 : decode cX7_widthFrom 0 = .ok (.iconst 0, 1) := by decide +kernel
theorem dX7_widthFrom_1 : decode cX7_widthFrom 1 = .ok (.istore 4, 2) := by decide +kernel
theorem dX7_widthFrom_3 : decode cX7_widthFrom 3 = .ok (.iload_n 2, 1) := by decide +kernel
theorem dX7_widthFrom_4 : decode cX7_widthFrom 4 = .ok (.istore 5, 2) := by decide +kernel
theorem dX7_widthFrom_6 : decode cX7_widthFrom 6 = .ok (.iload 5, 2) := by decide +kernel
theorem dX7_widthFrom_8 : decode cX7_widthFrom 8 = .ok (.iload_n 3, 1) := by decide +kernel
theorem dX7_widthFrom_9 : decode cX7_widthFrom 9 = .ok (.if_icmp .ge 29, 3) := by decide +kernel
theorem dX7_widthFrom_12 : decode cX7_widthFrom 12 = .ok (.iload 4, 2) := by decide +kernel
theorem dX7_widthFrom_14 : decode cX7_widthFrom 14 = .ok (.aload_n 0, 1) := by decide +kernel
theorem dX7_widthFrom_15 : decode cX7_widthFrom 15 = .ok (.getfield 43, 3) := by decide +kernel
theorem dX7_widthFrom_18 : decode cX7_widthFrom 18 = .ok (.bipush 60, 2) := by decide +kernel
theorem dX7_widthFrom_20 : decode cX7_widthFrom 20 = .ok (.iload_n 1, 1) := by decide +kernel
theorem dX7_widthFrom_21 : decode cX7_widthFrom 21 = .ok (.imul, 1) := by decide +kernel
theorem dX7_widthFrom_22 : decode cX7_widthFrom 22 = .ok (.iload 5, 2) := by decide +kernel
theorem dX7_widthFrom_24 : decode cX7_widthFrom 24 = .ok (.iadd, 1) := by decide +kernel
theorem dX7_widthFrom_25 : decode cX7_widthFrom 25 = .ok (.iaload, 1) := by decide +kernel
theorem dX7_widthFrom_26 : decode cX7_widthFrom 26 = .ok (.invokestatic 177, 3) := by decide +kernel
theorem dX7_widthFrom_29 : decode cX7_widthFrom 29 = .ok (.iadd, 1) := by decide +kernel
theorem dX7_widthFrom_30 : decode cX7_widthFrom 30 = .ok (.istore 4, 2) := by decide +kernel
theorem dX7_widthFrom_32 : decode cX7_widthFrom 32 = .ok (.iinc 5 1, 3) := by decide +kernel
theorem dX7_widthFrom_35 : decode cX7_widthFrom 35 = .ok (.goto (-29), 3) := by decide +kernel
theorem dX7_widthFrom_38 : decode cX7_widthFrom 38 = .ok (.iload 4, 2) := by decide +kernel
theorem dX7_widthFrom_40 : decode cX7_widthFrom 40 = .ok (.ireturn, 1) := by decide +kernel
theorem dX7_width_0 : decode cX7_width 0 = .ok (.iconst 3, 1) := by decide +kernel
theorem dX7_width_1 : decode cX7_width 1 = .ok (.iload_n 1, 1) := by decide +kernel
theorem dX7_width_2 : decode cX7_width 2 = .ok (.imul, 1) := by decide +kernel
theorem dX7_width_3 : decode cX7_width 3 = .ok (.iload_n 2, 1) := by decide +kernel
theorem dX7_width_4 : decode cX7_width 4 = .ok (.iadd, 1) := by decide +kernel
theorem dX7_width_5 : decode cX7_width 5 = .ok (.istore_n 3, 1) := by decide +kernel
theorem dX7_width_6 : decode cX7_width 6 = .ok (.aload_n 0, 1) := by decide +kernel
theorem dX7_width_7 : decode cX7_width 7 = .ok (.iload_n 1, 1) := by decide +kernel
theorem dX7_width_8 : decode cX7_width 8 = .ok (.iload_n 2, 1) := by decide +kernel
theorem dX7_width_9 : decode cX7_width 9 = .ok (.invokevirtual 172, 3) := by decide +kernel
theorem dX7_width_12 : decode cX7_width 12 = .ok (.ifCond .eq 18, 3) := by decide +kernel
theorem dX7_width_15 : decode cX7_width 15 = .ok (.aload_n 0, 1) := by decide +kernel
theorem dX7_width_16 : decode cX7_width 16 = .ok (.iload_n 3, 1) := by decide +kernel
theorem dX7_width_17 : decode cX7_width 17 = .ok (.iconst 0, 1) := by decide +kernel
theorem dX7_width_18 : decode cX7_width 18 = .ok (.aload_n 0, 1) := by decide +kernel
theorem dX7_width_19 : decode cX7_width 19 = .ok (.getfield 40, 3) := by decide +kernel
theorem dX7_width_22 : decode cX7_width 22 = .ok (.iload_n 3, 1) := by decide +kernel
theorem dX7_width_23 : decode cX7_width 23 = .ok (.iaload, 1) := by decide +kernel
theorem dX7_width_24 : decode cX7_width 24 = .ok (.invokevirtual 180, 3) := by decide +kernel
theorem dX7_width_27 : decode cX7_width 27 = .ok (.goto 4, 3) := by decide +kernel
theorem dX7_width_30 : decode cX7_width 30 = .ok (.iconst 0, 1) := by decide +kernel
theorem dX7_width_31 : decode cX7_width 31 = .ok (.ireturn, 1) := by decide +kernel
theorem dX7_isMark_0 : decode cX7_isMark 0 = .ok (.iload_n 0, 1) := by decide +kernel
theorem dX7_isMark_1 : decode cX7_isMark 1 = .ok (.bipush 46, 2) := by decide +kernel
theorem dX7_isMark_3 : decode cX7_isMark 3 = .ok (.if_icmp .eq 33, 3) := by decide +kernel
theorem dX7_isMark_6 : decode cX7_isMark 6 = .ok (.iload_n 0, 1) := by decide +kernel
theorem dX7_isMark_7 : decode cX7_isMark 7 = .ok (.bipush 44, 2) := by decide +kernel
theorem dX7_isMark_9 : decode cX7_isMark 9 = .ok (.if_icmp .eq 27, 3) := by decide +kernel
theorem dX7_isMark_12 : decode cX7_isMark 12 = .ok (.iload_n 0, 1) := by decide +kernel
theorem dX7_isMark_13 : decode cX7_isMark 13 = .ok (.bipush 59, 2) := by decide +kernel
theorem dX7_isMark_15 : decode cX7_isMark 15 = .ok (.if_icmp .eq 21, 3) := by decide +kernel
theorem dX7_isMark_18 : decode cX7_isMark 18 = .ok (.iload_n 0, 1) := by decide +kernel
theorem dX7_isMark_19 : decode cX7_isMark 19 = .ok (.bipush 58, 2) := by decide +kernel
theorem dX7_isMark_21 : decode cX7_isMark 21 = .ok (.if_icmp .eq 15, 3) := by decide +kernel
theorem dX7_isMark_24 : decode cX7_isMark 24 = .ok (.iload_n 0, 1) := by decide +kernel
theorem dX7_isMark_25 : decode cX7_isMark 25 = .ok (.bipush 33, 2) := by decide +kernel
theorem dX7_isMark_27 : decode cX7_isMark 27 = .ok (.if_icmp .eq 9, 3) := by decide +kernel
theorem dX7_isMark_30 : decode cX7_isMark 30 = .ok (.iload_n 0, 1) := by decide +kernel
theorem dX7_isMark_31 : decode cX7_isMark 31 = .ok (.bipush 63, 2) := by decide +kernel
theorem dX7_isMark_33 : decode cX7_isMark 33 = .ok (.if_icmp .ne 7, 3) := by decide +kernel
theorem dX7_isMark_36 : decode cX7_isMark 36 = .ok (.iconst 1, 1) := by decide +kernel
theorem dX7_isMark_37 : decode cX7_isMark 37 = .ok (.goto 4, 3) := by decide +kernel
theorem dX7_isMark_40 : decode cX7_isMark 40 = .ok (.iconst 0, 1) := by decide +kernel
theorem dX7_isMark_41 : decode cX7_isMark 41 = .ok (.ireturn, 1) := by decide +kernel
theorem dX7_addsRow_0 : decode cX7_addsRow 0 = .ok (.aload_n 0, 1) := by decide +kernel
theorem dX7_addsRow_1 : decode cX7_addsRow 1 = .ok (.getfield 77, 3) := by decide +kernel
theorem dX7_addsRow_4 : decode cX7_addsRow 4 = .ok (.aload_n 0, 1) := by decide +kernel
theorem dX7_addsRow_5 : decode cX7_addsRow 5 = .ok (.getfield 184, 3) := by decide +kernel
theorem dX7_addsRow_8 : decode cX7_addsRow 8 = .ok (.iload_n 1, 1) := by decide +kernel
theorem dX7_addsRow_9 : decode cX7_addsRow 9 = .ok (.iastore, 1) := by decide +kernel
theorem dX7_addsRow_10 : decode cX7_addsRow 10 = .ok (.aload_n 0, 1) := by decide +kernel
theorem dX7_addsRow_11 : decode cX7_addsRow 11 = .ok (.getfield 80, 3) := by decide +kernel
theorem dX7_addsRow_14 : decode cX7_addsRow 14 = .ok (.aload_n 0, 1) := by decide +kernel
theorem dX7_addsRow_15 : decode cX7_addsRow 15 = .ok (.getfield 184, 3) := by decide +kernel
theorem dX7_addsRow_18 : decode cX7_addsRow 18 = .ok (.iload_n 2, 1) := by decide +kernel
theorem dX7_addsRow_19 : decode cX7_addsRow 19 = .ok (.iastore, 1) := by decide +kernel
theorem dX7_addsRow_20 : decode cX7_addsRow 20 = .ok (.aload_n 0, 1) := by decide +kernel
theorem dX7_addsRow_21 : decode cX7_addsRow 21 = .ok (.dup, 1) := by decide +kernel
theorem dX7_addsRow_22 : decode cX7_addsRow 22 = .ok (.getfield 184, 3) := by decide +kernel
theorem dX7_addsRow_25 : decode cX7_addsRow 25 = .ok (.iconst 1, 1) := by decide +kernel
theorem dX7_addsRow_26 : decode cX7_addsRow 26 = .ok (.iadd, 1) := by decide +kernel
theorem dX7_addsRow_27 : decode cX7_addsRow 27 = .ok (.putfield 184, 3) := by decide +kernel
theorem dX7_addsRow_30 : decode cX7_addsRow 30 = .ok (.return_, 1) := by decide +kernel
theorem dX7_spaceOf_0 : decode cX7_spaceOf 0 = .ok (.iconst (-1), 1) := by decide +kernel
theorem dX7_spaceOf_1 : decode cX7_spaceOf 1 = .ok (.istore 4, 2) := by decide +kernel
theorem dX7_spaceOf_3 : decode cX7_spaceOf 3 = .ok (.iconst 0, 1) := by decide +kernel
theorem dX7_spaceOf_4 : decode cX7_spaceOf 4 = .ok (.istore 5, 2) := by decide +kernel
theorem dX7_spaceOf_6 : decode cX7_spaceOf 6 = .ok (.iload_n 2, 1) := by decide +kernel
theorem dX7_spaceOf_7 : decode cX7_spaceOf 7 = .ok (.iconst 1, 1) := by decide +kernel
theorem dX7_spaceOf_8 : decode cX7_spaceOf 8 = .ok (.iadd, 1) := by decide +kernel
theorem dX7_spaceOf_9 : decode cX7_spaceOf 9 = .ok (.istore 6, 2) := by decide +kernel
theorem dX7_spaceOf_11 : decode cX7_spaceOf 11 = .ok (.iload 6, 2) := by decide +kernel
theorem dX7_spaceOf_13 : decode cX7_spaceOf 13 = .ok (.iload_n 3, 1) := by decide +kernel
theorem dX7_spaceOf_14 : decode cX7_spaceOf 14 = .ok (.iconst 1, 1) := by decide +kernel
theorem dX7_spaceOf_15 : decode cX7_spaceOf 15 = .ok (.isub, 1) := by decide +kernel
theorem dX7_spaceOf_16 : decode cX7_spaceOf 16 = .ok (.if_icmp .ge 147, 3) := by decide +kernel
theorem dX7_spaceOf_19 : decode cX7_spaceOf 19 = .ok (.aload_n 0, 1) := by decide +kernel
theorem dX7_spaceOf_20 : decode cX7_spaceOf 20 = .ok (.iload_n 1, 1) := by decide +kernel
theorem dX7_spaceOf_21 : decode cX7_spaceOf 21 = .ok (.iload_n 2, 1) := by decide +kernel
theorem dX7_spaceOf_22 : decode cX7_spaceOf 22 = .ok (.iload 6, 2) := by decide +kernel
theorem dX7_spaceOf_24 : decode cX7_spaceOf 24 = .ok (.invokevirtual 180, 3) := by decide +kernel
theorem dX7_spaceOf_27 : decode cX7_spaceOf 27 = .ok (.istore 7, 2) := by decide +kernel
theorem dX7_spaceOf_29 : decode cX7_spaceOf 29 = .ok (.aload_n 0, 1) := by decide +kernel
theorem dX7_spaceOf_30 : decode cX7_spaceOf 30 = .ok (.iload_n 1, 1) := by decide +kernel
theorem dX7_spaceOf_31 : decode cX7_spaceOf 31 = .ok (.iload 6, 2) := by decide +kernel
theorem dX7_spaceOf_33 : decode cX7_spaceOf 33 = .ok (.iconst 1, 1) := by decide +kernel
theorem dX7_spaceOf_34 : decode cX7_spaceOf 34 = .ok (.iadd, 1) := by decide +kernel
theorem dX7_spaceOf_35 : decode cX7_spaceOf 35 = .ok (.iload_n 3, 1) := by decide +kernel
theorem dX7_spaceOf_36 : decode cX7_spaceOf 36 = .ok (.invokevirtual 180, 3) := by decide +kernel
theorem dX7_spaceOf_39 : decode cX7_spaceOf 39 = .ok (.istore 8, 2) := by decide +kernel
theorem dX7_spaceOf_41 : decode cX7_spaceOf 41 = .ok (.iload 7, 2) := by decide +kernel
theorem dX7_spaceOf_43 : decode cX7_spaceOf 43 = .ok (.iload 8, 2) := by decide +kernel
theorem dX7_spaceOf_45 : decode cX7_spaceOf 45 = .ok (.if_icmp .le 11, 3) := by decide +kernel
theorem dX7_spaceOf_48 : decode cX7_spaceOf 48 = .ok (.iload 7, 2) := by decide +kernel
theorem dX7_spaceOf_50 : decode cX7_spaceOf 50 = .ok (.iload 8, 2) := by decide +kernel
theorem dX7_spaceOf_52 : decode cX7_spaceOf 52 = .ok (.isub, 1) := by decide +kernel
theorem dX7_spaceOf_53 : decode cX7_spaceOf 53 = .ok (.goto 8, 3) := by decide +kernel
theorem dX7_spaceOf_56 : decode cX7_spaceOf 56 = .ok (.iload 8, 2) := by decide +kernel
theorem dX7_spaceOf_58 : decode cX7_spaceOf 58 = .ok (.iload 7, 2) := by decide +kernel
theorem dX7_spaceOf_60 : decode cX7_spaceOf 60 = .ok (.isub, 1) := by decide +kernel
theorem dX7_spaceOf_61 : decode cX7_spaceOf 61 = .ok (.aload_n 0, 1) := by decide +kernel
theorem dX7_spaceOf_62 : decode cX7_spaceOf 62 = .ok (.getfield 43, 3) := by decide +kernel
theorem dX7_spaceOf_65 : decode cX7_spaceOf 65 = .ok (.bipush 60, 2) := by decide +kernel
theorem dX7_spaceOf_67 : decode cX7_spaceOf 67 = .ok (.iload_n 1, 1) := by decide +kernel
theorem dX7_spaceOf_68 : decode cX7_spaceOf 68 = .ok (.imul, 1) := by decide +kernel
theorem dX7_spaceOf_69 : decode cX7_spaceOf 69 = .ok (.iload 6, 2) := by decide +kernel
theorem dX7_spaceOf_71 : decode cX7_spaceOf 71 = .ok (.iadd, 1) := by decide +kernel
theorem dX7_spaceOf_72 : decode cX7_spaceOf 72 = .ok (.iconst 1, 1) := by decide +kernel
theorem dX7_spaceOf_73 : decode cX7_spaceOf 73 = .ok (.isub, 1) := by decide +kernel
theorem dX7_spaceOf_74 : decode cX7_spaceOf 74 = .ok (.iaload, 1) := by decide +kernel
theorem dX7_spaceOf_75 : decode cX7_spaceOf 75 = .ok (.invokestatic 187, 3) := by decide +kernel
theorem dX7_spaceOf_78 : decode cX7_spaceOf 78 = .ok (.ifCond .eq 7, 3) := by decide +kernel
theorem dX7_spaceOf_81 : decode cX7_spaceOf 81 = .ok (.iconst 0, 1) := by decide +kernel
theorem dX7_spaceOf_82 : decode cX7_spaceOf 82 = .ok (.goto 4, 3) := by decide +kernel
theorem dX7_spaceOf_85 : decode cX7_spaceOf 85 = .ok (.iconst 5, 1) := by decide +kernel
theorem dX7_spaceOf_86 : decode cX7_spaceOf 86 = .ok (.iadd, 1) := by decide +kernel
theorem dX7_spaceOf_87 : decode cX7_spaceOf 87 = .ok (.istore 9, 2) := by decide +kernel
theorem dX7_spaceOf_89 : decode cX7_spaceOf 89 = .ok (.aload_n 0, 1) := by decide +kernel
theorem dX7_spaceOf_90 : decode cX7_spaceOf 90 = .ok (.getfield 43, 3) := by decide +kernel
theorem dX7_spaceOf_93 : decode cX7_spaceOf 93 = .ok (.bipush 60, 2) := by decide +kernel
theorem dX7_spaceOf_95 : decode cX7_spaceOf 95 = .ok (.iload_n 1, 1) := by decide +kernel
theorem dX7_spaceOf_96 : decode cX7_spaceOf 96 = .ok (.imul, 1) := by decide +kernel
theorem dX7_spaceOf_97 : decode cX7_spaceOf 97 = .ok (.iload 6, 2) := by decide +kernel
theorem dX7_spaceOf_99 : decode cX7_spaceOf 99 = .ok (.iadd, 1) := by decide +kernel
theorem dX7_spaceOf_100 : decode cX7_spaceOf 100 = .ok (.iaload, 1) := by decide +kernel
theorem dX7_spaceOf_101 : decode cX7_spaceOf 101 = .ok (.bipush 32, 2) := by decide +kernel
theorem dX7_spaceOf_103 : decode cX7_spaceOf 103 = .ok (.if_icmp .ne 25, 3) := by decide +kernel
theorem dX7_spaceOf_106 : decode cX7_spaceOf 106 = .ok (.iload 7, 2) := by decide +kernel
theorem dX7_spaceOf_108 : decode cX7_spaceOf 108 = .ok (.aload_n 0, 1) := by decide +kernel
theorem dX7_spaceOf_109 : decode cX7_spaceOf 109 = .ok (.getfield 70, 3) := by decide +kernel
theorem dX7_spaceOf_112 : decode cX7_spaceOf 112 = .ok (.if_icmp .gt 16, 3) := by decide +kernel
theorem dX7_spaceOf_115 : decode cX7_spaceOf 115 = .ok (.iload 8, 2) := by decide +kernel
theorem dX7_spaceOf_117 : decode cX7_spaceOf 117 = .ok (.aload_n 0, 1) := by decide +kernel
theorem dX7_spaceOf_118 : decode cX7_spaceOf 118 = .ok (.getfield 70, 3) := by decide +kernel
theorem dX7_spaceOf_121 : decode cX7_spaceOf 121 = .ok (.if_icmp .gt 7, 3) := by decide +kernel
theorem dX7_spaceOf_124 : decode cX7_spaceOf 124 = .ok (.iconst 1, 1) := by decide +kernel
theorem dX7_spaceOf_125 : decode cX7_spaceOf 125 = .ok (.goto 4, 3) := by decide +kernel
theorem dX7_spaceOf_128 : decode cX7_spaceOf 128 = .ok (.iconst 0, 1) := by decide +kernel
theorem dX7_spaceOf_129 : decode cX7_spaceOf 129 = .ok (.istore 10, 2) := by decide +kernel
theorem dX7_spaceOf_131 : decode cX7_spaceOf 131 = .ok (.iload 10, 2) := by decide +kernel
theorem dX7_spaceOf_133 : decode cX7_spaceOf 133 = .ok (.ifCond .eq 24, 3) := by decide +kernel
theorem dX7_spaceOf_136 : decode cX7_spaceOf 136 = .ok (.iload 4, 2) := by decide +kernel
theorem dX7_spaceOf_138 : decode cX7_spaceOf 138 = .ok (.iconst (-1), 1) := by decide +kernel
theorem dX7_spaceOf_139 : decode cX7_spaceOf 139 = .ok (.if_icmp .eq 10, 3) := by decide +kernel
theorem dX7_spaceOf_142 : decode cX7_spaceOf 142 = .ok (.iload 9, 2) := by decide +kernel
theorem dX7_spaceOf_144 : decode cX7_spaceOf 144 = .ok (.iload 5, 2) := by decide +kernel
theorem dX7_spaceOf_146 : decode cX7_spaceOf 146 = .ok (.if_icmp .ge 11, 3) := by decide +kernel
theorem dX7_spaceOf_149 : decode cX7_spaceOf 149 = .ok (.iload 6, 2) := by decide +kernel
theorem dX7_spaceOf_151 : decode cX7_spaceOf 151 = .ok (.istore 4, 2) := by decide +kernel
theorem dX7_spaceOf_153 : decode cX7_spaceOf 153 = .ok (.iload 9, 2) := by decide +kernel
theorem dX7_spaceOf_155 : decode cX7_spaceOf 155 = .ok (.istore 5, 2) := by decide +kernel
theorem dX7_spaceOf_157 : decode cX7_spaceOf 157 = .ok (.iinc 6 1, 3) := by decide +kernel
theorem dX7_spaceOf_160 : decode cX7_spaceOf 160 = .ok (.goto (-149), 3) := by decide +kernel
theorem dX7_spaceOf_163 : decode cX7_spaceOf 163 = .ok (.iload 4, 2) := by decide +kernel
theorem dX7_spaceOf_165 : decode cX7_spaceOf 165 = .ok (.ireturn, 1) := by decide +kernel
theorem dX7_laysPart_0 : decode cX7_laysPart 0 = .ok (.aload_n 0, 1) := by decide +kernel
theorem dX7_laysPart_1 : decode cX7_laysPart 1 = .ok (.iload_n 1, 1) := by decide +kernel
theorem dX7_laysPart_2 : decode cX7_laysPart 2 = .ok (.iload_n 2, 1) := by decide +kernel
theorem dX7_laysPart_3 : decode cX7_laysPart 3 = .ok (.iload_n 3, 1) := by decide +kernel
theorem dX7_laysPart_4 : decode cX7_laysPart 4 = .ok (.invokevirtual 180, 3) := by decide +kernel
theorem dX7_laysPart_7 : decode cX7_laysPart 7 = .ok (.aload_n 0, 1) := by decide +kernel
theorem dX7_laysPart_8 : decode cX7_laysPart 8 = .ok (.getfield 70, 3) := by decide +kernel
theorem dX7_laysPart_11 : decode cX7_laysPart 11 = .ok (.if_icmp .gt 7, 3) := by decide +kernel
theorem dX7_laysPart_14 : decode cX7_laysPart 14 = .ok (.iconst (-1), 1) := by decide +kernel
theorem dX7_laysPart_15 : decode cX7_laysPart 15 = .ok (.goto 10, 3) := by decide +kernel
theorem dX7_laysPart_18 : decode cX7_laysPart 18 = .ok (.aload_n 0, 1) := by decide +kernel
theorem dX7_laysPart_19 : decode cX7_laysPart 19 = .ok (.iload_n 1, 1) := by decide +kernel
theorem dX7_laysPart_20 : decode cX7_laysPart 20 = .ok (.iload_n 2, 1) := by decide +kernel
theorem dX7_laysPart_21 : decode cX7_laysPart 21 = .ok (.iload_n 3, 1) := by decide +kernel
theorem dX7_laysPart_22 : decode cX7_laysPart 22 = .ok (.invokevirtual 190, 3) := by decide +kernel
theorem dX7_laysPart_25 : decode cX7_laysPart 25 = .ok (.istore 4, 2) := by decide +kernel
theorem dX7_laysPart_27 : decode cX7_laysPart 27 = .ok (.iload 4, 2) := by decide +kernel
theorem dX7_laysPart_29 : decode cX7_laysPart 29 = .ok (.iconst (-1), 1) := by decide +kernel
theorem dX7_laysPart_30 : decode cX7_laysPart 30 = .ok (.if_icmp .ne 12, 3) := by decide +kernel
theorem dX7_laysPart_33 : decode cX7_laysPart 33 = .ok (.aload_n 0, 1) := by decide +kernel
theorem dX7_laysPart_34 : decode cX7_laysPart 34 = .ok (.iload_n 2, 1) := by decide +kernel
theorem dX7_laysPart_35 : decode cX7_laysPart 35 = .ok (.iload_n 3, 1) := by decide +kernel
theorem dX7_laysPart_36 : decode cX7_laysPart 36 = .ok (.invokevirtual 193, 3) := by decide +kernel
theorem dX7_laysPart_39 : decode cX7_laysPart 39 = .ok (.goto 19, 3) := by decide +kernel
theorem dX7_laysPart_42 : decode cX7_laysPart 42 = .ok (.aload_n 0, 1) := by decide +kernel
theorem dX7_laysPart_43 : decode cX7_laysPart 43 = .ok (.iload_n 2, 1) := by decide +kernel
theorem dX7_laysPart_44 : decode cX7_laysPart 44 = .ok (.iload 4, 2) := by decide +kernel
theorem dX7_laysPart_46 : decode cX7_laysPart 46 = .ok (.invokevirtual 193, 3) := by decide +kernel
theorem dX7_laysPart_49 : decode cX7_laysPart 49 = .ok (.aload_n 0, 1) := by decide +kernel
theorem dX7_laysPart_50 : decode cX7_laysPart 50 = .ok (.iload 4, 2) := by decide +kernel
theorem dX7_laysPart_52 : decode cX7_laysPart 52 = .ok (.iconst 1, 1) := by decide +kernel
theorem dX7_laysPart_53 : decode cX7_laysPart 53 = .ok (.iadd, 1) := by decide +kernel
theorem dX7_laysPart_54 : decode cX7_laysPart 54 = .ok (.iload_n 3, 1) := by decide +kernel
theorem dX7_laysPart_55 : decode cX7_laysPart 55 = .ok (.invokevirtual 193, 3) := by decide +kernel
theorem dX7_laysPart_58 : decode cX7_laysPart 58 = .ok (.return_, 1) := by decide +kernel
theorem dX7_laysRows_0 : decode cX7_laysRows 0 = .ok (.aload_n 0, 1) := by decide +kernel
theorem dX7_laysRows_1 : decode cX7_laysRows 1 = .ok (.iconst 0, 1) := by decide +kernel
theorem dX7_laysRows_2 : decode cX7_laysRows 2 = .ok (.putfield 184, 3) := by decide +kernel
theorem dX7_laysRows_5 : decode cX7_laysRows 5 = .ok (.iconst 0, 1) := by decide +kernel
theorem dX7_laysRows_6 : decode cX7_laysRows 6 = .ok (.istore_n 2, 1) := by decide +kernel
theorem dX7_laysRows_7 : decode cX7_laysRows 7 = .ok (.iconst 0, 1) := by decide +kernel
theorem dX7_laysRows_8 : decode cX7_laysRows 8 = .ok (.istore_n 3, 1) := by decide +kernel
theorem dX7_laysRows_9 : decode cX7_laysRows 9 = .ok (.iload_n 3, 1) := by decide +kernel
theorem dX7_laysRows_10 : decode cX7_laysRows 10 = .ok (.aload_n 0, 1) := by decide +kernel
theorem dX7_laysRows_11 : decode cX7_laysRows 11 = .ok (.getfield 40, 3) := by decide +kernel
theorem dX7_laysRows_14 : decode cX7_laysRows 14 = .ok (.iload_n 1, 1) := by decide +kernel
theorem dX7_laysRows_15 : decode cX7_laysRows 15 = .ok (.iaload, 1) := by decide +kernel
theorem dX7_laysRows_16 : decode cX7_laysRows 16 = .ok (.if_icmp .ge 36, 3) := by decide +kernel
theorem dX7_laysRows_19 : decode cX7_laysRows 19 = .ok (.aload_n 0, 1) := by decide +kernel
theorem dX7_laysRows_20 : decode cX7_laysRows 20 = .ok (.getfield 43, 3) := by decide +kernel
theorem dX7_laysRows_23 : decode cX7_laysRows 23 = .ok (.bipush 60, 2) := by decide +kernel
theorem dX7_laysRows_25 : decode cX7_laysRows 25 = .ok (.iload_n 1, 1) := by decide +kernel
theorem dX7_laysRows_26 : decode cX7_laysRows 26 = .ok (.imul, 1) := by decide +kernel
theorem dX7_laysRows_27 : decode cX7_laysRows 27 = .ok (.iload_n 3, 1) := by decide +kernel
theorem dX7_laysRows_28 : decode cX7_laysRows 28 = .ok (.iadd, 1) := by decide +kernel
theorem dX7_laysRows_29 : decode cX7_laysRows 29 = .ok (.iaload, 1) := by decide +kernel
theorem dX7_laysRows_30 : decode cX7_laysRows 30 = .ok (.bipush 10, 2) := by decide +kernel
theorem dX7_laysRows_32 : decode cX7_laysRows 32 = .ok (.if_icmp .ne 14, 3) := by decide +kernel
theorem dX7_laysRows_35 : decode cX7_laysRows 35 = .ok (.aload_n 0, 1) := by decide +kernel
theorem dX7_laysRows_36 : decode cX7_laysRows 36 = .ok (.iload_n 1, 1) := by decide +kernel
theorem dX7_laysRows_37 : decode cX7_laysRows 37 = .ok (.iload_n 2, 1) := by decide +kernel
theorem dX7_laysRows_38 : decode cX7_laysRows 38 = .ok (.iload_n 3, 1) := by decide +kernel
theorem dX7_laysRows_39 : decode cX7_laysRows 39 = .ok (.invokevirtual 196, 3) := by decide +kernel
theorem dX7_laysRows_42 : decode cX7_laysRows 42 = .ok (.iload_n 3, 1) := by decide +kernel
theorem dX7_laysRows_43 : decode cX7_laysRows 43 = .ok (.iconst 1, 1) := by decide +kernel
theorem dX7_laysRows_44 : decode cX7_laysRows 44 = .ok (.iadd, 1) := by decide +kernel
theorem dX7_laysRows_45 : decode cX7_laysRows 45 = .ok (.istore_n 2, 1) := by decide +kernel
theorem dX7_laysRows_46 : decode cX7_laysRows 46 = .ok (.iinc 3 1, 3) := by decide +kernel
theorem dX7_laysRows_49 : decode cX7_laysRows 49 = .ok (.goto (-40), 3) := by decide +kernel
theorem dX7_laysRows_52 : decode cX7_laysRows 52 = .ok (.aload_n 0, 1) := by decide +kernel
theorem dX7_laysRows_53 : decode cX7_laysRows 53 = .ok (.getfield 40, 3) := by decide +kernel
theorem dX7_laysRows_56 : decode cX7_laysRows 56 = .ok (.iload_n 1, 1) := by decide +kernel
theorem dX7_laysRows_57 : decode cX7_laysRows 57 = .ok (.iaload, 1) := by decide +kernel
theorem dX7_laysRows_58 : decode cX7_laysRows 58 = .ok (.ifCond .le 15, 3) := by decide +kernel
theorem dX7_laysRows_61 : decode cX7_laysRows 61 = .ok (.aload_n 0, 1) := by decide +kernel
theorem dX7_laysRows_62 : decode cX7_laysRows 62 = .ok (.iload_n 1, 1) := by decide +kernel
theorem dX7_laysRows_63 : decode cX7_laysRows 63 = .ok (.iload_n 2, 1) := by decide +kernel
theorem dX7_laysRows_64 : decode cX7_laysRows 64 = .ok (.aload_n 0, 1) := by decide +kernel
theorem dX7_laysRows_65 : decode cX7_laysRows 65 = .ok (.getfield 40, 3) := by decide +kernel
theorem dX7_laysRows_68 : decode cX7_laysRows 68 = .ok (.iload_n 1, 1) := by decide +kernel
theorem dX7_laysRows_69 : decode cX7_laysRows 69 = .ok (.iaload, 1) := by decide +kernel
theorem dX7_laysRows_70 : decode cX7_laysRows 70 = .ok (.invokevirtual 196, 3) := by decide +kernel
theorem dX7_laysRows_73 : decode cX7_laysRows 73 = .ok (.return_, 1) := by decide +kernel
theorem dX7_rows_0 : decode cX7_rows 0 = .ok (.aload_n 0, 1) := by decide +kernel
theorem dX7_rows_1 : decode cX7_rows 1 = .ok (.iload_n 1, 1) := by decide +kernel
theorem dX7_rows_2 : decode cX7_rows 2 = .ok (.iload_n 2, 1) := by decide +kernel
theorem dX7_rows_3 : decode cX7_rows 3 = .ok (.invokevirtual 172, 3) := by decide +kernel
theorem dX7_rows_6 : decode cX7_rows 6 = .ok (.ifCond .ne 5, 3) := by decide +kernel
theorem dX7_rows_9 : decode cX7_rows 9 = .ok (.iconst 0, 1) := by decide +kernel
theorem dX7_rows_10 : decode cX7_rows 10 = .ok (.ireturn, 1) := by decide +kernel
theorem dX7_rows_11 : decode cX7_rows 11 = .ok (.aload_n 0, 1) := by decide +kernel
theorem dX7_rows_12 : decode cX7_rows 12 = .ok (.iconst 3, 1) := by decide +kernel
theorem dX7_rows_13 : decode cX7_rows 13 = .ok (.iload_n 1, 1) := by decide +kernel
theorem dX7_rows_14 : decode cX7_rows 14 = .ok (.imul, 1) := by decide +kernel
theorem dX7_rows_15 : decode cX7_rows 15 = .ok (.iload_n 2, 1) := by decide +kernel
theorem dX7_rows_16 : decode cX7_rows 16 = .ok (.iadd, 1) := by decide +kernel
theorem dX7_rows_17 : decode cX7_rows 17 = .ok (.invokevirtual 199, 3) := by decide +kernel
theorem dX7_rows_20 : decode cX7_rows 20 = .ok (.aload_n 0, 1) := by decide +kernel
theorem dX7_rows_21 : decode cX7_rows 21 = .ok (.getfield 184, 3) := by decide +kernel
theorem dX7_rows_24 : decode cX7_rows 24 = .ok (.ireturn, 1) := by decide +kernel
theorem dX7_row_0 : decode cX7_row 0 = .ok (.aload_n 0, 1) := by decide +kernel
theorem dX7_row_1 : decode cX7_row 1 = .ok (.iload_n 1, 1) := by decide +kernel
theorem dX7_row_2 : decode cX7_row 2 = .ok (.iload_n 2, 1) := by decide +kernel
theorem dX7_row_3 : decode cX7_row 3 = .ok (.invokevirtual 172, 3) := by decide +kernel
theorem dX7_row_6 : decode cX7_row 6 = .ok (.ifCond .ne 5, 3) := by decide +kernel
theorem dX7_row_9 : decode cX7_row 9 = .ok (.iconst 0, 1) := by decide +kernel
theorem dX7_row_10 : decode cX7_row 10 = .ok (.ireturn, 1) := by decide +kernel
theorem dX7_row_11 : decode cX7_row 11 = .ok (.aload_n 0, 1) := by decide +kernel
theorem dX7_row_12 : decode cX7_row 12 = .ok (.iconst 3, 1) := by decide +kernel
theorem dX7_row_13 : decode cX7_row 13 = .ok (.iload_n 1, 1) := by decide +kernel
theorem dX7_row_14 : decode cX7_row 14 = .ok (.imul, 1) := by decide +kernel
theorem dX7_row_15 : decode cX7_row 15 = .ok (.iload_n 2, 1) := by decide +kernel
theorem dX7_row_16 : decode cX7_row 16 = .ok (.iadd, 1) := by decide +kernel
theorem dX7_row_17 : decode cX7_row 17 = .ok (.invokevirtual 199, 3) := by decide +kernel
theorem dX7_row_20 : decode cX7_row 20 = .ok (.aload_n 0, 1) := by decide +kernel
theorem dX7_row_21 : decode cX7_row 21 = .ok (.iload_n 3, 1) := by decide +kernel
theorem dX7_row_22 : decode cX7_row 22 = .ok (.iconst 0, 1) := by decide +kernel
theorem dX7_row_23 : decode cX7_row 23 = .ok (.aload_n 0, 1) := by decide +kernel
theorem dX7_row_24 : decode cX7_row 24 = .ok (.getfield 184, 3) := by decide +kernel
theorem dX7_row_27 : decode cX7_row 27 = .ok (.iconst 1, 1) := by decide +kernel
theorem dX7_row_28 : decode cX7_row 28 = .ok (.isub, 1) := by decide +kernel
theorem dX7_row_29 : decode cX7_row 29 = .ok (.invokestatic 93, 3) := by decide +kernel
theorem dX7_row_32 : decode cX7_row 32 = .ok (.ifCond .eq 7, 3) := by decide +kernel
theorem dX7_row_35 : decode cX7_row 35 = .ok (.iconst 0, 1) := by decide +kernel
theorem dX7_row_36 : decode cX7_row 36 = .ok (.goto 4, 3) := by decide +kernel
theorem dX7_row_39 : decode cX7_row 39 = .ok (.iconst 1, 1) := by decide +kernel
theorem dX7_row_40 : decode cX7_row 40 = .ok (.putfield 87, 3) := by decide +kernel
theorem dX7_row_43 : decode cX7_row 43 = .ok (.aload_n 0, 1) := by decide +kernel
theorem dX7_row_44 : decode cX7_row 44 = .ok (.getfield 87, 3) := by decide +kernel
theorem dX7_row_47 : decode cX7_row 47 = .ok (.ifCond .le 7, 3) := by decide +kernel
theorem dX7_row_50 : decode cX7_row 50 = .ok (.iconst 0, 1) := by decide +kernel
theorem dX7_row_51 : decode cX7_row 51 = .ok (.goto 19, 3) := by decide +kernel
theorem dX7_row_54 : decode cX7_row 54 = .ok (.bipush 100, 2) := by decide +kernel
theorem dX7_row_56 : decode cX7_row 56 = .ok (.aload_n 0, 1) := by decide +kernel
theorem dX7_row_57 : decode cX7_row 57 = .ok (.getfield 77, 3) := by decide +kernel
theorem dX7_row_60 : decode cX7_row 60 = .ok (.iload_n 3, 1) := by decide +kernel
theorem dX7_row_61 : decode cX7_row 61 = .ok (.iaload, 1) := by decide +kernel
theorem dX7_row_62 : decode cX7_row 62 = .ok (.imul, 1) := by decide +kernel
theorem dX7_row_63 : decode cX7_row 63 = .ok (.aload_n 0, 1) := by decide +kernel
theorem dX7_row_64 : decode cX7_row 64 = .ok (.getfield 80, 3) := by decide +kernel
theorem dX7_row_67 : decode cX7_row 67 = .ok (.iload_n 3, 1) := by decide +kernel
theorem dX7_row_68 : decode cX7_row 68 = .ok (.iaload, 1) := by decide +kernel
theorem dX7_row_69 : decode cX7_row 69 = .ok (.iadd, 1) := by decide +kernel
theorem dX7_row_70 : decode cX7_row 70 = .ok (.ireturn, 1) := by decide +kernel
theorem dX7_setLimits_0 : decode cX7_setLimits 0 = .ok (.aload_n 0, 1) := by decide +kernel
theorem dX7_setLimits_1 : decode cX7_setLimits 1 = .ok (.iload_n 1, 1) := by decide +kernel
theorem dX7_setLimits_2 : decode cX7_setLimits 2 = .ok (.iconst 5, 1) := by decide +kernel
theorem dX7_setLimits_3 : decode cX7_setLimits 3 = .ok (.bipush 60, 2) := by decide +kernel
theorem dX7_setLimits_5 : decode cX7_setLimits 5 = .ok (.invokestatic 93, 3) := by decide +kernel
theorem dX7_setLimits_8 : decode cX7_setLimits 8 = .ok (.ifCond .eq 17, 3) := by decide +kernel
theorem dX7_setLimits_11 : decode cX7_setLimits 11 = .ok (.iload_n 2, 1) := by decide +kernel
theorem dX7_setLimits_12 : decode cX7_setLimits 12 = .ok (.iconst 5, 1) := by decide +kernel
theorem dX7_setLimits_13 : decode cX7_setLimits 13 = .ok (.bipush 50, 2) := by decide +kernel
theorem dX7_setLimits_15 : decode cX7_setLimits 15 = .ok (.invokestatic 93, 3) := by decide +kernel
theorem dX7_setLimits_18 : decode cX7_setLimits 18 = .ok (.ifCond .eq 7, 3) := by decide +kernel
theorem dX7_setLimits_21 : decode cX7_setLimits 21 = .ok (.iconst 0, 1) := by decide +kernel
theorem dX7_setLimits_22 : decode cX7_setLimits 22 = .ok (.goto 4, 3) := by decide +kernel
theorem dX7_setLimits_25 : decode cX7_setLimits 25 = .ok (.iconst 1, 1) := by decide +kernel
theorem dX7_setLimits_26 : decode cX7_setLimits 26 = .ok (.putfield 87, 3) := by decide +kernel
theorem dX7_setLimits_29 : decode cX7_setLimits 29 = .ok (.aload_n 0, 1) := by decide +kernel
theorem dX7_setLimits_30 : decode cX7_setLimits 30 = .ok (.getfield 87, 3) := by decide +kernel
theorem dX7_setLimits_33 : decode cX7_setLimits 33 = .ok (.ifCond .le 5, 3) := by decide +kernel
theorem dX7_setLimits_36 : decode cX7_setLimits 36 = .ok (.iconst 0, 1) := by decide +kernel
theorem dX7_setLimits_37 : decode cX7_setLimits 37 = .ok (.ireturn, 1) := by decide +kernel
theorem dX7_setLimits_38 : decode cX7_setLimits 38 = .ok (.aload_n 0, 1) := by decide +kernel
theorem dX7_setLimits_39 : decode cX7_setLimits 39 = .ok (.getfield 70, 3) := by decide +kernel
theorem dX7_setLimits_42 : decode cX7_setLimits 42 = .ok (.istore_n 3, 1) := by decide +kernel
theorem dX7_setLimits_43 : decode cX7_setLimits 43 = .ok (.aload_n 0, 1) := by decide +kernel
theorem dX7_setLimits_44 : decode cX7_setLimits 44 = .ok (.iload_n 1, 1) := by decide +kernel
theorem dX7_setLimits_45 : decode cX7_setLimits 45 = .ok (.putfield 70, 3) := by decide +kernel
theorem dX7_setLimits_48 : decode cX7_setLimits 48 = .ok (.aload_n 0, 1) := by decide +kernel
theorem dX7_setLimits_49 : decode cX7_setLimits 49 = .ok (.iload_n 2, 1) := by decide +kernel
theorem dX7_setLimits_50 : decode cX7_setLimits 50 = .ok (.putfield 74, 3) := by decide +kernel
theorem dX7_setLimits_53 : decode cX7_setLimits 53 = .ok (.iload_n 3, 1) := by decide +kernel
theorem dX7_setLimits_54 : decode cX7_setLimits 54 = .ok (.ireturn, 1) := by decide +kernel
theorem dX7_keptFor_0 : decode cX7_keptFor 0 = .ok (.iconst (-1), 1) := by decide +kernel
theorem dX7_keptFor_1 : decode cX7_keptFor 1 = .ok (.istore_n 3, 1) := by decide +kernel
theorem dX7_keptFor_2 : decode cX7_keptFor 2 = .ok (.bipush 9, 2) := by decide +kernel
theorem dX7_keptFor_4 : decode cX7_keptFor 4 = .ok (.iload_n 1, 1) := by decide +kernel
theorem dX7_keptFor_5 : decode cX7_keptFor 5 = .ok (.imul, 1) := by decide +kernel
theorem dX7_keptFor_6 : decode cX7_keptFor 6 = .ok (.istore 4, 2) := by decide +kernel
theorem dX7_keptFor_8 : decode cX7_keptFor 8 = .ok (.iload 4, 2) := by decide +kernel
theorem dX7_keptFor_10 : decode cX7_keptFor 10 = .ok (.bipush 9, 2) := by decide +kernel
theorem dX7_keptFor_12 : decode cX7_keptFor 12 = .ok (.iload_n 1, 1) := by decide +kernel
theorem dX7_keptFor_13 : decode cX7_keptFor 13 = .ok (.imul, 1) := by decide +kernel
theorem dX7_keptFor_14 : decode cX7_keptFor 14 = .ok (.aload_n 0, 1) := by decide +kernel
theorem dX7_keptFor_15 : decode cX7_keptFor 15 = .ok (.getfield 52, 3) := by decide +kernel
theorem dX7_keptFor_18 : decode cX7_keptFor 18 = .ok (.iload_n 1, 1) := by decide +kernel
theorem dX7_keptFor_19 : decode cX7_keptFor 19 = .ok (.iaload, 1) := by decide +kernel
theorem dX7_keptFor_20 : decode cX7_keptFor 20 = .ok (.iadd, 1) := by decide +kernel
theorem dX7_keptFor_21 : decode cX7_keptFor 21 = .ok (.if_icmp .ge 104, 3) := by decide +kernel
theorem dX7_keptFor_24 : decode cX7_keptFor 24 = .ok (.aload_n 0, 1) := by decide +kernel
theorem dX7_keptFor_25 : decode cX7_keptFor 25 = .ok (.getfield 55, 3) := by decide +kernel
theorem dX7_keptFor_28 : decode cX7_keptFor 28 = .ok (.iload 4, 2) := by decide +kernel
theorem dX7_keptFor_30 : decode cX7_keptFor 30 = .ok (.iaload, 1) := by decide +kernel
theorem dX7_keptFor_31 : decode cX7_keptFor 31 = .ok (.aload_n 0, 1) := by decide +kernel
theorem dX7_keptFor_32 : decode cX7_keptFor 32 = .ok (.getfield 40, 3) := by decide +kernel
theorem dX7_keptFor_35 : decode cX7_keptFor 35 = .ok (.iload_n 2, 1) := by decide +kernel
theorem dX7_keptFor_36 : decode cX7_keptFor 36 = .ok (.iaload, 1) := by decide +kernel
theorem dX7_keptFor_37 : decode cX7_keptFor 37 = .ok (.if_icmp .ne 7, 3) := by decide +kernel
theorem dX7_keptFor_40 : decode cX7_keptFor 40 = .ok (.iconst 1, 1) := by decide +kernel
theorem dX7_keptFor_41 : decode cX7_keptFor 41 = .ok (.goto 4, 3) := by decide +kernel
theorem dX7_keptFor_44 : decode cX7_keptFor 44 = .ok (.iconst 0, 1) := by decide +kernel
theorem dX7_keptFor_45 : decode cX7_keptFor 45 = .ok (.istore 5, 2) := by decide +kernel
theorem dX7_keptFor_47 : decode cX7_keptFor 47 = .ok (.iconst 0, 1) := by decide +kernel
theorem dX7_keptFor_48 : decode cX7_keptFor 48 = .ok (.istore 6, 2) := by decide +kernel
theorem dX7_keptFor_50 : decode cX7_keptFor 50 = .ok (.iload 6, 2) := by decide +kernel
theorem dX7_keptFor_52 : decode cX7_keptFor 52 = .ok (.aload_n 0, 1) := by decide +kernel
theorem dX7_keptFor_53 : decode cX7_keptFor 53 = .ok (.getfield 40, 3) := by decide +kernel
theorem dX7_keptFor_56 : decode cX7_keptFor 56 = .ok (.iload_n 2, 1) := by decide +kernel
theorem dX7_keptFor_57 : decode cX7_keptFor 57 = .ok (.iaload, 1) := by decide +kernel
theorem dX7_keptFor_58 : decode cX7_keptFor 58 = .ok (.if_icmp .ge 49, 3) := by decide +kernel
theorem dX7_keptFor_61 : decode cX7_keptFor 61 = .ok (.iload 5, 2) := by decide +kernel
theorem dX7_keptFor_63 : decode cX7_keptFor 63 = .ok (.ifCond .eq 44, 3) := by decide +kernel
theorem dX7_keptFor_66 : decode cX7_keptFor 66 = .ok (.aload_n 0, 1) := by decide +kernel
theorem dX7_keptFor_67 : decode cX7_keptFor 67 = .ok (.getfield 58, 3) := by decide +kernel
theorem dX7_keptFor_70 : decode cX7_keptFor 70 = .ok (.bipush 60, 2) := by decide +kernel
theorem dX7_keptFor_72 : decode cX7_keptFor 72 = .ok (.iload 4, 2) := by decide +kernel
theorem dX7_keptFor_74 : decode cX7_keptFor 74 = .ok (.imul, 1) := by decide +kernel
theorem dX7_keptFor_75 : decode cX7_keptFor 75 = .ok (.iload 6, 2) := by decide +kernel
theorem dX7_keptFor_77 : decode cX7_keptFor 77 = .ok (.iadd, 1) := by decide +kernel
theorem dX7_keptFor_78 : decode cX7_keptFor 78 = .ok (.iaload, 1) := by decide +kernel
theorem dX7_keptFor_79 : decode cX7_keptFor 79 = .ok (.aload_n 0, 1) := by decide +kernel
theorem dX7_keptFor_80 : decode cX7_keptFor 80 = .ok (.getfield 43, 3) := by decide +kernel
theorem dX7_keptFor_83 : decode cX7_keptFor 83 = .ok (.bipush 60, 2) := by decide +kernel
theorem dX7_keptFor_85 : decode cX7_keptFor 85 = .ok (.iload_n 2, 1) := by decide +kernel
theorem dX7_keptFor_86 : decode cX7_keptFor 86 = .ok (.imul, 1) := by decide +kernel
theorem dX7_keptFor_87 : decode cX7_keptFor 87 = .ok (.iload 6, 2) := by decide +kernel
theorem dX7_keptFor_89 : decode cX7_keptFor 89 = .ok (.iadd, 1) := by decide +kernel
theorem dX7_keptFor_90 : decode cX7_keptFor 90 = .ok (.iaload, 1) := by decide +kernel
theorem dX7_keptFor_91 : decode cX7_keptFor 91 = .ok (.if_icmp .ne 7, 3) := by decide +kernel
theorem dX7_keptFor_94 : decode cX7_keptFor 94 = .ok (.iconst 1, 1) := by decide +kernel
theorem dX7_keptFor_95 : decode cX7_keptFor 95 = .ok (.goto 4, 3) := by decide +kernel
theorem dX7_keptFor_98 : decode cX7_keptFor 98 = .ok (.iconst 0, 1) := by decide +kernel
theorem dX7_keptFor_99 : decode cX7_keptFor 99 = .ok (.istore 5, 2) := by decide +kernel
theorem dX7_keptFor_101 : decode cX7_keptFor 101 = .ok (.iinc 6 1, 3) := by decide +kernel
theorem dX7_keptFor_104 : decode cX7_keptFor 104 = .ok (.goto (-54), 3) := by decide +kernel
theorem dX7_keptFor_107 : decode cX7_keptFor 107 = .ok (.iload 5, 2) := by decide +kernel
theorem dX7_keptFor_109 : decode cX7_keptFor 109 = .ok (.ifCond .eq 8, 3) := by decide +kernel
theorem dX7_keptFor_112 : decode cX7_keptFor 112 = .ok (.iload 4, 2) := by decide +kernel
theorem dX7_keptFor_114 : decode cX7_keptFor 114 = .ok (.goto 4, 3) := by decide +kernel
theorem dX7_keptFor_117 : decode cX7_keptFor 117 = .ok (.iload_n 3, 1) := by decide +kernel
theorem dX7_keptFor_118 : decode cX7_keptFor 118 = .ok (.istore_n 3, 1) := by decide +kernel
theorem dX7_keptFor_119 : decode cX7_keptFor 119 = .ok (.iinc 4 1, 3) := by decide +kernel
theorem dX7_keptFor_122 : decode cX7_keptFor 122 = .ok (.goto (-114), 3) := by decide +kernel
theorem dX7_keptFor_125 : decode cX7_keptFor 125 = .ok (.iload_n 3, 1) := by decide +kernel
theorem dX7_keptFor_126 : decode cX7_keptFor 126 = .ok (.ireturn, 1) := by decide +kernel
theorem dX7_movesDown_0 : decode cX7_movesDown 0 = .ok (.aload_n 0, 1) := by decide +kernel
theorem dX7_movesDown_1 : decode cX7_movesDown 1 = .ok (.getfield 52, 3) := by decide +kernel
theorem dX7_movesDown_4 : decode cX7_movesDown 4 = .ok (.iload_n 1, 1) := by decide +kernel
theorem dX7_movesDown_5 : decode cX7_movesDown 5 = .ok (.dup2, 1) := by decide +kernel
theorem dX7_movesDown_6 : decode cX7_movesDown 6 = .ok (.iaload, 1) := by decide +kernel
theorem dX7_movesDown_7 : decode cX7_movesDown 7 = .ok (.iconst 1, 1) := by decide +kernel
theorem dX7_movesDown_8 : decode cX7_movesDown 8 = .ok (.isub, 1) := by decide +kernel
theorem dX7_movesDown_9 : decode cX7_movesDown 9 = .ok (.iastore, 1) := by decide +kernel
theorem dX7_movesDown_10 : decode cX7_movesDown 10 = .ok (.iload_n 2, 1) := by decide +kernel
theorem dX7_movesDown_11 : decode cX7_movesDown 11 = .ok (.istore_n 3, 1) := by decide +kernel
theorem dX7_movesDown_12 : decode cX7_movesDown 12 = .ok (.iload_n 3, 1) := by decide +kernel
theorem dX7_movesDown_13 : decode cX7_movesDown 13 = .ok (.bipush 9, 2) := by decide +kernel
theorem dX7_movesDown_15 : decode cX7_movesDown 15 = .ok (.iload_n 1, 1) := by decide +kernel
theorem dX7_movesDown_16 : decode cX7_movesDown 16 = .ok (.imul, 1) := by decide +kernel
theorem dX7_movesDown_17 : decode cX7_movesDown 17 = .ok (.aload_n 0, 1) := by decide +kernel
theorem dX7_movesDown_18 : decode cX7_movesDown 18 = .ok (.getfield 52, 3) := by decide +kernel
theorem dX7_movesDown_21 : decode cX7_movesDown 21 = .ok (.iload_n 1, 1) := by decide +kernel
theorem dX7_movesDown_22 : decode cX7_movesDown 22 = .ok (.iaload, 1) := by decide +kernel
theorem dX7_movesDown_23 : decode cX7_movesDown 23 = .ok (.iadd, 1) := by decide +kernel
theorem dX7_movesDown_24 : decode cX7_movesDown 24 = .ok (.if_icmp .ge 119, 3) := by decide +kernel
theorem dX7_movesDown_27 : decode cX7_movesDown 27 = .ok (.aload_n 0, 1) := by decide +kernel
theorem dX7_movesDown_28 : decode cX7_movesDown 28 = .ok (.getfield 55, 3) := by decide +kernel
theorem dX7_movesDown_31 : decode cX7_movesDown 31 = .ok (.iload_n 3, 1) := by decide +kernel
theorem dX7_movesDown_32 : decode cX7_movesDown 32 = .ok (.aload_n 0, 1) := by decide +kernel
theorem dX7_movesDown_33 : decode cX7_movesDown 33 = .ok (.getfield 55, 3) := by decide +kernel
theorem dX7_movesDown_36 : decode cX7_movesDown 36 = .ok (.iload_n 3, 1) := by decide +kernel
theorem dX7_movesDown_37 : decode cX7_movesDown 37 = .ok (.iconst 1, 1) := by decide +kernel
theorem dX7_movesDown_38 : decode cX7_movesDown 38 = .ok (.iadd, 1) := by decide +kernel
theorem dX7_movesDown_39 : decode cX7_movesDown 39 = .ok (.iaload, 1) := by decide +kernel
theorem dX7_movesDown_40 : decode cX7_movesDown 40 = .ok (.iastore, 1) := by decide +kernel
theorem dX7_movesDown_41 : decode cX7_movesDown 41 = .ok (.aload_n 0, 1) := by decide +kernel
theorem dX7_movesDown_42 : decode cX7_movesDown 42 = .ok (.getfield 61, 3) := by decide +kernel
theorem dX7_movesDown_45 : decode cX7_movesDown 45 = .ok (.iload_n 3, 1) := by decide +kernel
theorem dX7_movesDown_46 : decode cX7_movesDown 46 = .ok (.aload_n 0, 1) := by decide +kernel
theorem dX7_movesDown_47 : decode cX7_movesDown 47 = .ok (.getfield 61, 3) := by decide +kernel
theorem dX7_movesDown_50 : decode cX7_movesDown 50 = .ok (.iload_n 3, 1) := by decide +kernel
theorem dX7_movesDown_51 : decode cX7_movesDown 51 = .ok (.iconst 1, 1) := by decide +kernel
theorem dX7_movesDown_52 : decode cX7_movesDown 52 = .ok (.iadd, 1) := by decide +kernel
theorem dX7_movesDown_53 : decode cX7_movesDown 53 = .ok (.iaload, 1) := by decide +kernel
theorem dX7_movesDown_54 : decode cX7_movesDown 54 = .ok (.iastore, 1) := by decide +kernel
theorem dX7_movesDown_55 : decode cX7_movesDown 55 = .ok (.aload_n 0, 1) := by decide +kernel
theorem dX7_movesDown_56 : decode cX7_movesDown 56 = .ok (.getfield 67, 3) := by decide +kernel
theorem dX7_movesDown_59 : decode cX7_movesDown 59 = .ok (.iload_n 3, 1) := by decide +kernel
theorem dX7_movesDown_60 : decode cX7_movesDown 60 = .ok (.aload_n 0, 1) := by decide +kernel
theorem dX7_movesDown_61 : decode cX7_movesDown 61 = .ok (.getfield 67, 3) := by decide +kernel
theorem dX7_movesDown_64 : decode cX7_movesDown 64 = .ok (.iload_n 3, 1) := by decide +kernel
theorem dX7_movesDown_65 : decode cX7_movesDown 65 = .ok (.iconst 1, 1) := by decide +kernel
theorem dX7_movesDown_66 : decode cX7_movesDown 66 = .ok (.iadd, 1) := by decide +kernel
theorem dX7_movesDown_67 : decode cX7_movesDown 67 = .ok (.iaload, 1) := by decide +kernel
theorem dX7_movesDown_68 : decode cX7_movesDown 68 = .ok (.iastore, 1) := by decide +kernel
theorem dX7_movesDown_69 : decode cX7_movesDown 69 = .ok (.iconst 0, 1) := by decide +kernel
theorem dX7_movesDown_70 : decode cX7_movesDown 70 = .ok (.istore 4, 2) := by decide +kernel
theorem dX7_movesDown_72 : decode cX7_movesDown 72 = .ok (.iload 4, 2) := by decide +kernel
theorem dX7_movesDown_74 : decode cX7_movesDown 74 = .ok (.bipush 60, 2) := by decide +kernel
theorem dX7_movesDown_76 : decode cX7_movesDown 76 = .ok (.if_icmp .ge 61, 3) := by decide +kernel
theorem dX7_movesDown_79 : decode cX7_movesDown 79 = .ok (.aload_n 0, 1) := by decide +kernel
theorem dX7_movesDown_80 : decode cX7_movesDown 80 = .ok (.getfield 58, 3) := by decide +kernel
theorem dX7_movesDown_83 : decode cX7_movesDown 83 = .ok (.bipush 60, 2) := by decide +kernel
theorem dX7_movesDown_85 : decode cX7_movesDown 85 = .ok (.iload_n 3, 1) := by decide +kernel
theorem dX7_movesDown_86 : decode cX7_movesDown 86 = .ok (.imul, 1) := by decide +kernel
theorem dX7_movesDown_87 : decode cX7_movesDown 87 = .ok (.iload 4, 2) := by decide +kernel
theorem dX7_movesDown_89 : decode cX7_movesDown 89 = .ok (.iadd, 1) := by decide +kernel
theorem dX7_movesDown_90 : decode cX7_movesDown 90 = .ok (.aload_n 0, 1) := by decide +kernel
theorem dX7_movesDown_91 : decode cX7_movesDown 91 = .ok (.getfield 58, 3) := by decide +kernel
theorem dX7_movesDown_94 : decode cX7_movesDown 94 = .ok (.bipush 60, 2) := by decide +kernel
theorem dX7_movesDown_96 : decode cX7_movesDown 96 = .ok (.iload_n 3, 1) := by decide +kernel
theorem dX7_movesDown_97 : decode cX7_movesDown 97 = .ok (.iconst 1, 1) := by decide +kernel
theorem dX7_movesDown_98 : decode cX7_movesDown 98 = .ok (.iadd, 1) := by decide +kernel
theorem dX7_movesDown_99 : decode cX7_movesDown 99 = .ok (.imul, 1) := by decide +kernel
theorem dX7_movesDown_100 : decode cX7_movesDown 100 = .ok (.iload 4, 2) := by decide +kernel
theorem dX7_movesDown_102 : decode cX7_movesDown 102 = .ok (.iadd, 1) := by decide +kernel
theorem dX7_movesDown_103 : decode cX7_movesDown 103 = .ok (.iaload, 1) := by decide +kernel
theorem dX7_movesDown_104 : decode cX7_movesDown 104 = .ok (.iastore, 1) := by decide +kernel
theorem dX7_movesDown_105 : decode cX7_movesDown 105 = .ok (.aload_n 0, 1) := by decide +kernel
theorem dX7_movesDown_106 : decode cX7_movesDown 106 = .ok (.getfield 64, 3) := by decide +kernel
theorem dX7_movesDown_109 : decode cX7_movesDown 109 = .ok (.bipush 60, 2) := by decide +kernel
theorem dX7_movesDown_111 : decode cX7_movesDown 111 = .ok (.iload_n 3, 1) := by decide +kernel
theorem dX7_movesDown_112 : decode cX7_movesDown 112 = .ok (.imul, 1) := by decide +kernel
theorem dX7_movesDown_113 : decode cX7_movesDown 113 = .ok (.iload 4, 2) := by decide +kernel
theorem dX7_movesDown_115 : decode cX7_movesDown 115 = .ok (.iadd, 1) := by decide +kernel
theorem dX7_movesDown_116 : decode cX7_movesDown 116 = .ok (.aload_n 0, 1) := by decide +kernel
theorem dX7_movesDown_117 : decode cX7_movesDown 117 = .ok (.getfield 64, 3) := by decide +kernel
theorem dX7_movesDown_120 : decode cX7_movesDown 120 = .ok (.bipush 60, 2) := by decide +kernel
theorem dX7_movesDown_122 : decode cX7_movesDown 122 = .ok (.iload_n 3, 1) := by decide +kernel
theorem dX7_movesDown_123 : decode cX7_movesDown 123 = .ok (.iconst 1, 1) := by decide +kernel
theorem dX7_movesDown_124 : decode cX7_movesDown 124 = .ok (.iadd, 1) := by decide +kernel
theorem dX7_movesDown_125 : decode cX7_movesDown 125 = .ok (.imul, 1) := by decide +kernel
theorem dX7_movesDown_126 : decode cX7_movesDown 126 = .ok (.iload 4, 2) := by decide +kernel
theorem dX7_movesDown_128 : decode cX7_movesDown 128 = .ok (.iadd, 1) := by decide +kernel
theorem dX7_movesDown_129 : decode cX7_movesDown 129 = .ok (.iaload, 1) := by decide +kernel
theorem dX7_movesDown_130 : decode cX7_movesDown 130 = .ok (.iastore, 1) := by decide +kernel
theorem dX7_movesDown_131 : decode cX7_movesDown 131 = .ok (.iinc 4 1, 3) := by decide +kernel
theorem dX7_movesDown_134 : decode cX7_movesDown 134 = .ok (.goto (-62), 3) := by decide +kernel
theorem dX7_movesDown_137 : decode cX7_movesDown 137 = .ok (.iinc 3 1, 3) := by decide +kernel
theorem dX7_movesDown_140 : decode cX7_movesDown 140 = .ok (.goto (-128), 3) := by decide +kernel
theorem dX7_movesDown_143 : decode cX7_movesDown 143 = .ok (.return_, 1) := by decide +kernel
theorem dX7_oldest_0 : decode cX7_oldest 0 = .ok (.bipush 9, 2) := by decide +kernel
theorem dX7_oldest_2 : decode cX7_oldest 2 = .ok (.iload_n 1, 1) := by decide +kernel
theorem dX7_oldest_3 : decode cX7_oldest 3 = .ok (.imul, 1) := by decide +kernel
theorem dX7_oldest_4 : decode cX7_oldest 4 = .ok (.istore_n 2, 1) := by decide +kernel
theorem dX7_oldest_5 : decode cX7_oldest 5 = .ok (.bipush 9, 2) := by decide +kernel
theorem dX7_oldest_7 : decode cX7_oldest 7 = .ok (.iload_n 1, 1) := by decide +kernel
theorem dX7_oldest_8 : decode cX7_oldest 8 = .ok (.imul, 1) := by decide +kernel
theorem dX7_oldest_9 : decode cX7_oldest 9 = .ok (.istore_n 3, 1) := by decide +kernel
theorem dX7_oldest_10 : decode cX7_oldest 10 = .ok (.iload_n 3, 1) := by decide +kernel
theorem dX7_oldest_11 : decode cX7_oldest 11 = .ok (.bipush 9, 2) := by decide +kernel
theorem dX7_oldest_13 : decode cX7_oldest 13 = .ok (.iload_n 1, 1) := by decide +kernel
theorem dX7_oldest_14 : decode cX7_oldest 14 = .ok (.imul, 1) := by decide +kernel
theorem dX7_oldest_15 : decode cX7_oldest 15 = .ok (.aload_n 0, 1) := by decide +kernel
theorem dX7_oldest_16 : decode cX7_oldest 16 = .ok (.getfield 52, 3) := by decide +kernel
theorem dX7_oldest_19 : decode cX7_oldest 19 = .ok (.iload_n 1, 1) := by decide +kernel
theorem dX7_oldest_20 : decode cX7_oldest 20 = .ok (.iaload, 1) := by decide +kernel
theorem dX7_oldest_21 : decode cX7_oldest 21 = .ok (.iadd, 1) := by decide +kernel
theorem dX7_oldest_22 : decode cX7_oldest 22 = .ok (.if_icmp .ge 30, 3) := by decide +kernel
theorem dX7_oldest_25 : decode cX7_oldest 25 = .ok (.aload_n 0, 1) := by decide +kernel
theorem dX7_oldest_26 : decode cX7_oldest 26 = .ok (.getfield 67, 3) := by decide +kernel
theorem dX7_oldest_29 : decode cX7_oldest 29 = .ok (.iload_n 3, 1) := by decide +kernel
theorem dX7_oldest_30 : decode cX7_oldest 30 = .ok (.iaload, 1) := by decide +kernel
theorem dX7_oldest_31 : decode cX7_oldest 31 = .ok (.aload_n 0, 1) := by decide +kernel
theorem dX7_oldest_32 : decode cX7_oldest 32 = .ok (.getfield 67, 3) := by decide +kernel
theorem dX7_oldest_35 : decode cX7_oldest 35 = .ok (.iload_n 2, 1) := by decide +kernel
theorem dX7_oldest_36 : decode cX7_oldest 36 = .ok (.iaload, 1) := by decide +kernel
theorem dX7_oldest_37 : decode cX7_oldest 37 = .ok (.if_icmp .ge 7, 3) := by decide +kernel
theorem dX7_oldest_40 : decode cX7_oldest 40 = .ok (.iload_n 3, 1) := by decide +kernel
theorem dX7_oldest_41 : decode cX7_oldest 41 = .ok (.goto 4, 3) := by decide +kernel
theorem dX7_oldest_44 : decode cX7_oldest 44 = .ok (.iload_n 2, 1) := by decide +kernel
theorem dX7_oldest_45 : decode cX7_oldest 45 = .ok (.istore_n 2, 1) := by decide +kernel
theorem dX7_oldest_46 : decode cX7_oldest 46 = .ok (.iinc 3 1, 3) := by decide +kernel
theorem dX7_oldest_49 : decode cX7_oldest 49 = .ok (.goto (-39), 3) := by decide +kernel
theorem dX7_oldest_52 : decode cX7_oldest 52 = .ok (.iload_n 2, 1) := by decide +kernel
theorem dX7_oldest_53 : decode cX7_oldest 53 = .ok (.ireturn, 1) := by decide +kernel
theorem dX7_keeps_0 : decode cX7_keeps 0 = .ok (.aload_n 0, 1) := by decide +kernel
theorem dX7_keeps_1 : decode cX7_keeps 1 = .ok (.iload_n 1, 1) := by decide +kernel
theorem dX7_keeps_2 : decode cX7_keeps 2 = .ok (.iload_n 2, 1) := by decide +kernel
theorem dX7_keeps_3 : decode cX7_keeps 3 = .ok (.invokevirtual 202, 3) := by decide +kernel
theorem dX7_keeps_6 : decode cX7_keeps 6 = .ok (.istore 4, 2) := by decide +kernel
theorem dX7_keeps_8 : decode cX7_keeps 8 = .ok (.iload 4, 2) := by decide +kernel
theorem dX7_keeps_10 : decode cX7_keeps 10 = .ok (.iconst (-1), 1) := by decide +kernel
theorem dX7_keeps_11 : decode cX7_keeps 11 = .ok (.if_icmp .ne 26, 3) := by decide +kernel
theorem dX7_keeps_14 : decode cX7_keeps 14 = .ok (.bipush 9, 2) := by decide +kernel
theorem dX7_keeps_16 : decode cX7_keeps 16 = .ok (.iload_n 1, 1) := by decide +kernel
theorem dX7_keeps_17 : decode cX7_keeps 17 = .ok (.imul, 1) := by decide +kernel
theorem dX7_keeps_18 : decode cX7_keeps 18 = .ok (.aload_n 0, 1) := by decide +kernel
theorem dX7_keeps_19 : decode cX7_keeps 19 = .ok (.getfield 52, 3) := by decide +kernel
theorem dX7_keeps_22 : decode cX7_keeps 22 = .ok (.iload_n 1, 1) := by decide +kernel
theorem dX7_keeps_23 : decode cX7_keeps 23 = .ok (.iaload, 1) := by decide +kernel
theorem dX7_keeps_24 : decode cX7_keeps 24 = .ok (.iadd, 1) := by decide +kernel
theorem dX7_keeps_25 : decode cX7_keeps 25 = .ok (.istore 4, 2) := by decide +kernel
theorem dX7_keeps_27 : decode cX7_keeps 27 = .ok (.aload_n 0, 1) := by decide +kernel
theorem dX7_keeps_28 : decode cX7_keeps 28 = .ok (.getfield 52, 3) := by decide +kernel
theorem dX7_keeps_31 : decode cX7_keeps 31 = .ok (.iload_n 1, 1) := by decide +kernel
theorem dX7_keeps_32 : decode cX7_keeps 32 = .ok (.dup2, 1) := by decide +kernel
theorem dX7_keeps_33 : decode cX7_keeps 33 = .ok (.iaload, 1) := by decide +kernel
theorem dX7_keeps_34 : decode cX7_keeps 34 = .ok (.iconst 1, 1) := by decide +kernel
theorem dX7_keeps_35 : decode cX7_keeps 35 = .ok (.iadd, 1) := by decide +kernel
theorem dX7_keeps_36 : decode cX7_keeps 36 = .ok (.iastore, 1) := by decide +kernel
theorem dX7_keeps_37 : decode cX7_keeps 37 = .ok (.aload_n 0, 1) := by decide +kernel
theorem dX7_keeps_38 : decode cX7_keeps 38 = .ok (.getfield 55, 3) := by decide +kernel
theorem dX7_keeps_41 : decode cX7_keeps 41 = .ok (.iload 4, 2) := by decide +kernel
theorem dX7_keeps_43 : decode cX7_keeps 43 = .ok (.aload_n 0, 1) := by decide +kernel
theorem dX7_keeps_44 : decode cX7_keeps 44 = .ok (.getfield 40, 3) := by decide +kernel
theorem dX7_keeps_47 : decode cX7_keeps 47 = .ok (.iload_n 2, 1) := by decide +kernel
theorem dX7_keeps_48 : decode cX7_keeps 48 = .ok (.iaload, 1) := by decide +kernel
theorem dX7_keeps_49 : decode cX7_keeps 49 = .ok (.iastore, 1) := by decide +kernel
theorem dX7_keeps_50 : decode cX7_keeps 50 = .ok (.aload_n 0, 1) := by decide +kernel
theorem dX7_keeps_51 : decode cX7_keeps 51 = .ok (.getfield 61, 3) := by decide +kernel
theorem dX7_keeps_54 : decode cX7_keeps 54 = .ok (.iload 4, 2) := by decide +kernel
theorem dX7_keeps_56 : decode cX7_keeps 56 = .ok (.aload_n 0, 1) := by decide +kernel
theorem dX7_keeps_57 : decode cX7_keeps 57 = .ok (.getfield 40, 3) := by decide +kernel
theorem dX7_keeps_60 : decode cX7_keeps 60 = .ok (.iload_n 3, 1) := by decide +kernel
theorem dX7_keeps_61 : decode cX7_keeps 61 = .ok (.iaload, 1) := by decide +kernel
theorem dX7_keeps_62 : decode cX7_keeps 62 = .ok (.iastore, 1) := by decide +kernel
theorem dX7_keeps_63 : decode cX7_keeps 63 = .ok (.iconst 0, 1) := by decide +kernel
theorem dX7_keeps_64 : decode cX7_keeps 64 = .ok (.istore 5, 2) := by decide +kernel
theorem dX7_keeps_66 : decode cX7_keeps 66 = .ok (.iload 5, 2) := by decide +kernel
theorem dX7_keeps_68 : decode cX7_keeps 68 = .ok (.bipush 60, 2) := by decide +kernel
theorem dX7_keeps_70 : decode cX7_keeps 70 = .ok (.if_icmp .ge 59, 3) := by decide +kernel
theorem dX7_keeps_73 : decode cX7_keeps 73 = .ok (.aload_n 0, 1) := by decide +kernel
theorem dX7_keeps_74 : decode cX7_keeps 74 = .ok (.getfield 58, 3) := by decide +kernel
theorem dX7_keeps_77 : decode cX7_keeps 77 = .ok (.bipush 60, 2) := by decide +kernel
theorem dX7_keeps_79 : decode cX7_keeps 79 = .ok (.iload 4, 2) := by decide +kernel
theorem dX7_keeps_81 : decode cX7_keeps 81 = .ok (.imul, 1) := by decide +kernel
theorem dX7_keeps_82 : decode cX7_keeps 82 = .ok (.iload 5, 2) := by decide +kernel
theorem dX7_keeps_84 : decode cX7_keeps 84 = .ok (.iadd, 1) := by decide +kernel
theorem dX7_keeps_85 : decode cX7_keeps 85 = .ok (.aload_n 0, 1) := by decide +kernel
theorem dX7_keeps_86 : decode cX7_keeps 86 = .ok (.getfield 43, 3) := by decide +kernel
theorem dX7_keeps_89 : decode cX7_keeps 89 = .ok (.bipush 60, 2) := by decide +kernel
theorem dX7_keeps_91 : decode cX7_keeps 91 = .ok (.iload_n 2, 1) := by decide +kernel
theorem dX7_keeps_92 : decode cX7_keeps 92 = .ok (.imul, 1) := by decide +kernel
theorem dX7_keeps_93 : decode cX7_keeps 93 = .ok (.iload 5, 2) := by decide +kernel
theorem dX7_keeps_95 : decode cX7_keeps 95 = .ok (.iadd, 1) := by decide +kernel
theorem dX7_keeps_96 : decode cX7_keeps 96 = .ok (.iaload, 1) := by decide +kernel
theorem dX7_keeps_97 : decode cX7_keeps 97 = .ok (.iastore, 1) := by decide +kernel
theorem dX7_keeps_98 : decode cX7_keeps 98 = .ok (.aload_n 0, 1) := by decide +kernel
theorem dX7_keeps_99 : decode cX7_keeps 99 = .ok (.getfield 64, 3) := by decide +kernel
theorem dX7_keeps_102 : decode cX7_keeps 102 = .ok (.bipush 60, 2) := by decide +kernel
theorem dX7_keeps_104 : decode cX7_keeps 104 = .ok (.iload 4, 2) := by decide +kernel
theorem dX7_keeps_106 : decode cX7_keeps 106 = .ok (.imul, 1) := by decide +kernel
theorem dX7_keeps_107 : decode cX7_keeps 107 = .ok (.iload 5, 2) := by decide +kernel
theorem dX7_keeps_109 : decode cX7_keeps 109 = .ok (.iadd, 1) := by decide +kernel
theorem dX7_keeps_110 : decode cX7_keeps 110 = .ok (.aload_n 0, 1) := by decide +kernel
theorem dX7_keeps_111 : decode cX7_keeps 111 = .ok (.getfield 43, 3) := by decide +kernel
theorem dX7_keeps_114 : decode cX7_keeps 114 = .ok (.bipush 60, 2) := by decide +kernel
theorem dX7_keeps_116 : decode cX7_keeps 116 = .ok (.iload_n 3, 1) := by decide +kernel
theorem dX7_keeps_117 : decode cX7_keeps 117 = .ok (.imul, 1) := by decide +kernel
theorem dX7_keeps_118 : decode cX7_keeps 118 = .ok (.iload 5, 2) := by decide +kernel
theorem dX7_keeps_120 : decode cX7_keeps 120 = .ok (.iadd, 1) := by decide +kernel
theorem dX7_keeps_121 : decode cX7_keeps 121 = .ok (.iaload, 1) := by decide +kernel
theorem dX7_keeps_122 : decode cX7_keeps 122 = .ok (.iastore, 1) := by decide +kernel
theorem dX7_keeps_123 : decode cX7_keeps 123 = .ok (.iinc 5 1, 3) := by decide +kernel
theorem dX7_keeps_126 : decode cX7_keeps 126 = .ok (.goto (-60), 3) := by decide +kernel
theorem dX7_keeps_129 : decode cX7_keeps 129 = .ok (.aload_n 0, 1) := by decide +kernel
theorem dX7_keeps_130 : decode cX7_keeps 130 = .ok (.dup, 1) := by decide +kernel
theorem dX7_keeps_131 : decode cX7_keeps 131 = .ok (.getfield 163, 3) := by decide +kernel
theorem dX7_keeps_134 : decode cX7_keeps 134 = .ok (.iconst 1, 1) := by decide +kernel
theorem dX7_keeps_135 : decode cX7_keeps 135 = .ok (.iadd, 1) := by decide +kernel
theorem dX7_keeps_136 : decode cX7_keeps 136 = .ok (.putfield 163, 3) := by decide +kernel
theorem dX7_keeps_139 : decode cX7_keeps 139 = .ok (.aload_n 0, 1) := by decide +kernel
theorem dX7_keeps_140 : decode cX7_keeps 140 = .ok (.getfield 67, 3) := by decide +kernel
theorem dX7_keeps_143 : decode cX7_keeps 143 = .ok (.iload 4, 2) := by decide +kernel
theorem dX7_keeps_145 : decode cX7_keeps 145 = .ok (.aload_n 0, 1) := by decide +kernel
theorem dX7_keeps_146 : decode cX7_keeps 146 = .ok (.getfield 163, 3) := by decide +kernel
theorem dX7_keeps_149 : decode cX7_keeps 149 = .ok (.iastore, 1) := by decide +kernel
theorem dX7_keeps_150 : decode cX7_keeps 150 = .ok (.aload_n 0, 1) := by decide +kernel
theorem dX7_keeps_151 : decode cX7_keeps 151 = .ok (.getfield 52, 3) := by decide +kernel
theorem dX7_keeps_154 : decode cX7_keeps 154 = .ok (.iload_n 1, 1) := by decide +kernel
theorem dX7_keeps_155 : decode cX7_keeps 155 = .ok (.iaload, 1) := by decide +kernel
theorem dX7_keeps_156 : decode cX7_keeps 156 = .ok (.bipush 8, 2) := by decide +kernel
theorem dX7_keeps_158 : decode cX7_keeps 158 = .ok (.if_icmp .le 13, 3) := by decide +kernel
theorem dX7_keeps_161 : decode cX7_keeps 161 = .ok (.aload_n 0, 1) := by decide +kernel
theorem dX7_keeps_162 : decode cX7_keeps 162 = .ok (.iload_n 1, 1) := by decide +kernel
theorem dX7_keeps_163 : decode cX7_keeps 163 = .ok (.aload_n 0, 1) := by decide +kernel
theorem dX7_keeps_164 : decode cX7_keeps 164 = .ok (.iload_n 1, 1) := by decide +kernel
theorem dX7_keeps_165 : decode cX7_keeps 165 = .ok (.invokevirtual 206, 3) := by decide +kernel
theorem dX7_keeps_168 : decode cX7_keeps 168 = .ok (.invokevirtual 209, 3) := by decide +kernel
theorem dX7_keeps_171 : decode cX7_keeps 171 = .ok (.return_, 1) := by decide +kernel
theorem dX7_confirm_0 : decode cX7_confirm 0 = .ok (.aload_n 0, 1) := by decide +kernel
theorem dX7_confirm_1 : decode cX7_confirm 1 = .ok (.aload_n 0, 1) := by decide +kernel
theorem dX7_confirm_2 : decode cX7_confirm 2 = .ok (.iload_n 1, 1) := by decide +kernel
theorem dX7_confirm_3 : decode cX7_confirm 3 = .ok (.invokevirtual 103, 3) := by decide +kernel
theorem dX7_confirm_6 : decode cX7_confirm 6 = .ok (.ifCond .eq 16, 3) := by decide +kernel
theorem dX7_confirm_9 : decode cX7_confirm 9 = .ok (.iload_n 2, 1) := by decide +kernel
theorem dX7_confirm_10 : decode cX7_confirm 10 = .ok (.iconst 1, 1) := by decide +kernel
theorem dX7_confirm_11 : decode cX7_confirm 11 = .ok (.iconst 2, 1) := by decide +kernel
theorem dX7_confirm_12 : decode cX7_confirm 12 = .ok (.invokestatic 93, 3) := by decide +kernel
theorem dX7_confirm_15 : decode cX7_confirm 15 = .ok (.ifCond .eq 7, 3) := by decide +kernel
theorem dX7_confirm_18 : decode cX7_confirm 18 = .ok (.iconst 0, 1) := by decide +kernel
theorem dX7_confirm_19 : decode cX7_confirm 19 = .ok (.goto 4, 3) := by decide +kernel
theorem dX7_confirm_22 : decode cX7_confirm 22 = .ok (.iconst 1, 1) := by decide +kernel
theorem dX7_confirm_23 : decode cX7_confirm 23 = .ok (.putfield 87, 3) := by decide +kernel
theorem dX7_confirm_26 : decode cX7_confirm 26 = .ok (.aload_n 0, 1) := by decide +kernel
theorem dX7_confirm_27 : decode cX7_confirm 27 = .ok (.getfield 87, 3) := by decide +kernel
theorem dX7_confirm_30 : decode cX7_confirm 30 = .ok (.ifCond .ne 36, 3) := by decide +kernel
theorem dX7_confirm_33 : decode cX7_confirm 33 = .ok (.aload_n 0, 1) := by decide +kernel
theorem dX7_confirm_34 : decode cX7_confirm 34 = .ok (.aload_n 0, 1) := by decide +kernel
theorem dX7_confirm_35 : decode cX7_confirm 35 = .ok (.getfield 40, 3) := by decide +kernel
theorem dX7_confirm_38 : decode cX7_confirm 38 = .ok (.iconst 3, 1) := by decide +kernel
theorem dX7_confirm_39 : decode cX7_confirm 39 = .ok (.iload_n 1, 1) := by decide +kernel
theorem dX7_confirm_40 : decode cX7_confirm 40 = .ok (.imul, 1) := by decide +kernel
theorem dX7_confirm_41 : decode cX7_confirm 41 = .ok (.iaload, 1) := by decide +kernel
theorem dX7_confirm_42 : decode cX7_confirm 42 = .ok (.ifCond .eq 16, 3) := by decide +kernel
theorem dX7_confirm_45 : decode cX7_confirm 45 = .ok (.aload_n 0, 1) := by decide +kernel
theorem dX7_confirm_46 : decode cX7_confirm 46 = .ok (.getfield 40, 3) := by decide +kernel
theorem dX7_confirm_49 : decode cX7_confirm 49 = .ok (.iconst 3, 1) := by decide +kernel
theorem dX7_confirm_50 : decode cX7_confirm 50 = .ok (.iload_n 1, 1) := by decide +kernel
theorem dX7_confirm_51 : decode cX7_confirm 51 = .ok (.imul, 1) := by decide +kernel
theorem dX7_confirm_52 : decode cX7_confirm 52 = .ok (.iload_n 2, 1) := by decide +kernel
theorem dX7_confirm_53 : decode cX7_confirm 53 = .ok (.iadd, 1) := by decide +kernel
theorem dX7_confirm_54 : decode cX7_confirm 54 = .ok (.iaload, 1) := by decide +kernel
theorem dX7_confirm_55 : decode cX7_confirm 55 = .ok (.ifCond .ne 7, 3) := by decide +kernel
theorem dX7_confirm_58 : decode cX7_confirm 58 = .ok (.iconst 2, 1) := by decide +kernel
theorem dX7_confirm_59 : decode cX7_confirm 59 = .ok (.goto 4, 3) := by decide +kernel
theorem dX7_confirm_62 : decode cX7_confirm 62 = .ok (.iconst 0, 1) := by decide +kernel
theorem dX7_confirm_63 : decode cX7_confirm 63 = .ok (.putfield 87, 3) := by decide +kernel
theorem dX7_confirm_66 : decode cX7_confirm 66 = .ok (.aload_n 0, 1) := by decide +kernel
theorem dX7_confirm_67 : decode cX7_confirm 67 = .ok (.getfield 87, 3) := by decide +kernel
theorem dX7_confirm_70 : decode cX7_confirm 70 = .ok (.ifCond .le 5, 3) := by decide +kernel
theorem dX7_confirm_73 : decode cX7_confirm 73 = .ok (.iconst 0, 1) := by decide +kernel
theorem dX7_confirm_74 : decode cX7_confirm 74 = .ok (.ireturn, 1) := by decide +kernel
theorem dX7_confirm_75 : decode cX7_confirm 75 = .ok (.aload_n 0, 1) := by decide +kernel
theorem dX7_confirm_76 : decode cX7_confirm 76 = .ok (.iload_n 2, 1) := by decide +kernel
theorem dX7_confirm_77 : decode cX7_confirm 77 = .ok (.iconst 1, 1) := by decide +kernel
theorem dX7_confirm_78 : decode cX7_confirm 78 = .ok (.isub, 1) := by decide +kernel
theorem dX7_confirm_79 : decode cX7_confirm 79 = .ok (.iconst 3, 1) := by decide +kernel
theorem dX7_confirm_80 : decode cX7_confirm 80 = .ok (.iload_n 1, 1) := by decide +kernel
theorem dX7_confirm_81 : decode cX7_confirm 81 = .ok (.imul, 1) := by decide +kernel
theorem dX7_confirm_82 : decode cX7_confirm 82 = .ok (.iconst 3, 1) := by decide +kernel
theorem dX7_confirm_83 : decode cX7_confirm 83 = .ok (.iload_n 1, 1) := by decide +kernel
theorem dX7_confirm_84 : decode cX7_confirm 84 = .ok (.imul, 1) := by decide +kernel
theorem dX7_confirm_85 : decode cX7_confirm 85 = .ok (.iload_n 2, 1) := by decide +kernel
theorem dX7_confirm_86 : decode cX7_confirm 86 = .ok (.iadd, 1) := by decide +kernel
theorem dX7_confirm_87 : decode cX7_confirm 87 = .ok (.invokevirtual 212, 3) := by decide +kernel
theorem dX7_confirm_90 : decode cX7_confirm 90 = .ok (.aload_n 0, 1) := by decide +kernel
theorem dX7_confirm_91 : decode cX7_confirm 91 = .ok (.iload_n 1, 1) := by decide +kernel
theorem dX7_confirm_92 : decode cX7_confirm 92 = .ok (.iload_n 2, 1) := by decide +kernel
theorem dX7_confirm_93 : decode cX7_confirm 93 = .ok (.invokevirtual 169, 3) := by decide +kernel
theorem dX7_confirm_96 : decode cX7_confirm 96 = .ok (.aload_n 0, 1) := by decide +kernel
theorem dX7_confirm_97 : decode cX7_confirm 97 = .ok (.getfield 52, 3) := by decide +kernel
theorem dX7_confirm_100 : decode cX7_confirm 100 = .ok (.iload_n 2, 1) := by decide +kernel
theorem dX7_confirm_101 : decode cX7_confirm 101 = .ok (.iconst 1, 1) := by decide +kernel
theorem dX7_confirm_102 : decode cX7_confirm 102 = .ok (.isub, 1) := by decide +kernel
theorem dX7_confirm_103 : decode cX7_confirm 103 = .ok (.iaload, 1) := by decide +kernel
theorem dX7_confirm_104 : decode cX7_confirm 104 = .ok (.ireturn, 1) := by decide +kernel
theorem dX7_isStaleNow_0 : decode cX7_isStaleNow 0 = .ok (.iconst 3, 1) := by decide +kernel
theorem dX7_isStaleNow_1 : decode cX7_isStaleNow 1 = .ok (.iload_n 1, 1) := by decide +kernel
theorem dX7_isStaleNow_2 : decode cX7_isStaleNow 2 = .ok (.imul, 1) := by decide +kernel
theorem dX7_isStaleNow_3 : decode cX7_isStaleNow 3 = .ok (.iload_n 2, 1) := by decide +kernel
theorem dX7_isStaleNow_4 : decode cX7_isStaleNow 4 = .ok (.iadd, 1) := by decide +kernel
theorem dX7_isStaleNow_5 : decode cX7_isStaleNow 5 = .ok (.istore_n 3, 1) := by decide +kernel
theorem dX7_isStaleNow_6 : decode cX7_isStaleNow 6 = .ok (.iload_n 2, 1) := by decide +kernel
theorem dX7_isStaleNow_7 : decode cX7_isStaleNow 7 = .ok (.ifCond .le 33, 3) := by decide +kernel
theorem dX7_isStaleNow_10 : decode cX7_isStaleNow 10 = .ok (.aload_n 0, 1) := by decide +kernel
theorem dX7_isStaleNow_11 : decode cX7_isStaleNow 11 = .ok (.getfield 40, 3) := by decide +kernel
theorem dX7_isStaleNow_14 : decode cX7_isStaleNow 14 = .ok (.iload_n 3, 1) := by decide +kernel
theorem dX7_isStaleNow_15 : decode cX7_isStaleNow 15 = .ok (.iaload, 1) := by decide +kernel
theorem dX7_isStaleNow_16 : decode cX7_isStaleNow 16 = .ok (.ifCond .le 24, 3) := by decide +kernel
theorem dX7_isStaleNow_19 : decode cX7_isStaleNow 19 = .ok (.aload_n 0, 1) := by decide +kernel
theorem dX7_isStaleNow_20 : decode cX7_isStaleNow 20 = .ok (.getfield 46, 3) := by decide +kernel
theorem dX7_isStaleNow_23 : decode cX7_isStaleNow 23 = .ok (.iconst 3, 1) := by decide +kernel
theorem dX7_isStaleNow_24 : decode cX7_isStaleNow 24 = .ok (.iload_n 1, 1) := by decide +kernel
theorem dX7_isStaleNow_25 : decode cX7_isStaleNow 25 = .ok (.imul, 1) := by decide +kernel
theorem dX7_isStaleNow_26 : decode cX7_isStaleNow 26 = .ok (.iaload, 1) := by decide +kernel
theorem dX7_isStaleNow_27 : decode cX7_isStaleNow 27 = .ok (.aload_n 0, 1) := by decide +kernel
theorem dX7_isStaleNow_28 : decode cX7_isStaleNow 28 = .ok (.getfield 46, 3) := by decide +kernel
theorem dX7_isStaleNow_31 : decode cX7_isStaleNow 31 = .ok (.iload_n 3, 1) := by decide +kernel
theorem dX7_isStaleNow_32 : decode cX7_isStaleNow 32 = .ok (.iaload, 1) := by decide +kernel
theorem dX7_isStaleNow_33 : decode cX7_isStaleNow 33 = .ok (.if_icmp .le 7, 3) := by decide +kernel
theorem dX7_isStaleNow_36 : decode cX7_isStaleNow 36 = .ok (.iconst 1, 1) := by decide +kernel
theorem dX7_isStaleNow_37 : decode cX7_isStaleNow 37 = .ok (.goto 4, 3) := by decide +kernel
theorem dX7_isStaleNow_40 : decode cX7_isStaleNow 40 = .ok (.iconst 0, 1) := by decide +kernel
theorem dX7_isStaleNow_41 : decode cX7_isStaleNow 41 = .ok (.ireturn, 1) := by decide +kernel
theorem dX7_gets_0 : decode cX7_gets 0 = .ok (.iconst 3, 1) := by decide +kernel
theorem dX7_gets_1 : decode cX7_gets 1 = .ok (.iload_n 1, 1) := by decide +kernel
theorem dX7_gets_2 : decode cX7_gets 2 = .ok (.imul, 1) := by decide +kernel
theorem dX7_gets_3 : decode cX7_gets 3 = .ok (.iload_n 2, 1) := by decide +kernel
theorem dX7_gets_4 : decode cX7_gets 4 = .ok (.iadd, 1) := by decide +kernel
theorem dX7_gets_5 : decode cX7_gets 5 = .ok (.istore 4, 2) := by decide +kernel
theorem dX7_gets_7 : decode cX7_gets 7 = .ok (.aload_n 0, 1) := by decide +kernel
theorem dX7_gets_8 : decode cX7_gets 8 = .ok (.getfield 40, 3) := by decide +kernel
theorem dX7_gets_11 : decode cX7_gets 11 = .ok (.iload 4, 2) := by decide +kernel
theorem dX7_gets_13 : decode cX7_gets 13 = .ok (.aload_n 0, 1) := by decide +kernel
theorem dX7_gets_14 : decode cX7_gets 14 = .ok (.getfield 61, 3) := by decide +kernel
theorem dX7_gets_17 : decode cX7_gets 17 = .ok (.iload_n 3, 1) := by decide +kernel
theorem dX7_gets_18 : decode cX7_gets 18 = .ok (.iaload, 1) := by decide +kernel
theorem dX7_gets_19 : decode cX7_gets 19 = .ok (.iastore, 1) := by decide +kernel
theorem dX7_gets_20 : decode cX7_gets 20 = .ok (.iconst 0, 1) := by decide +kernel
theorem dX7_gets_21 : decode cX7_gets 21 = .ok (.istore 5, 2) := by decide +kernel
theorem dX7_gets_23 : decode cX7_gets 23 = .ok (.iload 5, 2) := by decide +kernel
theorem dX7_gets_25 : decode cX7_gets 25 = .ok (.bipush 60, 2) := by decide +kernel
theorem dX7_gets_27 : decode cX7_gets 27 = .ok (.if_icmp .ge 34, 3) := by decide +kernel
theorem dX7_gets_30 : decode cX7_gets 30 = .ok (.aload_n 0, 1) := by decide +kernel
theorem dX7_gets_31 : decode cX7_gets 31 = .ok (.getfield 43, 3) := by decide +kernel
theorem dX7_gets_34 : decode cX7_gets 34 = .ok (.bipush 60, 2) := by decide +kernel
theorem dX7_gets_36 : decode cX7_gets 36 = .ok (.iload 4, 2) := by decide +kernel
theorem dX7_gets_38 : decode cX7_gets 38 = .ok (.imul, 1) := by decide +kernel
theorem dX7_gets_39 : decode cX7_gets 39 = .ok (.iload 5, 2) := by decide +kernel
theorem dX7_gets_41 : decode cX7_gets 41 = .ok (.iadd, 1) := by decide +kernel
theorem dX7_gets_42 : decode cX7_gets 42 = .ok (.aload_n 0, 1) := by decide +kernel
theorem dX7_gets_43 : decode cX7_gets 43 = .ok (.getfield 64, 3) := by decide +kernel
theorem dX7_gets_46 : decode cX7_gets 46 = .ok (.bipush 60, 2) := by decide +kernel
theorem dX7_gets_48 : decode cX7_gets 48 = .ok (.iload_n 3, 1) := by decide +kernel
theorem dX7_gets_49 : decode cX7_gets 49 = .ok (.imul, 1) := by decide +kernel
theorem dX7_gets_50 : decode cX7_gets 50 = .ok (.iload 5, 2) := by decide +kernel
theorem dX7_gets_52 : decode cX7_gets 52 = .ok (.iadd, 1) := by decide +kernel
theorem dX7_gets_53 : decode cX7_gets 53 = .ok (.iaload, 1) := by decide +kernel
theorem dX7_gets_54 : decode cX7_gets 54 = .ok (.iastore, 1) := by decide +kernel
theorem dX7_gets_55 : decode cX7_gets 55 = .ok (.iinc 5 1, 3) := by decide +kernel
theorem dX7_gets_58 : decode cX7_gets 58 = .ok (.goto (-35), 3) := by decide +kernel
theorem dX7_gets_61 : decode cX7_gets 61 = .ok (.aload_n 0, 1) := by decide +kernel
theorem dX7_gets_62 : decode cX7_gets 62 = .ok (.iload_n 1, 1) := by decide +kernel
theorem dX7_gets_63 : decode cX7_gets 63 = .ok (.iload_n 2, 1) := by decide +kernel
theorem dX7_gets_64 : decode cX7_gets 64 = .ok (.invokevirtual 169, 3) := by decide +kernel
theorem dX7_gets_67 : decode cX7_gets 67 = .ok (.aload_n 0, 1) := by decide +kernel
theorem dX7_gets_68 : decode cX7_gets 68 = .ok (.getfield 67, 3) := by decide +kernel
theorem dX7_gets_71 : decode cX7_gets 71 = .ok (.iload_n 3, 1) := by decide +kernel
theorem dX7_gets_72 : decode cX7_gets 72 = .ok (.aload_n 0, 1) := by decide +kernel
theorem dX7_gets_73 : decode cX7_gets 73 = .ok (.getfield 163, 3) := by decide +kernel
theorem dX7_gets_76 : decode cX7_gets 76 = .ok (.iastore, 1) := by decide +kernel
theorem dX7_gets_77 : decode cX7_gets 77 = .ok (.aload_n 0, 1) := by decide +kernel
theorem dX7_gets_78 : decode cX7_gets 78 = .ok (.iload_n 1, 1) := by decide +kernel
theorem dX7_gets_79 : decode cX7_gets 79 = .ok (.iload_n 2, 1) := by decide +kernel
theorem dX7_gets_80 : decode cX7_gets 80 = .ok (.invokevirtual 137, 3) := by decide +kernel
theorem dX7_gets_83 : decode cX7_gets 83 = .ok (.return_, 1) := by decide +kernel
theorem dX7_fill_0 : decode cX7_fill 0 = .ok (.aload_n 0, 1) := by decide +kernel
theorem dX7_fill_1 : decode cX7_fill 1 = .ok (.iload_n 1, 1) := by decide +kernel
theorem dX7_fill_2 : decode cX7_fill 2 = .ok (.iconst 1, 1) := by decide +kernel
theorem dX7_fill_3 : decode cX7_fill 3 = .ok (.iconst 2, 1) := by decide +kernel
theorem dX7_fill_4 : decode cX7_fill 4 = .ok (.invokestatic 93, 3) := by decide +kernel
theorem dX7_fill_7 : decode cX7_fill 7 = .ok (.ifCond .eq 7, 3) := by decide +kernel
theorem dX7_fill_10 : decode cX7_fill 10 = .ok (.iconst 0, 1) := by decide +kernel
theorem dX7_fill_11 : decode cX7_fill 11 = .ok (.goto 4, 3) := by decide +kernel
theorem dX7_fill_14 : decode cX7_fill 14 = .ok (.iconst 1, 1) := by decide +kernel
theorem dX7_fill_15 : decode cX7_fill 15 = .ok (.putfield 87, 3) := by decide +kernel
theorem dX7_fill_18 : decode cX7_fill 18 = .ok (.iconst 0, 1) := by decide +kernel
theorem dX7_fill_19 : decode cX7_fill 19 = .ok (.istore_n 2, 1) := by decide +kernel
theorem dX7_fill_20 : decode cX7_fill 20 = .ok (.iconst 0, 1) := by decide +kernel
theorem dX7_fill_21 : decode cX7_fill 21 = .ok (.istore_n 3, 1) := by decide +kernel
theorem dX7_fill_22 : decode cX7_fill 22 = .ok (.iload_n 3, 1) := by decide +kernel
theorem dX7_fill_23 : decode cX7_fill 23 = .ok (.aload_n 0, 1) := by decide +kernel
theorem dX7_fill_24 : decode cX7_fill 24 = .ok (.getfield 100, 3) := by decide +kernel
theorem dX7_fill_27 : decode cX7_fill 27 = .ok (.if_icmp .ge 94, 3) := by decide +kernel
theorem dX7_fill_30 : decode cX7_fill 30 = .ok (.aload_n 0, 1) := by decide +kernel
theorem dX7_fill_31 : decode cX7_fill 31 = .ok (.getfield 87, 3) := by decide +kernel
theorem dX7_fill_34 : decode cX7_fill 34 = .ok (.ifCond .ne 87, 3) := by decide +kernel
theorem dX7_fill_37 : decode cX7_fill 37 = .ok (.aload_n 0, 1) := by decide +kernel
theorem dX7_fill_38 : decode cX7_fill 38 = .ok (.getfield 40, 3) := by decide +kernel
theorem dX7_fill_41 : decode cX7_fill 41 = .ok (.iconst 3, 1) := by decide +kernel
theorem dX7_fill_42 : decode cX7_fill 42 = .ok (.iload_n 3, 1) := by decide +kernel
theorem dX7_fill_43 : decode cX7_fill 43 = .ok (.imul, 1) := by decide +kernel
theorem dX7_fill_44 : decode cX7_fill 44 = .ok (.iaload, 1) := by decide +kernel
theorem dX7_fill_45 : decode cX7_fill 45 = .ok (.ifCond .le 29, 3) := by decide +kernel
theorem dX7_fill_48 : decode cX7_fill 48 = .ok (.aload_n 0, 1) := by decide +kernel
theorem dX7_fill_49 : decode cX7_fill 49 = .ok (.getfield 40, 3) := by decide +kernel
theorem dX7_fill_52 : decode cX7_fill 52 = .ok (.iconst 3, 1) := by decide +kernel
theorem dX7_fill_53 : decode cX7_fill 53 = .ok (.iload_n 3, 1) := by decide +kernel
theorem dX7_fill_54 : decode cX7_fill 54 = .ok (.imul, 1) := by decide +kernel
theorem dX7_fill_55 : decode cX7_fill 55 = .ok (.iload_n 1, 1) := by decide +kernel
theorem dX7_fill_56 : decode cX7_fill 56 = .ok (.iadd, 1) := by decide +kernel
theorem dX7_fill_57 : decode cX7_fill 57 = .ok (.iaload, 1) := by decide +kernel
theorem dX7_fill_58 : decode cX7_fill 58 = .ok (.ifCond .eq 12, 3) := by decide +kernel
theorem dX7_fill_61 : decode cX7_fill 61 = .ok (.aload_n 0, 1) := by decide +kernel
theorem dX7_fill_62 : decode cX7_fill 62 = .ok (.iload_n 3, 1) := by decide +kernel
theorem dX7_fill_63 : decode cX7_fill 63 = .ok (.iload_n 1, 1) := by decide +kernel
theorem dX7_fill_64 : decode cX7_fill 64 = .ok (.invokevirtual 215, 3) := by decide +kernel
theorem dX7_fill_67 : decode cX7_fill 67 = .ok (.ifCond .eq 7, 3) := by decide +kernel
theorem dX7_fill_70 : decode cX7_fill 70 = .ok (.iconst 1, 1) := by decide +kernel
theorem dX7_fill_71 : decode cX7_fill 71 = .ok (.goto 4, 3) := by decide +kernel
theorem dX7_fill_74 : decode cX7_fill 74 = .ok (.iconst 0, 1) := by decide +kernel
theorem dX7_fill_75 : decode cX7_fill 75 = .ok (.istore 4, 2) := by decide +kernel
theorem dX7_fill_77 : decode cX7_fill 77 = .ok (.iload 4, 2) := by decide +kernel
theorem dX7_fill_79 : decode cX7_fill 79 = .ok (.ifCond .eq 16, 3) := by decide +kernel
theorem dX7_fill_82 : decode cX7_fill 82 = .ok (.aload_n 0, 1) := by decide +kernel
theorem dX7_fill_83 : decode cX7_fill 83 = .ok (.iload_n 1, 1) := by decide +kernel
theorem dX7_fill_84 : decode cX7_fill 84 = .ok (.iconst 1, 1) := by decide +kernel
theorem dX7_fill_85 : decode cX7_fill 85 = .ok (.isub, 1) := by decide +kernel
theorem dX7_fill_86 : decode cX7_fill 86 = .ok (.iconst 3, 1) := by decide +kernel
theorem dX7_fill_87 : decode cX7_fill 87 = .ok (.iload_n 3, 1) := by decide +kernel
theorem dX7_fill_88 : decode cX7_fill 88 = .ok (.imul, 1) := by decide +kernel
theorem dX7_fill_89 : decode cX7_fill 89 = .ok (.invokevirtual 202, 3) := by decide +kernel
theorem dX7_fill_92 : decode cX7_fill 92 = .ok (.goto 4, 3) := by decide +kernel
theorem dX7_fill_95 : decode cX7_fill 95 = .ok (.iconst (-1), 1) := by decide +kernel
theorem dX7_fill_96 : decode cX7_fill 96 = .ok (.istore 5, 2) := by decide +kernel
theorem dX7_fill_98 : decode cX7_fill 98 = .ok (.iload 5, 2) := by decide +kernel
theorem dX7_fill_100 : decode cX7_fill 100 = .ok (.iconst (-1), 1) := by decide +kernel
theorem dX7_fill_101 : decode cX7_fill 101 = .ok (.if_icmp .eq 14, 3) := by decide +kernel
theorem dX7_fill_104 : decode cX7_fill 104 = .ok (.aload_n 0, 1) := by decide +kernel
theorem dX7_fill_105 : decode cX7_fill 105 = .ok (.iload_n 3, 1) := by decide +kernel
theorem dX7_fill_106 : decode cX7_fill 106 = .ok (.iload_n 1, 1) := by decide +kernel
theorem dX7_fill_107 : decode cX7_fill 107 = .ok (.iload 5, 2) := by decide +kernel
theorem dX7_fill_109 : decode cX7_fill 109 = .ok (.invokevirtual 218, 3) := by decide +kernel
theorem dX7_fill_112 : decode cX7_fill 112 = .ok (.iinc 2 1, 3) := by decide +kernel
theorem dX7_fill_115 : decode cX7_fill 115 = .ok (.iinc 3 1, 3) := by decide +kernel
theorem dX7_fill_118 : decode cX7_fill 118 = .ok (.goto (-96), 3) := by decide +kernel
theorem dX7_fill_121 : decode cX7_fill 121 = .ok (.iload_n 2, 1) := by decide +kernel
theorem dX7_fill_122 : decode cX7_fill 122 = .ok (.ireturn, 1) := by decide +kernel
theorem dX7_isStale_0 : decode cX7_isStale 0 = .ok (.aload_n 0, 1) := by decide +kernel
theorem dX7_isStale_1 : decode cX7_isStale 1 = .ok (.iload_n 1, 1) := by decide +kernel
theorem dX7_isStale_2 : decode cX7_isStale 2 = .ok (.iload_n 2, 1) := by decide +kernel
theorem dX7_isStale_3 : decode cX7_isStale 3 = .ok (.invokevirtual 172, 3) := by decide +kernel
theorem dX7_isStale_6 : decode cX7_isStale 6 = .ok (.ifCond .eq 16, 3) := by decide +kernel
theorem dX7_isStale_9 : decode cX7_isStale 9 = .ok (.aload_n 0, 1) := by decide +kernel
theorem dX7_isStale_10 : decode cX7_isStale 10 = .ok (.iload_n 1, 1) := by decide +kernel
theorem dX7_isStale_11 : decode cX7_isStale 11 = .ok (.iload_n 2, 1) := by decide +kernel
theorem dX7_isStale_12 : decode cX7_isStale 12 = .ok (.invokevirtual 215, 3) := by decide +kernel
theorem dX7_isStale_15 : decode cX7_isStale 15 = .ok (.ifCond .eq 7, 3) := by decide +kernel
theorem dX7_isStale_18 : decode cX7_isStale 18 = .ok (.iconst 1, 1) := by decide +kernel
theorem dX7_isStale_19 : decode cX7_isStale 19 = .ok (.goto 4, 3) := by decide +kernel
theorem dX7_isStale_22 : decode cX7_isStale 22 = .ok (.iconst 0, 1) := by decide +kernel
theorem dX7_isStale_23 : decode cX7_isStale 23 = .ok (.ireturn, 1) := by decide +kernel
theorem dX7_memory_0 : decode cX7_memory 0 = .ok (.aload_n 0, 1) := by decide +kernel
theorem dX7_memory_1 : decode cX7_memory 1 = .ok (.iload_n 1, 1) := by decide +kernel
theorem dX7_memory_2 : decode cX7_memory 2 = .ok (.iconst 1, 1) := by decide +kernel
theorem dX7_memory_3 : decode cX7_memory 3 = .ok (.iconst 2, 1) := by decide +kernel
theorem dX7_memory_4 : decode cX7_memory 4 = .ok (.invokestatic 93, 3) := by decide +kernel
theorem dX7_memory_7 : decode cX7_memory 7 = .ok (.ifCond .eq 7, 3) := by decide +kernel
theorem dX7_memory_10 : decode cX7_memory 10 = .ok (.iconst 0, 1) := by decide +kernel
theorem dX7_memory_11 : decode cX7_memory 11 = .ok (.goto 4, 3) := by decide +kernel
theorem dX7_memory_14 : decode cX7_memory 14 = .ok (.iconst 1, 1) := by decide +kernel
theorem dX7_memory_15 : decode cX7_memory 15 = .ok (.putfield 87, 3) := by decide +kernel
theorem dX7_memory_18 : decode cX7_memory 18 = .ok (.aload_n 0, 1) := by decide +kernel
theorem dX7_memory_19 : decode cX7_memory 19 = .ok (.getfield 87, 3) := by decide +kernel
theorem dX7_memory_22 : decode cX7_memory 22 = .ok (.ifCond .le 7, 3) := by decide +kernel
theorem dX7_memory_25 : decode cX7_memory 25 = .ok (.iconst 0, 1) := by decide +kernel
theorem dX7_memory_26 : decode cX7_memory 26 = .ok (.goto 11, 3) := by decide +kernel
theorem dX7_memory_29 : decode cX7_memory 29 = .ok (.aload_n 0, 1) := by decide +kernel
theorem dX7_memory_30 : decode cX7_memory 30 = .ok (.getfield 52, 3) := by decide +kernel
theorem dX7_memory_33 : decode cX7_memory 33 = .ok (.iload_n 1, 1) := by decide +kernel
theorem dX7_memory_34 : decode cX7_memory 34 = .ok (.iconst 1, 1) := by decide +kernel
theorem dX7_memory_35 : decode cX7_memory 35 = .ok (.isub, 1) := by decide +kernel
theorem dX7_memory_36 : decode cX7_memory 36 = .ok (.iaload, 1) := by decide +kernel
theorem dX7_memory_37 : decode cX7_memory 37 = .ok (.ireturn, 1) := by decide +kernel
theorem dX7_isWide_0 : decode cX7_isWide 0 = .ok (.aload_n 0, 1) := by decide +kernel
theorem dX7_isWide_1 : decode cX7_isWide 1 = .ok (.iload_n 1, 1) := by decide +kernel
theorem dX7_isWide_2 : decode cX7_isWide 2 = .ok (.invokevirtual 199, 3) := by decide +kernel
theorem dX7_isWide_5 : decode cX7_isWide 5 = .ok (.aload_n 0, 1) := by decide +kernel
theorem dX7_isWide_6 : decode cX7_isWide 6 = .ok (.getfield 184, 3) := by decide +kernel
theorem dX7_isWide_9 : decode cX7_isWide 9 = .ok (.iconst 2, 1) := by decide +kernel
theorem dX7_isWide_10 : decode cX7_isWide 10 = .ok (.if_icmp .le 7, 3) := by decide +kernel
theorem dX7_isWide_13 : decode cX7_isWide 13 = .ok (.iconst 1, 1) := by decide +kernel
theorem dX7_isWide_14 : decode cX7_isWide 14 = .ok (.goto 4, 3) := by decide +kernel
theorem dX7_isWide_17 : decode cX7_isWide 17 = .ok (.iconst 0, 1) := by decide +kernel
theorem dX7_isWide_18 : decode cX7_isWide 18 = .ok (.istore_n 2, 1) := by decide +kernel
theorem dX7_isWide_19 : decode cX7_isWide 19 = .ok (.iconst 0, 1) := by decide +kernel
theorem dX7_isWide_20 : decode cX7_isWide 20 = .ok (.istore_n 3, 1) := by decide +kernel
theorem dX7_isWide_21 : decode cX7_isWide 21 = .ok (.iload_n 3, 1) := by decide +kernel
theorem dX7_isWide_22 : decode cX7_isWide 22 = .ok (.aload_n 0, 1) := by decide +kernel
theorem dX7_isWide_23 : decode cX7_isWide 23 = .ok (.getfield 184, 3) := by decide +kernel
theorem dX7_isWide_26 : decode cX7_isWide 26 = .ok (.if_icmp .ge 43, 3) := by decide +kernel
theorem dX7_isWide_29 : decode cX7_isWide 29 = .ok (.iload_n 2, 1) := by decide +kernel
theorem dX7_isWide_30 : decode cX7_isWide 30 = .ok (.ifCond .ne 27, 3) := by decide +kernel
theorem dX7_isWide_33 : decode cX7_isWide 33 = .ok (.aload_n 0, 1) := by decide +kernel
theorem dX7_isWide_34 : decode cX7_isWide 34 = .ok (.iload_n 1, 1) := by decide +kernel
theorem dX7_isWide_35 : decode cX7_isWide 35 = .ok (.aload_n 0, 1) := by decide +kernel
theorem dX7_isWide_36 : decode cX7_isWide 36 = .ok (.getfield 77, 3) := by decide +kernel
theorem dX7_isWide_39 : decode cX7_isWide 39 = .ok (.iload_n 3, 1) := by decide +kernel
theorem dX7_isWide_40 : decode cX7_isWide 40 = .ok (.iaload, 1) := by decide +kernel
theorem dX7_isWide_41 : decode cX7_isWide 41 = .ok (.aload_n 0, 1) := by decide +kernel
theorem dX7_isWide_42 : decode cX7_isWide 42 = .ok (.getfield 80, 3) := by decide +kernel
theorem dX7_isWide_45 : decode cX7_isWide 45 = .ok (.iload_n 3, 1) := by decide +kernel
theorem dX7_isWide_46 : decode cX7_isWide 46 = .ok (.iaload, 1) := by decide +kernel
theorem dX7_isWide_47 : decode cX7_isWide 47 = .ok (.invokevirtual 180, 3) := by decide +kernel
theorem dX7_isWide_50 : decode cX7_isWide 50 = .ok (.aload_n 0, 1) := by decide +kernel
theorem dX7_isWide_51 : decode cX7_isWide 51 = .ok (.getfield 70, 3) := by decide +kernel
theorem dX7_isWide_54 : decode cX7_isWide 54 = .ok (.if_icmp .le 7, 3) := by decide +kernel
theorem dX7_isWide_57 : decode cX7_isWide 57 = .ok (.iconst 1, 1) := by decide +kernel
theorem dX7_isWide_58 : decode cX7_isWide 58 = .ok (.goto 4, 3) := by decide +kernel
theorem dX7_isWide_61 : decode cX7_isWide 61 = .ok (.iconst 0, 1) := by decide +kernel
theorem dX7_isWide_62 : decode cX7_isWide 62 = .ok (.istore_n 2, 1) := by decide +kernel
theorem dX7_isWide_63 : decode cX7_isWide 63 = .ok (.iinc 3 1, 3) := by decide +kernel
theorem dX7_isWide_66 : decode cX7_isWide 66 = .ok (.goto (-45), 3) := by decide +kernel
theorem dX7_isWide_69 : decode cX7_isWide 69 = .ok (.iload_n 2, 1) := by decide +kernel
theorem dX7_isWide_70 : decode cX7_isWide 70 = .ok (.ireturn, 1) := by decide +kernel
theorem dX7_hangs_0 : decode cX7_hangs 0 = .ok (.iconst 0, 1) := by decide +kernel
theorem dX7_hangs_1 : decode cX7_hangs 1 = .ok (.istore_n 2, 1) := by decide +kernel
theorem dX7_hangs_2 : decode cX7_hangs 2 = .ok (.aload_n 0, 1) := by decide +kernel
theorem dX7_hangs_3 : decode cX7_hangs 3 = .ok (.getfield 28, 3) := by decide +kernel
theorem dX7_hangs_6 : decode cX7_hangs 6 = .ok (.iload_n 1, 1) := by decide +kernel
theorem dX7_hangs_7 : decode cX7_hangs 7 = .ok (.iaload, 1) := by decide +kernel
theorem dX7_hangs_8 : decode cX7_hangs 8 = .ok (.aload_n 0, 1) := by decide +kernel
theorem dX7_hangs_9 : decode cX7_hangs 9 = .ok (.getfield 31, 3) := by decide +kernel
theorem dX7_hangs_12 : decode cX7_hangs 12 = .ok (.iload_n 1, 1) := by decide +kernel
theorem dX7_hangs_13 : decode cX7_hangs 13 = .ok (.iaload, 1) := by decide +kernel
theorem dX7_hangs_14 : decode cX7_hangs 14 = .ok (.iadd, 1) := by decide +kernel
theorem dX7_hangs_15 : decode cX7_hangs 15 = .ok (.istore_n 3, 1) := by decide +kernel
theorem dX7_hangs_16 : decode cX7_hangs 16 = .ok (.aload_n 0, 1) := by decide +kernel
theorem dX7_hangs_17 : decode cX7_hangs 17 = .ok (.getfield 28, 3) := by decide +kernel
theorem dX7_hangs_20 : decode cX7_hangs 20 = .ok (.iload_n 1, 1) := by decide +kernel
theorem dX7_hangs_21 : decode cX7_hangs 21 = .ok (.iaload, 1) := by decide +kernel
theorem dX7_hangs_22 : decode cX7_hangs 22 = .ok (.iconst 1, 1) := by decide +kernel
theorem dX7_hangs_23 : decode cX7_hangs 23 = .ok (.iadd, 1) := by decide +kernel
theorem dX7_hangs_24 : decode cX7_hangs 24 = .ok (.istore 4, 2) := by decide +kernel
theorem dX7_hangs_26 : decode cX7_hangs 26 = .ok (.iload 4, 2) := by decide +kernel
theorem dX7_hangs_28 : decode cX7_hangs 28 = .ok (.iload_n 3, 1) := by decide +kernel
theorem dX7_hangs_29 : decode cX7_hangs 29 = .ok (.if_icmp .ge 51, 3) := by decide +kernel
theorem dX7_hangs_32 : decode cX7_hangs 32 = .ok (.iload_n 2, 1) := by decide +kernel
theorem dX7_hangs_33 : decode cX7_hangs 33 = .ok (.ifCond .ne 35, 3) := by decide +kernel
theorem dX7_hangs_36 : decode cX7_hangs 36 = .ok (.aload_n 0, 1) := by decide +kernel
theorem dX7_hangs_37 : decode cX7_hangs 37 = .ok (.iload 4, 2) := by decide +kernel
theorem dX7_hangs_39 : decode cX7_hangs 39 = .ok (.invokevirtual 134, 3) := by decide +kernel
theorem dX7_hangs_42 : decode cX7_hangs 42 = .ok (.ifCond .eq 30, 3) := by decide +kernel
theorem dX7_hangs_45 : decode cX7_hangs 45 = .ok (.iload 4, 2) := by decide +kernel
theorem dX7_hangs_47 : decode cX7_hangs 47 = .ok (.aload_n 0, 1) := by decide +kernel
theorem dX7_hangs_48 : decode cX7_hangs 48 = .ok (.getfield 28, 3) := by decide +kernel
theorem dX7_hangs_51 : decode cX7_hangs 51 = .ok (.iload_n 1, 1) := by decide +kernel
theorem dX7_hangs_52 : decode cX7_hangs 52 = .ok (.iaload, 1) := by decide +kernel
theorem dX7_hangs_53 : decode cX7_hangs 53 = .ok (.isub, 1) := by decide +kernel
theorem dX7_hangs_54 : decode cX7_hangs 54 = .ok (.bipush 12, 2) := by decide +kernel
theorem dX7_hangs_56 : decode cX7_hangs 56 = .ok (.if_icmp .lt 12, 3) := by decide +kernel
theorem dX7_hangs_59 : decode cX7_hangs 59 = .ok (.iload_n 3, 1) := by decide +kernel
theorem dX7_hangs_60 : decode cX7_hangs 60 = .ok (.iload 4, 2) := by decide +kernel
theorem dX7_hangs_62 : decode cX7_hangs 62 = .ok (.isub, 1) := by decide +kernel
theorem dX7_hangs_63 : decode cX7_hangs 63 = .ok (.bipush 12, 2) := by decide +kernel
theorem dX7_hangs_65 : decode cX7_hangs 65 = .ok (.if_icmp .ge 7, 3) := by decide +kernel
theorem dX7_hangs_68 : decode cX7_hangs 68 = .ok (.iconst 1, 1) := by decide +kernel
theorem dX7_hangs_69 : decode cX7_hangs 69 = .ok (.goto 4, 3) := by decide +kernel
theorem dX7_hangs_72 : decode cX7_hangs 72 = .ok (.iconst 0, 1) := by decide +kernel
theorem dX7_hangs_73 : decode cX7_hangs 73 = .ok (.istore_n 2, 1) := by decide +kernel
theorem dX7_hangs_74 : decode cX7_hangs 74 = .ok (.iinc 4 1, 3) := by decide +kernel
theorem dX7_hangs_77 : decode cX7_hangs 77 = .ok (.goto (-51), 3) := by decide +kernel
theorem dX7_hangs_80 : decode cX7_hangs 80 = .ok (.iload_n 2, 1) := by decide +kernel
theorem dX7_hangs_81 : decode cX7_hangs 81 = .ok (.ireturn, 1) := by decide +kernel
theorem dX7_isClose_0 : decode cX7_isClose 0 = .ok (.iconst 0, 1) := by decide +kernel
theorem dX7_isClose_1 : decode cX7_isClose 1 = .ok (.istore_n 2, 1) := by decide +kernel
theorem dX7_isClose_2 : decode cX7_isClose 2 = .ok (.aload_n 0, 1) := by decide +kernel
theorem dX7_isClose_3 : decode cX7_isClose 3 = .ok (.getfield 28, 3) := by decide +kernel
theorem dX7_isClose_6 : decode cX7_isClose 6 = .ok (.iload_n 1, 1) := by decide +kernel
theorem dX7_isClose_7 : decode cX7_isClose 7 = .ok (.iaload, 1) := by decide +kernel
theorem dX7_isClose_8 : decode cX7_isClose 8 = .ok (.aload_n 0, 1) := by decide +kernel
theorem dX7_isClose_9 : decode cX7_isClose 9 = .ok (.getfield 31, 3) := by decide +kernel
theorem dX7_isClose_12 : decode cX7_isClose 12 = .ok (.iload_n 1, 1) := by decide +kernel
theorem dX7_isClose_13 : decode cX7_isClose 13 = .ok (.iaload, 1) := by decide +kernel
theorem dX7_isClose_14 : decode cX7_isClose 14 = .ok (.iadd, 1) := by decide +kernel
theorem dX7_isClose_15 : decode cX7_isClose 15 = .ok (.istore_n 3, 1) := by decide +kernel
theorem dX7_isClose_16 : decode cX7_isClose 16 = .ok (.iconst 0, 1) := by decide +kernel
theorem dX7_isClose_17 : decode cX7_isClose 17 = .ok (.istore 4, 2) := by decide +kernel
theorem dX7_isClose_19 : decode cX7_isClose 19 = .ok (.iload 4, 2) := by decide +kernel
theorem dX7_isClose_21 : decode cX7_isClose 21 = .ok (.aload_n 0, 1) := by decide +kernel
theorem dX7_isClose_22 : decode cX7_isClose 22 = .ok (.getfield 100, 3) := by decide +kernel
theorem dX7_isClose_25 : decode cX7_isClose 25 = .ok (.if_icmp .ge 133, 3) := by decide +kernel
theorem dX7_isClose_28 : decode cX7_isClose 28 = .ok (.iload 4, 2) := by decide +kernel
theorem dX7_isClose_30 : decode cX7_isClose 30 = .ok (.iload_n 1, 1) := by decide +kernel
theorem dX7_isClose_31 : decode cX7_isClose 31 = .ok (.if_icmp .eq 52, 3) := by decide +kernel
theorem dX7_isClose_34 : decode cX7_isClose 34 = .ok (.aload_n 0, 1) := by decide +kernel
theorem dX7_isClose_35 : decode cX7_isClose 35 = .ok (.getfield 28, 3) := by decide +kernel
theorem dX7_isClose_38 : decode cX7_isClose 38 = .ok (.iload 4, 2) := by decide +kernel
theorem dX7_isClose_40 : decode cX7_isClose 40 = .ok (.iaload, 1) := by decide +kernel
theorem dX7_isClose_41 : decode cX7_isClose 41 = .ok (.iconst (-1), 1) := by decide +kernel
theorem dX7_isClose_42 : decode cX7_isClose 42 = .ok (.if_icmp .eq 41, 3) := by decide +kernel
theorem dX7_isClose_45 : decode cX7_isClose 45 = .ok (.aload_n 0, 1) := by decide +kernel
theorem dX7_isClose_46 : decode cX7_isClose 46 = .ok (.getfield 25, 3) := by decide +kernel
theorem dX7_isClose_49 : decode cX7_isClose 49 = .ok (.iload 4, 2) := by decide +kernel
theorem dX7_isClose_51 : decode cX7_isClose 51 = .ok (.iaload, 1) := by decide +kernel
theorem dX7_isClose_52 : decode cX7_isClose 52 = .ok (.iconst 3, 1) := by decide +kernel
theorem dX7_isClose_53 : decode cX7_isClose 53 = .ok (.if_icmp .ne 7, 3) := by decide +kernel
theorem dX7_isClose_56 : decode cX7_isClose 56 = .ok (.iconst 1, 1) := by decide +kernel
theorem dX7_isClose_57 : decode cX7_isClose 57 = .ok (.goto 4, 3) := by decide +kernel
theorem dX7_isClose_60 : decode cX7_isClose 60 = .ok (.iconst 0, 1) := by decide +kernel
theorem dX7_isClose_61 : decode cX7_isClose 61 = .ok (.aload_n 0, 1) := by decide +kernel
theorem dX7_isClose_62 : decode cX7_isClose 62 = .ok (.getfield 25, 3) := by decide +kernel
theorem dX7_isClose_65 : decode cX7_isClose 65 = .ok (.iload_n 1, 1) := by decide +kernel
theorem dX7_isClose_66 : decode cX7_isClose 66 = .ok (.iaload, 1) := by decide +kernel
theorem dX7_isClose_67 : decode cX7_isClose 67 = .ok (.iconst 3, 1) := by decide +kernel
theorem dX7_isClose_68 : decode cX7_isClose 68 = .ok (.if_icmp .ne 7, 3) := by decide +kernel
theorem dX7_isClose_71 : decode cX7_isClose 71 = .ok (.iconst 1, 1) := by decide +kernel
theorem dX7_isClose_72 : decode cX7_isClose 72 = .ok (.goto 4, 3) := by decide +kernel
theorem dX7_isClose_75 : decode cX7_isClose 75 = .ok (.iconst 0, 1) := by decide +kernel
theorem dX7_isClose_76 : decode cX7_isClose 76 = .ok (.if_icmp .ne 7, 3) := by decide +kernel
theorem dX7_isClose_79 : decode cX7_isClose 79 = .ok (.iconst 1, 1) := by decide +kernel
theorem dX7_isClose_80 : decode cX7_isClose 80 = .ok (.goto 4, 3) := by decide +kernel
theorem dX7_isClose_83 : decode cX7_isClose 83 = .ok (.iconst 0, 1) := by decide +kernel
theorem dX7_isClose_84 : decode cX7_isClose 84 = .ok (.istore 5, 2) := by decide +kernel
theorem dX7_isClose_86 : decode cX7_isClose 86 = .ok (.iload_n 2, 1) := by decide +kernel
theorem dX7_isClose_87 : decode cX7_isClose 87 = .ok (.ifCond .ne 59, 3) := by decide +kernel
theorem dX7_isClose_90 : decode cX7_isClose 90 = .ok (.iload 5, 2) := by decide +kernel
theorem dX7_isClose_92 : decode cX7_isClose 92 = .ok (.ifCond .eq 58, 3) := by decide +kernel
theorem dX7_isClose_95 : decode cX7_isClose 95 = .ok (.aload_n 0, 1) := by decide +kernel
theorem dX7_isClose_96 : decode cX7_isClose 96 = .ok (.getfield 28, 3) := by decide +kernel
theorem dX7_isClose_99 : decode cX7_isClose 99 = .ok (.iload 4, 2) := by decide +kernel
theorem dX7_isClose_101 : decode cX7_isClose 101 = .ok (.iaload, 1) := by decide +kernel
theorem dX7_isClose_102 : decode cX7_isClose 102 = .ok (.aload_n 0, 1) := by decide +kernel
theorem dX7_isClose_103 : decode cX7_isClose 103 = .ok (.getfield 28, 3) := by decide +kernel
theorem dX7_isClose_106 : decode cX7_isClose 106 = .ok (.iload_n 1, 1) := by decide +kernel
theorem dX7_isClose_107 : decode cX7_isClose 107 = .ok (.iaload, 1) := by decide +kernel
theorem dX7_isClose_108 : decode cX7_isClose 108 = .ok (.if_icmp .ne 9, 3) := by decide +kernel
theorem dX7_isClose_111 : decode cX7_isClose 111 = .ok (.iload 4, 2) := by decide +kernel
theorem dX7_isClose_113 : decode cX7_isClose 113 = .ok (.iload_n 1, 1) := by decide +kernel
theorem dX7_isClose_114 : decode cX7_isClose 114 = .ok (.if_icmp .gt 32, 3) := by decide +kernel
theorem dX7_isClose_117 : decode cX7_isClose 117 = .ok (.aload_n 0, 1) := by decide +kernel
theorem dX7_isClose_118 : decode cX7_isClose 118 = .ok (.getfield 28, 3) := by decide +kernel
theorem dX7_isClose_121 : decode cX7_isClose 121 = .ok (.iload 4, 2) := by decide +kernel
theorem dX7_isClose_123 : decode cX7_isClose 123 = .ok (.iaload, 1) := by decide +kernel
theorem dX7_isClose_124 : decode cX7_isClose 124 = .ok (.aload_n 0, 1) := by decide +kernel
theorem dX7_isClose_125 : decode cX7_isClose 125 = .ok (.getfield 28, 3) := by decide +kernel
theorem dX7_isClose_128 : decode cX7_isClose 128 = .ok (.iload_n 1, 1) := by decide +kernel
theorem dX7_isClose_129 : decode cX7_isClose 129 = .ok (.iaload, 1) := by decide +kernel
theorem dX7_isClose_130 : decode cX7_isClose 130 = .ok (.if_icmp .le 20, 3) := by decide +kernel
theorem dX7_isClose_133 : decode cX7_isClose 133 = .ok (.aload_n 0, 1) := by decide +kernel
theorem dX7_isClose_134 : decode cX7_isClose 134 = .ok (.getfield 28, 3) := by decide +kernel
theorem dX7_isClose_137 : decode cX7_isClose 137 = .ok (.iload 4, 2) := by decide +kernel
theorem dX7_isClose_139 : decode cX7_isClose 139 = .ok (.iaload, 1) := by decide +kernel
theorem dX7_isClose_140 : decode cX7_isClose 140 = .ok (.iload_n 3, 1) := by decide +kernel
theorem dX7_isClose_141 : decode cX7_isClose 141 = .ok (.iconst 2, 1) := by decide +kernel
theorem dX7_isClose_142 : decode cX7_isClose 142 = .ok (.iadd, 1) := by decide +kernel
theorem dX7_isClose_143 : decode cX7_isClose 143 = .ok (.if_icmp .ge 7, 3) := by decide +kernel
theorem dX7_isClose_146 : decode cX7_isClose 146 = .ok (.iconst 1, 1) := by decide +kernel
theorem dX7_isClose_147 : decode cX7_isClose 147 = .ok (.goto 4, 3) := by decide +kernel
theorem dX7_isClose_150 : decode cX7_isClose 150 = .ok (.iconst 0, 1) := by decide +kernel
theorem dX7_isClose_151 : decode cX7_isClose 151 = .ok (.istore_n 2, 1) := by decide +kernel
theorem dX7_isClose_152 : decode cX7_isClose 152 = .ok (.iinc 4 1, 3) := by decide +kernel
theorem dX7_isClose_155 : decode cX7_isClose 155 = .ok (.goto (-136), 3) := by decide +kernel
theorem dX7_isClose_158 : decode cX7_isClose 158 = .ok (.iload_n 2, 1) := by decide +kernel
theorem dX7_isClose_159 : decode cX7_isClose 159 = .ok (.ireturn, 1) := by decide +kernel
theorem dX7_areVoices_0 : decode cX7_areVoices 0 = .ok (.iconst 1, 1) := by decide +kernel
theorem dX7_areVoices_1 : decode cX7_areVoices 1 = .ok (.istore_n 2, 1) := by decide +kernel
theorem dX7_areVoices_2 : decode cX7_areVoices 2 = .ok (.aload_n 0, 1) := by decide +kernel
theorem dX7_areVoices_3 : decode cX7_areVoices 3 = .ok (.getfield 40, 3) := by decide +kernel
theorem dX7_areVoices_6 : decode cX7_areVoices 6 = .ok (.iload_n 1, 1) := by decide +kernel
theorem dX7_areVoices_7 : decode cX7_areVoices 7 = .ok (.iaload, 1) := by decide +kernel
theorem dX7_areVoices_8 : decode cX7_areVoices 8 = .ok (.ifCond .le 21, 3) := by decide +kernel
theorem dX7_areVoices_11 : decode cX7_areVoices 11 = .ok (.aload_n 0, 1) := by decide +kernel
theorem dX7_areVoices_12 : decode cX7_areVoices 12 = .ok (.getfield 43, 3) := by decide +kernel
theorem dX7_areVoices_15 : decode cX7_areVoices 15 = .ok (.bipush 60, 2) := by decide +kernel
theorem dX7_areVoices_17 : decode cX7_areVoices 17 = .ok (.iload_n 1, 1) := by decide +kernel
theorem dX7_areVoices_18 : decode cX7_areVoices 18 = .ok (.imul, 1) := by decide +kernel
theorem dX7_areVoices_19 : decode cX7_areVoices 19 = .ok (.iaload, 1) := by decide +kernel
theorem dX7_areVoices_20 : decode cX7_areVoices 20 = .ok (.bipush 45, 2) := by decide +kernel
theorem dX7_areVoices_22 : decode cX7_areVoices 22 = .ok (.if_icmp .ne 7, 3) := by decide +kernel
theorem dX7_areVoices_25 : decode cX7_areVoices 25 = .ok (.iconst 1, 1) := by decide +kernel
theorem dX7_areVoices_26 : decode cX7_areVoices 26 = .ok (.goto 4, 3) := by decide +kernel
theorem dX7_areVoices_29 : decode cX7_areVoices 29 = .ok (.iconst 0, 1) := by decide +kernel
theorem dX7_areVoices_30 : decode cX7_areVoices 30 = .ok (.istore_n 3, 1) := by decide +kernel
theorem dX7_areVoices_31 : decode cX7_areVoices 31 = .ok (.iconst 0, 1) := by decide +kernel
theorem dX7_areVoices_32 : decode cX7_areVoices 32 = .ok (.istore 4, 2) := by decide +kernel
theorem dX7_areVoices_34 : decode cX7_areVoices 34 = .ok (.iload 4, 2) := by decide +kernel
theorem dX7_areVoices_36 : decode cX7_areVoices 36 = .ok (.aload_n 0, 1) := by decide +kernel
theorem dX7_areVoices_37 : decode cX7_areVoices 37 = .ok (.getfield 40, 3) := by decide +kernel
theorem dX7_areVoices_40 : decode cX7_areVoices 40 = .ok (.iload_n 1, 1) := by decide +kernel
theorem dX7_areVoices_41 : decode cX7_areVoices 41 = .ok (.iaload, 1) := by decide +kernel
theorem dX7_areVoices_42 : decode cX7_areVoices 42 = .ok (.if_icmp .ge 93, 3) := by decide +kernel
theorem dX7_areVoices_45 : decode cX7_areVoices 45 = .ok (.aload_n 0, 1) := by decide +kernel
theorem dX7_areVoices_46 : decode cX7_areVoices 46 = .ok (.getfield 43, 3) := by decide +kernel
theorem dX7_areVoices_49 : decode cX7_areVoices 49 = .ok (.bipush 60, 2) := by decide +kernel
theorem dX7_areVoices_51 : decode cX7_areVoices 51 = .ok (.iload_n 1, 1) := by decide +kernel
theorem dX7_areVoices_52 : decode cX7_areVoices 52 = .ok (.imul, 1) := by decide +kernel
theorem dX7_areVoices_53 : decode cX7_areVoices 53 = .ok (.iload 4, 2) := by decide +kernel
theorem dX7_areVoices_55 : decode cX7_areVoices 55 = .ok (.iadd, 1) := by decide +kernel
theorem dX7_areVoices_56 : decode cX7_areVoices 56 = .ok (.iaload, 1) := by decide +kernel
theorem dX7_areVoices_57 : decode cX7_areVoices 57 = .ok (.bipush 10, 2) := by decide +kernel
theorem dX7_areVoices_59 : decode cX7_areVoices 59 = .ok (.if_icmp .ne 7, 3) := by decide +kernel
theorem dX7_areVoices_62 : decode cX7_areVoices 62 = .ok (.iconst 1, 1) := by decide +kernel
theorem dX7_areVoices_63 : decode cX7_areVoices 63 = .ok (.goto 4, 3) := by decide +kernel
theorem dX7_areVoices_66 : decode cX7_areVoices 66 = .ok (.iconst 0, 1) := by decide +kernel
theorem dX7_areVoices_67 : decode cX7_areVoices 67 = .ok (.istore 5, 2) := by decide +kernel
theorem dX7_areVoices_69 : decode cX7_areVoices 69 = .ok (.iload_n 2, 1) := by decide +kernel
theorem dX7_areVoices_70 : decode cX7_areVoices 70 = .ok (.iload 5, 2) := by decide +kernel
theorem dX7_areVoices_72 : decode cX7_areVoices 72 = .ok (.ifCond .eq 7, 3) := by decide +kernel
theorem dX7_areVoices_75 : decode cX7_areVoices 75 = .ok (.iconst 1, 1) := by decide +kernel
theorem dX7_areVoices_76 : decode cX7_areVoices 76 = .ok (.goto 4, 3) := by decide +kernel
theorem dX7_areVoices_79 : decode cX7_areVoices 79 = .ok (.iconst 0, 1) := by decide +kernel
theorem dX7_areVoices_80 : decode cX7_areVoices 80 = .ok (.iadd, 1) := by decide +kernel
theorem dX7_areVoices_81 : decode cX7_areVoices 81 = .ok (.istore_n 2, 1) := by decide +kernel
theorem dX7_areVoices_82 : decode cX7_areVoices 82 = .ok (.iload_n 3, 1) := by decide +kernel
theorem dX7_areVoices_83 : decode cX7_areVoices 83 = .ok (.ifCond .eq 44, 3) := by decide +kernel
theorem dX7_areVoices_86 : decode cX7_areVoices 86 = .ok (.iload 5, 2) := by decide +kernel
theorem dX7_areVoices_88 : decode cX7_areVoices 88 = .ok (.ifCond .eq 35, 3) := by decide +kernel
theorem dX7_areVoices_91 : decode cX7_areVoices 91 = .ok (.iload 4, 2) := by decide +kernel
theorem dX7_areVoices_93 : decode cX7_areVoices 93 = .ok (.iconst 1, 1) := by decide +kernel
theorem dX7_areVoices_94 : decode cX7_areVoices 94 = .ok (.iadd, 1) := by decide +kernel
theorem dX7_areVoices_95 : decode cX7_areVoices 95 = .ok (.aload_n 0, 1) := by decide +kernel
theorem dX7_areVoices_96 : decode cX7_areVoices 96 = .ok (.getfield 40, 3) := by decide +kernel
theorem dX7_areVoices_99 : decode cX7_areVoices 99 = .ok (.iload_n 1, 1) := by decide +kernel
theorem dX7_areVoices_100 : decode cX7_areVoices 100 = .ok (.iaload, 1) := by decide +kernel
theorem dX7_areVoices_101 : decode cX7_areVoices 101 = .ok (.if_icmp .ge 26, 3) := by decide +kernel
theorem dX7_areVoices_104 : decode cX7_areVoices 104 = .ok (.aload_n 0, 1) := by decide +kernel
theorem dX7_areVoices_105 : decode cX7_areVoices 105 = .ok (.getfield 43, 3) := by decide +kernel
theorem dX7_areVoices_108 : decode cX7_areVoices 108 = .ok (.bipush 60, 2) := by decide +kernel
theorem dX7_areVoices_110 : decode cX7_areVoices 110 = .ok (.iload_n 1, 1) := by decide +kernel
theorem dX7_areVoices_111 : decode cX7_areVoices 111 = .ok (.imul, 1) := by decide +kernel
theorem dX7_areVoices_112 : decode cX7_areVoices 112 = .ok (.iload 4, 2) := by decide +kernel
theorem dX7_areVoices_114 : decode cX7_areVoices 114 = .ok (.iadd, 1) := by decide +kernel
theorem dX7_areVoices_115 : decode cX7_areVoices 115 = .ok (.iconst 1, 1) := by decide +kernel
theorem dX7_areVoices_116 : decode cX7_areVoices 116 = .ok (.iadd, 1) := by decide +kernel
theorem dX7_areVoices_117 : decode cX7_areVoices 117 = .ok (.iaload, 1) := by decide +kernel
theorem dX7_areVoices_118 : decode cX7_areVoices 118 = .ok (.bipush 45, 2) := by decide +kernel
theorem dX7_areVoices_120 : decode cX7_areVoices 120 = .ok (.if_icmp .ne 7, 3) := by decide +kernel
theorem dX7_areVoices_123 : decode cX7_areVoices 123 = .ok (.iconst 1, 1) := by decide +kernel
theorem dX7_areVoices_124 : decode cX7_areVoices 124 = .ok (.goto 4, 3) := by decide +kernel
theorem dX7_areVoices_127 : decode cX7_areVoices 127 = .ok (.iconst 0, 1) := by decide +kernel
theorem dX7_areVoices_128 : decode cX7_areVoices 128 = .ok (.istore_n 3, 1) := by decide +kernel
theorem dX7_areVoices_129 : decode cX7_areVoices 129 = .ok (.iinc 4 1, 3) := by decide +kernel
theorem dX7_areVoices_132 : decode cX7_areVoices 132 = .ok (.goto (-98), 3) := by decide +kernel
theorem dX7_areVoices_135 : decode cX7_areVoices 135 = .ok (.iload_n 3, 1) := by decide +kernel
theorem dX7_areVoices_136 : decode cX7_areVoices 136 = .ok (.ifCond .eq 12, 3) := by decide +kernel
theorem dX7_areVoices_139 : decode cX7_areVoices 139 = .ok (.iload_n 2, 1) := by decide +kernel
theorem dX7_areVoices_140 : decode cX7_areVoices 140 = .ok (.iconst 2, 1) := by decide +kernel
theorem dX7_areVoices_141 : decode cX7_areVoices 141 = .ok (.if_icmp .ne 7, 3) := by decide +kernel
theorem dX7_areVoices_144 : decode cX7_areVoices 144 = .ok (.iconst 1, 1) := by decide +kernel
theorem dX7_areVoices_145 : decode cX7_areVoices 145 = .ok (.goto 4, 3) := by decide +kernel
theorem dX7_areVoices_148 : decode cX7_areVoices 148 = .ok (.iconst 0, 1) := by decide +kernel
theorem dX7_areVoices_149 : decode cX7_areVoices 149 = .ok (.ireturn, 1) := by decide +kernel
theorem dX7_brokenBy_0 : decode cX7_brokenBy 0 = .ok (.iconst 3, 1) := by decide +kernel
theorem dX7_brokenBy_1 : decode cX7_brokenBy 1 = .ok (.iload_n 1, 1) := by decide +kernel
theorem dX7_brokenBy_2 : decode cX7_brokenBy 2 = .ok (.imul, 1) := by decide +kernel
theorem dX7_brokenBy_3 : decode cX7_brokenBy 3 = .ok (.iload_n 2, 1) := by decide +kernel
theorem dX7_brokenBy_4 : decode cX7_brokenBy 4 = .ok (.iadd, 1) := by decide +kernel
theorem dX7_brokenBy_5 : decode cX7_brokenBy 5 = .ok (.istore_n 3, 1) := by decide +kernel
theorem dX7_brokenBy_6 : decode cX7_brokenBy 6 = .ok (.aload_n 0, 1) := by decide +kernel
theorem dX7_brokenBy_7 : decode cX7_brokenBy 7 = .ok (.getfield 28, 3) := by decide +kernel
theorem dX7_brokenBy_10 : decode cX7_brokenBy 10 = .ok (.iload_n 1, 1) := by decide +kernel
theorem dX7_brokenBy_11 : decode cX7_brokenBy 11 = .ok (.iaload, 1) := by decide +kernel
theorem dX7_brokenBy_12 : decode cX7_brokenBy 12 = .ok (.iconst (-1), 1) := by decide +kernel
theorem dX7_brokenBy_13 : decode cX7_brokenBy 13 = .ok (.if_icmp .eq 7, 3) := by decide +kernel
theorem dX7_brokenBy_16 : decode cX7_brokenBy 16 = .ok (.iconst 1, 1) := by decide +kernel
theorem dX7_brokenBy_17 : decode cX7_brokenBy 17 = .ok (.goto 4, 3) := by decide +kernel
theorem dX7_brokenBy_20 : decode cX7_brokenBy 20 = .ok (.iconst 0, 1) := by decide +kernel
theorem dX7_brokenBy_21 : decode cX7_brokenBy 21 = .ok (.istore 4, 2) := by decide +kernel
theorem dX7_brokenBy_23 : decode cX7_brokenBy 23 = .ok (.aload_n 0, 1) := by decide +kernel
theorem dX7_brokenBy_24 : decode cX7_brokenBy 24 = .ok (.getfield 40, 3) := by decide +kernel
theorem dX7_brokenBy_27 : decode cX7_brokenBy 27 = .ok (.iload_n 3, 1) := by decide +kernel
theorem dX7_brokenBy_28 : decode cX7_brokenBy 28 = .ok (.iaload, 1) := by decide +kernel
theorem dX7_brokenBy_29 : decode cX7_brokenBy 29 = .ok (.ifCond .ne 7, 3) := by decide +kernel
theorem dX7_brokenBy_32 : decode cX7_brokenBy 32 = .ok (.iconst 1, 1) := by decide +kernel
theorem dX7_brokenBy_33 : decode cX7_brokenBy 33 = .ok (.goto 4, 3) := by decide +kernel
theorem dX7_brokenBy_36 : decode cX7_brokenBy 36 = .ok (.iconst 0, 1) := by decide +kernel
theorem dX7_brokenBy_37 : decode cX7_brokenBy 37 = .ok (.istore 5, 2) := by decide +kernel
theorem dX7_brokenBy_39 : decode cX7_brokenBy 39 = .ok (.iload 5, 2) := by decide +kernel
theorem dX7_brokenBy_41 : decode cX7_brokenBy 41 = .ok (.aload_n 0, 1) := by decide +kernel
theorem dX7_brokenBy_42 : decode cX7_brokenBy 42 = .ok (.iload_n 3, 1) := by decide +kernel
theorem dX7_brokenBy_43 : decode cX7_brokenBy 43 = .ok (.invokevirtual 221, 3) := by decide +kernel
theorem dX7_brokenBy_46 : decode cX7_brokenBy 46 = .ok (.ifCond .eq 7, 3) := by decide +kernel
theorem dX7_brokenBy_49 : decode cX7_brokenBy 49 = .ok (.iconst 2, 1) := by decide +kernel
theorem dX7_brokenBy_50 : decode cX7_brokenBy 50 = .ok (.goto 4, 3) := by decide +kernel
theorem dX7_brokenBy_53 : decode cX7_brokenBy 53 = .ok (.iconst 0, 1) := by decide +kernel
theorem dX7_brokenBy_54 : decode cX7_brokenBy 54 = .ok (.ior, 1) := by decide +kernel
theorem dX7_brokenBy_55 : decode cX7_brokenBy 55 = .ok (.istore 5, 2) := by decide +kernel
theorem dX7_brokenBy_57 : decode cX7_brokenBy 57 = .ok (.iload 5, 2) := by decide +kernel
theorem dX7_brokenBy_59 : decode cX7_brokenBy 59 = .ok (.iload 4, 2) := by decide +kernel
theorem dX7_brokenBy_61 : decode cX7_brokenBy 61 = .ok (.ifCond .eq 36, 3) := by decide +kernel
theorem dX7_brokenBy_64 : decode cX7_brokenBy 64 = .ok (.bipush 25, 2) := by decide +kernel
theorem dX7_brokenBy_66 : decode cX7_brokenBy 66 = .ok (.aload_n 0, 1) := by decide +kernel
theorem dX7_brokenBy_67 : decode cX7_brokenBy 67 = .ok (.iload_n 3, 1) := by decide +kernel
theorem dX7_brokenBy_68 : decode cX7_brokenBy 68 = .ok (.iconst 0, 1) := by decide +kernel
theorem dX7_brokenBy_69 : decode cX7_brokenBy 69 = .ok (.aload_n 0, 1) := by decide +kernel
theorem dX7_brokenBy_70 : decode cX7_brokenBy 70 = .ok (.getfield 40, 3) := by decide +kernel
theorem dX7_brokenBy_73 : decode cX7_brokenBy 73 = .ok (.iload_n 3, 1) := by decide +kernel
theorem dX7_brokenBy_74 : decode cX7_brokenBy 74 = .ok (.iaload, 1) := by decide +kernel
theorem dX7_brokenBy_75 : decode cX7_brokenBy 75 = .ok (.invokevirtual 180, 3) := by decide +kernel
theorem dX7_brokenBy_78 : decode cX7_brokenBy 78 = .ok (.imul, 1) := by decide +kernel
theorem dX7_brokenBy_79 : decode cX7_brokenBy 79 = .ok (.aload_n 0, 1) := by decide +kernel
theorem dX7_brokenBy_80 : decode cX7_brokenBy 80 = .ok (.getfield 74, 3) := by decide +kernel
theorem dX7_brokenBy_83 : decode cX7_brokenBy 83 = .ok (.aload_n 0, 1) := by decide +kernel
theorem dX7_brokenBy_84 : decode cX7_brokenBy 84 = .ok (.getfield 31, 3) := by decide +kernel
theorem dX7_brokenBy_87 : decode cX7_brokenBy 87 = .ok (.iload_n 1, 1) := by decide +kernel
theorem dX7_brokenBy_88 : decode cX7_brokenBy 88 = .ok (.iaload, 1) := by decide +kernel
theorem dX7_brokenBy_89 : decode cX7_brokenBy 89 = .ok (.imul, 1) := by decide +kernel
theorem dX7_brokenBy_90 : decode cX7_brokenBy 90 = .ok (.if_icmp .le 7, 3) := by decide +kernel
theorem dX7_brokenBy_93 : decode cX7_brokenBy 93 = .ok (.iconst 4, 1) := by decide +kernel
theorem dX7_brokenBy_94 : decode cX7_brokenBy 94 = .ok (.goto 4, 3) := by decide +kernel
theorem dX7_brokenBy_97 : decode cX7_brokenBy 97 = .ok (.iconst 0, 1) := by decide +kernel
theorem dX7_brokenBy_98 : decode cX7_brokenBy 98 = .ok (.ior, 1) := by decide +kernel
theorem dX7_brokenBy_99 : decode cX7_brokenBy 99 = .ok (.istore 5, 2) := by decide +kernel
theorem dX7_brokenBy_101 : decode cX7_brokenBy 101 = .ok (.iload 5, 2) := by decide +kernel
theorem dX7_brokenBy_103 : decode cX7_brokenBy 103 = .ok (.iload 4, 2) := by decide +kernel
theorem dX7_brokenBy_105 : decode cX7_brokenBy 105 = .ok (.ifCond .eq 16, 3) := by decide +kernel
theorem dX7_brokenBy_108 : decode cX7_brokenBy 108 = .ok (.aload_n 0, 1) := by decide +kernel
theorem dX7_brokenBy_109 : decode cX7_brokenBy 109 = .ok (.iload_n 1, 1) := by decide +kernel
theorem dX7_brokenBy_110 : decode cX7_brokenBy 110 = .ok (.invokevirtual 224, 3) := by decide +kernel
theorem dX7_brokenBy_113 : decode cX7_brokenBy 113 = .ok (.ifCond .eq 8, 3) := by decide +kernel
theorem dX7_brokenBy_116 : decode cX7_brokenBy 116 = .ok (.bipush 8, 2) := by decide +kernel
theorem dX7_brokenBy_118 : decode cX7_brokenBy 118 = .ok (.goto 4, 3) := by decide +kernel
theorem dX7_brokenBy_121 : decode cX7_brokenBy 121 = .ok (.iconst 0, 1) := by decide +kernel
theorem dX7_brokenBy_122 : decode cX7_brokenBy 122 = .ok (.ior, 1) := by decide +kernel
theorem dX7_brokenBy_123 : decode cX7_brokenBy 123 = .ok (.istore 5, 2) := by decide +kernel
theorem dX7_brokenBy_125 : decode cX7_brokenBy 125 = .ok (.iload 5, 2) := by decide +kernel
theorem dX7_brokenBy_127 : decode cX7_brokenBy 127 = .ok (.iload 4, 2) := by decide +kernel
theorem dX7_brokenBy_129 : decode cX7_brokenBy 129 = .ok (.ifCond .eq 16, 3) := by decide +kernel
theorem dX7_brokenBy_132 : decode cX7_brokenBy 132 = .ok (.aload_n 0, 1) := by decide +kernel
theorem dX7_brokenBy_133 : decode cX7_brokenBy 133 = .ok (.iload_n 1, 1) := by decide +kernel
theorem dX7_brokenBy_134 : decode cX7_brokenBy 134 = .ok (.invokevirtual 227, 3) := by decide +kernel
theorem dX7_brokenBy_137 : decode cX7_brokenBy 137 = .ok (.ifCond .eq 8, 3) := by decide +kernel
theorem dX7_brokenBy_140 : decode cX7_brokenBy 140 = .ok (.bipush 16, 2) := by decide +kernel
theorem dX7_brokenBy_142 : decode cX7_brokenBy 142 = .ok (.goto 4, 3) := by decide +kernel
theorem dX7_brokenBy_145 : decode cX7_brokenBy 145 = .ok (.iconst 0, 1) := by decide +kernel
theorem dX7_brokenBy_146 : decode cX7_brokenBy 146 = .ok (.ior, 1) := by decide +kernel
theorem dX7_brokenBy_147 : decode cX7_brokenBy 147 = .ok (.istore 5, 2) := by decide +kernel
theorem dX7_brokenBy_149 : decode cX7_brokenBy 149 = .ok (.iload 5, 2) := by decide +kernel
theorem dX7_brokenBy_151 : decode cX7_brokenBy 151 = .ok (.aload_n 0, 1) := by decide +kernel
theorem dX7_brokenBy_152 : decode cX7_brokenBy 152 = .ok (.iload_n 1, 1) := by decide +kernel
theorem dX7_brokenBy_153 : decode cX7_brokenBy 153 = .ok (.iload_n 2, 1) := by decide +kernel
theorem dX7_brokenBy_154 : decode cX7_brokenBy 154 = .ok (.invokevirtual 215, 3) := by decide +kernel
theorem dX7_brokenBy_157 : decode cX7_brokenBy 157 = .ok (.ifCond .eq 8, 3) := by decide +kernel
theorem dX7_brokenBy_160 : decode cX7_brokenBy 160 = .ok (.bipush 32, 2) := by decide +kernel
theorem dX7_brokenBy_162 : decode cX7_brokenBy 162 = .ok (.goto 4, 3) := by decide +kernel
theorem dX7_brokenBy_165 : decode cX7_brokenBy 165 = .ok (.iconst 0, 1) := by decide +kernel
theorem dX7_brokenBy_166 : decode cX7_brokenBy 166 = .ok (.ior, 1) := by decide +kernel
theorem dX7_brokenBy_167 : decode cX7_brokenBy 167 = .ok (.istore 5, 2) := by decide +kernel
theorem dX7_brokenBy_169 : decode cX7_brokenBy 169 = .ok (.iload 5, 2) := by decide +kernel
theorem dX7_brokenBy_171 : decode cX7_brokenBy 171 = .ok (.iload 4, 2) := by decide +kernel
theorem dX7_brokenBy_173 : decode cX7_brokenBy 173 = .ok (.ifCond .eq 7, 3) := by decide +kernel
theorem dX7_brokenBy_176 : decode cX7_brokenBy 176 = .ok (.iconst 0, 1) := by decide +kernel
theorem dX7_brokenBy_177 : decode cX7_brokenBy 177 = .ok (.goto 5, 3) := by decide +kernel
theorem dX7_brokenBy_180 : decode cX7_brokenBy 180 = .ok (.bipush 64, 2) := by decide +kernel
theorem dX7_brokenBy_182 : decode cX7_brokenBy 182 = .ok (.ior, 1) := by decide +kernel
theorem dX7_brokenBy_183 : decode cX7_brokenBy 183 = .ok (.istore 5, 2) := by decide +kernel
theorem dX7_brokenBy_185 : decode cX7_brokenBy 185 = .ok (.iload 5, 2) := by decide +kernel
theorem dX7_brokenBy_187 : decode cX7_brokenBy 187 = .ok (.aload_n 0, 1) := by decide +kernel
theorem dX7_brokenBy_188 : decode cX7_brokenBy 188 = .ok (.getfield 25, 3) := by decide +kernel
theorem dX7_brokenBy_191 : decode cX7_brokenBy 191 = .ok (.iload_n 1, 1) := by decide +kernel
theorem dX7_brokenBy_192 : decode cX7_brokenBy 192 = .ok (.iaload, 1) := by decide +kernel
theorem dX7_brokenBy_193 : decode cX7_brokenBy 193 = .ok (.iconst 1, 1) := by decide +kernel
theorem dX7_brokenBy_194 : decode cX7_brokenBy 194 = .ok (.if_icmp .ne 26, 3) := by decide +kernel
theorem dX7_brokenBy_197 : decode cX7_brokenBy 197 = .ok (.aload_n 0, 1) := by decide +kernel
theorem dX7_brokenBy_198 : decode cX7_brokenBy 198 = .ok (.getfield 40, 3) := by decide +kernel
theorem dX7_brokenBy_201 : decode cX7_brokenBy 201 = .ok (.iload_n 3, 1) := by decide +kernel
theorem dX7_brokenBy_202 : decode cX7_brokenBy 202 = .ok (.iaload, 1) := by decide +kernel
theorem dX7_brokenBy_203 : decode cX7_brokenBy 203 = .ok (.ifCond .le 17, 3) := by decide +kernel
theorem dX7_brokenBy_206 : decode cX7_brokenBy 206 = .ok (.aload_n 0, 1) := by decide +kernel
theorem dX7_brokenBy_207 : decode cX7_brokenBy 207 = .ok (.iload_n 3, 1) := by decide +kernel
theorem dX7_brokenBy_208 : decode cX7_brokenBy 208 = .ok (.invokevirtual 230, 3) := by decide +kernel
theorem dX7_brokenBy_211 : decode cX7_brokenBy 211 = .ok (.ifCond .ne 9, 3) := by decide +kernel
theorem dX7_brokenBy_214 : decode cX7_brokenBy 214 = .ok (.sipush 128, 3) := by decide +kernel
theorem dX7_brokenBy_217 : decode cX7_brokenBy 217 = .ok (.goto 4, 3) := by decide +kernel
theorem dX7_brokenBy_220 : decode cX7_brokenBy 220 = .ok (.iconst 0, 1) := by decide +kernel
theorem dX7_brokenBy_221 : decode cX7_brokenBy 221 = .ok (.ior, 1) := by decide +kernel
theorem dX7_brokenBy_222 : decode cX7_brokenBy 222 = .ok (.istore 5, 2) := by decide +kernel
theorem dX7_brokenBy_224 : decode cX7_brokenBy 224 = .ok (.iload 5, 2) := by decide +kernel
theorem dX7_brokenBy_226 : decode cX7_brokenBy 226 = .ok (.ireturn, 1) := by decide +kernel
theorem dX7_broken_0 : decode cX7_broken 0 = .ok (.aload_n 0, 1) := by decide +kernel
theorem dX7_broken_1 : decode cX7_broken 1 = .ok (.iload_n 1, 1) := by decide +kernel
theorem dX7_broken_2 : decode cX7_broken 2 = .ok (.iload_n 2, 1) := by decide +kernel
theorem dX7_broken_3 : decode cX7_broken 3 = .ok (.invokevirtual 172, 3) := by decide +kernel
theorem dX7_broken_6 : decode cX7_broken 6 = .ok (.ifCond .eq 12, 3) := by decide +kernel
theorem dX7_broken_9 : decode cX7_broken 9 = .ok (.aload_n 0, 1) := by decide +kernel
theorem dX7_broken_10 : decode cX7_broken 10 = .ok (.iload_n 1, 1) := by decide +kernel
theorem dX7_broken_11 : decode cX7_broken 11 = .ok (.iload_n 2, 1) := by decide +kernel
theorem dX7_broken_12 : decode cX7_broken 12 = .ok (.invokevirtual 233, 3) := by decide +kernel
theorem dX7_broken_15 : decode cX7_broken 15 = .ok (.goto 4, 3) := by decide +kernel
theorem dX7_broken_18 : decode cX7_broken 18 = .ok (.iconst 0, 1) := by decide +kernel
theorem dX7_broken_19 : decode cX7_broken 19 = .ok (.ireturn, 1) := by decide +kernel
theorem dX7_letGo_0 : decode cX7_letGo 0 = .ok (.aload_n 0, 1) := by decide +kernel
theorem dX7_letGo_1 : decode cX7_letGo 1 = .ok (.aload_n 0, 1) := by decide +kernel
theorem dX7_letGo_2 : decode cX7_letGo 2 = .ok (.iload_n 1, 1) := by decide +kernel
theorem dX7_letGo_3 : decode cX7_letGo 3 = .ok (.iload_n 2, 1) := by decide +kernel
theorem dX7_letGo_4 : decode cX7_letGo 4 = .ok (.invokevirtual 157, 3) := by decide +kernel
theorem dX7_letGo_7 : decode cX7_letGo 7 = .ok (.ifCond .eq 13, 3) := by decide +kernel
theorem dX7_letGo_10 : decode cX7_letGo 10 = .ok (.iload_n 3, 1) := by decide +kernel
theorem dX7_letGo_11 : decode cX7_letGo 11 = .ok (.iconst 0, 1) := by decide +kernel
theorem dX7_letGo_12 : decode cX7_letGo 12 = .ok (.bipush 7, 2) := by decide +kernel
theorem dX7_letGo_14 : decode cX7_letGo 14 = .ok (.invokestatic 93, 3) := by decide +kernel
theorem dX7_letGo_17 : decode cX7_letGo 17 = .ok (.ifCond .ne 7, 3) := by decide +kernel
theorem dX7_letGo_20 : decode cX7_letGo 20 = .ok (.iconst 1, 1) := by decide +kernel
theorem dX7_letGo_21 : decode cX7_letGo 21 = .ok (.goto 19, 3) := by decide +kernel
theorem dX7_letGo_24 : decode cX7_letGo 24 = .ok (.iload 4, 2) := by decide +kernel
theorem dX7_letGo_26 : decode cX7_letGo 26 = .ok (.iconst 1, 1) := by decide +kernel
theorem dX7_letGo_27 : decode cX7_letGo 27 = .ok (.bipush 99, 2) := by decide +kernel
theorem dX7_letGo_29 : decode cX7_letGo 29 = .ok (.invokestatic 93, 3) := by decide +kernel
theorem dX7_letGo_32 : decode cX7_letGo 32 = .ok (.ifCond .eq 7, 3) := by decide +kernel
theorem dX7_letGo_35 : decode cX7_letGo 35 = .ok (.iconst 0, 1) := by decide +kernel
theorem dX7_letGo_36 : decode cX7_letGo 36 = .ok (.goto 4, 3) := by decide +kernel
theorem dX7_letGo_39 : decode cX7_letGo 39 = .ok (.iconst 2, 1) := by decide +kernel
theorem dX7_letGo_40 : decode cX7_letGo 40 = .ok (.putfield 87, 3) := by decide +kernel
theorem dX7_letGo_43 : decode cX7_letGo 43 = .ok (.aload_n 0, 1) := by decide +kernel
theorem dX7_letGo_44 : decode cX7_letGo 44 = .ok (.getfield 87, 3) := by decide +kernel
theorem dX7_letGo_47 : decode cX7_letGo 47 = .ok (.ifCond .ne 26, 3) := by decide +kernel
theorem dX7_letGo_50 : decode cX7_letGo 50 = .ok (.aload_n 0, 1) := by decide +kernel
theorem dX7_letGo_51 : decode cX7_letGo 51 = .ok (.aload_n 0, 1) := by decide +kernel
theorem dX7_letGo_52 : decode cX7_letGo 52 = .ok (.iload_n 1, 1) := by decide +kernel
theorem dX7_letGo_53 : decode cX7_letGo 53 = .ok (.iload_n 2, 1) := by decide +kernel
theorem dX7_letGo_54 : decode cX7_letGo 54 = .ok (.invokevirtual 233, 3) := by decide +kernel
theorem dX7_letGo_57 : decode cX7_letGo 57 = .ok (.iload_n 3, 1) := by decide +kernel
theorem dX7_letGo_58 : decode cX7_letGo 58 = .ok (.ishr, 1) := by decide +kernel
theorem dX7_letGo_59 : decode cX7_letGo 59 = .ok (.iconst 1, 1) := by decide +kernel
theorem dX7_letGo_60 : decode cX7_letGo 60 = .ok (.iand, 1) := by decide +kernel
theorem dX7_letGo_61 : decode cX7_letGo 61 = .ok (.iconst 1, 1) := by decide +kernel
theorem dX7_letGo_62 : decode cX7_letGo 62 = .ok (.if_icmp .ne 7, 3) := by decide +kernel
theorem dX7_letGo_65 : decode cX7_letGo 65 = .ok (.iconst 0, 1) := by decide +kernel
theorem dX7_letGo_66 : decode cX7_letGo 66 = .ok (.goto 4, 3) := by decide +kernel
theorem dX7_letGo_69 : decode cX7_letGo 69 = .ok (.iconst 3, 1) := by decide +kernel
theorem dX7_letGo_70 : decode cX7_letGo 70 = .ok (.putfield 87, 3) := by decide +kernel
theorem dX7_letGo_73 : decode cX7_letGo 73 = .ok (.aload_n 0, 1) := by decide +kernel
theorem dX7_letGo_74 : decode cX7_letGo 74 = .ok (.getfield 87, 3) := by decide +kernel
theorem dX7_letGo_77 : decode cX7_letGo 77 = .ok (.ifCond .le 5, 3) := by decide +kernel
theorem dX7_letGo_80 : decode cX7_letGo 80 = .ok (.iconst 0, 1) := by decide +kernel
theorem dX7_letGo_81 : decode cX7_letGo 81 = .ok (.ireturn, 1) := by decide +kernel
theorem dX7_letGo_82 : decode cX7_letGo 82 = .ok (.bipush 8, 2) := by decide +kernel
theorem dX7_letGo_84 : decode cX7_letGo 84 = .ok (.iconst 3, 1) := by decide +kernel
theorem dX7_letGo_85 : decode cX7_letGo 85 = .ok (.iload_n 1, 1) := by decide +kernel
theorem dX7_letGo_86 : decode cX7_letGo 86 = .ok (.imul, 1) := by decide +kernel
theorem dX7_letGo_87 : decode cX7_letGo 87 = .ok (.iload_n 2, 1) := by decide +kernel
theorem dX7_letGo_88 : decode cX7_letGo 88 = .ok (.iadd, 1) := by decide +kernel
theorem dX7_letGo_89 : decode cX7_letGo 89 = .ok (.imul, 1) := by decide +kernel
theorem dX7_letGo_90 : decode cX7_letGo 90 = .ok (.iload_n 3, 1) := by decide +kernel
theorem dX7_letGo_91 : decode cX7_letGo 91 = .ok (.iadd, 1) := by decide +kernel
theorem dX7_letGo_92 : decode cX7_letGo 92 = .ok (.istore 5, 2) := by decide +kernel
theorem dX7_letGo_94 : decode cX7_letGo 94 = .ok (.aload_n 0, 1) := by decide +kernel
theorem dX7_letGo_95 : decode cX7_letGo 95 = .ok (.getfield 49, 3) := by decide +kernel
theorem dX7_letGo_98 : decode cX7_letGo 98 = .ok (.iload 5, 2) := by decide +kernel
theorem dX7_letGo_100 : decode cX7_letGo 100 = .ok (.iaload, 1) := by decide +kernel
theorem dX7_letGo_101 : decode cX7_letGo 101 = .ok (.istore 6, 2) := by decide +kernel
theorem dX7_letGo_103 : decode cX7_letGo 103 = .ok (.aload_n 0, 1) := by decide +kernel
theorem dX7_letGo_104 : decode cX7_letGo 104 = .ok (.getfield 49, 3) := by decide +kernel
theorem dX7_letGo_107 : decode cX7_letGo 107 = .ok (.iload 5, 2) := by decide +kernel
theorem dX7_letGo_109 : decode cX7_letGo 109 = .ok (.iload 4, 2) := by decide +kernel
theorem dX7_letGo_111 : decode cX7_letGo 111 = .ok (.iastore, 1) := by decide +kernel
theorem dX7_letGo_112 : decode cX7_letGo 112 = .ok (.iload 6, 2) := by decide +kernel
theorem dX7_letGo_114 : decode cX7_letGo 114 = .ok (.ireturn, 1) := by decide +kernel
theorem dX7_nameOf_0 : decode cX7_nameOf 0 = .ok (.aload_n 0, 1) := by decide +kernel
theorem dX7_nameOf_1 : decode cX7_nameOf 1 = .ok (.aload_n 0, 1) := by decide +kernel
theorem dX7_nameOf_2 : decode cX7_nameOf 2 = .ok (.iload_n 1, 1) := by decide +kernel
theorem dX7_nameOf_3 : decode cX7_nameOf 3 = .ok (.iload_n 2, 1) := by decide +kernel
theorem dX7_nameOf_4 : decode cX7_nameOf 4 = .ok (.invokevirtual 157, 3) := by decide +kernel
theorem dX7_nameOf_7 : decode cX7_nameOf 7 = .ok (.ifCond .eq 17, 3) := by decide +kernel
theorem dX7_nameOf_10 : decode cX7_nameOf 10 = .ok (.iload_n 3, 1) := by decide +kernel
theorem dX7_nameOf_11 : decode cX7_nameOf 11 = .ok (.iconst 0, 1) := by decide +kernel
theorem dX7_nameOf_12 : decode cX7_nameOf 12 = .ok (.bipush 7, 2) := by decide +kernel
theorem dX7_nameOf_14 : decode cX7_nameOf 14 = .ok (.invokestatic 93, 3) := by decide +kernel
theorem dX7_nameOf_17 : decode cX7_nameOf 17 = .ok (.ifCond .eq 7, 3) := by decide +kernel
theorem dX7_nameOf_20 : decode cX7_nameOf 20 = .ok (.iconst 0, 1) := by decide +kernel
theorem dX7_nameOf_21 : decode cX7_nameOf 21 = .ok (.goto 4, 3) := by decide +kernel
theorem dX7_nameOf_24 : decode cX7_nameOf 24 = .ok (.iconst 1, 1) := by decide +kernel
theorem dX7_nameOf_25 : decode cX7_nameOf 25 = .ok (.putfield 87, 3) := by decide +kernel
theorem dX7_nameOf_28 : decode cX7_nameOf 28 = .ok (.aload_n 0, 1) := by decide +kernel
theorem dX7_nameOf_29 : decode cX7_nameOf 29 = .ok (.getfield 87, 3) := by decide +kernel
theorem dX7_nameOf_32 : decode cX7_nameOf 32 = .ok (.ifCond .le 7, 3) := by decide +kernel
theorem dX7_nameOf_35 : decode cX7_nameOf 35 = .ok (.iconst 0, 1) := by decide +kernel
theorem dX7_nameOf_36 : decode cX7_nameOf 36 = .ok (.goto 18, 3) := by decide +kernel
theorem dX7_nameOf_39 : decode cX7_nameOf 39 = .ok (.aload_n 0, 1) := by decide +kernel
theorem dX7_nameOf_40 : decode cX7_nameOf 40 = .ok (.getfield 49, 3) := by decide +kernel
theorem dX7_nameOf_43 : decode cX7_nameOf 43 = .ok (.bipush 8, 2) := by decide +kernel
theorem dX7_nameOf_45 : decode cX7_nameOf 45 = .ok (.iconst 3, 1) := by decide +kernel
theorem dX7_nameOf_46 : decode cX7_nameOf 46 = .ok (.iload_n 1, 1) := by decide +kernel
theorem dX7_nameOf_47 : decode cX7_nameOf 47 = .ok (.imul, 1) := by decide +kernel
theorem dX7_nameOf_48 : decode cX7_nameOf 48 = .ok (.iload_n 2, 1) := by decide +kernel
theorem dX7_nameOf_49 : decode cX7_nameOf 49 = .ok (.iadd, 1) := by decide +kernel
theorem dX7_nameOf_50 : decode cX7_nameOf 50 = .ok (.imul, 1) := by decide +kernel
theorem dX7_nameOf_51 : decode cX7_nameOf 51 = .ok (.iload_n 3, 1) := by decide +kernel
theorem dX7_nameOf_52 : decode cX7_nameOf 52 = .ok (.iadd, 1) := by decide +kernel
theorem dX7_nameOf_53 : decode cX7_nameOf 53 = .ok (.iaload, 1) := by decide +kernel
theorem dX7_nameOf_54 : decode cX7_nameOf 54 = .ok (.ireturn, 1) := by decide +kernel
theorem dX7_faults_0 : decode cX7_faults 0 = .ok (.aload_n 0, 1) := by decide +kernel
theorem dX7_faults_1 : decode cX7_faults 1 = .ok (.iload_n 1, 1) := by decide +kernel
theorem dX7_faults_2 : decode cX7_faults 2 = .ok (.iconst 0, 1) := by decide +kernel
theorem dX7_faults_3 : decode cX7_faults 3 = .ok (.iconst 2, 1) := by decide +kernel
theorem dX7_faults_4 : decode cX7_faults 4 = .ok (.invokestatic 93, 3) := by decide +kernel
theorem dX7_faults_7 : decode cX7_faults 7 = .ok (.ifCond .eq 7, 3) := by decide +kernel
theorem dX7_faults_10 : decode cX7_faults 10 = .ok (.iconst 0, 1) := by decide +kernel
theorem dX7_faults_11 : decode cX7_faults 11 = .ok (.goto 4, 3) := by decide +kernel
theorem dX7_faults_14 : decode cX7_faults 14 = .ok (.iconst 1, 1) := by decide +kernel
theorem dX7_faults_15 : decode cX7_faults 15 = .ok (.putfield 87, 3) := by decide +kernel
theorem dX7_faults_18 : decode cX7_faults 18 = .ok (.iconst 0, 1) := by decide +kernel
theorem dX7_faults_19 : decode cX7_faults 19 = .ok (.istore_n 2, 1) := by decide +kernel
theorem dX7_faults_20 : decode cX7_faults 20 = .ok (.iconst 0, 1) := by decide +kernel
theorem dX7_faults_21 : decode cX7_faults 21 = .ok (.istore_n 3, 1) := by decide +kernel
theorem dX7_faults_22 : decode cX7_faults 22 = .ok (.iload_n 3, 1) := by decide +kernel
theorem dX7_faults_23 : decode cX7_faults 23 = .ok (.aload_n 0, 1) := by decide +kernel
theorem dX7_faults_24 : decode cX7_faults 24 = .ok (.getfield 100, 3) := by decide +kernel
theorem dX7_faults_27 : decode cX7_faults 27 = .ok (.if_icmp .ge 78, 3) := by decide +kernel
theorem dX7_faults_30 : decode cX7_faults 30 = .ok (.aload_n 0, 1) := by decide +kernel
theorem dX7_faults_31 : decode cX7_faults 31 = .ok (.getfield 87, 3) := by decide +kernel
theorem dX7_faults_34 : decode cX7_faults 34 = .ok (.ifCond .ne 71, 3) := by decide +kernel
theorem dX7_faults_37 : decode cX7_faults 37 = .ok (.aload_n 0, 1) := by decide +kernel
theorem dX7_faults_38 : decode cX7_faults 38 = .ok (.iload_n 3, 1) := by decide +kernel
theorem dX7_faults_39 : decode cX7_faults 39 = .ok (.iload_n 1, 1) := by decide +kernel
theorem dX7_faults_40 : decode cX7_faults 40 = .ok (.invokevirtual 233, 3) := by decide +kernel
theorem dX7_faults_43 : decode cX7_faults 43 = .ok (.istore 4, 2) := by decide +kernel
theorem dX7_faults_45 : decode cX7_faults 45 = .ok (.iconst 0, 1) := by decide +kernel
theorem dX7_faults_46 : decode cX7_faults 46 = .ok (.istore 5, 2) := by decide +kernel
theorem dX7_faults_48 : decode cX7_faults 48 = .ok (.iload 5, 2) := by decide +kernel
theorem dX7_faults_50 : decode cX7_faults 50 = .ok (.bipush 8, 2) := by decide +kernel
theorem dX7_faults_52 : decode cX7_faults 52 = .ok (.if_icmp .ge 47, 3) := by decide +kernel
theorem dX7_faults_55 : decode cX7_faults 55 = .ok (.iload_n 2, 1) := by decide +kernel
theorem dX7_faults_56 : decode cX7_faults 56 = .ok (.iload 4, 2) := by decide +kernel
theorem dX7_faults_58 : decode cX7_faults 58 = .ok (.iload 5, 2) := by decide +kernel
theorem dX7_faults_60 : decode cX7_faults 60 = .ok (.ishr, 1) := by decide +kernel
theorem dX7_faults_61 : decode cX7_faults 61 = .ok (.iconst 1, 1) := by decide +kernel
theorem dX7_faults_62 : decode cX7_faults 62 = .ok (.iand, 1) := by decide +kernel
theorem dX7_faults_63 : decode cX7_faults 63 = .ok (.iconst 1, 1) := by decide +kernel
theorem dX7_faults_64 : decode cX7_faults 64 = .ok (.if_icmp .ne 26, 3) := by decide +kernel
theorem dX7_faults_67 : decode cX7_faults 67 = .ok (.aload_n 0, 1) := by decide +kernel
theorem dX7_faults_68 : decode cX7_faults 68 = .ok (.getfield 49, 3) := by decide +kernel
theorem dX7_faults_71 : decode cX7_faults 71 = .ok (.bipush 8, 2) := by decide +kernel
theorem dX7_faults_73 : decode cX7_faults 73 = .ok (.iconst 3, 1) := by decide +kernel
theorem dX7_faults_74 : decode cX7_faults 74 = .ok (.iload_n 3, 1) := by decide +kernel
theorem dX7_faults_75 : decode cX7_faults 75 = .ok (.imul, 1) := by decide +kernel
theorem dX7_faults_76 : decode cX7_faults 76 = .ok (.iload_n 1, 1) := by decide +kernel
theorem dX7_faults_77 : decode cX7_faults 77 = .ok (.iadd, 1) := by decide +kernel
theorem dX7_faults_78 : decode cX7_faults 78 = .ok (.imul, 1) := by decide +kernel
theorem dX7_faults_79 : decode cX7_faults 79 = .ok (.iload 5, 2) := by decide +kernel
theorem dX7_faults_81 : decode cX7_faults 81 = .ok (.iadd, 1) := by decide +kernel
theorem dX7_faults_82 : decode cX7_faults 82 = .ok (.iaload, 1) := by decide +kernel
theorem dX7_faults_83 : decode cX7_faults 83 = .ok (.ifCond .ne 7, 3) := by decide +kernel
theorem dX7_faults_86 : decode cX7_faults 86 = .ok (.iconst 1, 1) := by decide +kernel
theorem dX7_faults_87 : decode cX7_faults 87 = .ok (.goto 4, 3) := by decide +kernel
theorem dX7_faults_90 : decode cX7_faults 90 = .ok (.iconst 0, 1) := by decide +kernel
theorem dX7_faults_91 : decode cX7_faults 91 = .ok (.iadd, 1) := by decide +kernel
theorem dX7_faults_92 : decode cX7_faults 92 = .ok (.istore_n 2, 1) := by decide +kernel
theorem dX7_faults_93 : decode cX7_faults 93 = .ok (.iinc 5 1, 3) := by decide +kernel
theorem dX7_faults_96 : decode cX7_faults 96 = .ok (.goto (-48), 3) := by decide +kernel
theorem dX7_faults_99 : decode cX7_faults 99 = .ok (.iinc 3 1, 3) := by decide +kernel
theorem dX7_faults_102 : decode cX7_faults 102 = .ok (.goto (-80), 3) := by decide +kernel
theorem dX7_faults_105 : decode cX7_faults 105 = .ok (.iload_n 2, 1) := by decide +kernel
theorem dX7_faults_106 : decode cX7_faults 106 = .ok (.ireturn, 1) := by decide +kernel
theorem dX7_writes_0 : decode cX7_writes 0 = .ok (.aload_n 0, 1) := by decide +kernel
theorem dX7_writes_1 : decode cX7_writes 1 = .ok (.getfield 83, 3) := by decide +kernel
theorem dX7_writes_4 : decode cX7_writes 4 = .ok (.aload_n 0, 1) := by decide +kernel
theorem dX7_writes_5 : decode cX7_writes 5 = .ok (.getfield 236, 3) := by decide +kernel
theorem dX7_writes_8 : decode cX7_writes 8 = .ok (.iload_n 1, 1) := by decide +kernel
theorem dX7_writes_9 : decode cX7_writes 9 = .ok (.i2c, 1) := by decide +kernel
theorem dX7_writes_10 : decode cX7_writes 10 = .ok (.castore, 1) := by decide +kernel
theorem dX7_writes_11 : decode cX7_writes 11 = .ok (.aload_n 0, 1) := by decide +kernel
theorem dX7_writes_12 : decode cX7_writes 12 = .ok (.dup, 1) := by decide +kernel
theorem dX7_writes_13 : decode cX7_writes 13 = .ok (.getfield 236, 3) := by decide +kernel
theorem dX7_writes_16 : decode cX7_writes 16 = .ok (.iconst 1, 1) := by decide +kernel
theorem dX7_writes_17 : decode cX7_writes 17 = .ok (.iadd, 1) := by decide +kernel
theorem dX7_writes_18 : decode cX7_writes 18 = .ok (.putfield 236, 3) := by decide +kernel
theorem dX7_writes_21 : decode cX7_writes 21 = .ok (.return_, 1) := by decide +kernel
theorem dX7_writesSign_0 : decode cX7_writesSign 0 = .ok (.iload_n 1, 1) := by decide +kernel
theorem dX7_writesSign_1 : decode cX7_writesSign 1 = .ok (.ldc 176, 2) := by decide +kernel
theorem dX7_writesSign_3 : decode cX7_writesSign 3 = .ok (.if_icmp .ge 11, 3) := by decide +kernel
theorem dX7_writesSign_6 : decode cX7_writesSign 6 = .ok (.aload_n 0, 1) := by decide +kernel
theorem dX7_writesSign_7 : decode cX7_writesSign 7 = .ok (.iload_n 1, 1) := by decide +kernel
theorem dX7_writesSign_8 : decode cX7_writesSign 8 = .ok (.invokevirtual 239, 3) := by decide +kernel
theorem dX7_writesSign_11 : decode cX7_writesSign 11 = .ok (.goto 32, 3) := by decide +kernel
theorem dX7_writesSign_14 : decode cX7_writesSign 14 = .ok (.aload_n 0, 1) := by decide +kernel
theorem dX7_writesSign_15 : decode cX7_writesSign 15 = .ok (.ldc 242, 2) := by decide +kernel
theorem dX7_writesSign_17 : decode cX7_writesSign 17 = .ok (.iload_n 1, 1) := by decide +kernel
theorem dX7_writesSign_18 : decode cX7_writesSign 18 = .ok (.ldc 176, 2) := by decide +kernel
theorem dX7_writesSign_20 : decode cX7_writesSign 20 = .ok (.isub, 1) := by decide +kernel
theorem dX7_writesSign_21 : decode cX7_writesSign 21 = .ok (.bipush 10, 2) := by decide +kernel
theorem dX7_writesSign_23 : decode cX7_writesSign 23 = .ok (.ishr, 1) := by decide +kernel
theorem dX7_writesSign_24 : decode cX7_writesSign 24 = .ok (.iadd, 1) := by decide +kernel
theorem dX7_writesSign_25 : decode cX7_writesSign 25 = .ok (.invokevirtual 239, 3) := by decide +kernel
theorem dX7_writesSign_28 : decode cX7_writesSign 28 = .ok (.aload_n 0, 1) := by decide +kernel
theorem dX7_writesSign_29 : decode cX7_writesSign 29 = .ok (.ldc 243, 2) := by decide +kernel
theorem dX7_writesSign_31 : decode cX7_writesSign 31 = .ok (.iload_n 1, 1) := by decide +kernel
theorem dX7_writesSign_32 : decode cX7_writesSign 32 = .ok (.ldc 176, 2) := by decide +kernel
theorem dX7_writesSign_34 : decode cX7_writesSign 34 = .ok (.isub, 1) := by decide +kernel
theorem dX7_writesSign_35 : decode cX7_writesSign 35 = .ok (.sipush 1023, 3) := by decide +kernel
theorem dX7_writesSign_38 : decode cX7_writesSign 38 = .ok (.iand, 1) := by decide +kernel
theorem dX7_writesSign_39 : decode cX7_writesSign 39 = .ok (.iadd, 1) := by decide +kernel
theorem dX7_writesSign_40 : decode cX7_writesSign 40 = .ok (.invokevirtual 239, 3) := by decide +kernel
theorem dX7_writesSign_43 : decode cX7_writesSign 43 = .ok (.return_, 1) := by decide +kernel
theorem dX7_writesNumber_0 : decode cX7_writesNumber 0 = .ok (.iconst 1, 1) := by decide +kernel
theorem dX7_writesNumber_1 : decode cX7_writesNumber 1 = .ok (.istore_n 2, 1) := by decide +kernel
theorem dX7_writesNumber_2 : decode cX7_writesNumber 2 = .ok (.iload_n 1, 1) := by decide +kernel
theorem dX7_writesNumber_3 : decode cX7_writesNumber 3 = .ok (.iload_n 2, 1) := by decide +kernel
theorem dX7_writesNumber_4 : decode cX7_writesNumber 4 = .ok (.idiv, 1) := by decide +kernel
theorem dX7_writesNumber_5 : decode cX7_writesNumber 5 = .ok (.bipush 10, 2) := by decide +kernel
theorem dX7_writesNumber_7 : decode cX7_writesNumber 7 = .ok (.if_icmp .lt 11, 3) := by decide +kernel
theorem dX7_writesNumber_10 : decode cX7_writesNumber 10 = .ok (.iload_n 2, 1) := by decide +kernel
theorem dX7_writesNumber_11 : decode cX7_writesNumber 11 = .ok (.bipush 10, 2) := by decide +kernel
theorem dX7_writesNumber_13 : decode cX7_writesNumber 13 = .ok (.imul, 1) := by decide +kernel
theorem dX7_writesNumber_14 : decode cX7_writesNumber 14 = .ok (.istore_n 2, 1) := by decide +kernel
theorem dX7_writesNumber_15 : decode cX7_writesNumber 15 = .ok (.goto (-13), 3) := by decide +kernel
theorem dX7_writesNumber_18 : decode cX7_writesNumber 18 = .ok (.iload_n 2, 1) := by decide +kernel
theorem dX7_writesNumber_19 : decode cX7_writesNumber 19 = .ok (.ifCond .le 24, 3) := by decide +kernel
theorem dX7_writesNumber_22 : decode cX7_writesNumber 22 = .ok (.aload_n 0, 1) := by decide +kernel
theorem dX7_writesNumber_23 : decode cX7_writesNumber 23 = .ok (.bipush 48, 2) := by decide +kernel
theorem dX7_writesNumber_25 : decode cX7_writesNumber 25 = .ok (.iload_n 1, 1) := by decide +kernel
theorem dX7_writesNumber_26 : decode cX7_writesNumber 26 = .ok (.iload_n 2, 1) := by decide +kernel
theorem dX7_writesNumber_27 : decode cX7_writesNumber 27 = .ok (.idiv, 1) := by decide +kernel
theorem dX7_writesNumber_28 : decode cX7_writesNumber 28 = .ok (.bipush 10, 2) := by decide +kernel
theorem dX7_writesNumber_30 : decode cX7_writesNumber 30 = .ok (.irem, 1) := by decide +kernel
theorem dX7_writesNumber_31 : decode cX7_writesNumber 31 = .ok (.iadd, 1) := by decide +kernel
theorem dX7_writesNumber_32 : decode cX7_writesNumber 32 = .ok (.invokevirtual 239, 3) := by decide +kernel
theorem dX7_writesNumber_35 : decode cX7_writesNumber 35 = .ok (.iload_n 2, 1) := by decide +kernel
theorem dX7_writesNumber_36 : decode cX7_writesNumber 36 = .ok (.bipush 10, 2) := by decide +kernel
theorem dX7_writesNumber_38 : decode cX7_writesNumber 38 = .ok (.idiv, 1) := by decide +kernel
theorem dX7_writesNumber_39 : decode cX7_writesNumber 39 = .ok (.istore_n 2, 1) := by decide +kernel
theorem dX7_writesNumber_40 : decode cX7_writesNumber 40 = .ok (.goto (-22), 3) := by decide +kernel
theorem dX7_writesNumber_43 : decode cX7_writesNumber 43 = .ok (.return_, 1) := by decide +kernel
theorem dX7_writesTwo_0 : decode cX7_writesTwo 0 = .ok (.aload_n 0, 1) := by decide +kernel
theorem dX7_writesTwo_1 : decode cX7_writesTwo 1 = .ok (.bipush 48, 2) := by decide +kernel
theorem dX7_writesTwo_3 : decode cX7_writesTwo 3 = .ok (.iload_n 1, 1) := by decide +kernel
theorem dX7_writesTwo_4 : decode cX7_writesTwo 4 = .ok (.bipush 10, 2) := by decide +kernel
theorem dX7_writesTwo_6 : decode cX7_writesTwo 6 = .ok (.idiv, 1) := by decide +kernel
theorem dX7_writesTwo_7 : decode cX7_writesTwo 7 = .ok (.iadd, 1) := by decide +kernel
theorem dX7_writesTwo_8 : decode cX7_writesTwo 8 = .ok (.invokevirtual 239, 3) := by decide +kernel
theorem dX7_writesTwo_11 : decode cX7_writesTwo 11 = .ok (.aload_n 0, 1) := by decide +kernel
theorem dX7_writesTwo_12 : decode cX7_writesTwo 12 = .ok (.bipush 48, 2) := by decide +kernel
theorem dX7_writesTwo_14 : decode cX7_writesTwo 14 = .ok (.iload_n 1, 1) := by decide +kernel
theorem dX7_writesTwo_15 : decode cX7_writesTwo 15 = .ok (.bipush 10, 2) := by decide +kernel
theorem dX7_writesTwo_17 : decode cX7_writesTwo 17 = .ok (.irem, 1) := by decide +kernel
theorem dX7_writesTwo_18 : decode cX7_writesTwo 18 = .ok (.iadd, 1) := by decide +kernel
theorem dX7_writesTwo_19 : decode cX7_writesTwo 19 = .ok (.invokevirtual 239, 3) := by decide +kernel
theorem dX7_writesTwo_22 : decode cX7_writesTwo 22 = .ok (.return_, 1) := by decide +kernel
theorem dX7_writesTime_0 : decode cX7_writesTime 0 = .ok (.aload_n 0, 1) := by decide +kernel
theorem dX7_writesTime_1 : decode cX7_writesTime 1 = .ok (.iload_n 1, 1) := by decide +kernel
theorem dX7_writesTime_2 : decode cX7_writesTime 2 = .ok (.sipush 1500, 3) := by decide +kernel
theorem dX7_writesTime_5 : decode cX7_writesTime 5 = .ok (.idiv, 1) := by decide +kernel
theorem dX7_writesTime_6 : decode cX7_writesTime 6 = .ok (.invokevirtual 244, 3) := by decide +kernel
theorem dX7_writesTime_9 : decode cX7_writesTime 9 = .ok (.aload_n 0, 1) := by decide +kernel
theorem dX7_writesTime_10 : decode cX7_writesTime 10 = .ok (.bipush 58, 2) := by decide +kernel
theorem dX7_writesTime_12 : decode cX7_writesTime 12 = .ok (.invokevirtual 239, 3) := by decide +kernel
theorem dX7_writesTime_15 : decode cX7_writesTime 15 = .ok (.aload_n 0, 1) := by decide +kernel
theorem dX7_writesTime_16 : decode cX7_writesTime 16 = .ok (.iload_n 1, 1) := by decide +kernel
theorem dX7_writesTime_17 : decode cX7_writesTime 17 = .ok (.bipush 25, 2) := by decide +kernel
theorem dX7_writesTime_19 : decode cX7_writesTime 19 = .ok (.idiv, 1) := by decide +kernel
theorem dX7_writesTime_20 : decode cX7_writesTime 20 = .ok (.bipush 60, 2) := by decide +kernel
theorem dX7_writesTime_22 : decode cX7_writesTime 22 = .ok (.irem, 1) := by decide +kernel
theorem dX7_writesTime_23 : decode cX7_writesTime 23 = .ok (.invokevirtual 247, 3) := by decide +kernel
theorem dX7_writesTime_26 : decode cX7_writesTime 26 = .ok (.aload_n 0, 1) := by decide +kernel
theorem dX7_writesTime_27 : decode cX7_writesTime 27 = .ok (.bipush 58, 2) := by decide +kernel
theorem dX7_writesTime_29 : decode cX7_writesTime 29 = .ok (.invokevirtual 239, 3) := by decide +kernel
theorem dX7_writesTime_32 : decode cX7_writesTime 32 = .ok (.aload_n 0, 1) := by decide +kernel
theorem dX7_writesTime_33 : decode cX7_writesTime 33 = .ok (.iload_n 1, 1) := by decide +kernel
theorem dX7_writesTime_34 : decode cX7_writesTime 34 = .ok (.bipush 25, 2) := by decide +kernel
theorem dX7_writesTime_36 : decode cX7_writesTime 36 = .ok (.irem, 1) := by decide +kernel
theorem dX7_writesTime_37 : decode cX7_writesTime 37 = .ok (.invokevirtual 247, 3) := by decide +kernel
theorem dX7_writesTime_40 : decode cX7_writesTime 40 = .ok (.return_, 1) := by decide +kernel
theorem dX7_writesRow_0 : decode cX7_writesRow 0 = .ok (.aload_n 0, 1) := by decide +kernel
theorem dX7_writesRow_1 : decode cX7_writesRow 1 = .ok (.getfield 77, 3) := by decide +kernel
theorem dX7_writesRow_4 : decode cX7_writesRow 4 = .ok (.iload_n 2, 1) := by decide +kernel
theorem dX7_writesRow_5 : decode cX7_writesRow 5 = .ok (.iaload, 1) := by decide +kernel
theorem dX7_writesRow_6 : decode cX7_writesRow 6 = .ok (.istore_n 3, 1) := by decide +kernel
theorem dX7_writesRow_7 : decode cX7_writesRow 7 = .ok (.iload_n 3, 1) := by decide +kernel
theorem dX7_writesRow_8 : decode cX7_writesRow 8 = .ok (.aload_n 0, 1) := by decide +kernel
theorem dX7_writesRow_9 : decode cX7_writesRow 9 = .ok (.getfield 80, 3) := by decide +kernel
theorem dX7_writesRow_12 : decode cX7_writesRow 12 = .ok (.iload_n 2, 1) := by decide +kernel
theorem dX7_writesRow_13 : decode cX7_writesRow 13 = .ok (.iaload, 1) := by decide +kernel
theorem dX7_writesRow_14 : decode cX7_writesRow 14 = .ok (.if_icmp .ge 24, 3) := by decide +kernel
theorem dX7_writesRow_17 : decode cX7_writesRow 17 = .ok (.aload_n 0, 1) := by decide +kernel
theorem dX7_writesRow_18 : decode cX7_writesRow 18 = .ok (.aload_n 0, 1) := by decide +kernel
theorem dX7_writesRow_19 : decode cX7_writesRow 19 = .ok (.getfield 43, 3) := by decide +kernel
theorem dX7_writesRow_22 : decode cX7_writesRow 22 = .ok (.bipush 60, 2) := by decide +kernel
theorem dX7_writesRow_24 : decode cX7_writesRow 24 = .ok (.iload_n 1, 1) := by decide +kernel
theorem dX7_writesRow_25 : decode cX7_writesRow 25 = .ok (.imul, 1) := by decide +kernel
theorem dX7_writesRow_26 : decode cX7_writesRow 26 = .ok (.iload_n 3, 1) := by decide +kernel
theorem dX7_writesRow_27 : decode cX7_writesRow 27 = .ok (.iadd, 1) := by decide +kernel
theorem dX7_writesRow_28 : decode cX7_writesRow 28 = .ok (.iaload, 1) := by decide +kernel
theorem dX7_writesRow_29 : decode cX7_writesRow 29 = .ok (.invokevirtual 250, 3) := by decide +kernel
theorem dX7_writesRow_32 : decode cX7_writesRow 32 = .ok (.iinc 3 1, 3) := by decide +kernel
theorem dX7_writesRow_35 : decode cX7_writesRow 35 = .ok (.goto (-28), 3) := by decide +kernel
theorem dX7_writesRow_38 : decode cX7_writesRow 38 = .ok (.return_, 1) := by decide +kernel
theorem dX7_writesLong_0 : decode cX7_writesLong 0 = .ok (.aload_n 0, 1) := by decide +kernel
theorem dX7_writesLong_1 : decode cX7_writesLong 1 = .ok (.iload_n 3, 1) := by decide +kernel
theorem dX7_writesLong_2 : decode cX7_writesLong 2 = .ok (.invokevirtual 244, 3) := by decide +kernel
theorem dX7_writesLong_5 : decode cX7_writesLong 5 = .ok (.aload_n 0, 1) := by decide +kernel
theorem dX7_writesLong_6 : decode cX7_writesLong 6 = .ok (.bipush 10, 2) := by decide +kernel
theorem dX7_writesLong_8 : decode cX7_writesLong 8 = .ok (.invokevirtual 239, 3) := by decide +kernel
theorem dX7_writesLong_11 : decode cX7_writesLong 11 = .ok (.aload_n 0, 1) := by decide +kernel
theorem dX7_writesLong_12 : decode cX7_writesLong 12 = .ok (.aload_n 0, 1) := by decide +kernel
theorem dX7_writesLong_13 : decode cX7_writesLong 13 = .ok (.getfield 28, 3) := by decide +kernel
theorem dX7_writesLong_16 : decode cX7_writesLong 16 = .ok (.iload_n 1, 1) := by decide +kernel
theorem dX7_writesLong_17 : decode cX7_writesLong 17 = .ok (.iaload, 1) := by decide +kernel
theorem dX7_writesLong_18 : decode cX7_writesLong 18 = .ok (.invokevirtual 253, 3) := by decide +kernel
theorem dX7_writesLong_21 : decode cX7_writesLong 21 = .ok (.aload_n 0, 1) := by decide +kernel
theorem dX7_writesLong_22 : decode cX7_writesLong 22 = .ok (.bipush 32, 2) := by decide +kernel
theorem dX7_writesLong_24 : decode cX7_writesLong 24 = .ok (.invokevirtual 239, 3) := by decide +kernel
theorem dX7_writesLong_27 : decode cX7_writesLong 27 = .ok (.aload_n 0, 1) := by decide +kernel
theorem dX7_writesLong_28 : decode cX7_writesLong 28 = .ok (.bipush 62, 2) := by decide +kernel
theorem dX7_writesLong_30 : decode cX7_writesLong 30 = .ok (.invokevirtual 239, 3) := by decide +kernel
theorem dX7_writesLong_33 : decode cX7_writesLong 33 = .ok (.aload_n 0, 1) := by decide +kernel
theorem dX7_writesLong_34 : decode cX7_writesLong 34 = .ok (.bipush 32, 2) := by decide +kernel
theorem dX7_writesLong_36 : decode cX7_writesLong 36 = .ok (.invokevirtual 239, 3) := by decide +kernel
theorem dX7_writesLong_39 : decode cX7_writesLong 39 = .ok (.aload_n 0, 1) := by decide +kernel
theorem dX7_writesLong_40 : decode cX7_writesLong 40 = .ok (.aload_n 0, 1) := by decide +kernel
theorem dX7_writesLong_41 : decode cX7_writesLong 41 = .ok (.getfield 28, 3) := by decide +kernel
theorem dX7_writesLong_44 : decode cX7_writesLong 44 = .ok (.iload_n 1, 1) := by decide +kernel
theorem dX7_writesLong_45 : decode cX7_writesLong 45 = .ok (.iaload, 1) := by decide +kernel
theorem dX7_writesLong_46 : decode cX7_writesLong 46 = .ok (.aload_n 0, 1) := by decide +kernel
theorem dX7_writesLong_47 : decode cX7_writesLong 47 = .ok (.getfield 31, 3) := by decide +kernel
theorem dX7_writesLong_50 : decode cX7_writesLong 50 = .ok (.iload_n 1, 1) := by decide +kernel
theorem dX7_writesLong_51 : decode cX7_writesLong 51 = .ok (.iaload, 1) := by decide +kernel
theorem dX7_writesLong_52 : decode cX7_writesLong 52 = .ok (.iadd, 1) := by decide +kernel
theorem dX7_writesLong_53 : decode cX7_writesLong 53 = .ok (.invokevirtual 253, 3) := by decide +kernel
theorem dX7_writesLong_56 : decode cX7_writesLong 56 = .ok (.aload_n 0, 1) := by decide +kernel
theorem dX7_writesLong_57 : decode cX7_writesLong 57 = .ok (.bipush 10, 2) := by decide +kernel
theorem dX7_writesLong_59 : decode cX7_writesLong 59 = .ok (.invokevirtual 239, 3) := by decide +kernel
theorem dX7_writesLong_62 : decode cX7_writesLong 62 = .ok (.iconst 0, 1) := by decide +kernel
theorem dX7_writesLong_63 : decode cX7_writesLong 63 = .ok (.istore 4, 2) := by decide +kernel
theorem dX7_writesLong_65 : decode cX7_writesLong 65 = .ok (.iload 4, 2) := by decide +kernel
theorem dX7_writesLong_67 : decode cX7_writesLong 67 = .ok (.aload_n 0, 1) := by decide +kernel
theorem dX7_writesLong_68 : decode cX7_writesLong 68 = .ok (.getfield 184, 3) := by decide +kernel
theorem dX7_writesLong_71 : decode cX7_writesLong 71 = .ok (.if_icmp .ge 84, 3) := by decide +kernel
theorem dX7_writesLong_74 : decode cX7_writesLong 74 = .ok (.aload_n 0, 1) := by decide +kernel
theorem dX7_writesLong_75 : decode cX7_writesLong 75 = .ok (.getfield 25, 3) := by decide +kernel
theorem dX7_writesLong_78 : decode cX7_writesLong 78 = .ok (.iload_n 1, 1) := by decide +kernel
theorem dX7_writesLong_79 : decode cX7_writesLong 79 = .ok (.iaload, 1) := by decide +kernel
theorem dX7_writesLong_80 : decode cX7_writesLong 80 = .ok (.iconst 2, 1) := by decide +kernel
theorem dX7_writesLong_81 : decode cX7_writesLong 81 = .ok (.if_icmp .ne 21, 3) := by decide +kernel
theorem dX7_writesLong_84 : decode cX7_writesLong 84 = .ok (.iload 4, 2) := by decide +kernel
theorem dX7_writesLong_86 : decode cX7_writesLong 86 = .ok (.ifCond .ne 16, 3) := by decide +kernel
theorem dX7_writesLong_89 : decode cX7_writesLong 89 = .ok (.aload_n 0, 1) := by decide +kernel
theorem dX7_writesLong_90 : decode cX7_writesLong 90 = .ok (.sipush 9834, 3) := by decide +kernel
theorem dX7_writesLong_93 : decode cX7_writesLong 93 = .ok (.invokevirtual 239, 3) := by decide +kernel
theorem dX7_writesLong_96 : decode cX7_writesLong 96 = .ok (.aload_n 0, 1) := by decide +kernel
theorem dX7_writesLong_97 : decode cX7_writesLong 97 = .ok (.bipush 32, 2) := by decide +kernel
theorem dX7_writesLong_99 : decode cX7_writesLong 99 = .ok (.invokevirtual 239, 3) := by decide +kernel
theorem dX7_writesLong_102 : decode cX7_writesLong 102 = .ok (.aload_n 0, 1) := by decide +kernel
theorem dX7_writesLong_103 : decode cX7_writesLong 103 = .ok (.iload_n 2, 1) := by decide +kernel
theorem dX7_writesLong_104 : decode cX7_writesLong 104 = .ok (.iload 4, 2) := by decide +kernel
theorem dX7_writesLong_106 : decode cX7_writesLong 106 = .ok (.invokevirtual 256, 3) := by decide +kernel
theorem dX7_writesLong_109 : decode cX7_writesLong 109 = .ok (.aload_n 0, 1) := by decide +kernel
theorem dX7_writesLong_110 : decode cX7_writesLong 110 = .ok (.getfield 25, 3) := by decide +kernel
theorem dX7_writesLong_113 : decode cX7_writesLong 113 = .ok (.iload_n 1, 1) := by decide +kernel
theorem dX7_writesLong_114 : decode cX7_writesLong 114 = .ok (.iaload, 1) := by decide +kernel
theorem dX7_writesLong_115 : decode cX7_writesLong 115 = .ok (.iconst 2, 1) := by decide +kernel
theorem dX7_writesLong_116 : decode cX7_writesLong 116 = .ok (.if_icmp .ne 27, 3) := by decide +kernel
theorem dX7_writesLong_119 : decode cX7_writesLong 119 = .ok (.iload 4, 2) := by decide +kernel
theorem dX7_writesLong_121 : decode cX7_writesLong 121 = .ok (.aload_n 0, 1) := by decide +kernel
theorem dX7_writesLong_122 : decode cX7_writesLong 122 = .ok (.getfield 184, 3) := by decide +kernel
theorem dX7_writesLong_125 : decode cX7_writesLong 125 = .ok (.iconst 1, 1) := by decide +kernel
theorem dX7_writesLong_126 : decode cX7_writesLong 126 = .ok (.isub, 1) := by decide +kernel
theorem dX7_writesLong_127 : decode cX7_writesLong 127 = .ok (.if_icmp .ne 16, 3) := by decide +kernel
theorem dX7_writesLong_130 : decode cX7_writesLong 130 = .ok (.aload_n 0, 1) := by decide +kernel
theorem dX7_writesLong_131 : decode cX7_writesLong 131 = .ok (.bipush 32, 2) := by decide +kernel
theorem dX7_writesLong_133 : decode cX7_writesLong 133 = .ok (.invokevirtual 239, 3) := by decide +kernel
theorem dX7_writesLong_136 : decode cX7_writesLong 136 = .ok (.aload_n 0, 1) := by decide +kernel
theorem dX7_writesLong_137 : decode cX7_writesLong 137 = .ok (.sipush 9834, 3) := by decide +kernel
theorem dX7_writesLong_140 : decode cX7_writesLong 140 = .ok (.invokevirtual 239, 3) := by decide +kernel
theorem dX7_writesLong_143 : decode cX7_writesLong 143 = .ok (.aload_n 0, 1) := by decide +kernel
theorem dX7_writesLong_144 : decode cX7_writesLong 144 = .ok (.bipush 10, 2) := by decide +kernel
theorem dX7_writesLong_146 : decode cX7_writesLong 146 = .ok (.invokevirtual 239, 3) := by decide +kernel
theorem dX7_writesLong_149 : decode cX7_writesLong 149 = .ok (.iinc 4 1, 3) := by decide +kernel
theorem dX7_writesLong_152 : decode cX7_writesLong 152 = .ok (.goto (-87), 3) := by decide +kernel
theorem dX7_writesLong_155 : decode cX7_writesLong 155 = .ok (.aload_n 0, 1) := by decide +kernel
theorem dX7_writesLong_156 : decode cX7_writesLong 156 = .ok (.bipush 10, 2) := by decide +kernel
theorem dX7_writesLong_158 : decode cX7_writesLong 158 = .ok (.invokevirtual 239, 3) := by decide +kernel
theorem dX7_writesLong_161 : decode cX7_writesLong 161 = .ok (.return_, 1) := by decide +kernel
theorem dX7_writesShort_0 : decode cX7_writesShort 0 = .ok (.aload_n 0, 1) := by decide +kernel
theorem dX7_writesShort_1 : decode cX7_writesShort 1 = .ok (.bipush 123, 2) := by decide +kernel
theorem dX7_writesShort_3 : decode cX7_writesShort 3 = .ok (.invokevirtual 239, 3) := by decide +kernel
theorem dX7_writesShort_6 : decode cX7_writesShort 6 = .ok (.aload_n 0, 1) := by decide +kernel
theorem dX7_writesShort_7 : decode cX7_writesShort 7 = .ok (.aload_n 0, 1) := by decide +kernel
theorem dX7_writesShort_8 : decode cX7_writesShort 8 = .ok (.getfield 28, 3) := by decide +kernel
theorem dX7_writesShort_11 : decode cX7_writesShort 11 = .ok (.iload_n 1, 1) := by decide +kernel
theorem dX7_writesShort_12 : decode cX7_writesShort 12 = .ok (.iaload, 1) := by decide +kernel
theorem dX7_writesShort_13 : decode cX7_writesShort 13 = .ok (.invokevirtual 244, 3) := by decide +kernel
theorem dX7_writesShort_16 : decode cX7_writesShort 16 = .ok (.aload_n 0, 1) := by decide +kernel
theorem dX7_writesShort_17 : decode cX7_writesShort 17 = .ok (.bipush 125, 2) := by decide +kernel
theorem dX7_writesShort_19 : decode cX7_writesShort 19 = .ok (.invokevirtual 239, 3) := by decide +kernel
theorem dX7_writesShort_22 : decode cX7_writesShort 22 = .ok (.aload_n 0, 1) := by decide +kernel
theorem dX7_writesShort_23 : decode cX7_writesShort 23 = .ok (.bipush 123, 2) := by decide +kernel
theorem dX7_writesShort_25 : decode cX7_writesShort 25 = .ok (.invokevirtual 239, 3) := by decide +kernel
theorem dX7_writesShort_28 : decode cX7_writesShort 28 = .ok (.aload_n 0, 1) := by decide +kernel
theorem dX7_writesShort_29 : decode cX7_writesShort 29 = .ok (.aload_n 0, 1) := by decide +kernel
theorem dX7_writesShort_30 : decode cX7_writesShort 30 = .ok (.getfield 28, 3) := by decide +kernel
theorem dX7_writesShort_33 : decode cX7_writesShort 33 = .ok (.iload_n 1, 1) := by decide +kernel
theorem dX7_writesShort_34 : decode cX7_writesShort 34 = .ok (.iaload, 1) := by decide +kernel
theorem dX7_writesShort_35 : decode cX7_writesShort 35 = .ok (.aload_n 0, 1) := by decide +kernel
theorem dX7_writesShort_36 : decode cX7_writesShort 36 = .ok (.getfield 31, 3) := by decide +kernel
theorem dX7_writesShort_39 : decode cX7_writesShort 39 = .ok (.iload_n 1, 1) := by decide +kernel
theorem dX7_writesShort_40 : decode cX7_writesShort 40 = .ok (.iaload, 1) := by decide +kernel
theorem dX7_writesShort_41 : decode cX7_writesShort 41 = .ok (.iadd, 1) := by decide +kernel
theorem dX7_writesShort_42 : decode cX7_writesShort 42 = .ok (.invokevirtual 244, 3) := by decide +kernel
theorem dX7_writesShort_45 : decode cX7_writesShort 45 = .ok (.aload_n 0, 1) := by decide +kernel
theorem dX7_writesShort_46 : decode cX7_writesShort 46 = .ok (.bipush 125, 2) := by decide +kernel
theorem dX7_writesShort_48 : decode cX7_writesShort 48 = .ok (.invokevirtual 239, 3) := by decide +kernel
theorem dX7_writesShort_51 : decode cX7_writesShort 51 = .ok (.aload_n 0, 1) := by decide +kernel
theorem dX7_writesShort_52 : decode cX7_writesShort 52 = .ok (.getfield 25, 3) := by decide +kernel
theorem dX7_writesShort_55 : decode cX7_writesShort 55 = .ok (.iload_n 1, 1) := by decide +kernel
theorem dX7_writesShort_56 : decode cX7_writesShort 56 = .ok (.iaload, 1) := by decide +kernel
theorem dX7_writesShort_57 : decode cX7_writesShort 57 = .ok (.iconst 2, 1) := by decide +kernel
theorem dX7_writesShort_58 : decode cX7_writesShort 58 = .ok (.if_icmp .lt 24, 3) := by decide +kernel
theorem dX7_writesShort_61 : decode cX7_writesShort 61 = .ok (.aload_n 0, 1) := by decide +kernel
theorem dX7_writesShort_62 : decode cX7_writesShort 62 = .ok (.aload_n 0, 1) := by decide +kernel
theorem dX7_writesShort_63 : decode cX7_writesShort 63 = .ok (.getfield 25, 3) := by decide +kernel
theorem dX7_writesShort_66 : decode cX7_writesShort 66 = .ok (.iload_n 1, 1) := by decide +kernel
theorem dX7_writesShort_67 : decode cX7_writesShort 67 = .ok (.iaload, 1) := by decide +kernel
theorem dX7_writesShort_68 : decode cX7_writesShort 68 = .ok (.iconst 2, 1) := by decide +kernel
theorem dX7_writesShort_69 : decode cX7_writesShort 69 = .ok (.if_icmp .ne 8, 3) := by decide +kernel
theorem dX7_writesShort_72 : decode cX7_writesShort 72 = .ok (.bipush 47, 2) := by decide +kernel
theorem dX7_writesShort_74 : decode cX7_writesShort 74 = .ok (.goto 5, 3) := by decide +kernel
theorem dX7_writesShort_77 : decode cX7_writesShort 77 = .ok (.bipush 94, 2) := by decide +kernel
theorem dX7_writesShort_79 : decode cX7_writesShort 79 = .ok (.invokevirtual 239, 3) := by decide +kernel
theorem dX7_writesShort_82 : decode cX7_writesShort 82 = .ok (.iconst 0, 1) := by decide +kernel
theorem dX7_writesShort_83 : decode cX7_writesShort 83 = .ok (.istore_n 3, 1) := by decide +kernel
theorem dX7_writesShort_84 : decode cX7_writesShort 84 = .ok (.iload_n 3, 1) := by decide +kernel
theorem dX7_writesShort_85 : decode cX7_writesShort 85 = .ok (.aload_n 0, 1) := by decide +kernel
theorem dX7_writesShort_86 : decode cX7_writesShort 86 = .ok (.getfield 184, 3) := by decide +kernel
theorem dX7_writesShort_89 : decode cX7_writesShort 89 = .ok (.if_icmp .ge 25, 3) := by decide +kernel
theorem dX7_writesShort_92 : decode cX7_writesShort 92 = .ok (.iload_n 3, 1) := by decide +kernel
theorem dX7_writesShort_93 : decode cX7_writesShort 93 = .ok (.ifCond .le 9, 3) := by decide +kernel
theorem dX7_writesShort_96 : decode cX7_writesShort 96 = .ok (.aload_n 0, 1) := by decide +kernel
theorem dX7_writesShort_97 : decode cX7_writesShort 97 = .ok (.bipush 124, 2) := by decide +kernel
theorem dX7_writesShort_99 : decode cX7_writesShort 99 = .ok (.invokevirtual 239, 3) := by decide +kernel
theorem dX7_writesShort_102 : decode cX7_writesShort 102 = .ok (.aload_n 0, 1) := by decide +kernel
theorem dX7_writesShort_103 : decode cX7_writesShort 103 = .ok (.iload_n 2, 1) := by decide +kernel
theorem dX7_writesShort_104 : decode cX7_writesShort 104 = .ok (.iload_n 3, 1) := by decide +kernel
theorem dX7_writesShort_105 : decode cX7_writesShort 105 = .ok (.invokevirtual 256, 3) := by decide +kernel
theorem dX7_writesShort_108 : decode cX7_writesShort 108 = .ok (.iinc 3 1, 3) := by decide +kernel
theorem dX7_writesShort_111 : decode cX7_writesShort 111 = .ok (.goto (-27), 3) := by decide +kernel
theorem dX7_writesShort_114 : decode cX7_writesShort 114 = .ok (.aload_n 0, 1) := by decide +kernel
theorem dX7_writesShort_115 : decode cX7_writesShort 115 = .ok (.bipush 10, 2) := by decide +kernel
theorem dX7_writesShort_117 : decode cX7_writesShort 117 = .ok (.invokevirtual 239, 3) := by decide +kernel
theorem dX7_writesShort_120 : decode cX7_writesShort 120 = .ok (.return_, 1) := by decide +kernel
theorem dX7_writesAll_0 : decode cX7_writesAll 0 = .ok (.aload_n 0, 1) := by decide +kernel
theorem dX7_writesAll_1 : decode cX7_writesAll 1 = .ok (.iconst 0, 1) := by decide +kernel
theorem dX7_writesAll_2 : decode cX7_writesAll 2 = .ok (.putfield 236, 3) := by decide +kernel
theorem dX7_writesAll_5 : decode cX7_writesAll 5 = .ok (.iconst 0, 1) := by decide +kernel
theorem dX7_writesAll_6 : decode cX7_writesAll 6 = .ok (.istore_n 3, 1) := by decide +kernel
theorem dX7_writesAll_7 : decode cX7_writesAll 7 = .ok (.iconst 0, 1) := by decide +kernel
theorem dX7_writesAll_8 : decode cX7_writesAll 8 = .ok (.istore 4, 2) := by decide +kernel
theorem dX7_writesAll_10 : decode cX7_writesAll 10 = .ok (.iload 4, 2) := by decide +kernel
theorem dX7_writesAll_12 : decode cX7_writesAll 12 = .ok (.aload_n 0, 1) := by decide +kernel
theorem dX7_writesAll_13 : decode cX7_writesAll 13 = .ok (.getfield 100, 3) := by decide +kernel
theorem dX7_writesAll_16 : decode cX7_writesAll 16 = .ok (.if_icmp .ge 82, 3) := by decide +kernel
theorem dX7_writesAll_19 : decode cX7_writesAll 19 = .ok (.aload_n 0, 1) := by decide +kernel
theorem dX7_writesAll_20 : decode cX7_writesAll 20 = .ok (.iload 4, 2) := by decide +kernel
theorem dX7_writesAll_22 : decode cX7_writesAll 22 = .ok (.invokevirtual 153, 3) := by decide +kernel
theorem dX7_writesAll_25 : decode cX7_writesAll 25 = .ok (.istore 5, 2) := by decide +kernel
theorem dX7_writesAll_27 : decode cX7_writesAll 27 = .ok (.iload 5, 2) := by decide +kernel
theorem dX7_writesAll_29 : decode cX7_writesAll 29 = .ok (.iconst (-1), 1) := by decide +kernel
theorem dX7_writesAll_30 : decode cX7_writesAll 30 = .ok (.if_icmp .eq 62, 3) := by decide +kernel
theorem dX7_writesAll_33 : decode cX7_writesAll 33 = .ok (.aload_n 0, 1) := by decide +kernel
theorem dX7_writesAll_34 : decode cX7_writesAll 34 = .ok (.getfield 40, 3) := by decide +kernel
theorem dX7_writesAll_37 : decode cX7_writesAll 37 = .ok (.iconst 3, 1) := by decide +kernel
theorem dX7_writesAll_38 : decode cX7_writesAll 38 = .ok (.iload 5, 2) := by decide +kernel
theorem dX7_writesAll_40 : decode cX7_writesAll 40 = .ok (.imul, 1) := by decide +kernel
theorem dX7_writesAll_41 : decode cX7_writesAll 41 = .ok (.iload_n 2, 1) := by decide +kernel
theorem dX7_writesAll_42 : decode cX7_writesAll 42 = .ok (.iadd, 1) := by decide +kernel
theorem dX7_writesAll_43 : decode cX7_writesAll 43 = .ok (.iaload, 1) := by decide +kernel
theorem dX7_writesAll_44 : decode cX7_writesAll 44 = .ok (.ifCond .le 48, 3) := by decide +kernel
theorem dX7_writesAll_47 : decode cX7_writesAll 47 = .ok (.iinc 3 1, 3) := by decide +kernel
theorem dX7_writesAll_50 : decode cX7_writesAll 50 = .ok (.aload_n 0, 1) := by decide +kernel
theorem dX7_writesAll_51 : decode cX7_writesAll 51 = .ok (.iconst 3, 1) := by decide +kernel
theorem dX7_writesAll_52 : decode cX7_writesAll 52 = .ok (.iload 5, 2) := by decide +kernel
theorem dX7_writesAll_54 : decode cX7_writesAll 54 = .ok (.imul, 1) := by decide +kernel
theorem dX7_writesAll_55 : decode cX7_writesAll 55 = .ok (.iload_n 2, 1) := by decide +kernel
theorem dX7_writesAll_56 : decode cX7_writesAll 56 = .ok (.iadd, 1) := by decide +kernel
theorem dX7_writesAll_57 : decode cX7_writesAll 57 = .ok (.invokevirtual 199, 3) := by decide +kernel
theorem dX7_writesAll_60 : decode cX7_writesAll 60 = .ok (.iload_n 1, 1) := by decide +kernel
theorem dX7_writesAll_61 : decode cX7_writesAll 61 = .ok (.ifCond .ne 19, 3) := by decide +kernel
theorem dX7_writesAll_64 : decode cX7_writesAll 64 = .ok (.aload_n 0, 1) := by decide +kernel
theorem dX7_writesAll_65 : decode cX7_writesAll 65 = .ok (.iload 5, 2) := by decide +kernel
theorem dX7_writesAll_67 : decode cX7_writesAll 67 = .ok (.iconst 3, 1) := by decide +kernel
theorem dX7_writesAll_68 : decode cX7_writesAll 68 = .ok (.iload 5, 2) := by decide +kernel
theorem dX7_writesAll_70 : decode cX7_writesAll 70 = .ok (.imul, 1) := by decide +kernel
theorem dX7_writesAll_71 : decode cX7_writesAll 71 = .ok (.iload_n 2, 1) := by decide +kernel
theorem dX7_writesAll_72 : decode cX7_writesAll 72 = .ok (.iadd, 1) := by decide +kernel
theorem dX7_writesAll_73 : decode cX7_writesAll 73 = .ok (.iload_n 3, 1) := by decide +kernel
theorem dX7_writesAll_74 : decode cX7_writesAll 74 = .ok (.invokevirtual 259, 3) := by decide +kernel
theorem dX7_writesAll_77 : decode cX7_writesAll 77 = .ok (.goto 15, 3) := by decide +kernel
theorem dX7_writesAll_80 : decode cX7_writesAll 80 = .ok (.aload_n 0, 1) := by decide +kernel
theorem dX7_writesAll_81 : decode cX7_writesAll 81 = .ok (.iload 5, 2) := by decide +kernel
theorem dX7_writesAll_83 : decode cX7_writesAll 83 = .ok (.iconst 3, 1) := by decide +kernel
theorem dX7_writesAll_84 : decode cX7_writesAll 84 = .ok (.iload 5, 2) := by decide +kernel
theorem dX7_writesAll_86 : decode cX7_writesAll 86 = .ok (.imul, 1) := by decide +kernel
theorem dX7_writesAll_87 : decode cX7_writesAll 87 = .ok (.iload_n 2, 1) := by decide +kernel
theorem dX7_writesAll_88 : decode cX7_writesAll 88 = .ok (.iadd, 1) := by decide +kernel
theorem dX7_writesAll_89 : decode cX7_writesAll 89 = .ok (.invokevirtual 262, 3) := by decide +kernel
theorem dX7_writesAll_92 : decode cX7_writesAll 92 = .ok (.iinc 4 1, 3) := by decide +kernel
theorem dX7_writesAll_95 : decode cX7_writesAll 95 = .ok (.goto (-85), 3) := by decide +kernel
theorem dX7_writesAll_98 : decode cX7_writesAll 98 = .ok (.return_, 1) := by decide +kernel
theorem dX7_written_0 : decode cX7_written 0 = .ok (.aload_n 0, 1) := by decide +kernel
theorem dX7_written_1 : decode cX7_written 1 = .ok (.iload_n 1, 1) := by decide +kernel
theorem dX7_written_2 : decode cX7_written 2 = .ok (.iconst 0, 1) := by decide +kernel
theorem dX7_written_3 : decode cX7_written 3 = .ok (.iconst 1, 1) := by decide +kernel
theorem dX7_written_4 : decode cX7_written 4 = .ok (.invokestatic 93, 3) := by decide +kernel
theorem dX7_written_7 : decode cX7_written 7 = .ok (.ifCond .ne 7, 3) := by decide +kernel
theorem dX7_written_10 : decode cX7_written 10 = .ok (.iconst 1, 1) := by decide +kernel
theorem dX7_written_11 : decode cX7_written 11 = .ok (.goto 17, 3) := by decide +kernel
theorem dX7_written_14 : decode cX7_written 14 = .ok (.iload_n 2, 1) := by decide +kernel
theorem dX7_written_15 : decode cX7_written 15 = .ok (.iconst 0, 1) := by decide +kernel
theorem dX7_written_16 : decode cX7_written 16 = .ok (.iconst 2, 1) := by decide +kernel
theorem dX7_written_17 : decode cX7_written 17 = .ok (.invokestatic 93, 3) := by decide +kernel
theorem dX7_written_20 : decode cX7_written 20 = .ok (.ifCond .eq 7, 3) := by decide +kernel
theorem dX7_written_23 : decode cX7_written 23 = .ok (.iconst 0, 1) := by decide +kernel
theorem dX7_written_24 : decode cX7_written 24 = .ok (.goto 4, 3) := by decide +kernel
theorem dX7_written_27 : decode cX7_written 27 = .ok (.iconst 2, 1) := by decide +kernel
theorem dX7_written_28 : decode cX7_written 28 = .ok (.putfield 87, 3) := by decide +kernel
theorem dX7_written_31 : decode cX7_written 31 = .ok (.aload_n 0, 1) := by decide +kernel
theorem dX7_written_32 : decode cX7_written 32 = .ok (.getfield 87, 3) := by decide +kernel
theorem dX7_written_35 : decode cX7_written 35 = .ok (.ifCond .le 5, 3) := by decide +kernel
theorem dX7_written_38 : decode cX7_written 38 = .ok (.iconst 0, 1) := by decide +kernel
theorem dX7_written_39 : decode cX7_written 39 = .ok (.ireturn, 1) := by decide +kernel
theorem dX7_written_40 : decode cX7_written 40 = .ok (.aload_n 0, 1) := by decide +kernel
theorem dX7_written_41 : decode cX7_written 41 = .ok (.iload_n 1, 1) := by decide +kernel
theorem dX7_written_42 : decode cX7_written 42 = .ok (.iload_n 2, 1) := by decide +kernel
theorem dX7_written_43 : decode cX7_written 43 = .ok (.invokevirtual 265, 3) := by decide +kernel
theorem dX7_written_46 : decode cX7_written 46 = .ok (.aload_n 0, 1) := by decide +kernel
theorem dX7_written_47 : decode cX7_written 47 = .ok (.getfield 236, 3) := by decide +kernel
theorem dX7_written_50 : decode cX7_written 50 = .ok (.ireturn, 1) := by decide +kernel
theorem dX7_writtenChar_0 : decode cX7_writtenChar 0 = .ok (.aload_n 0, 1) := by decide +kernel
theorem dX7_writtenChar_1 : decode cX7_writtenChar 1 = .ok (.iload_n 1, 1) := by decide +kernel
theorem dX7_writtenChar_2 : decode cX7_writtenChar 2 = .ok (.iconst 0, 1) := by decide +kernel
theorem dX7_writtenChar_3 : decode cX7_writtenChar 3 = .ok (.iconst 1, 1) := by decide +kernel
theorem dX7_writtenChar_4 : decode cX7_writtenChar 4 = .ok (.invokestatic 93, 3) := by decide +kernel
theorem dX7_writtenChar_7 : decode cX7_writtenChar 7 = .ok (.ifCond .ne 7, 3) := by decide +kernel
theorem dX7_writtenChar_10 : decode cX7_writtenChar 10 = .ok (.iconst 1, 1) := by decide +kernel
theorem dX7_writtenChar_11 : decode cX7_writtenChar 11 = .ok (.goto 17, 3) := by decide +kernel
theorem dX7_writtenChar_14 : decode cX7_writtenChar 14 = .ok (.iload_n 2, 1) := by decide +kernel
theorem dX7_writtenChar_15 : decode cX7_writtenChar 15 = .ok (.iconst 0, 1) := by decide +kernel
theorem dX7_writtenChar_16 : decode cX7_writtenChar 16 = .ok (.iconst 2, 1) := by decide +kernel
theorem dX7_writtenChar_17 : decode cX7_writtenChar 17 = .ok (.invokestatic 93, 3) := by decide +kernel
theorem dX7_writtenChar_20 : decode cX7_writtenChar 20 = .ok (.ifCond .eq 7, 3) := by decide +kernel
theorem dX7_writtenChar_23 : decode cX7_writtenChar 23 = .ok (.iconst 0, 1) := by decide +kernel
theorem dX7_writtenChar_24 : decode cX7_writtenChar 24 = .ok (.goto 4, 3) := by decide +kernel
theorem dX7_writtenChar_27 : decode cX7_writtenChar 27 = .ok (.iconst 2, 1) := by decide +kernel
theorem dX7_writtenChar_28 : decode cX7_writtenChar 28 = .ok (.putfield 87, 3) := by decide +kernel
theorem dX7_writtenChar_31 : decode cX7_writtenChar 31 = .ok (.aload_n 0, 1) := by decide +kernel
theorem dX7_writtenChar_32 : decode cX7_writtenChar 32 = .ok (.getfield 87, 3) := by decide +kernel
theorem dX7_writtenChar_35 : decode cX7_writtenChar 35 = .ok (.ifCond .ne 32, 3) := by decide +kernel
theorem dX7_writtenChar_38 : decode cX7_writtenChar 38 = .ok (.aload_n 0, 1) := by decide +kernel
theorem dX7_writtenChar_39 : decode cX7_writtenChar 39 = .ok (.iload_n 1, 1) := by decide +kernel
theorem dX7_writtenChar_40 : decode cX7_writtenChar 40 = .ok (.iload_n 2, 1) := by decide +kernel
theorem dX7_writtenChar_41 : decode cX7_writtenChar 41 = .ok (.invokevirtual 265, 3) := by decide +kernel
theorem dX7_writtenChar_44 : decode cX7_writtenChar 44 = .ok (.aload_n 0, 1) := by decide +kernel
theorem dX7_writtenChar_45 : decode cX7_writtenChar 45 = .ok (.iload_n 3, 1) := by decide +kernel
theorem dX7_writtenChar_46 : decode cX7_writtenChar 46 = .ok (.iconst 0, 1) := by decide +kernel
theorem dX7_writtenChar_47 : decode cX7_writtenChar 47 = .ok (.aload_n 0, 1) := by decide +kernel
theorem dX7_writtenChar_48 : decode cX7_writtenChar 48 = .ok (.getfield 236, 3) := by decide +kernel
theorem dX7_writtenChar_51 : decode cX7_writtenChar 51 = .ok (.iconst 1, 1) := by decide +kernel
theorem dX7_writtenChar_52 : decode cX7_writtenChar 52 = .ok (.isub, 1) := by decide +kernel
theorem dX7_writtenChar_53 : decode cX7_writtenChar 53 = .ok (.invokestatic 93, 3) := by decide +kernel
theorem dX7_writtenChar_56 : decode cX7_writtenChar 56 = .ok (.ifCond .eq 7, 3) := by decide +kernel
theorem dX7_writtenChar_59 : decode cX7_writtenChar 59 = .ok (.iconst 0, 1) := by decide +kernel
theorem dX7_writtenChar_60 : decode cX7_writtenChar 60 = .ok (.goto 4, 3) := by decide +kernel
theorem dX7_writtenChar_63 : decode cX7_writtenChar 63 = .ok (.iconst 2, 1) := by decide +kernel
theorem dX7_writtenChar_64 : decode cX7_writtenChar 64 = .ok (.putfield 87, 3) := by decide +kernel
theorem dX7_writtenChar_67 : decode cX7_writtenChar 67 = .ok (.aload_n 0, 1) := by decide +kernel
theorem dX7_writtenChar_68 : decode cX7_writtenChar 68 = .ok (.getfield 87, 3) := by decide +kernel
theorem dX7_writtenChar_71 : decode cX7_writtenChar 71 = .ok (.ifCond .le 8, 3) := by decide +kernel
theorem dX7_writtenChar_74 : decode cX7_writtenChar 74 = .ok (.bipush 32, 2) := by decide +kernel
theorem dX7_writtenChar_76 : decode cX7_writtenChar 76 = .ok (.goto 9, 3) := by decide +kernel
theorem dX7_writtenChar_79 : decode cX7_writtenChar 79 = .ok (.aload_n 0, 1) := by decide +kernel
theorem dX7_writtenChar_80 : decode cX7_writtenChar 80 = .ok (.getfield 83, 3) := by decide +kernel
theorem dX7_writtenChar_83 : decode cX7_writtenChar 83 = .ok (.iload_n 3, 1) := by decide +kernel
theorem dX7_writtenChar_84 : decode cX7_writtenChar 84 = .ok (.caload, 1) := by decide +kernel
theorem dX7_writtenChar_85 : decode cX7_writtenChar 85 = .ok (.ireturn, 1) := by decide +kernel
end
section
theorem dL_addShot_0 : decode cL_addShot 0 = .ok (.aload_n 2, 1) := by decide +kernel
theorem dL_addShot_1 : decode cL_addShot 1 = .ok (.iconst 0, 1) := by decide +kernel
theorem dL_addShot_2 : decode cL_addShot 2 = .ok (.aload_n 0, 1) := by decide +kernel
theorem dL_addShot_3 : decode cL_addShot 3 = .ok (.iload_n 1, 1) := by decide +kernel
theorem dL_addShot_4 : decode cL_addShot 4 = .ok (.invokevirtual 7, 3) := by decide +kernel
theorem dL_addShot_7 : decode cL_addShot 7 = .ok (.i2l, 1) := by decide +kernel
theorem dL_addShot_8 : decode cL_addShot 8 = .ok (.lastore, 1) := by decide +kernel
theorem dL_addShot_9 : decode cL_addShot 9 = .ok (.goto 9, 3) := by decide +kernel
theorem dL_addShot_12 : decode cL_addShot 12 = .ok (.astore_n 3, 1) := by decide +kernel
theorem dL_addShot_13 : decode cL_addShot 13 = .ok (.iconst 1, 1) := by decide +kernel
theorem dL_addShot_14 : decode cL_addShot 14 = .ok (.ireturn, 1) := by decide +kernel
theorem dL_addShot_15 : decode cL_addShot 15 = .ok (.astore_n 3, 1) := by decide +kernel
theorem dL_addShot_16 : decode cL_addShot 16 = .ok (.iconst 2, 1) := by decide +kernel
theorem dL_addShot_17 : decode cL_addShot 17 = .ok (.ireturn, 1) := by decide +kernel
theorem dL_addShot_18 : decode cL_addShot 18 = .ok (.iconst 0, 1) := by decide +kernel
theorem dL_addShot_19 : decode cL_addShot 19 = .ok (.ireturn, 1) := by decide +kernel
theorem dL_cut_0 : decode cL_cut 0 = .ok (.aload_n 3, 1) := by decide +kernel
theorem dL_cut_1 : decode cL_cut 1 = .ok (.iconst 0, 1) := by decide +kernel
theorem dL_cut_2 : decode cL_cut 2 = .ok (.aload_n 0, 1) := by decide +kernel
theorem dL_cut_3 : decode cL_cut 3 = .ok (.iload_n 1, 1) := by decide +kernel
theorem dL_cut_4 : decode cL_cut 4 = .ok (.iload_n 2, 1) := by decide +kernel
theorem dL_cut_5 : decode cL_cut 5 = .ok (.invokevirtual 17, 3) := by decide +kernel
theorem dL_cut_8 : decode cL_cut 8 = .ok (.i2l, 1) := by decide +kernel
theorem dL_cut_9 : decode cL_cut 9 = .ok (.lastore, 1) := by decide +kernel
theorem dL_cut_10 : decode cL_cut 10 = .ok (.goto 11, 3) := by decide +kernel
theorem dL_cut_13 : decode cL_cut 13 = .ok (.astore 4, 2) := by decide +kernel
theorem dL_cut_15 : decode cL_cut 15 = .ok (.iconst 1, 1) := by decide +kernel
theorem dL_cut_16 : decode cL_cut 16 = .ok (.ireturn, 1) := by decide +kernel
theorem dL_cut_17 : decode cL_cut 17 = .ok (.astore 4, 2) := by decide +kernel
theorem dL_cut_19 : decode cL_cut 19 = .ok (.iconst 2, 1) := by decide +kernel
theorem dL_cut_20 : decode cL_cut 20 = .ok (.ireturn, 1) := by decide +kernel
theorem dL_cut_21 : decode cL_cut 21 = .ok (.iconst 0, 1) := by decide +kernel
theorem dL_cut_22 : decode cL_cut 22 = .ok (.ireturn, 1) := by decide +kernel
theorem dL_move_0 : decode cL_move 0 = .ok (.aload 4, 2) := by decide +kernel
theorem dL_move_2 : decode cL_move 2 = .ok (.iconst 0, 1) := by decide +kernel
theorem dL_move_3 : decode cL_move 3 = .ok (.aload_n 0, 1) := by decide +kernel
theorem dL_move_4 : decode cL_move 4 = .ok (.iload_n 1, 1) := by decide +kernel
theorem dL_move_5 : decode cL_move 5 = .ok (.iload_n 2, 1) := by decide +kernel
theorem dL_move_6 : decode cL_move 6 = .ok (.iload_n 3, 1) := by decide +kernel
theorem dL_move_7 : decode cL_move 7 = .ok (.invokevirtual 23, 3) := by decide +kernel
theorem dL_move_10 : decode cL_move 10 = .ok (.i2l, 1) := by decide +kernel
theorem dL_move_11 : decode cL_move 11 = .ok (.lastore, 1) := by decide +kernel
theorem dL_move_12 : decode cL_move 12 = .ok (.goto 11, 3) := by decide +kernel
theorem dL_move_15 : decode cL_move 15 = .ok (.astore 5, 2) := by decide +kernel
theorem dL_move_17 : decode cL_move 17 = .ok (.iconst 1, 1) := by decide +kernel
theorem dL_move_18 : decode cL_move 18 = .ok (.ireturn, 1) := by decide +kernel
theorem dL_move_19 : decode cL_move 19 = .ok (.astore 5, 2) := by decide +kernel
theorem dL_move_21 : decode cL_move 21 = .ok (.iconst 2, 1) := by decide +kernel
theorem dL_move_22 : decode cL_move 22 = .ok (.ireturn, 1) := by decide +kernel
theorem dL_move_23 : decode cL_move 23 = .ok (.iconst 0, 1) := by decide +kernel
theorem dL_move_24 : decode cL_move 24 = .ok (.ireturn, 1) := by decide +kernel
theorem dL_putBack_0 : decode cL_putBack 0 = .ok (.aload 5, 2) := by decide +kernel
theorem dL_putBack_2 : decode cL_putBack 2 = .ok (.iconst 0, 1) := by decide +kernel
theorem dL_putBack_3 : decode cL_putBack 3 = .ok (.aload_n 0, 1) := by decide +kernel
theorem dL_putBack_4 : decode cL_putBack 4 = .ok (.iload_n 1, 1) := by decide +kernel
theorem dL_putBack_5 : decode cL_putBack 5 = .ok (.iload_n 2, 1) := by decide +kernel
theorem dL_putBack_6 : decode cL_putBack 6 = .ok (.iload_n 3, 1) := by decide +kernel
theorem dL_putBack_7 : decode cL_putBack 7 = .ok (.iload 4, 2) := by decide +kernel
theorem dL_putBack_9 : decode cL_putBack 9 = .ok (.invokevirtual 27, 3) := by decide +kernel
theorem dL_putBack_12 : decode cL_putBack 12 = .ok (.i2l, 1) := by decide +kernel
theorem dL_putBack_13 : decode cL_putBack 13 = .ok (.lastore, 1) := by decide +kernel
theorem dL_putBack_14 : decode cL_putBack 14 = .ok (.goto 15, 3) := by decide +kernel
theorem dL_putBack_17 : decode cL_putBack 17 = .ok (.astore 6, 2) := by decide +kernel
theorem dL_putBack_19 : decode cL_putBack 19 = .ok (.iconst 1, 1) := by decide +kernel
theorem dL_putBack_20 : decode cL_putBack 20 = .ok (.ireturn, 1) := by decide +kernel
theorem dL_putBack_21 : decode cL_putBack 21 = .ok (.astore 6, 2) := by decide +kernel
theorem dL_putBack_23 : decode cL_putBack 23 = .ok (.iconst 2, 1) := by decide +kernel
theorem dL_putBack_24 : decode cL_putBack 24 = .ok (.ireturn, 1) := by decide +kernel
theorem dL_putBack_25 : decode cL_putBack 25 = .ok (.astore 6, 2) := by decide +kernel
theorem dL_putBack_27 : decode cL_putBack 27 = .ok (.iconst 3, 1) := by decide +kernel
theorem dL_putBack_28 : decode cL_putBack 28 = .ok (.ireturn, 1) := by decide +kernel
theorem dL_putBack_29 : decode cL_putBack 29 = .ok (.iconst 0, 1) := by decide +kernel
theorem dL_putBack_30 : decode cL_putBack 30 = .ok (.ireturn, 1) := by decide +kernel
theorem dL_frameAt_0 : decode cL_frameAt 0 = .ok (.aload_n 2, 1) := by decide +kernel
theorem dL_frameAt_1 : decode cL_frameAt 1 = .ok (.iconst 0, 1) := by decide +kernel
theorem dL_frameAt_2 : decode cL_frameAt 2 = .ok (.aload_n 0, 1) := by decide +kernel
theorem dL_frameAt_3 : decode cL_frameAt 3 = .ok (.iload_n 1, 1) := by decide +kernel
theorem dL_frameAt_4 : decode cL_frameAt 4 = .ok (.invokevirtual 31, 3) := by decide +kernel
theorem dL_frameAt_7 : decode cL_frameAt 7 = .ok (.i2l, 1) := by decide +kernel
theorem dL_frameAt_8 : decode cL_frameAt 8 = .ok (.lastore, 1) := by decide +kernel
theorem dL_frameAt_9 : decode cL_frameAt 9 = .ok (.goto 6, 3) := by decide +kernel
theorem dL_frameAt_12 : decode cL_frameAt 12 = .ok (.astore_n 3, 1) := by decide +kernel
theorem dL_frameAt_13 : decode cL_frameAt 13 = .ok (.iconst 1, 1) := by decide +kernel
theorem dL_frameAt_14 : decode cL_frameAt 14 = .ok (.ireturn, 1) := by decide +kernel
theorem dL_frameAt_15 : decode cL_frameAt 15 = .ok (.iconst 0, 1) := by decide +kernel
theorem dL_frameAt_16 : decode cL_frameAt 16 = .ok (.ireturn, 1) := by decide +kernel
theorem dL_placeOf_0 : decode cL_placeOf 0 = .ok (.aload_n 3, 1) := by decide +kernel
theorem dL_placeOf_1 : decode cL_placeOf 1 = .ok (.iconst 0, 1) := by decide +kernel
theorem dL_placeOf_2 : decode cL_placeOf 2 = .ok (.aload_n 0, 1) := by decide +kernel
theorem dL_placeOf_3 : decode cL_placeOf 3 = .ok (.iload_n 1, 1) := by decide +kernel
theorem dL_placeOf_4 : decode cL_placeOf 4 = .ok (.iload_n 2, 1) := by decide +kernel
theorem dL_placeOf_5 : decode cL_placeOf 5 = .ok (.invokevirtual 34, 3) := by decide +kernel
theorem dL_placeOf_8 : decode cL_placeOf 8 = .ok (.i2l, 1) := by decide +kernel
theorem dL_placeOf_9 : decode cL_placeOf 9 = .ok (.lastore, 1) := by decide +kernel
theorem dL_placeOf_10 : decode cL_placeOf 10 = .ok (.goto 7, 3) := by decide +kernel
theorem dL_placeOf_13 : decode cL_placeOf 13 = .ok (.astore 4, 2) := by decide +kernel
theorem dL_placeOf_15 : decode cL_placeOf 15 = .ok (.iconst 1, 1) := by decide +kernel
theorem dL_placeOf_16 : decode cL_placeOf 16 = .ok (.ireturn, 1) := by decide +kernel
theorem dL_placeOf_17 : decode cL_placeOf 17 = .ok (.iconst 0, 1) := by decide +kernel
theorem dL_placeOf_18 : decode cL_placeOf 18 = .ok (.ireturn, 1) := by decide +kernel
theorem dL_isBoundary_0 : decode cL_isBoundary 0 = .ok (.aload_n 2, 1) := by decide +kernel
theorem dL_isBoundary_1 : decode cL_isBoundary 1 = .ok (.iconst 0, 1) := by decide +kernel
theorem dL_isBoundary_2 : decode cL_isBoundary 2 = .ok (.aload_n 0, 1) := by decide +kernel
theorem dL_isBoundary_3 : decode cL_isBoundary 3 = .ok (.iload_n 1, 1) := by decide +kernel
theorem dL_isBoundary_4 : decode cL_isBoundary 4 = .ok (.invokevirtual 37, 3) := by decide +kernel
theorem dL_isBoundary_7 : decode cL_isBoundary 7 = .ok (.ifCond .eq 7, 3) := by decide +kernel
theorem dL_isBoundary_10 : decode cL_isBoundary 10 = .ok (.lconst 1, 1) := by decide +kernel
theorem dL_isBoundary_11 : decode cL_isBoundary 11 = .ok (.goto 4, 3) := by decide +kernel
theorem dL_isBoundary_14 : decode cL_isBoundary 14 = .ok (.lconst 0, 1) := by decide +kernel
theorem dL_isBoundary_15 : decode cL_isBoundary 15 = .ok (.lastore, 1) := by decide +kernel
theorem dL_isBoundary_16 : decode cL_isBoundary 16 = .ok (.goto 6, 3) := by decide +kernel
theorem dL_isBoundary_19 : decode cL_isBoundary 19 = .ok (.astore_n 3, 1) := by decide +kernel
theorem dL_isBoundary_20 : decode cL_isBoundary 20 = .ok (.iconst 1, 1) := by decide +kernel
theorem dL_isBoundary_21 : decode cL_isBoundary 21 = .ok (.ireturn, 1) := by decide +kernel
theorem dL_isBoundary_22 : decode cL_isBoundary 22 = .ok (.iconst 0, 1) := by decide +kernel
theorem dL_isBoundary_23 : decode cL_isBoundary 23 = .ok (.ireturn, 1) := by decide +kernel
theorem dL_add_0 : decode cL_add 0 = .ok (.aload_n 3, 1) := by decide +kernel
theorem dL_add_1 : decode cL_add 1 = .ok (.iconst 0, 1) := by decide +kernel
theorem dL_add_2 : decode cL_add 2 = .ok (.aload_n 0, 1) := by decide +kernel
theorem dL_add_3 : decode cL_add 3 = .ok (.iload_n 1, 1) := by decide +kernel
theorem dL_add_4 : decode cL_add 4 = .ok (.iload_n 2, 1) := by decide +kernel
theorem dL_add_5 : decode cL_add 5 = .ok (.invokevirtual 41, 3) := by decide +kernel
theorem dL_add_8 : decode cL_add 8 = .ok (.i2l, 1) := by decide +kernel
theorem dL_add_9 : decode cL_add 9 = .ok (.lastore, 1) := by decide +kernel
theorem dL_add_10 : decode cL_add 10 = .ok (.goto 15, 3) := by decide +kernel
theorem dL_add_13 : decode cL_add 13 = .ok (.astore 4, 2) := by decide +kernel
theorem dL_add_15 : decode cL_add 15 = .ok (.iconst 1, 1) := by decide +kernel
theorem dL_add_16 : decode cL_add 16 = .ok (.ireturn, 1) := by decide +kernel
theorem dL_add_17 : decode cL_add 17 = .ok (.astore 4, 2) := by decide +kernel
theorem dL_add_19 : decode cL_add 19 = .ok (.iconst 2, 1) := by decide +kernel
theorem dL_add_20 : decode cL_add 20 = .ok (.ireturn, 1) := by decide +kernel
theorem dL_add_21 : decode cL_add 21 = .ok (.astore 4, 2) := by decide +kernel
theorem dL_add_23 : decode cL_add 23 = .ok (.iconst 3, 1) := by decide +kernel
theorem dL_add_24 : decode cL_add 24 = .ok (.ireturn, 1) := by decide +kernel
theorem dL_add_25 : decode cL_add 25 = .ok (.iconst 0, 1) := by decide +kernel
theorem dL_add_26 : decode cL_add 26 = .ok (.ireturn, 1) := by decide +kernel
theorem dL_lay_0 : decode cL_lay 0 = .ok (.aload 4, 2) := by decide +kernel
theorem dL_lay_2 : decode cL_lay 2 = .ok (.iconst 0, 1) := by decide +kernel
theorem dL_lay_3 : decode cL_lay 3 = .ok (.aload_n 0, 1) := by decide +kernel
theorem dL_lay_4 : decode cL_lay 4 = .ok (.iload_n 1, 1) := by decide +kernel
theorem dL_lay_5 : decode cL_lay 5 = .ok (.iload_n 2, 1) := by decide +kernel
theorem dL_lay_6 : decode cL_lay 6 = .ok (.iload_n 3, 1) := by decide +kernel
theorem dL_lay_7 : decode cL_lay 7 = .ok (.invokevirtual 44, 3) := by decide +kernel
theorem dL_lay_10 : decode cL_lay 10 = .ok (.i2l, 1) := by decide +kernel
theorem dL_lay_11 : decode cL_lay 11 = .ok (.lastore, 1) := by decide +kernel
theorem dL_lay_12 : decode cL_lay 12 = .ok (.goto 11, 3) := by decide +kernel
theorem dL_lay_15 : decode cL_lay 15 = .ok (.astore 5, 2) := by decide +kernel
theorem dL_lay_17 : decode cL_lay 17 = .ok (.iconst 1, 1) := by decide +kernel
theorem dL_lay_18 : decode cL_lay 18 = .ok (.ireturn, 1) := by decide +kernel
theorem dL_lay_19 : decode cL_lay 19 = .ok (.astore 5, 2) := by decide +kernel
theorem dL_lay_21 : decode cL_lay 21 = .ok (.iconst 2, 1) := by decide +kernel
theorem dL_lay_22 : decode cL_lay 22 = .ok (.ireturn, 1) := by decide +kernel
theorem dL_lay_23 : decode cL_lay 23 = .ok (.iconst 0, 1) := by decide +kernel
theorem dL_lay_24 : decode cL_lay 24 = .ok (.ireturn, 1) := by decide +kernel
theorem dL_setLook_0 : decode cL_setLook 0 = .ok (.aload_n 3, 1) := by decide +kernel
theorem dL_setLook_1 : decode cL_setLook 1 = .ok (.iconst 0, 1) := by decide +kernel
theorem dL_setLook_2 : decode cL_setLook 2 = .ok (.aload_n 0, 1) := by decide +kernel
theorem dL_setLook_3 : decode cL_setLook 3 = .ok (.iload_n 1, 1) := by decide +kernel
theorem dL_setLook_4 : decode cL_setLook 4 = .ok (.iload_n 2, 1) := by decide +kernel
theorem dL_setLook_5 : decode cL_setLook 5 = .ok (.invokevirtual 47, 3) := by decide +kernel
theorem dL_setLook_8 : decode cL_setLook 8 = .ok (.i2l, 1) := by decide +kernel
theorem dL_setLook_9 : decode cL_setLook 9 = .ok (.lastore, 1) := by decide +kernel
theorem dL_setLook_10 : decode cL_setLook 10 = .ok (.goto 11, 3) := by decide +kernel
theorem dL_setLook_13 : decode cL_setLook 13 = .ok (.astore 4, 2) := by decide +kernel
theorem dL_setLook_15 : decode cL_setLook 15 = .ok (.iconst 1, 1) := by decide +kernel
theorem dL_setLook_16 : decode cL_setLook 16 = .ok (.ireturn, 1) := by decide +kernel
theorem dL_setLook_17 : decode cL_setLook 17 = .ok (.astore 4, 2) := by decide +kernel
theorem dL_setLook_19 : decode cL_setLook 19 = .ok (.iconst 2, 1) := by decide +kernel
theorem dL_setLook_20 : decode cL_setLook 20 = .ok (.ireturn, 1) := by decide +kernel
theorem dL_setLook_21 : decode cL_setLook 21 = .ok (.iconst 0, 1) := by decide +kernel
theorem dL_setLook_22 : decode cL_setLook 22 = .ok (.ireturn, 1) := by decide +kernel
theorem dL_startOf_0 : decode cL_startOf 0 = .ok (.aload_n 2, 1) := by decide +kernel
theorem dL_startOf_1 : decode cL_startOf 1 = .ok (.iconst 0, 1) := by decide +kernel
theorem dL_startOf_2 : decode cL_startOf 2 = .ok (.aload_n 0, 1) := by decide +kernel
theorem dL_startOf_3 : decode cL_startOf 3 = .ok (.iload_n 1, 1) := by decide +kernel
theorem dL_startOf_4 : decode cL_startOf 4 = .ok (.invokevirtual 50, 3) := by decide +kernel
theorem dL_startOf_7 : decode cL_startOf 7 = .ok (.i2l, 1) := by decide +kernel
theorem dL_startOf_8 : decode cL_startOf 8 = .ok (.lastore, 1) := by decide +kernel
theorem dL_startOf_9 : decode cL_startOf 9 = .ok (.goto 6, 3) := by decide +kernel
theorem dL_startOf_12 : decode cL_startOf 12 = .ok (.astore_n 3, 1) := by decide +kernel
theorem dL_startOf_13 : decode cL_startOf 13 = .ok (.iconst 1, 1) := by decide +kernel
theorem dL_startOf_14 : decode cL_startOf 14 = .ok (.ireturn, 1) := by decide +kernel
theorem dL_startOf_15 : decode cL_startOf 15 = .ok (.iconst 0, 1) := by decide +kernel
theorem dL_startOf_16 : decode cL_startOf 16 = .ok (.ireturn, 1) := by decide +kernel
theorem dL_lengthOf_0 : decode cL_lengthOf 0 = .ok (.aload_n 2, 1) := by decide +kernel
theorem dL_lengthOf_1 : decode cL_lengthOf 1 = .ok (.iconst 0, 1) := by decide +kernel
theorem dL_lengthOf_2 : decode cL_lengthOf 2 = .ok (.aload_n 0, 1) := by decide +kernel
theorem dL_lengthOf_3 : decode cL_lengthOf 3 = .ok (.iload_n 1, 1) := by decide +kernel
theorem dL_lengthOf_4 : decode cL_lengthOf 4 = .ok (.invokevirtual 53, 3) := by decide +kernel
theorem dL_lengthOf_7 : decode cL_lengthOf 7 = .ok (.i2l, 1) := by decide +kernel
theorem dL_lengthOf_8 : decode cL_lengthOf 8 = .ok (.lastore, 1) := by decide +kernel
theorem dL_lengthOf_9 : decode cL_lengthOf 9 = .ok (.goto 6, 3) := by decide +kernel
theorem dL_lengthOf_12 : decode cL_lengthOf 12 = .ok (.astore_n 3, 1) := by decide +kernel
theorem dL_lengthOf_13 : decode cL_lengthOf 13 = .ok (.iconst 1, 1) := by decide +kernel
theorem dL_lengthOf_14 : decode cL_lengthOf 14 = .ok (.ireturn, 1) := by decide +kernel
theorem dL_lengthOf_15 : decode cL_lengthOf 15 = .ok (.iconst 0, 1) := by decide +kernel
theorem dL_lengthOf_16 : decode cL_lengthOf 16 = .ok (.ireturn, 1) := by decide +kernel
theorem dL_startByFrames_0 : decode cL_startByFrames 0 = .ok (.aload_n 2, 1) := by decide +kernel
theorem dL_startByFrames_1 : decode cL_startByFrames 1 = .ok (.iconst 0, 1) := by decide +kernel
theorem dL_startByFrames_2 : decode cL_startByFrames 2 = .ok (.aload_n 0, 1) := by decide +kernel
theorem dL_startByFrames_3 : decode cL_startByFrames 3 = .ok (.iload_n 1, 1) := by decide +kernel
theorem dL_startByFrames_4 : decode cL_startByFrames 4 = .ok (.invokevirtual 56, 3) := by decide +kernel
theorem dL_startByFrames_7 : decode cL_startByFrames 7 = .ok (.i2l, 1) := by decide +kernel
theorem dL_startByFrames_8 : decode cL_startByFrames 8 = .ok (.lastore, 1) := by decide +kernel
theorem dL_startByFrames_9 : decode cL_startByFrames 9 = .ok (.goto 6, 3) := by decide +kernel
theorem dL_startByFrames_12 : decode cL_startByFrames 12 = .ok (.astore_n 3, 1) := by decide +kernel
theorem dL_startByFrames_13 : decode cL_startByFrames 13 = .ok (.iconst 1, 1) := by decide +kernel
theorem dL_startByFrames_14 : decode cL_startByFrames 14 = .ok (.ireturn, 1) := by decide +kernel
theorem dL_startByFrames_15 : decode cL_startByFrames 15 = .ok (.iconst 0, 1) := by decide +kernel
theorem dL_startByFrames_16 : decode cL_startByFrames 16 = .ok (.ireturn, 1) := by decide +kernel
theorem dL_inOrder_0 : decode cL_inOrder 0 = .ok (.aload_n 2, 1) := by decide +kernel
theorem dL_inOrder_1 : decode cL_inOrder 1 = .ok (.iconst 0, 1) := by decide +kernel
theorem dL_inOrder_2 : decode cL_inOrder 2 = .ok (.aload_n 0, 1) := by decide +kernel
theorem dL_inOrder_3 : decode cL_inOrder 3 = .ok (.iload_n 1, 1) := by decide +kernel
theorem dL_inOrder_4 : decode cL_inOrder 4 = .ok (.invokevirtual 59, 3) := by decide +kernel
theorem dL_inOrder_7 : decode cL_inOrder 7 = .ok (.i2l, 1) := by decide +kernel
theorem dL_inOrder_8 : decode cL_inOrder 8 = .ok (.lastore, 1) := by decide +kernel
theorem dL_inOrder_9 : decode cL_inOrder 9 = .ok (.goto 6, 3) := by decide +kernel
theorem dL_inOrder_12 : decode cL_inOrder 12 = .ok (.astore_n 3, 1) := by decide +kernel
theorem dL_inOrder_13 : decode cL_inOrder 13 = .ok (.iconst 1, 1) := by decide +kernel
theorem dL_inOrder_14 : decode cL_inOrder 14 = .ok (.ireturn, 1) := by decide +kernel
theorem dL_inOrder_15 : decode cL_inOrder 15 = .ok (.iconst 0, 1) := by decide +kernel
theorem dL_inOrder_16 : decode cL_inOrder 16 = .ok (.ireturn, 1) := by decide +kernel
theorem dL_type_0 : decode cL_type 0 = .ok (.aload 4, 2) := by decide +kernel
theorem dL_type_2 : decode cL_type 2 = .ok (.iconst 0, 1) := by decide +kernel
theorem dL_type_3 : decode cL_type 3 = .ok (.aload_n 0, 1) := by decide +kernel
theorem dL_type_4 : decode cL_type 4 = .ok (.iload_n 1, 1) := by decide +kernel
theorem dL_type_5 : decode cL_type 5 = .ok (.iload_n 2, 1) := by decide +kernel
theorem dL_type_6 : decode cL_type 6 = .ok (.iload_n 3, 1) := by decide +kernel
theorem dL_type_7 : decode cL_type 7 = .ok (.invokevirtual 62, 3) := by decide +kernel
theorem dL_type_10 : decode cL_type 10 = .ok (.i2l, 1) := by decide +kernel
theorem dL_type_11 : decode cL_type 11 = .ok (.lastore, 1) := by decide +kernel
theorem dL_type_12 : decode cL_type 12 = .ok (.goto 15, 3) := by decide +kernel
theorem dL_type_15 : decode cL_type 15 = .ok (.astore 5, 2) := by decide +kernel
theorem dL_type_17 : decode cL_type 17 = .ok (.iconst 1, 1) := by decide +kernel
theorem dL_type_18 : decode cL_type 18 = .ok (.ireturn, 1) := by decide +kernel
theorem dL_type_19 : decode cL_type 19 = .ok (.astore 5, 2) := by decide +kernel
theorem dL_type_21 : decode cL_type 21 = .ok (.iconst 2, 1) := by decide +kernel
theorem dL_type_22 : decode cL_type 22 = .ok (.ireturn, 1) := by decide +kernel
theorem dL_type_23 : decode cL_type 23 = .ok (.astore 5, 2) := by decide +kernel
theorem dL_type_25 : decode cL_type 25 = .ok (.iconst 3, 1) := by decide +kernel
theorem dL_type_26 : decode cL_type 26 = .ok (.ireturn, 1) := by decide +kernel
theorem dL_type_27 : decode cL_type 27 = .ok (.iconst 0, 1) := by decide +kernel
theorem dL_type_28 : decode cL_type 28 = .ok (.ireturn, 1) := by decide +kernel
theorem dL_erase_0 : decode cL_erase 0 = .ok (.aload_n 3, 1) := by decide +kernel
theorem dL_erase_1 : decode cL_erase 1 = .ok (.iconst 0, 1) := by decide +kernel
theorem dL_erase_2 : decode cL_erase 2 = .ok (.aload_n 0, 1) := by decide +kernel
theorem dL_erase_3 : decode cL_erase 3 = .ok (.iload_n 1, 1) := by decide +kernel
theorem dL_erase_4 : decode cL_erase 4 = .ok (.iload_n 2, 1) := by decide +kernel
theorem dL_erase_5 : decode cL_erase 5 = .ok (.invokevirtual 65, 3) := by decide +kernel
theorem dL_erase_8 : decode cL_erase 8 = .ok (.i2l, 1) := by decide +kernel
theorem dL_erase_9 : decode cL_erase 9 = .ok (.lastore, 1) := by decide +kernel
theorem dL_erase_10 : decode cL_erase 10 = .ok (.goto 11, 3) := by decide +kernel
theorem dL_erase_13 : decode cL_erase 13 = .ok (.astore 4, 2) := by decide +kernel
theorem dL_erase_15 : decode cL_erase 15 = .ok (.iconst 1, 1) := by decide +kernel
theorem dL_erase_16 : decode cL_erase 16 = .ok (.ireturn, 1) := by decide +kernel
theorem dL_erase_17 : decode cL_erase 17 = .ok (.astore 4, 2) := by decide +kernel
theorem dL_erase_19 : decode cL_erase 19 = .ok (.iconst 2, 1) := by decide +kernel
theorem dL_erase_20 : decode cL_erase 20 = .ok (.ireturn, 1) := by decide +kernel
theorem dL_erase_21 : decode cL_erase 21 = .ok (.iconst 0, 1) := by decide +kernel
theorem dL_erase_22 : decode cL_erase 22 = .ok (.ireturn, 1) := by decide +kernel
theorem dL_signs_0 : decode cL_signs 0 = .ok (.aload_n 3, 1) := by decide +kernel
theorem dL_signs_1 : decode cL_signs 1 = .ok (.iconst 0, 1) := by decide +kernel
theorem dL_signs_2 : decode cL_signs 2 = .ok (.aload_n 0, 1) := by decide +kernel
theorem dL_signs_3 : decode cL_signs 3 = .ok (.iload_n 1, 1) := by decide +kernel
theorem dL_signs_4 : decode cL_signs 4 = .ok (.iload_n 2, 1) := by decide +kernel
theorem dL_signs_5 : decode cL_signs 5 = .ok (.invokevirtual 68, 3) := by decide +kernel
theorem dL_signs_8 : decode cL_signs 8 = .ok (.i2l, 1) := by decide +kernel
theorem dL_signs_9 : decode cL_signs 9 = .ok (.lastore, 1) := by decide +kernel
theorem dL_signs_10 : decode cL_signs 10 = .ok (.goto 7, 3) := by decide +kernel
theorem dL_signs_13 : decode cL_signs 13 = .ok (.astore 4, 2) := by decide +kernel
theorem dL_signs_15 : decode cL_signs 15 = .ok (.iconst 1, 1) := by decide +kernel
theorem dL_signs_16 : decode cL_signs 16 = .ok (.ireturn, 1) := by decide +kernel
theorem dL_signs_17 : decode cL_signs 17 = .ok (.iconst 0, 1) := by decide +kernel
theorem dL_signs_18 : decode cL_signs 18 = .ok (.ireturn, 1) := by decide +kernel
theorem dL_signAt_0 : decode cL_signAt 0 = .ok (.aload 4, 2) := by decide +kernel
theorem dL_signAt_2 : decode cL_signAt 2 = .ok (.iconst 0, 1) := by decide +kernel
theorem dL_signAt_3 : decode cL_signAt 3 = .ok (.aload_n 0, 1) := by decide +kernel
theorem dL_signAt_4 : decode cL_signAt 4 = .ok (.iload_n 1, 1) := by decide +kernel
theorem dL_signAt_5 : decode cL_signAt 5 = .ok (.iload_n 2, 1) := by decide +kernel
theorem dL_signAt_6 : decode cL_signAt 6 = .ok (.iload_n 3, 1) := by decide +kernel
theorem dL_signAt_7 : decode cL_signAt 7 = .ok (.invokevirtual 71, 3) := by decide +kernel
theorem dL_signAt_10 : decode cL_signAt 10 = .ok (.i2l, 1) := by decide +kernel
theorem dL_signAt_11 : decode cL_signAt 11 = .ok (.lastore, 1) := by decide +kernel
theorem dL_signAt_12 : decode cL_signAt 12 = .ok (.goto 7, 3) := by decide +kernel
theorem dL_signAt_15 : decode cL_signAt 15 = .ok (.astore 5, 2) := by decide +kernel
theorem dL_signAt_17 : decode cL_signAt 17 = .ok (.iconst 1, 1) := by decide +kernel
theorem dL_signAt_18 : decode cL_signAt 18 = .ok (.ireturn, 1) := by decide +kernel
theorem dL_signAt_19 : decode cL_signAt 19 = .ok (.iconst 0, 1) := by decide +kernel
theorem dL_signAt_20 : decode cL_signAt 20 = .ok (.ireturn, 1) := by decide +kernel
theorem dL_width_0 : decode cL_width 0 = .ok (.aload_n 3, 1) := by decide +kernel
theorem dL_width_1 : decode cL_width 1 = .ok (.iconst 0, 1) := by decide +kernel
theorem dL_width_2 : decode cL_width 2 = .ok (.aload_n 0, 1) := by decide +kernel
theorem dL_width_3 : decode cL_width 3 = .ok (.iload_n 1, 1) := by decide +kernel
theorem dL_width_4 : decode cL_width 4 = .ok (.iload_n 2, 1) := by decide +kernel
theorem dL_width_5 : decode cL_width 5 = .ok (.invokevirtual 74, 3) := by decide +kernel
theorem dL_width_8 : decode cL_width 8 = .ok (.i2l, 1) := by decide +kernel
theorem dL_width_9 : decode cL_width 9 = .ok (.lastore, 1) := by decide +kernel
theorem dL_width_10 : decode cL_width 10 = .ok (.goto 7, 3) := by decide +kernel
theorem dL_width_13 : decode cL_width 13 = .ok (.astore 4, 2) := by decide +kernel
theorem dL_width_15 : decode cL_width 15 = .ok (.iconst 1, 1) := by decide +kernel
theorem dL_width_16 : decode cL_width 16 = .ok (.ireturn, 1) := by decide +kernel
theorem dL_width_17 : decode cL_width 17 = .ok (.iconst 0, 1) := by decide +kernel
theorem dL_width_18 : decode cL_width 18 = .ok (.ireturn, 1) := by decide +kernel
theorem dL_rows_0 : decode cL_rows 0 = .ok (.aload_n 3, 1) := by decide +kernel
theorem dL_rows_1 : decode cL_rows 1 = .ok (.iconst 0, 1) := by decide +kernel
theorem dL_rows_2 : decode cL_rows 2 = .ok (.aload_n 0, 1) := by decide +kernel
theorem dL_rows_3 : decode cL_rows 3 = .ok (.iload_n 1, 1) := by decide +kernel
theorem dL_rows_4 : decode cL_rows 4 = .ok (.iload_n 2, 1) := by decide +kernel
theorem dL_rows_5 : decode cL_rows 5 = .ok (.invokevirtual 77, 3) := by decide +kernel
theorem dL_rows_8 : decode cL_rows 8 = .ok (.i2l, 1) := by decide +kernel
theorem dL_rows_9 : decode cL_rows 9 = .ok (.lastore, 1) := by decide +kernel
theorem dL_rows_10 : decode cL_rows 10 = .ok (.goto 7, 3) := by decide +kernel
theorem dL_rows_13 : decode cL_rows 13 = .ok (.astore 4, 2) := by decide +kernel
theorem dL_rows_15 : decode cL_rows 15 = .ok (.iconst 1, 1) := by decide +kernel
theorem dL_rows_16 : decode cL_rows 16 = .ok (.ireturn, 1) := by decide +kernel
theorem dL_rows_17 : decode cL_rows 17 = .ok (.iconst 0, 1) := by decide +kernel
theorem dL_rows_18 : decode cL_rows 18 = .ok (.ireturn, 1) := by decide +kernel
theorem dL_row_0 : decode cL_row 0 = .ok (.aload 4, 2) := by decide +kernel
theorem dL_row_2 : decode cL_row 2 = .ok (.iconst 0, 1) := by decide +kernel
theorem dL_row_3 : decode cL_row 3 = .ok (.aload_n 0, 1) := by decide +kernel
theorem dL_row_4 : decode cL_row 4 = .ok (.iload_n 1, 1) := by decide +kernel
theorem dL_row_5 : decode cL_row 5 = .ok (.iload_n 2, 1) := by decide +kernel
theorem dL_row_6 : decode cL_row 6 = .ok (.iload_n 3, 1) := by decide +kernel
theorem dL_row_7 : decode cL_row 7 = .ok (.invokevirtual 80, 3) := by decide +kernel
theorem dL_row_10 : decode cL_row 10 = .ok (.i2l, 1) := by decide +kernel
theorem dL_row_11 : decode cL_row 11 = .ok (.lastore, 1) := by decide +kernel
theorem dL_row_12 : decode cL_row 12 = .ok (.goto 7, 3) := by decide +kernel
theorem dL_row_15 : decode cL_row 15 = .ok (.astore 5, 2) := by decide +kernel
theorem dL_row_17 : decode cL_row 17 = .ok (.iconst 1, 1) := by decide +kernel
theorem dL_row_18 : decode cL_row 18 = .ok (.ireturn, 1) := by decide +kernel
theorem dL_row_19 : decode cL_row 19 = .ok (.iconst 0, 1) := by decide +kernel
theorem dL_row_20 : decode cL_row 20 = .ok (.ireturn, 1) := by decide +kernel
theorem dL_setLimits_0 : decode cL_setLimits 0 = .ok (.aload_n 3, 1) := by decide +kernel
theorem dL_setLimits_1 : decode cL_setLimits 1 = .ok (.iconst 0, 1) := by decide +kernel
theorem dL_setLimits_2 : decode cL_setLimits 2 = .ok (.aload_n 0, 1) := by decide +kernel
theorem dL_setLimits_3 : decode cL_setLimits 3 = .ok (.iload_n 1, 1) := by decide +kernel
theorem dL_setLimits_4 : decode cL_setLimits 4 = .ok (.iload_n 2, 1) := by decide +kernel
theorem dL_setLimits_5 : decode cL_setLimits 5 = .ok (.invokevirtual 83, 3) := by decide +kernel
theorem dL_setLimits_8 : decode cL_setLimits 8 = .ok (.i2l, 1) := by decide +kernel
theorem dL_setLimits_9 : decode cL_setLimits 9 = .ok (.lastore, 1) := by decide +kernel
theorem dL_setLimits_10 : decode cL_setLimits 10 = .ok (.goto 7, 3) := by decide +kernel
theorem dL_setLimits_13 : decode cL_setLimits 13 = .ok (.astore 4, 2) := by decide +kernel
theorem dL_setLimits_15 : decode cL_setLimits 15 = .ok (.iconst 1, 1) := by decide +kernel
theorem dL_setLimits_16 : decode cL_setLimits 16 = .ok (.ireturn, 1) := by decide +kernel
theorem dL_setLimits_17 : decode cL_setLimits 17 = .ok (.iconst 0, 1) := by decide +kernel
theorem dL_setLimits_18 : decode cL_setLimits 18 = .ok (.ireturn, 1) := by decide +kernel
theorem dL_confirm_0 : decode cL_confirm 0 = .ok (.aload_n 3, 1) := by decide +kernel
theorem dL_confirm_1 : decode cL_confirm 1 = .ok (.iconst 0, 1) := by decide +kernel
theorem dL_confirm_2 : decode cL_confirm 2 = .ok (.aload_n 0, 1) := by decide +kernel
theorem dL_confirm_3 : decode cL_confirm 3 = .ok (.iload_n 1, 1) := by decide +kernel
theorem dL_confirm_4 : decode cL_confirm 4 = .ok (.iload_n 2, 1) := by decide +kernel
theorem dL_confirm_5 : decode cL_confirm 5 = .ok (.invokevirtual 86, 3) := by decide +kernel
theorem dL_confirm_8 : decode cL_confirm 8 = .ok (.i2l, 1) := by decide +kernel
theorem dL_confirm_9 : decode cL_confirm 9 = .ok (.lastore, 1) := by decide +kernel
theorem dL_confirm_10 : decode cL_confirm 10 = .ok (.goto 11, 3) := by decide +kernel
theorem dL_confirm_13 : decode cL_confirm 13 = .ok (.astore 4, 2) := by decide +kernel
theorem dL_confirm_15 : decode cL_confirm 15 = .ok (.iconst 1, 1) := by decide +kernel
theorem dL_confirm_16 : decode cL_confirm 16 = .ok (.ireturn, 1) := by decide +kernel
theorem dL_confirm_17 : decode cL_confirm 17 = .ok (.astore 4, 2) := by decide +kernel
theorem dL_confirm_19 : decode cL_confirm 19 = .ok (.iconst 2, 1) := by decide +kernel
theorem dL_confirm_20 : decode cL_confirm 20 = .ok (.ireturn, 1) := by decide +kernel
theorem dL_confirm_21 : decode cL_confirm 21 = .ok (.iconst 0, 1) := by decide +kernel
theorem dL_confirm_22 : decode cL_confirm 22 = .ok (.ireturn, 1) := by decide +kernel
theorem dL_fill_0 : decode cL_fill 0 = .ok (.aload_n 2, 1) := by decide +kernel
theorem dL_fill_1 : decode cL_fill 1 = .ok (.iconst 0, 1) := by decide +kernel
theorem dL_fill_2 : decode cL_fill 2 = .ok (.aload_n 0, 1) := by decide +kernel
theorem dL_fill_3 : decode cL_fill 3 = .ok (.iload_n 1, 1) := by decide +kernel
theorem dL_fill_4 : decode cL_fill 4 = .ok (.invokevirtual 89, 3) := by decide +kernel
theorem dL_fill_7 : decode cL_fill 7 = .ok (.i2l, 1) := by decide +kernel
theorem dL_fill_8 : decode cL_fill 8 = .ok (.lastore, 1) := by decide +kernel
theorem dL_fill_9 : decode cL_fill 9 = .ok (.goto 6, 3) := by decide +kernel
theorem dL_fill_12 : decode cL_fill 12 = .ok (.astore_n 3, 1) := by decide +kernel
theorem dL_fill_13 : decode cL_fill 13 = .ok (.iconst 1, 1) := by decide +kernel
theorem dL_fill_14 : decode cL_fill 14 = .ok (.ireturn, 1) := by decide +kernel
theorem dL_fill_15 : decode cL_fill 15 = .ok (.iconst 0, 1) := by decide +kernel
theorem dL_fill_16 : decode cL_fill 16 = .ok (.ireturn, 1) := by decide +kernel
theorem dL_isStale_0 : decode cL_isStale 0 = .ok (.aload_n 3, 1) := by decide +kernel
theorem dL_isStale_1 : decode cL_isStale 1 = .ok (.iconst 0, 1) := by decide +kernel
theorem dL_isStale_2 : decode cL_isStale 2 = .ok (.aload_n 0, 1) := by decide +kernel
theorem dL_isStale_3 : decode cL_isStale 3 = .ok (.iload_n 1, 1) := by decide +kernel
theorem dL_isStale_4 : decode cL_isStale 4 = .ok (.iload_n 2, 1) := by decide +kernel
theorem dL_isStale_5 : decode cL_isStale 5 = .ok (.invokevirtual 92, 3) := by decide +kernel
theorem dL_isStale_8 : decode cL_isStale 8 = .ok (.ifCond .eq 7, 3) := by decide +kernel
theorem dL_isStale_11 : decode cL_isStale 11 = .ok (.lconst 1, 1) := by decide +kernel
theorem dL_isStale_12 : decode cL_isStale 12 = .ok (.goto 4, 3) := by decide +kernel
theorem dL_isStale_15 : decode cL_isStale 15 = .ok (.lconst 0, 1) := by decide +kernel
theorem dL_isStale_16 : decode cL_isStale 16 = .ok (.lastore, 1) := by decide +kernel
theorem dL_isStale_17 : decode cL_isStale 17 = .ok (.goto 7, 3) := by decide +kernel
theorem dL_isStale_20 : decode cL_isStale 20 = .ok (.astore 4, 2) := by decide +kernel
theorem dL_isStale_22 : decode cL_isStale 22 = .ok (.iconst 1, 1) := by decide +kernel
theorem dL_isStale_23 : decode cL_isStale 23 = .ok (.ireturn, 1) := by decide +kernel
theorem dL_isStale_24 : decode cL_isStale 24 = .ok (.iconst 0, 1) := by decide +kernel
theorem dL_isStale_25 : decode cL_isStale 25 = .ok (.ireturn, 1) := by decide +kernel
theorem dL_memory_0 : decode cL_memory 0 = .ok (.aload_n 2, 1) := by decide +kernel
theorem dL_memory_1 : decode cL_memory 1 = .ok (.iconst 0, 1) := by decide +kernel
theorem dL_memory_2 : decode cL_memory 2 = .ok (.aload_n 0, 1) := by decide +kernel
theorem dL_memory_3 : decode cL_memory 3 = .ok (.iload_n 1, 1) := by decide +kernel
theorem dL_memory_4 : decode cL_memory 4 = .ok (.invokevirtual 96, 3) := by decide +kernel
theorem dL_memory_7 : decode cL_memory 7 = .ok (.i2l, 1) := by decide +kernel
theorem dL_memory_8 : decode cL_memory 8 = .ok (.lastore, 1) := by decide +kernel
theorem dL_memory_9 : decode cL_memory 9 = .ok (.goto 6, 3) := by decide +kernel
theorem dL_memory_12 : decode cL_memory 12 = .ok (.astore_n 3, 1) := by decide +kernel
theorem dL_memory_13 : decode cL_memory 13 = .ok (.iconst 1, 1) := by decide +kernel
theorem dL_memory_14 : decode cL_memory 14 = .ok (.ireturn, 1) := by decide +kernel
theorem dL_memory_15 : decode cL_memory 15 = .ok (.iconst 0, 1) := by decide +kernel
theorem dL_memory_16 : decode cL_memory 16 = .ok (.ireturn, 1) := by decide +kernel
theorem dL_broken_0 : decode cL_broken 0 = .ok (.aload_n 3, 1) := by decide +kernel
theorem dL_broken_1 : decode cL_broken 1 = .ok (.iconst 0, 1) := by decide +kernel
theorem dL_broken_2 : decode cL_broken 2 = .ok (.aload_n 0, 1) := by decide +kernel
theorem dL_broken_3 : decode cL_broken 3 = .ok (.iload_n 1, 1) := by decide +kernel
theorem dL_broken_4 : decode cL_broken 4 = .ok (.iload_n 2, 1) := by decide +kernel
theorem dL_broken_5 : decode cL_broken 5 = .ok (.invokevirtual 99, 3) := by decide +kernel
theorem dL_broken_8 : decode cL_broken 8 = .ok (.i2l, 1) := by decide +kernel
theorem dL_broken_9 : decode cL_broken 9 = .ok (.lastore, 1) := by decide +kernel
theorem dL_broken_10 : decode cL_broken 10 = .ok (.goto 7, 3) := by decide +kernel
theorem dL_broken_13 : decode cL_broken 13 = .ok (.astore 4, 2) := by decide +kernel
theorem dL_broken_15 : decode cL_broken 15 = .ok (.iconst 1, 1) := by decide +kernel
theorem dL_broken_16 : decode cL_broken 16 = .ok (.ireturn, 1) := by decide +kernel
theorem dL_broken_17 : decode cL_broken 17 = .ok (.iconst 0, 1) := by decide +kernel
theorem dL_broken_18 : decode cL_broken 18 = .ok (.ireturn, 1) := by decide +kernel
theorem dL_letGo_0 : decode cL_letGo 0 = .ok (.aload 5, 2) := by decide +kernel
theorem dL_letGo_2 : decode cL_letGo 2 = .ok (.iconst 0, 1) := by decide +kernel
theorem dL_letGo_3 : decode cL_letGo 3 = .ok (.aload_n 0, 1) := by decide +kernel
theorem dL_letGo_4 : decode cL_letGo 4 = .ok (.iload_n 1, 1) := by decide +kernel
theorem dL_letGo_5 : decode cL_letGo 5 = .ok (.iload_n 2, 1) := by decide +kernel
theorem dL_letGo_6 : decode cL_letGo 6 = .ok (.iload_n 3, 1) := by decide +kernel
theorem dL_letGo_7 : decode cL_letGo 7 = .ok (.iload 4, 2) := by decide +kernel
theorem dL_letGo_9 : decode cL_letGo 9 = .ok (.invokevirtual 102, 3) := by decide +kernel
theorem dL_letGo_12 : decode cL_letGo 12 = .ok (.i2l, 1) := by decide +kernel
theorem dL_letGo_13 : decode cL_letGo 13 = .ok (.lastore, 1) := by decide +kernel
theorem dL_letGo_14 : decode cL_letGo 14 = .ok (.goto 15, 3) := by decide +kernel
theorem dL_letGo_17 : decode cL_letGo 17 = .ok (.astore 6, 2) := by decide +kernel
theorem dL_letGo_19 : decode cL_letGo 19 = .ok (.iconst 1, 1) := by decide +kernel
theorem dL_letGo_20 : decode cL_letGo 20 = .ok (.ireturn, 1) := by decide +kernel
theorem dL_letGo_21 : decode cL_letGo 21 = .ok (.astore 6, 2) := by decide +kernel
theorem dL_letGo_23 : decode cL_letGo 23 = .ok (.iconst 2, 1) := by decide +kernel
theorem dL_letGo_24 : decode cL_letGo 24 = .ok (.ireturn, 1) := by decide +kernel
theorem dL_letGo_25 : decode cL_letGo 25 = .ok (.astore 6, 2) := by decide +kernel
theorem dL_letGo_27 : decode cL_letGo 27 = .ok (.iconst 3, 1) := by decide +kernel
theorem dL_letGo_28 : decode cL_letGo 28 = .ok (.ireturn, 1) := by decide +kernel
theorem dL_letGo_29 : decode cL_letGo 29 = .ok (.iconst 0, 1) := by decide +kernel
theorem dL_letGo_30 : decode cL_letGo 30 = .ok (.ireturn, 1) := by decide +kernel
theorem dL_nameOf_0 : decode cL_nameOf 0 = .ok (.aload 4, 2) := by decide +kernel
theorem dL_nameOf_2 : decode cL_nameOf 2 = .ok (.iconst 0, 1) := by decide +kernel
theorem dL_nameOf_3 : decode cL_nameOf 3 = .ok (.aload_n 0, 1) := by decide +kernel
theorem dL_nameOf_4 : decode cL_nameOf 4 = .ok (.iload_n 1, 1) := by decide +kernel
theorem dL_nameOf_5 : decode cL_nameOf 5 = .ok (.iload_n 2, 1) := by decide +kernel
theorem dL_nameOf_6 : decode cL_nameOf 6 = .ok (.iload_n 3, 1) := by decide +kernel
theorem dL_nameOf_7 : decode cL_nameOf 7 = .ok (.invokevirtual 105, 3) := by decide +kernel
theorem dL_nameOf_10 : decode cL_nameOf 10 = .ok (.i2l, 1) := by decide +kernel
theorem dL_nameOf_11 : decode cL_nameOf 11 = .ok (.lastore, 1) := by decide +kernel
theorem dL_nameOf_12 : decode cL_nameOf 12 = .ok (.goto 7, 3) := by decide +kernel
theorem dL_nameOf_15 : decode cL_nameOf 15 = .ok (.astore 5, 2) := by decide +kernel
theorem dL_nameOf_17 : decode cL_nameOf 17 = .ok (.iconst 1, 1) := by decide +kernel
theorem dL_nameOf_18 : decode cL_nameOf 18 = .ok (.ireturn, 1) := by decide +kernel
theorem dL_nameOf_19 : decode cL_nameOf 19 = .ok (.iconst 0, 1) := by decide +kernel
theorem dL_nameOf_20 : decode cL_nameOf 20 = .ok (.ireturn, 1) := by decide +kernel
theorem dL_faults_0 : decode cL_faults 0 = .ok (.aload_n 2, 1) := by decide +kernel
theorem dL_faults_1 : decode cL_faults 1 = .ok (.iconst 0, 1) := by decide +kernel
theorem dL_faults_2 : decode cL_faults 2 = .ok (.aload_n 0, 1) := by decide +kernel
theorem dL_faults_3 : decode cL_faults 3 = .ok (.iload_n 1, 1) := by decide +kernel
theorem dL_faults_4 : decode cL_faults 4 = .ok (.invokevirtual 108, 3) := by decide +kernel
theorem dL_faults_7 : decode cL_faults 7 = .ok (.i2l, 1) := by decide +kernel
theorem dL_faults_8 : decode cL_faults 8 = .ok (.lastore, 1) := by decide +kernel
theorem dL_faults_9 : decode cL_faults 9 = .ok (.goto 6, 3) := by decide +kernel
theorem dL_faults_12 : decode cL_faults 12 = .ok (.astore_n 3, 1) := by decide +kernel
theorem dL_faults_13 : decode cL_faults 13 = .ok (.iconst 1, 1) := by decide +kernel
theorem dL_faults_14 : decode cL_faults 14 = .ok (.ireturn, 1) := by decide +kernel
theorem dL_faults_15 : decode cL_faults 15 = .ok (.iconst 0, 1) := by decide +kernel
theorem dL_faults_16 : decode cL_faults 16 = .ok (.ireturn, 1) := by decide +kernel
theorem dL_written_0 : decode cL_written 0 = .ok (.aload_n 3, 1) := by decide +kernel
theorem dL_written_1 : decode cL_written 1 = .ok (.iconst 0, 1) := by decide +kernel
theorem dL_written_2 : decode cL_written 2 = .ok (.aload_n 0, 1) := by decide +kernel
theorem dL_written_3 : decode cL_written 3 = .ok (.iload_n 1, 1) := by decide +kernel
theorem dL_written_4 : decode cL_written 4 = .ok (.iload_n 2, 1) := by decide +kernel
theorem dL_written_5 : decode cL_written 5 = .ok (.invokevirtual 111, 3) := by decide +kernel
theorem dL_written_8 : decode cL_written 8 = .ok (.i2l, 1) := by decide +kernel
theorem dL_written_9 : decode cL_written 9 = .ok (.lastore, 1) := by decide +kernel
theorem dL_written_10 : decode cL_written 10 = .ok (.goto 11, 3) := by decide +kernel
theorem dL_written_13 : decode cL_written 13 = .ok (.astore 4, 2) := by decide +kernel
theorem dL_written_15 : decode cL_written 15 = .ok (.iconst 1, 1) := by decide +kernel
theorem dL_written_16 : decode cL_written 16 = .ok (.ireturn, 1) := by decide +kernel
theorem dL_written_17 : decode cL_written 17 = .ok (.astore 4, 2) := by decide +kernel
theorem dL_written_19 : decode cL_written 19 = .ok (.iconst 2, 1) := by decide +kernel
theorem dL_written_20 : decode cL_written 20 = .ok (.ireturn, 1) := by decide +kernel
theorem dL_written_21 : decode cL_written 21 = .ok (.iconst 0, 1) := by decide +kernel
theorem dL_written_22 : decode cL_written 22 = .ok (.ireturn, 1) := by decide +kernel
theorem dL_writtenChar_0 : decode cL_writtenChar 0 = .ok (.aload 4, 2) := by decide +kernel
theorem dL_writtenChar_2 : decode cL_writtenChar 2 = .ok (.iconst 0, 1) := by decide +kernel
theorem dL_writtenChar_3 : decode cL_writtenChar 3 = .ok (.aload_n 0, 1) := by decide +kernel
theorem dL_writtenChar_4 : decode cL_writtenChar 4 = .ok (.iload_n 1, 1) := by decide +kernel
theorem dL_writtenChar_5 : decode cL_writtenChar 5 = .ok (.iload_n 2, 1) := by decide +kernel
theorem dL_writtenChar_6 : decode cL_writtenChar 6 = .ok (.iload_n 3, 1) := by decide +kernel
theorem dL_writtenChar_7 : decode cL_writtenChar 7 = .ok (.invokevirtual 114, 3) := by decide +kernel
theorem dL_writtenChar_10 : decode cL_writtenChar 10 = .ok (.i2l, 1) := by decide +kernel
theorem dL_writtenChar_11 : decode cL_writtenChar 11 = .ok (.lastore, 1) := by decide +kernel
theorem dL_writtenChar_12 : decode cL_writtenChar 12 = .ok (.goto 11, 3) := by decide +kernel
theorem dL_writtenChar_15 : decode cL_writtenChar 15 = .ok (.astore 5, 2) := by decide +kernel
theorem dL_writtenChar_17 : decode cL_writtenChar 17 = .ok (.iconst 1, 1) := by decide +kernel
theorem dL_writtenChar_18 : decode cL_writtenChar 18 = .ok (.ireturn, 1) := by decide +kernel
theorem dL_writtenChar_19 : decode cL_writtenChar 19 = .ok (.astore 5, 2) := by decide +kernel
theorem dL_writtenChar_21 : decode cL_writtenChar 21 = .ok (.iconst 2, 1) := by decide +kernel
theorem dL_writtenChar_22 : decode cL_writtenChar 22 = .ok (.ireturn, 1) := by decide +kernel
theorem dL_writtenChar_23 : decode cL_writtenChar 23 = .ok (.iconst 0, 1) := by decide +kernel
theorem dL_writtenChar_24 : decode cL_writtenChar 24 = .ok (.ireturn, 1) := by decide +kernel
theorem dL_law_0 : decode cL_law 0 = .ok (.new 8, 3) := by decide +kernel
theorem dL_law_3 : decode cL_law 3 = .ok (.dup, 1) := by decide +kernel
theorem dL_law_4 : decode cL_law 4 = .ok (.invokespecial 118, 3) := by decide +kernel
theorem dL_law_7 : decode cL_law 7 = .ok (.astore_n 1, 1) := by decide +kernel
theorem dL_law_8 : decode cL_law 8 = .ok (.new 119, 3) := by decide +kernel
theorem dL_law_11 : decode cL_law 11 = .ok (.dup, 1) := by decide +kernel
theorem dL_law_12 : decode cL_law 12 = .ok (.invokespecial 121, 3) := by decide +kernel
theorem dL_law_15 : decode cL_law 15 = .ok (.astore_n 2, 1) := by decide +kernel
theorem dL_law_16 : decode cL_law 16 = .ok (.iconst 1, 1) := by decide +kernel
theorem dL_law_17 : decode cL_law 17 = .ok (.newarray .long, 2) := by decide +kernel
theorem dL_law_19 : decode cL_law 19 = .ok (.astore_n 3, 1) := by decide +kernel
theorem dL_law_20 : decode cL_law 20 = .ok (.iconst 0, 1) := by decide +kernel
theorem dL_law_21 : decode cL_law 21 = .ok (.istore 4, 2) := by decide +kernel
theorem dL_law_23 : decode cL_law 23 = .ok (.iload 4, 2) := by decide +kernel
theorem dL_law_25 : decode cL_law 25 = .ok (.aload_n 0, 1) := by decide +kernel
theorem dL_law_26 : decode cL_law 26 = .ok (.arraylength, 1) := by decide +kernel
theorem dL_law_27 : decode cL_law 27 = .ok (.iconst 5, 1) := by decide +kernel
theorem dL_law_28 : decode cL_law 28 = .ok (.isub, 1) := by decide +kernel
theorem dL_law_29 : decode cL_law 29 = .ok (.if_icmp .gt 2393, 3) := by decide +kernel
theorem dL_law_32 : decode cL_law 32 = .ok (.aload_n 0, 1) := by decide +kernel
theorem dL_law_33 : decode cL_law 33 = .ok (.iload 4, 2) := by decide +kernel
theorem dL_law_35 : decode cL_law 35 = .ok (.iaload, 1) := by decide +kernel
theorem dL_law_36 : decode cL_law 36 = .ok (.bipush 63, 2) := by decide +kernel
theorem dL_law_38 : decode cL_law 38 = .ok (.iand, 1) := by decide +kernel
theorem dL_law_39 : decode cL_law 39 = .ok (.tableswitch 2377 0 33 #[149, 205, 273, 353, 445, 458, 514, 582, 645, 713, 793, 861, 874, 930, 986, 1042, 1098, 1178, 1246, 1314, 1394, 1462, 1530, 1610, 1678, 1746, 1802, 1877, 1933, 2001, 2093, 2173, 2229, 2297], 149) := by decide +kernel
theorem dL_law_188 : decode cL_law 188 = .ok (.aload_n 1, 1) := by decide +kernel
theorem dL_law_189 : decode cL_law 189 = .ok (.aload_n 0, 1) := by decide +kernel
theorem dL_law_190 : decode cL_law 190 = .ok (.iload 4, 2) := by decide +kernel
theorem dL_law_192 : decode cL_law 192 = .ok (.iconst 1, 1) := by decide +kernel
theorem dL_law_193 : decode cL_law 193 = .ok (.iadd, 1) := by decide +kernel
theorem dL_law_194 : decode cL_law 194 = .ok (.iaload, 1) := by decide +kernel
theorem dL_law_195 : decode cL_law 195 = .ok (.aload_n 3, 1) := by decide +kernel
theorem dL_law_196 : decode cL_law 196 = .ok (.invokestatic 122, 3) := by decide +kernel
theorem dL_law_199 : decode cL_law 199 = .ok (.istore 5, 2) := by decide +kernel
theorem dL_law_201 : decode cL_law 201 = .ok (.aload_n 2, 1) := by decide +kernel
theorem dL_law_202 : decode cL_law 202 = .ok (.aload_n 0, 1) := by decide +kernel
theorem dL_law_203 : decode cL_law 203 = .ok (.iload 4, 2) := by decide +kernel
theorem dL_law_205 : decode cL_law 205 = .ok (.iconst 1, 1) := by decide +kernel
theorem dL_law_206 : decode cL_law 206 = .ok (.iadd, 1) := by decide +kernel
theorem dL_law_207 : decode cL_law 207 = .ok (.iaload, 1) := by decide +kernel
theorem dL_law_208 : decode cL_law 208 = .ok (.invokevirtual 127, 3) := by decide +kernel
theorem dL_law_211 : decode cL_law 211 = .ok (.istore 6, 2) := by decide +kernel
theorem dL_law_213 : decode cL_law 213 = .ok (.aload_n 2, 1) := by decide +kernel
theorem dL_law_214 : decode cL_law 214 = .ok (.invokevirtual 128, 3) := by decide +kernel
theorem dL_law_217 : decode cL_law 217 = .ok (.iload 5, 2) := by decide +kernel
theorem dL_law_219 : decode cL_law 219 = .ok (.if_icmp .eq 5, 3) := by decide +kernel
theorem dL_law_222 : decode cL_law 222 = .ok (.iconst 0, 1) := by decide +kernel
theorem dL_law_223 : decode cL_law 223 = .ok (.ireturn, 1) := by decide +kernel
theorem dL_law_224 : decode cL_law 224 = .ok (.iload 5, 2) := by decide +kernel
theorem dL_law_226 : decode cL_law 226 = .ok (.ifCond .ne 15, 3) := by decide +kernel
theorem dL_law_229 : decode cL_law 229 = .ok (.aload_n 3, 1) := by decide +kernel
theorem dL_law_230 : decode cL_law 230 = .ok (.iconst 0, 1) := by decide +kernel
theorem dL_law_231 : decode cL_law 231 = .ok (.laload, 1) := by decide +kernel
theorem dL_law_232 : decode cL_law 232 = .ok (.iload 6, 2) := by decide +kernel
theorem dL_law_234 : decode cL_law 234 = .ok (.i2l, 1) := by decide +kernel
theorem dL_law_235 : decode cL_law 235 = .ok (.lcmp, 1) := by decide +kernel
theorem dL_law_236 : decode cL_law 236 = .ok (.ifCond .eq 5, 3) := by decide +kernel
theorem dL_law_239 : decode cL_law 239 = .ok (.iconst 0, 1) := by decide +kernel
theorem dL_law_240 : decode cL_law 240 = .ok (.ireturn, 1) := by decide +kernel
theorem dL_law_241 : decode cL_law 241 = .ok (.goto 2175, 3) := by decide +kernel
theorem dL_law_244 : decode cL_law 244 = .ok (.aload_n 1, 1) := by decide +kernel
theorem dL_law_245 : decode cL_law 245 = .ok (.aload_n 0, 1) := by decide +kernel
theorem dL_law_246 : decode cL_law 246 = .ok (.iload 4, 2) := by decide +kernel
theorem dL_law_248 : decode cL_law 248 = .ok (.iconst 1, 1) := by decide +kernel
theorem dL_law_249 : decode cL_law 249 = .ok (.iadd, 1) := by decide +kernel
theorem dL_law_250 : decode cL_law 250 = .ok (.iaload, 1) := by decide +kernel
theorem dL_law_251 : decode cL_law 251 = .ok (.aload_n 0, 1) := by decide +kernel
theorem dL_law_252 : decode cL_law 252 = .ok (.iload 4, 2) := by decide +kernel
theorem dL_law_254 : decode cL_law 254 = .ok (.iconst 2, 1) := by decide +kernel
theorem dL_law_255 : decode cL_law 255 = .ok (.iadd, 1) := by decide +kernel
theorem dL_law_256 : decode cL_law 256 = .ok (.iaload, 1) := by decide +kernel
theorem dL_law_257 : decode cL_law 257 = .ok (.aload_n 3, 1) := by decide +kernel
theorem dL_law_258 : decode cL_law 258 = .ok (.invokestatic 132, 3) := by decide +kernel
theorem dL_law_261 : decode cL_law 261 = .ok (.istore 5, 2) := by decide +kernel
theorem dL_law_263 : decode cL_law 263 = .ok (.aload_n 2, 1) := by decide +kernel
theorem dL_law_264 : decode cL_law 264 = .ok (.aload_n 0, 1) := by decide +kernel
theorem dL_law_265 : decode cL_law 265 = .ok (.iload 4, 2) := by decide +kernel
theorem dL_law_267 : decode cL_law 267 = .ok (.iconst 1, 1) := by decide +kernel
theorem dL_law_268 : decode cL_law 268 = .ok (.iadd, 1) := by decide +kernel
theorem dL_law_269 : decode cL_law 269 = .ok (.iaload, 1) := by decide +kernel
theorem dL_law_270 : decode cL_law 270 = .ok (.aload_n 0, 1) := by decide +kernel
theorem dL_law_271 : decode cL_law 271 = .ok (.iload 4, 2) := by decide +kernel
theorem dL_law_273 : decode cL_law 273 = .ok (.iconst 2, 1) := by decide +kernel
theorem dL_law_274 : decode cL_law 274 = .ok (.iadd, 1) := by decide +kernel
theorem dL_law_275 : decode cL_law 275 = .ok (.iaload, 1) := by decide +kernel
theorem dL_law_276 : decode cL_law 276 = .ok (.invokevirtual 135, 3) := by decide +kernel
theorem dL_law_279 : decode cL_law 279 = .ok (.istore 6, 2) := by decide +kernel
theorem dL_law_281 : decode cL_law 281 = .ok (.aload_n 2, 1) := by decide +kernel
theorem dL_law_282 : decode cL_law 282 = .ok (.invokevirtual 128, 3) := by decide +kernel
theorem dL_law_285 : decode cL_law 285 = .ok (.iload 5, 2) := by decide +kernel
theorem dL_law_287 : decode cL_law 287 = .ok (.if_icmp .eq 5, 3) := by decide +kernel
theorem dL_law_290 : decode cL_law 290 = .ok (.iconst 0, 1) := by decide +kernel
theorem dL_law_291 : decode cL_law 291 = .ok (.ireturn, 1) := by decide +kernel
theorem dL_law_292 : decode cL_law 292 = .ok (.iload 5, 2) := by decide +kernel
theorem dL_law_294 : decode cL_law 294 = .ok (.ifCond .ne 15, 3) := by decide +kernel
theorem dL_law_297 : decode cL_law 297 = .ok (.aload_n 3, 1) := by decide +kernel
theorem dL_law_298 : decode cL_law 298 = .ok (.iconst 0, 1) := by decide +kernel
theorem dL_law_299 : decode cL_law 299 = .ok (.laload, 1) := by decide +kernel
theorem dL_law_300 : decode cL_law 300 = .ok (.iload 6, 2) := by decide +kernel
theorem dL_law_302 : decode cL_law 302 = .ok (.i2l, 1) := by decide +kernel
theorem dL_law_303 : decode cL_law 303 = .ok (.lcmp, 1) := by decide +kernel
theorem dL_law_304 : decode cL_law 304 = .ok (.ifCond .eq 5, 3) := by decide +kernel
theorem dL_law_307 : decode cL_law 307 = .ok (.iconst 0, 1) := by decide +kernel
theorem dL_law_308 : decode cL_law 308 = .ok (.ireturn, 1) := by decide +kernel
theorem dL_law_309 : decode cL_law 309 = .ok (.goto 2107, 3) := by decide +kernel
theorem dL_law_312 : decode cL_law 312 = .ok (.aload_n 1, 1) := by decide +kernel
theorem dL_law_313 : decode cL_law 313 = .ok (.aload_n 0, 1) := by decide +kernel
theorem dL_law_314 : decode cL_law 314 = .ok (.iload 4, 2) := by decide +kernel
theorem dL_law_316 : decode cL_law 316 = .ok (.iconst 1, 1) := by decide +kernel
theorem dL_law_317 : decode cL_law 317 = .ok (.iadd, 1) := by decide +kernel
theorem dL_law_318 : decode cL_law 318 = .ok (.iaload, 1) := by decide +kernel
theorem dL_law_319 : decode cL_law 319 = .ok (.aload_n 0, 1) := by decide +kernel
theorem dL_law_320 : decode cL_law 320 = .ok (.iload 4, 2) := by decide +kernel
theorem dL_law_322 : decode cL_law 322 = .ok (.iconst 2, 1) := by decide +kernel
theorem dL_law_323 : decode cL_law 323 = .ok (.iadd, 1) := by decide +kernel
theorem dL_law_324 : decode cL_law 324 = .ok (.iaload, 1) := by decide +kernel
theorem dL_law_325 : decode cL_law 325 = .ok (.aload_n 0, 1) := by decide +kernel
theorem dL_law_326 : decode cL_law 326 = .ok (.iload 4, 2) := by decide +kernel
theorem dL_law_328 : decode cL_law 328 = .ok (.iconst 3, 1) := by decide +kernel
theorem dL_law_329 : decode cL_law 329 = .ok (.iadd, 1) := by decide +kernel
theorem dL_law_330 : decode cL_law 330 = .ok (.iaload, 1) := by decide +kernel
theorem dL_law_331 : decode cL_law 331 = .ok (.aload_n 3, 1) := by decide +kernel
theorem dL_law_332 : decode cL_law 332 = .ok (.invokestatic 136, 3) := by decide +kernel
theorem dL_law_335 : decode cL_law 335 = .ok (.istore 5, 2) := by decide +kernel
theorem dL_law_337 : decode cL_law 337 = .ok (.aload_n 2, 1) := by decide +kernel
theorem dL_law_338 : decode cL_law 338 = .ok (.aload_n 0, 1) := by decide +kernel
theorem dL_law_339 : decode cL_law 339 = .ok (.iload 4, 2) := by decide +kernel
theorem dL_law_341 : decode cL_law 341 = .ok (.iconst 1, 1) := by decide +kernel
theorem dL_law_342 : decode cL_law 342 = .ok (.iadd, 1) := by decide +kernel
theorem dL_law_343 : decode cL_law 343 = .ok (.iaload, 1) := by decide +kernel
theorem dL_law_344 : decode cL_law 344 = .ok (.aload_n 0, 1) := by decide +kernel
theorem dL_law_345 : decode cL_law 345 = .ok (.iload 4, 2) := by decide +kernel
theorem dL_law_347 : decode cL_law 347 = .ok (.iconst 2, 1) := by decide +kernel
theorem dL_law_348 : decode cL_law 348 = .ok (.iadd, 1) := by decide +kernel
theorem dL_law_349 : decode cL_law 349 = .ok (.iaload, 1) := by decide +kernel
theorem dL_law_350 : decode cL_law 350 = .ok (.aload_n 0, 1) := by decide +kernel
theorem dL_law_351 : decode cL_law 351 = .ok (.iload 4, 2) := by decide +kernel
theorem dL_law_353 : decode cL_law 353 = .ok (.iconst 3, 1) := by decide +kernel
theorem dL_law_354 : decode cL_law 354 = .ok (.iadd, 1) := by decide +kernel
theorem dL_law_355 : decode cL_law 355 = .ok (.iaload, 1) := by decide +kernel
theorem dL_law_356 : decode cL_law 356 = .ok (.invokevirtual 139, 3) := by decide +kernel
theorem dL_law_359 : decode cL_law 359 = .ok (.istore 6, 2) := by decide +kernel
theorem dL_law_361 : decode cL_law 361 = .ok (.aload_n 2, 1) := by decide +kernel
theorem dL_law_362 : decode cL_law 362 = .ok (.invokevirtual 128, 3) := by decide +kernel
theorem dL_law_365 : decode cL_law 365 = .ok (.iload 5, 2) := by decide +kernel
theorem dL_law_367 : decode cL_law 367 = .ok (.if_icmp .eq 5, 3) := by decide +kernel
theorem dL_law_370 : decode cL_law 370 = .ok (.iconst 0, 1) := by decide +kernel
theorem dL_law_371 : decode cL_law 371 = .ok (.ireturn, 1) := by decide +kernel
theorem dL_law_372 : decode cL_law 372 = .ok (.iload 5, 2) := by decide +kernel
theorem dL_law_374 : decode cL_law 374 = .ok (.ifCond .ne 15, 3) := by decide +kernel
theorem dL_law_377 : decode cL_law 377 = .ok (.aload_n 3, 1) := by decide +kernel
theorem dL_law_378 : decode cL_law 378 = .ok (.iconst 0, 1) := by decide +kernel
theorem dL_law_379 : decode cL_law 379 = .ok (.laload, 1) := by decide +kernel
theorem dL_law_380 : decode cL_law 380 = .ok (.iload 6, 2) := by decide +kernel
theorem dL_law_382 : decode cL_law 382 = .ok (.i2l, 1) := by decide +kernel
theorem dL_law_383 : decode cL_law 383 = .ok (.lcmp, 1) := by decide +kernel
theorem dL_law_384 : decode cL_law 384 = .ok (.ifCond .eq 5, 3) := by decide +kernel
theorem dL_law_387 : decode cL_law 387 = .ok (.iconst 0, 1) := by decide +kernel
theorem dL_law_388 : decode cL_law 388 = .ok (.ireturn, 1) := by decide +kernel
theorem dL_law_389 : decode cL_law 389 = .ok (.goto 2027, 3) := by decide +kernel
theorem dL_law_392 : decode cL_law 392 = .ok (.aload_n 1, 1) := by decide +kernel
theorem dL_law_393 : decode cL_law 393 = .ok (.aload_n 0, 1) := by decide +kernel
theorem dL_law_394 : decode cL_law 394 = .ok (.iload 4, 2) := by decide +kernel
theorem dL_law_396 : decode cL_law 396 = .ok (.iconst 1, 1) := by decide +kernel
theorem dL_law_397 : decode cL_law 397 = .ok (.iadd, 1) := by decide +kernel
theorem dL_law_398 : decode cL_law 398 = .ok (.iaload, 1) := by decide +kernel
theorem dL_law_399 : decode cL_law 399 = .ok (.aload_n 0, 1) := by decide +kernel
theorem dL_law_400 : decode cL_law 400 = .ok (.iload 4, 2) := by decide +kernel
theorem dL_law_402 : decode cL_law 402 = .ok (.iconst 2, 1) := by decide +kernel
theorem dL_law_403 : decode cL_law 403 = .ok (.iadd, 1) := by decide +kernel
theorem dL_law_404 : decode cL_law 404 = .ok (.iaload, 1) := by decide +kernel
theorem dL_law_405 : decode cL_law 405 = .ok (.aload_n 0, 1) := by decide +kernel
theorem dL_law_406 : decode cL_law 406 = .ok (.iload 4, 2) := by decide +kernel
theorem dL_law_408 : decode cL_law 408 = .ok (.iconst 3, 1) := by decide +kernel
theorem dL_law_409 : decode cL_law 409 = .ok (.iadd, 1) := by decide +kernel
theorem dL_law_410 : decode cL_law 410 = .ok (.iaload, 1) := by decide +kernel
theorem dL_law_411 : decode cL_law 411 = .ok (.aload_n 0, 1) := by decide +kernel
theorem dL_law_412 : decode cL_law 412 = .ok (.iload 4, 2) := by decide +kernel
theorem dL_law_414 : decode cL_law 414 = .ok (.iconst 4, 1) := by decide +kernel
theorem dL_law_415 : decode cL_law 415 = .ok (.iadd, 1) := by decide +kernel
theorem dL_law_416 : decode cL_law 416 = .ok (.iaload, 1) := by decide +kernel
theorem dL_law_417 : decode cL_law 417 = .ok (.aload_n 3, 1) := by decide +kernel
theorem dL_law_418 : decode cL_law 418 = .ok (.invokestatic 140, 3) := by decide +kernel
theorem dL_law_421 : decode cL_law 421 = .ok (.istore 5, 2) := by decide +kernel
theorem dL_law_423 : decode cL_law 423 = .ok (.aload_n 2, 1) := by decide +kernel
theorem dL_law_424 : decode cL_law 424 = .ok (.aload_n 0, 1) := by decide +kernel
theorem dL_law_425 : decode cL_law 425 = .ok (.iload 4, 2) := by decide +kernel
theorem dL_law_427 : decode cL_law 427 = .ok (.iconst 1, 1) := by decide +kernel
theorem dL_law_428 : decode cL_law 428 = .ok (.iadd, 1) := by decide +kernel
theorem dL_law_429 : decode cL_law 429 = .ok (.iaload, 1) := by decide +kernel
theorem dL_law_430 : decode cL_law 430 = .ok (.aload_n 0, 1) := by decide +kernel
theorem dL_law_431 : decode cL_law 431 = .ok (.iload 4, 2) := by decide +kernel
theorem dL_law_433 : decode cL_law 433 = .ok (.iconst 2, 1) := by decide +kernel
theorem dL_law_434 : decode cL_law 434 = .ok (.iadd, 1) := by decide +kernel
theorem dL_law_435 : decode cL_law 435 = .ok (.iaload, 1) := by decide +kernel
theorem dL_law_436 : decode cL_law 436 = .ok (.aload_n 0, 1) := by decide +kernel
theorem dL_law_437 : decode cL_law 437 = .ok (.iload 4, 2) := by decide +kernel
theorem dL_law_439 : decode cL_law 439 = .ok (.iconst 3, 1) := by decide +kernel
theorem dL_law_440 : decode cL_law 440 = .ok (.iadd, 1) := by decide +kernel
theorem dL_law_441 : decode cL_law 441 = .ok (.iaload, 1) := by decide +kernel
theorem dL_law_442 : decode cL_law 442 = .ok (.aload_n 0, 1) := by decide +kernel
theorem dL_law_443 : decode cL_law 443 = .ok (.iload 4, 2) := by decide +kernel
theorem dL_law_445 : decode cL_law 445 = .ok (.iconst 4, 1) := by decide +kernel
theorem dL_law_446 : decode cL_law 446 = .ok (.iadd, 1) := by decide +kernel
theorem dL_law_447 : decode cL_law 447 = .ok (.iaload, 1) := by decide +kernel
theorem dL_law_448 : decode cL_law 448 = .ok (.invokevirtual 143, 3) := by decide +kernel
theorem dL_law_451 : decode cL_law 451 = .ok (.istore 6, 2) := by decide +kernel
theorem dL_law_453 : decode cL_law 453 = .ok (.aload_n 2, 1) := by decide +kernel
theorem dL_law_454 : decode cL_law 454 = .ok (.invokevirtual 128, 3) := by decide +kernel
theorem dL_law_457 : decode cL_law 457 = .ok (.iload 5, 2) := by decide +kernel
theorem dL_law_459 : decode cL_law 459 = .ok (.if_icmp .eq 5, 3) := by decide +kernel
theorem dL_law_462 : decode cL_law 462 = .ok (.iconst 0, 1) := by decide +kernel
theorem dL_law_463 : decode cL_law 463 = .ok (.ireturn, 1) := by decide +kernel
theorem dL_law_464 : decode cL_law 464 = .ok (.iload 5, 2) := by decide +kernel
theorem dL_law_466 : decode cL_law 466 = .ok (.ifCond .ne 15, 3) := by decide +kernel
theorem dL_law_469 : decode cL_law 469 = .ok (.aload_n 3, 1) := by decide +kernel
theorem dL_law_470 : decode cL_law 470 = .ok (.iconst 0, 1) := by decide +kernel
theorem dL_law_471 : decode cL_law 471 = .ok (.laload, 1) := by decide +kernel
theorem dL_law_472 : decode cL_law 472 = .ok (.iload 6, 2) := by decide +kernel
theorem dL_law_474 : decode cL_law 474 = .ok (.i2l, 1) := by decide +kernel
theorem dL_law_475 : decode cL_law 475 = .ok (.lcmp, 1) := by decide +kernel
theorem dL_law_476 : decode cL_law 476 = .ok (.ifCond .eq 5, 3) := by decide +kernel
theorem dL_law_479 : decode cL_law 479 = .ok (.iconst 0, 1) := by decide +kernel
theorem dL_law_480 : decode cL_law 480 = .ok (.ireturn, 1) := by decide +kernel
theorem dL_law_481 : decode cL_law 481 = .ok (.goto 1935, 3) := by decide +kernel
theorem dL_law_484 : decode cL_law 484 = .ok (.aload_n 1, 1) := by decide +kernel
theorem dL_law_485 : decode cL_law 485 = .ok (.invokevirtual 144, 3) := by decide +kernel
theorem dL_law_488 : decode cL_law 488 = .ok (.aload_n 2, 1) := by decide +kernel
theorem dL_law_489 : decode cL_law 489 = .ok (.invokevirtual 147, 3) := by decide +kernel
theorem dL_law_492 : decode cL_law 492 = .ok (.if_icmp .eq 1924, 3) := by decide +kernel
theorem dL_law_495 : decode cL_law 495 = .ok (.iconst 0, 1) := by decide +kernel
theorem dL_law_496 : decode cL_law 496 = .ok (.ireturn, 1) := by decide +kernel
theorem dL_law_497 : decode cL_law 497 = .ok (.aload_n 1, 1) := by decide +kernel
theorem dL_law_498 : decode cL_law 498 = .ok (.aload_n 0, 1) := by decide +kernel
theorem dL_law_499 : decode cL_law 499 = .ok (.iload 4, 2) := by decide +kernel
theorem dL_law_501 : decode cL_law 501 = .ok (.iconst 1, 1) := by decide +kernel
theorem dL_law_502 : decode cL_law 502 = .ok (.iadd, 1) := by decide +kernel
theorem dL_law_503 : decode cL_law 503 = .ok (.iaload, 1) := by decide +kernel
theorem dL_law_504 : decode cL_law 504 = .ok (.aload_n 3, 1) := by decide +kernel
theorem dL_law_505 : decode cL_law 505 = .ok (.invokestatic 148, 3) := by decide +kernel
theorem dL_law_508 : decode cL_law 508 = .ok (.istore 5, 2) := by decide +kernel
theorem dL_law_510 : decode cL_law 510 = .ok (.aload_n 2, 1) := by decide +kernel
theorem dL_law_511 : decode cL_law 511 = .ok (.aload_n 0, 1) := by decide +kernel
theorem dL_law_512 : decode cL_law 512 = .ok (.iload 4, 2) := by decide +kernel
theorem dL_law_514 : decode cL_law 514 = .ok (.iconst 1, 1) := by decide +kernel
theorem dL_law_515 : decode cL_law 515 = .ok (.iadd, 1) := by decide +kernel
theorem dL_law_516 : decode cL_law 516 = .ok (.iaload, 1) := by decide +kernel
theorem dL_law_517 : decode cL_law 517 = .ok (.invokevirtual 150, 3) := by decide +kernel
theorem dL_law_520 : decode cL_law 520 = .ok (.istore 6, 2) := by decide +kernel
theorem dL_law_522 : decode cL_law 522 = .ok (.aload_n 2, 1) := by decide +kernel
theorem dL_law_523 : decode cL_law 523 = .ok (.invokevirtual 128, 3) := by decide +kernel
theorem dL_law_526 : decode cL_law 526 = .ok (.iload 5, 2) := by decide +kernel
theorem dL_law_528 : decode cL_law 528 = .ok (.if_icmp .eq 5, 3) := by decide +kernel
theorem dL_law_531 : decode cL_law 531 = .ok (.iconst 0, 1) := by decide +kernel
theorem dL_law_532 : decode cL_law 532 = .ok (.ireturn, 1) := by decide +kernel
theorem dL_law_533 : decode cL_law 533 = .ok (.iload 5, 2) := by decide +kernel
theorem dL_law_535 : decode cL_law 535 = .ok (.ifCond .ne 15, 3) := by decide +kernel
theorem dL_law_538 : decode cL_law 538 = .ok (.aload_n 3, 1) := by decide +kernel
theorem dL_law_539 : decode cL_law 539 = .ok (.iconst 0, 1) := by decide +kernel
theorem dL_law_540 : decode cL_law 540 = .ok (.laload, 1) := by decide +kernel
theorem dL_law_541 : decode cL_law 541 = .ok (.iload 6, 2) := by decide +kernel
theorem dL_law_543 : decode cL_law 543 = .ok (.i2l, 1) := by decide +kernel
theorem dL_law_544 : decode cL_law 544 = .ok (.lcmp, 1) := by decide +kernel
theorem dL_law_545 : decode cL_law 545 = .ok (.ifCond .eq 5, 3) := by decide +kernel
theorem dL_law_548 : decode cL_law 548 = .ok (.iconst 0, 1) := by decide +kernel
theorem dL_law_549 : decode cL_law 549 = .ok (.ireturn, 1) := by decide +kernel
theorem dL_law_550 : decode cL_law 550 = .ok (.goto 1866, 3) := by decide +kernel
theorem dL_law_553 : decode cL_law 553 = .ok (.aload_n 1, 1) := by decide +kernel
theorem dL_law_554 : decode cL_law 554 = .ok (.aload_n 0, 1) := by decide +kernel
theorem dL_law_555 : decode cL_law 555 = .ok (.iload 4, 2) := by decide +kernel
theorem dL_law_557 : decode cL_law 557 = .ok (.iconst 1, 1) := by decide +kernel
theorem dL_law_558 : decode cL_law 558 = .ok (.iadd, 1) := by decide +kernel
theorem dL_law_559 : decode cL_law 559 = .ok (.iaload, 1) := by decide +kernel
theorem dL_law_560 : decode cL_law 560 = .ok (.aload_n 0, 1) := by decide +kernel
theorem dL_law_561 : decode cL_law 561 = .ok (.iload 4, 2) := by decide +kernel
theorem dL_law_563 : decode cL_law 563 = .ok (.iconst 2, 1) := by decide +kernel
theorem dL_law_564 : decode cL_law 564 = .ok (.iadd, 1) := by decide +kernel
theorem dL_law_565 : decode cL_law 565 = .ok (.iaload, 1) := by decide +kernel
theorem dL_law_566 : decode cL_law 566 = .ok (.aload_n 3, 1) := by decide +kernel
theorem dL_law_567 : decode cL_law 567 = .ok (.invokestatic 151, 3) := by decide +kernel
theorem dL_law_570 : decode cL_law 570 = .ok (.istore 5, 2) := by decide +kernel
theorem dL_law_572 : decode cL_law 572 = .ok (.aload_n 2, 1) := by decide +kernel
theorem dL_law_573 : decode cL_law 573 = .ok (.aload_n 0, 1) := by decide +kernel
theorem dL_law_574 : decode cL_law 574 = .ok (.iload 4, 2) := by decide +kernel
theorem dL_law_576 : decode cL_law 576 = .ok (.iconst 1, 1) := by decide +kernel
theorem dL_law_577 : decode cL_law 577 = .ok (.iadd, 1) := by decide +kernel
theorem dL_law_578 : decode cL_law 578 = .ok (.iaload, 1) := by decide +kernel
theorem dL_law_579 : decode cL_law 579 = .ok (.aload_n 0, 1) := by decide +kernel
theorem dL_law_580 : decode cL_law 580 = .ok (.iload 4, 2) := by decide +kernel
theorem dL_law_582 : decode cL_law 582 = .ok (.iconst 2, 1) := by decide +kernel
theorem dL_law_583 : decode cL_law 583 = .ok (.iadd, 1) := by decide +kernel
theorem dL_law_584 : decode cL_law 584 = .ok (.iaload, 1) := by decide +kernel
theorem dL_law_585 : decode cL_law 585 = .ok (.invokevirtual 153, 3) := by decide +kernel
theorem dL_law_588 : decode cL_law 588 = .ok (.istore 6, 2) := by decide +kernel
theorem dL_law_590 : decode cL_law 590 = .ok (.aload_n 2, 1) := by decide +kernel
theorem dL_law_591 : decode cL_law 591 = .ok (.invokevirtual 128, 3) := by decide +kernel
theorem dL_law_594 : decode cL_law 594 = .ok (.iload 5, 2) := by decide +kernel
theorem dL_law_596 : decode cL_law 596 = .ok (.if_icmp .eq 5, 3) := by decide +kernel
theorem dL_law_599 : decode cL_law 599 = .ok (.iconst 0, 1) := by decide +kernel
theorem dL_law_600 : decode cL_law 600 = .ok (.ireturn, 1) := by decide +kernel
theorem dL_law_601 : decode cL_law 601 = .ok (.iload 5, 2) := by decide +kernel
theorem dL_law_603 : decode cL_law 603 = .ok (.ifCond .ne 15, 3) := by decide +kernel
theorem dL_law_606 : decode cL_law 606 = .ok (.aload_n 3, 1) := by decide +kernel
theorem dL_law_607 : decode cL_law 607 = .ok (.iconst 0, 1) := by decide +kernel
theorem dL_law_608 : decode cL_law 608 = .ok (.laload, 1) := by decide +kernel
theorem dL_law_609 : decode cL_law 609 = .ok (.iload 6, 2) := by decide +kernel
theorem dL_law_611 : decode cL_law 611 = .ok (.i2l, 1) := by decide +kernel
theorem dL_law_612 : decode cL_law 612 = .ok (.lcmp, 1) := by decide +kernel
theorem dL_law_613 : decode cL_law 613 = .ok (.ifCond .eq 5, 3) := by decide +kernel
theorem dL_law_616 : decode cL_law 616 = .ok (.iconst 0, 1) := by decide +kernel
theorem dL_law_617 : decode cL_law 617 = .ok (.ireturn, 1) := by decide +kernel
theorem dL_law_618 : decode cL_law 618 = .ok (.goto 1798, 3) := by decide +kernel
theorem dL_law_621 : decode cL_law 621 = .ok (.aload_n 1, 1) := by decide +kernel
theorem dL_law_622 : decode cL_law 622 = .ok (.aload_n 0, 1) := by decide +kernel
theorem dL_law_623 : decode cL_law 623 = .ok (.iload 4, 2) := by decide +kernel
theorem dL_law_625 : decode cL_law 625 = .ok (.iconst 1, 1) := by decide +kernel
theorem dL_law_626 : decode cL_law 626 = .ok (.iadd, 1) := by decide +kernel
theorem dL_law_627 : decode cL_law 627 = .ok (.iaload, 1) := by decide +kernel
theorem dL_law_628 : decode cL_law 628 = .ok (.aload_n 3, 1) := by decide +kernel
theorem dL_law_629 : decode cL_law 629 = .ok (.invokestatic 154, 3) := by decide +kernel
theorem dL_law_632 : decode cL_law 632 = .ok (.istore 5, 2) := by decide +kernel
theorem dL_law_634 : decode cL_law 634 = .ok (.aload_n 2, 1) := by decide +kernel
theorem dL_law_635 : decode cL_law 635 = .ok (.aload_n 0, 1) := by decide +kernel
theorem dL_law_636 : decode cL_law 636 = .ok (.iload 4, 2) := by decide +kernel
theorem dL_law_638 : decode cL_law 638 = .ok (.iconst 1, 1) := by decide +kernel
theorem dL_law_639 : decode cL_law 639 = .ok (.iadd, 1) := by decide +kernel
theorem dL_law_640 : decode cL_law 640 = .ok (.iaload, 1) := by decide +kernel
theorem dL_law_641 : decode cL_law 641 = .ok (.invokevirtual 156, 3) := by decide +kernel
theorem dL_law_644 : decode cL_law 644 = .ok (.istore 6, 2) := by decide +kernel
theorem dL_law_646 : decode cL_law 646 = .ok (.aload_n 2, 1) := by decide +kernel
theorem dL_law_647 : decode cL_law 647 = .ok (.invokevirtual 128, 3) := by decide +kernel
theorem dL_law_650 : decode cL_law 650 = .ok (.iload 5, 2) := by decide +kernel
theorem dL_law_652 : decode cL_law 652 = .ok (.if_icmp .eq 5, 3) := by decide +kernel
theorem dL_law_655 : decode cL_law 655 = .ok (.iconst 0, 1) := by decide +kernel
theorem dL_law_656 : decode cL_law 656 = .ok (.ireturn, 1) := by decide +kernel
theorem dL_law_657 : decode cL_law 657 = .ok (.iload 5, 2) := by decide +kernel
theorem dL_law_659 : decode cL_law 659 = .ok (.ifCond .ne 22, 3) := by decide +kernel
theorem dL_law_662 : decode cL_law 662 = .ok (.aload_n 3, 1) := by decide +kernel
theorem dL_law_663 : decode cL_law 663 = .ok (.iconst 0, 1) := by decide +kernel
theorem dL_law_664 : decode cL_law 664 = .ok (.laload, 1) := by decide +kernel
theorem dL_law_665 : decode cL_law 665 = .ok (.iload 6, 2) := by decide +kernel
theorem dL_law_667 : decode cL_law 667 = .ok (.ifCond .eq 7, 3) := by decide +kernel
theorem dL_law_670 : decode cL_law 670 = .ok (.lconst 1, 1) := by decide +kernel
theorem dL_law_671 : decode cL_law 671 = .ok (.goto 4, 3) := by decide +kernel
theorem dL_law_674 : decode cL_law 674 = .ok (.lconst 0, 1) := by decide +kernel
theorem dL_law_675 : decode cL_law 675 = .ok (.lcmp, 1) := by decide +kernel
theorem dL_law_676 : decode cL_law 676 = .ok (.ifCond .eq 5, 3) := by decide +kernel
theorem dL_law_679 : decode cL_law 679 = .ok (.iconst 0, 1) := by decide +kernel
theorem dL_law_680 : decode cL_law 680 = .ok (.ireturn, 1) := by decide +kernel
theorem dL_law_681 : decode cL_law 681 = .ok (.goto 1735, 3) := by decide +kernel
theorem dL_law_684 : decode cL_law 684 = .ok (.aload_n 1, 1) := by decide +kernel
theorem dL_law_685 : decode cL_law 685 = .ok (.aload_n 0, 1) := by decide +kernel
theorem dL_law_686 : decode cL_law 686 = .ok (.iload 4, 2) := by decide +kernel
theorem dL_law_688 : decode cL_law 688 = .ok (.iconst 1, 1) := by decide +kernel
theorem dL_law_689 : decode cL_law 689 = .ok (.iadd, 1) := by decide +kernel
theorem dL_law_690 : decode cL_law 690 = .ok (.iaload, 1) := by decide +kernel
theorem dL_law_691 : decode cL_law 691 = .ok (.aload_n 0, 1) := by decide +kernel
theorem dL_law_692 : decode cL_law 692 = .ok (.iload 4, 2) := by decide +kernel
theorem dL_law_694 : decode cL_law 694 = .ok (.iconst 2, 1) := by decide +kernel
theorem dL_law_695 : decode cL_law 695 = .ok (.iadd, 1) := by decide +kernel
theorem dL_law_696 : decode cL_law 696 = .ok (.iaload, 1) := by decide +kernel
theorem dL_law_697 : decode cL_law 697 = .ok (.aload_n 3, 1) := by decide +kernel
theorem dL_law_698 : decode cL_law 698 = .ok (.invokestatic 157, 3) := by decide +kernel
theorem dL_law_701 : decode cL_law 701 = .ok (.istore 5, 2) := by decide +kernel
theorem dL_law_703 : decode cL_law 703 = .ok (.aload_n 2, 1) := by decide +kernel
theorem dL_law_704 : decode cL_law 704 = .ok (.aload_n 0, 1) := by decide +kernel
theorem dL_law_705 : decode cL_law 705 = .ok (.iload 4, 2) := by decide +kernel
theorem dL_law_707 : decode cL_law 707 = .ok (.iconst 1, 1) := by decide +kernel
theorem dL_law_708 : decode cL_law 708 = .ok (.iadd, 1) := by decide +kernel
theorem dL_law_709 : decode cL_law 709 = .ok (.iaload, 1) := by decide +kernel
theorem dL_law_710 : decode cL_law 710 = .ok (.aload_n 0, 1) := by decide +kernel
theorem dL_law_711 : decode cL_law 711 = .ok (.iload 4, 2) := by decide +kernel
theorem dL_law_713 : decode cL_law 713 = .ok (.iconst 2, 1) := by decide +kernel
theorem dL_law_714 : decode cL_law 714 = .ok (.iadd, 1) := by decide +kernel
theorem dL_law_715 : decode cL_law 715 = .ok (.iaload, 1) := by decide +kernel
theorem dL_law_716 : decode cL_law 716 = .ok (.invokevirtual 159, 3) := by decide +kernel
theorem dL_law_719 : decode cL_law 719 = .ok (.istore 6, 2) := by decide +kernel
theorem dL_law_721 : decode cL_law 721 = .ok (.aload_n 2, 1) := by decide +kernel
theorem dL_law_722 : decode cL_law 722 = .ok (.invokevirtual 128, 3) := by decide +kernel
theorem dL_law_725 : decode cL_law 725 = .ok (.iload 5, 2) := by decide +kernel
theorem dL_law_727 : decode cL_law 727 = .ok (.if_icmp .eq 5, 3) := by decide +kernel
theorem dL_law_730 : decode cL_law 730 = .ok (.iconst 0, 1) := by decide +kernel
theorem dL_law_731 : decode cL_law 731 = .ok (.ireturn, 1) := by decide +kernel
theorem dL_law_732 : decode cL_law 732 = .ok (.iload 5, 2) := by decide +kernel
theorem dL_law_734 : decode cL_law 734 = .ok (.ifCond .ne 15, 3) := by decide +kernel
theorem dL_law_737 : decode cL_law 737 = .ok (.aload_n 3, 1) := by decide +kernel
theorem dL_law_738 : decode cL_law 738 = .ok (.iconst 0, 1) := by decide +kernel
theorem dL_law_739 : decode cL_law 739 = .ok (.laload, 1) := by decide +kernel
theorem dL_law_740 : decode cL_law 740 = .ok (.iload 6, 2) := by decide +kernel
theorem dL_law_742 : decode cL_law 742 = .ok (.i2l, 1) := by decide +kernel
theorem dL_law_743 : decode cL_law 743 = .ok (.lcmp, 1) := by decide +kernel
theorem dL_law_744 : decode cL_law 744 = .ok (.ifCond .eq 5, 3) := by decide +kernel
theorem dL_law_747 : decode cL_law 747 = .ok (.iconst 0, 1) := by decide +kernel
theorem dL_law_748 : decode cL_law 748 = .ok (.ireturn, 1) := by decide +kernel
theorem dL_law_749 : decode cL_law 749 = .ok (.goto 1667, 3) := by decide +kernel
theorem dL_law_752 : decode cL_law 752 = .ok (.aload_n 1, 1) := by decide +kernel
theorem dL_law_753 : decode cL_law 753 = .ok (.aload_n 0, 1) := by decide +kernel
theorem dL_law_754 : decode cL_law 754 = .ok (.iload 4, 2) := by decide +kernel
theorem dL_law_756 : decode cL_law 756 = .ok (.iconst 1, 1) := by decide +kernel
theorem dL_law_757 : decode cL_law 757 = .ok (.iadd, 1) := by decide +kernel
theorem dL_law_758 : decode cL_law 758 = .ok (.iaload, 1) := by decide +kernel
theorem dL_law_759 : decode cL_law 759 = .ok (.aload_n 0, 1) := by decide +kernel
theorem dL_law_760 : decode cL_law 760 = .ok (.iload 4, 2) := by decide +kernel
theorem dL_law_762 : decode cL_law 762 = .ok (.iconst 2, 1) := by decide +kernel
theorem dL_law_763 : decode cL_law 763 = .ok (.iadd, 1) := by decide +kernel
theorem dL_law_764 : decode cL_law 764 = .ok (.iaload, 1) := by decide +kernel
theorem dL_law_765 : decode cL_law 765 = .ok (.aload_n 0, 1) := by decide +kernel
theorem dL_law_766 : decode cL_law 766 = .ok (.iload 4, 2) := by decide +kernel
theorem dL_law_768 : decode cL_law 768 = .ok (.iconst 3, 1) := by decide +kernel
theorem dL_law_769 : decode cL_law 769 = .ok (.iadd, 1) := by decide +kernel
theorem dL_law_770 : decode cL_law 770 = .ok (.iaload, 1) := by decide +kernel
theorem dL_law_771 : decode cL_law 771 = .ok (.aload_n 3, 1) := by decide +kernel
theorem dL_law_772 : decode cL_law 772 = .ok (.invokestatic 160, 3) := by decide +kernel
theorem dL_law_775 : decode cL_law 775 = .ok (.istore 5, 2) := by decide +kernel
theorem dL_law_777 : decode cL_law 777 = .ok (.aload_n 2, 1) := by decide +kernel
theorem dL_law_778 : decode cL_law 778 = .ok (.aload_n 0, 1) := by decide +kernel
theorem dL_law_779 : decode cL_law 779 = .ok (.iload 4, 2) := by decide +kernel
theorem dL_law_781 : decode cL_law 781 = .ok (.iconst 1, 1) := by decide +kernel
theorem dL_law_782 : decode cL_law 782 = .ok (.iadd, 1) := by decide +kernel
theorem dL_law_783 : decode cL_law 783 = .ok (.iaload, 1) := by decide +kernel
theorem dL_law_784 : decode cL_law 784 = .ok (.aload_n 0, 1) := by decide +kernel
theorem dL_law_785 : decode cL_law 785 = .ok (.iload 4, 2) := by decide +kernel
theorem dL_law_787 : decode cL_law 787 = .ok (.iconst 2, 1) := by decide +kernel
theorem dL_law_788 : decode cL_law 788 = .ok (.iadd, 1) := by decide +kernel
theorem dL_law_789 : decode cL_law 789 = .ok (.iaload, 1) := by decide +kernel
theorem dL_law_790 : decode cL_law 790 = .ok (.aload_n 0, 1) := by decide +kernel
theorem dL_law_791 : decode cL_law 791 = .ok (.iload 4, 2) := by decide +kernel
theorem dL_law_793 : decode cL_law 793 = .ok (.iconst 3, 1) := by decide +kernel
theorem dL_law_794 : decode cL_law 794 = .ok (.iadd, 1) := by decide +kernel
theorem dL_law_795 : decode cL_law 795 = .ok (.iaload, 1) := by decide +kernel
theorem dL_law_796 : decode cL_law 796 = .ok (.invokevirtual 162, 3) := by decide +kernel
theorem dL_law_799 : decode cL_law 799 = .ok (.istore 6, 2) := by decide +kernel
theorem dL_law_801 : decode cL_law 801 = .ok (.aload_n 2, 1) := by decide +kernel
theorem dL_law_802 : decode cL_law 802 = .ok (.invokevirtual 128, 3) := by decide +kernel
theorem dL_law_805 : decode cL_law 805 = .ok (.iload 5, 2) := by decide +kernel
theorem dL_law_807 : decode cL_law 807 = .ok (.if_icmp .eq 5, 3) := by decide +kernel
theorem dL_law_810 : decode cL_law 810 = .ok (.iconst 0, 1) := by decide +kernel
theorem dL_law_811 : decode cL_law 811 = .ok (.ireturn, 1) := by decide +kernel
theorem dL_law_812 : decode cL_law 812 = .ok (.iload 5, 2) := by decide +kernel
theorem dL_law_814 : decode cL_law 814 = .ok (.ifCond .ne 15, 3) := by decide +kernel
theorem dL_law_817 : decode cL_law 817 = .ok (.aload_n 3, 1) := by decide +kernel
theorem dL_law_818 : decode cL_law 818 = .ok (.iconst 0, 1) := by decide +kernel
theorem dL_law_819 : decode cL_law 819 = .ok (.laload, 1) := by decide +kernel
theorem dL_law_820 : decode cL_law 820 = .ok (.iload 6, 2) := by decide +kernel
theorem dL_law_822 : decode cL_law 822 = .ok (.i2l, 1) := by decide +kernel
theorem dL_law_823 : decode cL_law 823 = .ok (.lcmp, 1) := by decide +kernel
theorem dL_law_824 : decode cL_law 824 = .ok (.ifCond .eq 5, 3) := by decide +kernel
theorem dL_law_827 : decode cL_law 827 = .ok (.iconst 0, 1) := by decide +kernel
theorem dL_law_828 : decode cL_law 828 = .ok (.ireturn, 1) := by decide +kernel
theorem dL_law_829 : decode cL_law 829 = .ok (.goto 1587, 3) := by decide +kernel
theorem dL_law_832 : decode cL_law 832 = .ok (.aload_n 1, 1) := by decide +kernel
theorem dL_law_833 : decode cL_law 833 = .ok (.aload_n 0, 1) := by decide +kernel
theorem dL_law_834 : decode cL_law 834 = .ok (.iload 4, 2) := by decide +kernel
theorem dL_law_836 : decode cL_law 836 = .ok (.iconst 1, 1) := by decide +kernel
theorem dL_law_837 : decode cL_law 837 = .ok (.iadd, 1) := by decide +kernel
theorem dL_law_838 : decode cL_law 838 = .ok (.iaload, 1) := by decide +kernel
theorem dL_law_839 : decode cL_law 839 = .ok (.aload_n 0, 1) := by decide +kernel
theorem dL_law_840 : decode cL_law 840 = .ok (.iload 4, 2) := by decide +kernel
theorem dL_law_842 : decode cL_law 842 = .ok (.iconst 2, 1) := by decide +kernel
theorem dL_law_843 : decode cL_law 843 = .ok (.iadd, 1) := by decide +kernel
theorem dL_law_844 : decode cL_law 844 = .ok (.iaload, 1) := by decide +kernel
theorem dL_law_845 : decode cL_law 845 = .ok (.aload_n 3, 1) := by decide +kernel
theorem dL_law_846 : decode cL_law 846 = .ok (.invokestatic 163, 3) := by decide +kernel
theorem dL_law_849 : decode cL_law 849 = .ok (.istore 5, 2) := by decide +kernel
theorem dL_law_851 : decode cL_law 851 = .ok (.aload_n 2, 1) := by decide +kernel
theorem dL_law_852 : decode cL_law 852 = .ok (.aload_n 0, 1) := by decide +kernel
theorem dL_law_853 : decode cL_law 853 = .ok (.iload 4, 2) := by decide +kernel
theorem dL_law_855 : decode cL_law 855 = .ok (.iconst 1, 1) := by decide +kernel
theorem dL_law_856 : decode cL_law 856 = .ok (.iadd, 1) := by decide +kernel
theorem dL_law_857 : decode cL_law 857 = .ok (.iaload, 1) := by decide +kernel
theorem dL_law_858 : decode cL_law 858 = .ok (.aload_n 0, 1) := by decide +kernel
theorem dL_law_859 : decode cL_law 859 = .ok (.iload 4, 2) := by decide +kernel
theorem dL_law_861 : decode cL_law 861 = .ok (.iconst 2, 1) := by decide +kernel
theorem dL_law_862 : decode cL_law 862 = .ok (.iadd, 1) := by decide +kernel
theorem dL_law_863 : decode cL_law 863 = .ok (.iaload, 1) := by decide +kernel
theorem dL_law_864 : decode cL_law 864 = .ok (.invokevirtual 165, 3) := by decide +kernel
theorem dL_law_867 : decode cL_law 867 = .ok (.istore 6, 2) := by decide +kernel
theorem dL_law_869 : decode cL_law 869 = .ok (.aload_n 2, 1) := by decide +kernel
theorem dL_law_870 : decode cL_law 870 = .ok (.invokevirtual 128, 3) := by decide +kernel
theorem dL_law_873 : decode cL_law 873 = .ok (.iload 5, 2) := by decide +kernel
theorem dL_law_875 : decode cL_law 875 = .ok (.if_icmp .eq 5, 3) := by decide +kernel
theorem dL_law_878 : decode cL_law 878 = .ok (.iconst 0, 1) := by decide +kernel
theorem dL_law_879 : decode cL_law 879 = .ok (.ireturn, 1) := by decide +kernel
theorem dL_law_880 : decode cL_law 880 = .ok (.iload 5, 2) := by decide +kernel
theorem dL_law_882 : decode cL_law 882 = .ok (.ifCond .ne 15, 3) := by decide +kernel
theorem dL_law_885 : decode cL_law 885 = .ok (.aload_n 3, 1) := by decide +kernel
theorem dL_law_886 : decode cL_law 886 = .ok (.iconst 0, 1) := by decide +kernel
theorem dL_law_887 : decode cL_law 887 = .ok (.laload, 1) := by decide +kernel
theorem dL_law_888 : decode cL_law 888 = .ok (.iload 6, 2) := by decide +kernel
theorem dL_law_890 : decode cL_law 890 = .ok (.i2l, 1) := by decide +kernel
theorem dL_law_891 : decode cL_law 891 = .ok (.lcmp, 1) := by decide +kernel
theorem dL_law_892 : decode cL_law 892 = .ok (.ifCond .eq 5, 3) := by decide +kernel
theorem dL_law_895 : decode cL_law 895 = .ok (.iconst 0, 1) := by decide +kernel
theorem dL_law_896 : decode cL_law 896 = .ok (.ireturn, 1) := by decide +kernel
theorem dL_law_897 : decode cL_law 897 = .ok (.goto 1519, 3) := by decide +kernel
theorem dL_law_900 : decode cL_law 900 = .ok (.aload_n 1, 1) := by decide +kernel
theorem dL_law_901 : decode cL_law 901 = .ok (.invokevirtual 166, 3) := by decide +kernel
theorem dL_law_904 : decode cL_law 904 = .ok (.aload_n 2, 1) := by decide +kernel
theorem dL_law_905 : decode cL_law 905 = .ok (.invokevirtual 169, 3) := by decide +kernel
theorem dL_law_908 : decode cL_law 908 = .ok (.if_icmp .eq 1508, 3) := by decide +kernel
theorem dL_law_911 : decode cL_law 911 = .ok (.iconst 0, 1) := by decide +kernel
theorem dL_law_912 : decode cL_law 912 = .ok (.ireturn, 1) := by decide +kernel
theorem dL_law_913 : decode cL_law 913 = .ok (.aload_n 1, 1) := by decide +kernel
theorem dL_law_914 : decode cL_law 914 = .ok (.aload_n 0, 1) := by decide +kernel
theorem dL_law_915 : decode cL_law 915 = .ok (.iload 4, 2) := by decide +kernel
theorem dL_law_917 : decode cL_law 917 = .ok (.iconst 1, 1) := by decide +kernel
theorem dL_law_918 : decode cL_law 918 = .ok (.iadd, 1) := by decide +kernel
theorem dL_law_919 : decode cL_law 919 = .ok (.iaload, 1) := by decide +kernel
theorem dL_law_920 : decode cL_law 920 = .ok (.aload_n 3, 1) := by decide +kernel
theorem dL_law_921 : decode cL_law 921 = .ok (.invokestatic 170, 3) := by decide +kernel
theorem dL_law_924 : decode cL_law 924 = .ok (.istore 5, 2) := by decide +kernel
theorem dL_law_926 : decode cL_law 926 = .ok (.aload_n 2, 1) := by decide +kernel
theorem dL_law_927 : decode cL_law 927 = .ok (.aload_n 0, 1) := by decide +kernel
theorem dL_law_928 : decode cL_law 928 = .ok (.iload 4, 2) := by decide +kernel
theorem dL_law_930 : decode cL_law 930 = .ok (.iconst 1, 1) := by decide +kernel
theorem dL_law_931 : decode cL_law 931 = .ok (.iadd, 1) := by decide +kernel
theorem dL_law_932 : decode cL_law 932 = .ok (.iaload, 1) := by decide +kernel
theorem dL_law_933 : decode cL_law 933 = .ok (.invokevirtual 172, 3) := by decide +kernel
theorem dL_law_936 : decode cL_law 936 = .ok (.istore 6, 2) := by decide +kernel
theorem dL_law_938 : decode cL_law 938 = .ok (.aload_n 2, 1) := by decide +kernel
theorem dL_law_939 : decode cL_law 939 = .ok (.invokevirtual 128, 3) := by decide +kernel
theorem dL_law_942 : decode cL_law 942 = .ok (.iload 5, 2) := by decide +kernel
theorem dL_law_944 : decode cL_law 944 = .ok (.if_icmp .eq 5, 3) := by decide +kernel
theorem dL_law_947 : decode cL_law 947 = .ok (.iconst 0, 1) := by decide +kernel
theorem dL_law_948 : decode cL_law 948 = .ok (.ireturn, 1) := by decide +kernel
theorem dL_law_949 : decode cL_law 949 = .ok (.iload 5, 2) := by decide +kernel
theorem dL_law_951 : decode cL_law 951 = .ok (.ifCond .ne 15, 3) := by decide +kernel
theorem dL_law_954 : decode cL_law 954 = .ok (.aload_n 3, 1) := by decide +kernel
theorem dL_law_955 : decode cL_law 955 = .ok (.iconst 0, 1) := by decide +kernel
theorem dL_law_956 : decode cL_law 956 = .ok (.laload, 1) := by decide +kernel
theorem dL_law_957 : decode cL_law 957 = .ok (.iload 6, 2) := by decide +kernel
theorem dL_law_959 : decode cL_law 959 = .ok (.i2l, 1) := by decide +kernel
theorem dL_law_960 : decode cL_law 960 = .ok (.lcmp, 1) := by decide +kernel
theorem dL_law_961 : decode cL_law 961 = .ok (.ifCond .eq 5, 3) := by decide +kernel
theorem dL_law_964 : decode cL_law 964 = .ok (.iconst 0, 1) := by decide +kernel
theorem dL_law_965 : decode cL_law 965 = .ok (.ireturn, 1) := by decide +kernel
theorem dL_law_966 : decode cL_law 966 = .ok (.goto 1450, 3) := by decide +kernel
theorem dL_law_969 : decode cL_law 969 = .ok (.aload_n 1, 1) := by decide +kernel
theorem dL_law_970 : decode cL_law 970 = .ok (.aload_n 0, 1) := by decide +kernel
theorem dL_law_971 : decode cL_law 971 = .ok (.iload 4, 2) := by decide +kernel
theorem dL_law_973 : decode cL_law 973 = .ok (.iconst 1, 1) := by decide +kernel
theorem dL_law_974 : decode cL_law 974 = .ok (.iadd, 1) := by decide +kernel
theorem dL_law_975 : decode cL_law 975 = .ok (.iaload, 1) := by decide +kernel
theorem dL_law_976 : decode cL_law 976 = .ok (.aload_n 3, 1) := by decide +kernel
theorem dL_law_977 : decode cL_law 977 = .ok (.invokestatic 173, 3) := by decide +kernel
theorem dL_law_980 : decode cL_law 980 = .ok (.istore 5, 2) := by decide +kernel
theorem dL_law_982 : decode cL_law 982 = .ok (.aload_n 2, 1) := by decide +kernel
theorem dL_law_983 : decode cL_law 983 = .ok (.aload_n 0, 1) := by decide +kernel
theorem dL_law_984 : decode cL_law 984 = .ok (.iload 4, 2) := by decide +kernel
theorem dL_law_986 : decode cL_law 986 = .ok (.iconst 1, 1) := by decide +kernel
theorem dL_law_987 : decode cL_law 987 = .ok (.iadd, 1) := by decide +kernel
theorem dL_law_988 : decode cL_law 988 = .ok (.iaload, 1) := by decide +kernel
theorem dL_law_989 : decode cL_law 989 = .ok (.invokevirtual 175, 3) := by decide +kernel
theorem dL_law_992 : decode cL_law 992 = .ok (.istore 6, 2) := by decide +kernel
theorem dL_law_994 : decode cL_law 994 = .ok (.aload_n 2, 1) := by decide +kernel
theorem dL_law_995 : decode cL_law 995 = .ok (.invokevirtual 128, 3) := by decide +kernel
theorem dL_law_998 : decode cL_law 998 = .ok (.iload 5, 2) := by decide +kernel
theorem dL_law_1000 : decode cL_law 1000 = .ok (.if_icmp .eq 5, 3) := by decide +kernel
theorem dL_law_1003 : decode cL_law 1003 = .ok (.iconst 0, 1) := by decide +kernel
theorem dL_law_1004 : decode cL_law 1004 = .ok (.ireturn, 1) := by decide +kernel
theorem dL_law_1005 : decode cL_law 1005 = .ok (.iload 5, 2) := by decide +kernel
theorem dL_law_1007 : decode cL_law 1007 = .ok (.ifCond .ne 15, 3) := by decide +kernel
theorem dL_law_1010 : decode cL_law 1010 = .ok (.aload_n 3, 1) := by decide +kernel
theorem dL_law_1011 : decode cL_law 1011 = .ok (.iconst 0, 1) := by decide +kernel
theorem dL_law_1012 : decode cL_law 1012 = .ok (.laload, 1) := by decide +kernel
theorem dL_law_1013 : decode cL_law 1013 = .ok (.iload 6, 2) := by decide +kernel
theorem dL_law_1015 : decode cL_law 1015 = .ok (.i2l, 1) := by decide +kernel
theorem dL_law_1016 : decode cL_law 1016 = .ok (.lcmp, 1) := by decide +kernel
theorem dL_law_1017 : decode cL_law 1017 = .ok (.ifCond .eq 5, 3) := by decide +kernel
theorem dL_law_1020 : decode cL_law 1020 = .ok (.iconst 0, 1) := by decide +kernel
theorem dL_law_1021 : decode cL_law 1021 = .ok (.ireturn, 1) := by decide +kernel
theorem dL_law_1022 : decode cL_law 1022 = .ok (.goto 1394, 3) := by decide +kernel
theorem dL_law_1025 : decode cL_law 1025 = .ok (.aload_n 1, 1) := by decide +kernel
theorem dL_law_1026 : decode cL_law 1026 = .ok (.aload_n 0, 1) := by decide +kernel
theorem dL_law_1027 : decode cL_law 1027 = .ok (.iload 4, 2) := by decide +kernel
theorem dL_law_1029 : decode cL_law 1029 = .ok (.iconst 1, 1) := by decide +kernel
theorem dL_law_1030 : decode cL_law 1030 = .ok (.iadd, 1) := by decide +kernel
theorem dL_law_1031 : decode cL_law 1031 = .ok (.iaload, 1) := by decide +kernel
theorem dL_law_1032 : decode cL_law 1032 = .ok (.aload_n 3, 1) := by decide +kernel
theorem dL_law_1033 : decode cL_law 1033 = .ok (.invokestatic 176, 3) := by decide +kernel
theorem dL_law_1036 : decode cL_law 1036 = .ok (.istore 5, 2) := by decide +kernel
theorem dL_law_1038 : decode cL_law 1038 = .ok (.aload_n 2, 1) := by decide +kernel
theorem dL_law_1039 : decode cL_law 1039 = .ok (.aload_n 0, 1) := by decide +kernel
theorem dL_law_1040 : decode cL_law 1040 = .ok (.iload 4, 2) := by decide +kernel
theorem dL_law_1042 : decode cL_law 1042 = .ok (.iconst 1, 1) := by decide +kernel
theorem dL_law_1043 : decode cL_law 1043 = .ok (.iadd, 1) := by decide +kernel
theorem dL_law_1044 : decode cL_law 1044 = .ok (.iaload, 1) := by decide +kernel
theorem dL_law_1045 : decode cL_law 1045 = .ok (.invokevirtual 178, 3) := by decide +kernel
theorem dL_law_1048 : decode cL_law 1048 = .ok (.istore 6, 2) := by decide +kernel
theorem dL_law_1050 : decode cL_law 1050 = .ok (.aload_n 2, 1) := by decide +kernel
theorem dL_law_1051 : decode cL_law 1051 = .ok (.invokevirtual 128, 3) := by decide +kernel
theorem dL_law_1054 : decode cL_law 1054 = .ok (.iload 5, 2) := by decide +kernel
theorem dL_law_1056 : decode cL_law 1056 = .ok (.if_icmp .eq 5, 3) := by decide +kernel
theorem dL_law_1059 : decode cL_law 1059 = .ok (.iconst 0, 1) := by decide +kernel
theorem dL_law_1060 : decode cL_law 1060 = .ok (.ireturn, 1) := by decide +kernel
theorem dL_law_1061 : decode cL_law 1061 = .ok (.iload 5, 2) := by decide +kernel
theorem dL_law_1063 : decode cL_law 1063 = .ok (.ifCond .ne 15, 3) := by decide +kernel
theorem dL_law_1066 : decode cL_law 1066 = .ok (.aload_n 3, 1) := by decide +kernel
theorem dL_law_1067 : decode cL_law 1067 = .ok (.iconst 0, 1) := by decide +kernel
theorem dL_law_1068 : decode cL_law 1068 = .ok (.laload, 1) := by decide +kernel
theorem dL_law_1069 : decode cL_law 1069 = .ok (.iload 6, 2) := by decide +kernel
theorem dL_law_1071 : decode cL_law 1071 = .ok (.i2l, 1) := by decide +kernel
theorem dL_law_1072 : decode cL_law 1072 = .ok (.lcmp, 1) := by decide +kernel
theorem dL_law_1073 : decode cL_law 1073 = .ok (.ifCond .eq 5, 3) := by decide +kernel
theorem dL_law_1076 : decode cL_law 1076 = .ok (.iconst 0, 1) := by decide +kernel
theorem dL_law_1077 : decode cL_law 1077 = .ok (.ireturn, 1) := by decide +kernel
theorem dL_law_1078 : decode cL_law 1078 = .ok (.goto 1338, 3) := by decide +kernel
theorem dL_law_1081 : decode cL_law 1081 = .ok (.aload_n 1, 1) := by decide +kernel
theorem dL_law_1082 : decode cL_law 1082 = .ok (.aload_n 0, 1) := by decide +kernel
theorem dL_law_1083 : decode cL_law 1083 = .ok (.iload 4, 2) := by decide +kernel
theorem dL_law_1085 : decode cL_law 1085 = .ok (.iconst 1, 1) := by decide +kernel
theorem dL_law_1086 : decode cL_law 1086 = .ok (.iadd, 1) := by decide +kernel
theorem dL_law_1087 : decode cL_law 1087 = .ok (.iaload, 1) := by decide +kernel
theorem dL_law_1088 : decode cL_law 1088 = .ok (.aload_n 3, 1) := by decide +kernel
theorem dL_law_1089 : decode cL_law 1089 = .ok (.invokestatic 179, 3) := by decide +kernel
theorem dL_law_1092 : decode cL_law 1092 = .ok (.istore 5, 2) := by decide +kernel
theorem dL_law_1094 : decode cL_law 1094 = .ok (.aload_n 2, 1) := by decide +kernel
theorem dL_law_1095 : decode cL_law 1095 = .ok (.aload_n 0, 1) := by decide +kernel
theorem dL_law_1096 : decode cL_law 1096 = .ok (.iload 4, 2) := by decide +kernel
theorem dL_law_1098 : decode cL_law 1098 = .ok (.iconst 1, 1) := by decide +kernel
theorem dL_law_1099 : decode cL_law 1099 = .ok (.iadd, 1) := by decide +kernel
theorem dL_law_1100 : decode cL_law 1100 = .ok (.iaload, 1) := by decide +kernel
theorem dL_law_1101 : decode cL_law 1101 = .ok (.invokevirtual 181, 3) := by decide +kernel
theorem dL_law_1104 : decode cL_law 1104 = .ok (.istore 6, 2) := by decide +kernel
theorem dL_law_1106 : decode cL_law 1106 = .ok (.aload_n 2, 1) := by decide +kernel
theorem dL_law_1107 : decode cL_law 1107 = .ok (.invokevirtual 128, 3) := by decide +kernel
theorem dL_law_1110 : decode cL_law 1110 = .ok (.iload 5, 2) := by decide +kernel
theorem dL_law_1112 : decode cL_law 1112 = .ok (.if_icmp .eq 5, 3) := by decide +kernel
theorem dL_law_1115 : decode cL_law 1115 = .ok (.iconst 0, 1) := by decide +kernel
theorem dL_law_1116 : decode cL_law 1116 = .ok (.ireturn, 1) := by decide +kernel
theorem dL_law_1117 : decode cL_law 1117 = .ok (.iload 5, 2) := by decide +kernel
theorem dL_law_1119 : decode cL_law 1119 = .ok (.ifCond .ne 15, 3) := by decide +kernel
theorem dL_law_1122 : decode cL_law 1122 = .ok (.aload_n 3, 1) := by decide +kernel
theorem dL_law_1123 : decode cL_law 1123 = .ok (.iconst 0, 1) := by decide +kernel
theorem dL_law_1124 : decode cL_law 1124 = .ok (.laload, 1) := by decide +kernel
theorem dL_law_1125 : decode cL_law 1125 = .ok (.iload 6, 2) := by decide +kernel
theorem dL_law_1127 : decode cL_law 1127 = .ok (.i2l, 1) := by decide +kernel
theorem dL_law_1128 : decode cL_law 1128 = .ok (.lcmp, 1) := by decide +kernel
theorem dL_law_1129 : decode cL_law 1129 = .ok (.ifCond .eq 5, 3) := by decide +kernel
theorem dL_law_1132 : decode cL_law 1132 = .ok (.iconst 0, 1) := by decide +kernel
theorem dL_law_1133 : decode cL_law 1133 = .ok (.ireturn, 1) := by decide +kernel
theorem dL_law_1134 : decode cL_law 1134 = .ok (.goto 1282, 3) := by decide +kernel
theorem dL_law_1137 : decode cL_law 1137 = .ok (.aload_n 1, 1) := by decide +kernel
theorem dL_law_1138 : decode cL_law 1138 = .ok (.aload_n 0, 1) := by decide +kernel
theorem dL_law_1139 : decode cL_law 1139 = .ok (.iload 4, 2) := by decide +kernel
theorem dL_law_1141 : decode cL_law 1141 = .ok (.iconst 1, 1) := by decide +kernel
theorem dL_law_1142 : decode cL_law 1142 = .ok (.iadd, 1) := by decide +kernel
theorem dL_law_1143 : decode cL_law 1143 = .ok (.iaload, 1) := by decide +kernel
theorem dL_law_1144 : decode cL_law 1144 = .ok (.aload_n 0, 1) := by decide +kernel
theorem dL_law_1145 : decode cL_law 1145 = .ok (.iload 4, 2) := by decide +kernel
theorem dL_law_1147 : decode cL_law 1147 = .ok (.iconst 2, 1) := by decide +kernel
theorem dL_law_1148 : decode cL_law 1148 = .ok (.iadd, 1) := by decide +kernel
theorem dL_law_1149 : decode cL_law 1149 = .ok (.iaload, 1) := by decide +kernel
theorem dL_law_1150 : decode cL_law 1150 = .ok (.aload_n 0, 1) := by decide +kernel
theorem dL_law_1151 : decode cL_law 1151 = .ok (.iload 4, 2) := by decide +kernel
theorem dL_law_1153 : decode cL_law 1153 = .ok (.iconst 3, 1) := by decide +kernel
theorem dL_law_1154 : decode cL_law 1154 = .ok (.iadd, 1) := by decide +kernel
theorem dL_law_1155 : decode cL_law 1155 = .ok (.iaload, 1) := by decide +kernel
theorem dL_law_1156 : decode cL_law 1156 = .ok (.aload_n 3, 1) := by decide +kernel
theorem dL_law_1157 : decode cL_law 1157 = .ok (.invokestatic 182, 3) := by decide +kernel
theorem dL_law_1160 : decode cL_law 1160 = .ok (.istore 5, 2) := by decide +kernel
theorem dL_law_1162 : decode cL_law 1162 = .ok (.aload_n 2, 1) := by decide +kernel
theorem dL_law_1163 : decode cL_law 1163 = .ok (.aload_n 0, 1) := by decide +kernel
theorem dL_law_1164 : decode cL_law 1164 = .ok (.iload 4, 2) := by decide +kernel
theorem dL_law_1166 : decode cL_law 1166 = .ok (.iconst 1, 1) := by decide +kernel
theorem dL_law_1167 : decode cL_law 1167 = .ok (.iadd, 1) := by decide +kernel
theorem dL_law_1168 : decode cL_law 1168 = .ok (.iaload, 1) := by decide +kernel
theorem dL_law_1169 : decode cL_law 1169 = .ok (.aload_n 0, 1) := by decide +kernel
theorem dL_law_1170 : decode cL_law 1170 = .ok (.iload 4, 2) := by decide +kernel
theorem dL_law_1172 : decode cL_law 1172 = .ok (.iconst 2, 1) := by decide +kernel
theorem dL_law_1173 : decode cL_law 1173 = .ok (.iadd, 1) := by decide +kernel
theorem dL_law_1174 : decode cL_law 1174 = .ok (.iaload, 1) := by decide +kernel
theorem dL_law_1175 : decode cL_law 1175 = .ok (.aload_n 0, 1) := by decide +kernel
theorem dL_law_1176 : decode cL_law 1176 = .ok (.iload 4, 2) := by decide +kernel
theorem dL_law_1178 : decode cL_law 1178 = .ok (.iconst 3, 1) := by decide +kernel
theorem dL_law_1179 : decode cL_law 1179 = .ok (.iadd, 1) := by decide +kernel
theorem dL_law_1180 : decode cL_law 1180 = .ok (.iaload, 1) := by decide +kernel
theorem dL_law_1181 : decode cL_law 1181 = .ok (.invokevirtual 184, 3) := by decide +kernel
theorem dL_law_1184 : decode cL_law 1184 = .ok (.istore 6, 2) := by decide +kernel
theorem dL_law_1186 : decode cL_law 1186 = .ok (.aload_n 2, 1) := by decide +kernel
theorem dL_law_1187 : decode cL_law 1187 = .ok (.invokevirtual 128, 3) := by decide +kernel
theorem dL_law_1190 : decode cL_law 1190 = .ok (.iload 5, 2) := by decide +kernel
theorem dL_law_1192 : decode cL_law 1192 = .ok (.if_icmp .eq 5, 3) := by decide +kernel
theorem dL_law_1195 : decode cL_law 1195 = .ok (.iconst 0, 1) := by decide +kernel
theorem dL_law_1196 : decode cL_law 1196 = .ok (.ireturn, 1) := by decide +kernel
theorem dL_law_1197 : decode cL_law 1197 = .ok (.iload 5, 2) := by decide +kernel
theorem dL_law_1199 : decode cL_law 1199 = .ok (.ifCond .ne 15, 3) := by decide +kernel
theorem dL_law_1202 : decode cL_law 1202 = .ok (.aload_n 3, 1) := by decide +kernel
theorem dL_law_1203 : decode cL_law 1203 = .ok (.iconst 0, 1) := by decide +kernel
theorem dL_law_1204 : decode cL_law 1204 = .ok (.laload, 1) := by decide +kernel
theorem dL_law_1205 : decode cL_law 1205 = .ok (.iload 6, 2) := by decide +kernel
theorem dL_law_1207 : decode cL_law 1207 = .ok (.i2l, 1) := by decide +kernel
theorem dL_law_1208 : decode cL_law 1208 = .ok (.lcmp, 1) := by decide +kernel
theorem dL_law_1209 : decode cL_law 1209 = .ok (.ifCond .eq 5, 3) := by decide +kernel
theorem dL_law_1212 : decode cL_law 1212 = .ok (.iconst 0, 1) := by decide +kernel
theorem dL_law_1213 : decode cL_law 1213 = .ok (.ireturn, 1) := by decide +kernel
theorem dL_law_1214 : decode cL_law 1214 = .ok (.goto 1202, 3) := by decide +kernel
theorem dL_law_1217 : decode cL_law 1217 = .ok (.aload_n 1, 1) := by decide +kernel
theorem dL_law_1218 : decode cL_law 1218 = .ok (.aload_n 0, 1) := by decide +kernel
theorem dL_law_1219 : decode cL_law 1219 = .ok (.iload 4, 2) := by decide +kernel
theorem dL_law_1221 : decode cL_law 1221 = .ok (.iconst 1, 1) := by decide +kernel
theorem dL_law_1222 : decode cL_law 1222 = .ok (.iadd, 1) := by decide +kernel
theorem dL_law_1223 : decode cL_law 1223 = .ok (.iaload, 1) := by decide +kernel
theorem dL_law_1224 : decode cL_law 1224 = .ok (.aload_n 0, 1) := by decide +kernel
theorem dL_law_1225 : decode cL_law 1225 = .ok (.iload 4, 2) := by decide +kernel
theorem dL_law_1227 : decode cL_law 1227 = .ok (.iconst 2, 1) := by decide +kernel
theorem dL_law_1228 : decode cL_law 1228 = .ok (.iadd, 1) := by decide +kernel
theorem dL_law_1229 : decode cL_law 1229 = .ok (.iaload, 1) := by decide +kernel
theorem dL_law_1230 : decode cL_law 1230 = .ok (.aload_n 3, 1) := by decide +kernel
theorem dL_law_1231 : decode cL_law 1231 = .ok (.invokestatic 185, 3) := by decide +kernel
theorem dL_law_1234 : decode cL_law 1234 = .ok (.istore 5, 2) := by decide +kernel
theorem dL_law_1236 : decode cL_law 1236 = .ok (.aload_n 2, 1) := by decide +kernel
theorem dL_law_1237 : decode cL_law 1237 = .ok (.aload_n 0, 1) := by decide +kernel
theorem dL_law_1238 : decode cL_law 1238 = .ok (.iload 4, 2) := by decide +kernel
theorem dL_law_1240 : decode cL_law 1240 = .ok (.iconst 1, 1) := by decide +kernel
theorem dL_law_1241 : decode cL_law 1241 = .ok (.iadd, 1) := by decide +kernel
theorem dL_law_1242 : decode cL_law 1242 = .ok (.iaload, 1) := by decide +kernel
theorem dL_law_1243 : decode cL_law 1243 = .ok (.aload_n 0, 1) := by decide +kernel
theorem dL_law_1244 : decode cL_law 1244 = .ok (.iload 4, 2) := by decide +kernel
theorem dL_law_1246 : decode cL_law 1246 = .ok (.iconst 2, 1) := by decide +kernel
theorem dL_law_1247 : decode cL_law 1247 = .ok (.iadd, 1) := by decide +kernel
theorem dL_law_1248 : decode cL_law 1248 = .ok (.iaload, 1) := by decide +kernel
theorem dL_law_1249 : decode cL_law 1249 = .ok (.invokevirtual 187, 3) := by decide +kernel
theorem dL_law_1252 : decode cL_law 1252 = .ok (.istore 6, 2) := by decide +kernel
theorem dL_law_1254 : decode cL_law 1254 = .ok (.aload_n 2, 1) := by decide +kernel
theorem dL_law_1255 : decode cL_law 1255 = .ok (.invokevirtual 128, 3) := by decide +kernel
theorem dL_law_1258 : decode cL_law 1258 = .ok (.iload 5, 2) := by decide +kernel
theorem dL_law_1260 : decode cL_law 1260 = .ok (.if_icmp .eq 5, 3) := by decide +kernel
theorem dL_law_1263 : decode cL_law 1263 = .ok (.iconst 0, 1) := by decide +kernel
theorem dL_law_1264 : decode cL_law 1264 = .ok (.ireturn, 1) := by decide +kernel
theorem dL_law_1265 : decode cL_law 1265 = .ok (.iload 5, 2) := by decide +kernel
theorem dL_law_1267 : decode cL_law 1267 = .ok (.ifCond .ne 15, 3) := by decide +kernel
theorem dL_law_1270 : decode cL_law 1270 = .ok (.aload_n 3, 1) := by decide +kernel
theorem dL_law_1271 : decode cL_law 1271 = .ok (.iconst 0, 1) := by decide +kernel
theorem dL_law_1272 : decode cL_law 1272 = .ok (.laload, 1) := by decide +kernel
theorem dL_law_1273 : decode cL_law 1273 = .ok (.iload 6, 2) := by decide +kernel
theorem dL_law_1275 : decode cL_law 1275 = .ok (.i2l, 1) := by decide +kernel
theorem dL_law_1276 : decode cL_law 1276 = .ok (.lcmp, 1) := by decide +kernel
theorem dL_law_1277 : decode cL_law 1277 = .ok (.ifCond .eq 5, 3) := by decide +kernel
theorem dL_law_1280 : decode cL_law 1280 = .ok (.iconst 0, 1) := by decide +kernel
theorem dL_law_1281 : decode cL_law 1281 = .ok (.ireturn, 1) := by decide +kernel
theorem dL_law_1282 : decode cL_law 1282 = .ok (.goto 1134, 3) := by decide +kernel
theorem dL_law_1285 : decode cL_law 1285 = .ok (.aload_n 1, 1) := by decide +kernel
theorem dL_law_1286 : decode cL_law 1286 = .ok (.aload_n 0, 1) := by decide +kernel
theorem dL_law_1287 : decode cL_law 1287 = .ok (.iload 4, 2) := by decide +kernel
theorem dL_law_1289 : decode cL_law 1289 = .ok (.iconst 1, 1) := by decide +kernel
theorem dL_law_1290 : decode cL_law 1290 = .ok (.iadd, 1) := by decide +kernel
theorem dL_law_1291 : decode cL_law 1291 = .ok (.iaload, 1) := by decide +kernel
theorem dL_law_1292 : decode cL_law 1292 = .ok (.aload_n 0, 1) := by decide +kernel
theorem dL_law_1293 : decode cL_law 1293 = .ok (.iload 4, 2) := by decide +kernel
theorem dL_law_1295 : decode cL_law 1295 = .ok (.iconst 2, 1) := by decide +kernel
theorem dL_law_1296 : decode cL_law 1296 = .ok (.iadd, 1) := by decide +kernel
theorem dL_law_1297 : decode cL_law 1297 = .ok (.iaload, 1) := by decide +kernel
theorem dL_law_1298 : decode cL_law 1298 = .ok (.aload_n 3, 1) := by decide +kernel
theorem dL_law_1299 : decode cL_law 1299 = .ok (.invokestatic 188, 3) := by decide +kernel
theorem dL_law_1302 : decode cL_law 1302 = .ok (.istore 5, 2) := by decide +kernel
theorem dL_law_1304 : decode cL_law 1304 = .ok (.aload_n 2, 1) := by decide +kernel
theorem dL_law_1305 : decode cL_law 1305 = .ok (.aload_n 0, 1) := by decide +kernel
theorem dL_law_1306 : decode cL_law 1306 = .ok (.iload 4, 2) := by decide +kernel
theorem dL_law_1308 : decode cL_law 1308 = .ok (.iconst 1, 1) := by decide +kernel
theorem dL_law_1309 : decode cL_law 1309 = .ok (.iadd, 1) := by decide +kernel
theorem dL_law_1310 : decode cL_law 1310 = .ok (.iaload, 1) := by decide +kernel
theorem dL_law_1311 : decode cL_law 1311 = .ok (.aload_n 0, 1) := by decide +kernel
theorem dL_law_1312 : decode cL_law 1312 = .ok (.iload 4, 2) := by decide +kernel
theorem dL_law_1314 : decode cL_law 1314 = .ok (.iconst 2, 1) := by decide +kernel
theorem dL_law_1315 : decode cL_law 1315 = .ok (.iadd, 1) := by decide +kernel
theorem dL_law_1316 : decode cL_law 1316 = .ok (.iaload, 1) := by decide +kernel
theorem dL_law_1317 : decode cL_law 1317 = .ok (.invokevirtual 190, 3) := by decide +kernel
theorem dL_law_1320 : decode cL_law 1320 = .ok (.istore 6, 2) := by decide +kernel
theorem dL_law_1322 : decode cL_law 1322 = .ok (.aload_n 2, 1) := by decide +kernel
theorem dL_law_1323 : decode cL_law 1323 = .ok (.invokevirtual 128, 3) := by decide +kernel
theorem dL_law_1326 : decode cL_law 1326 = .ok (.iload 5, 2) := by decide +kernel
theorem dL_law_1328 : decode cL_law 1328 = .ok (.if_icmp .eq 5, 3) := by decide +kernel
theorem dL_law_1331 : decode cL_law 1331 = .ok (.iconst 0, 1) := by decide +kernel
theorem dL_law_1332 : decode cL_law 1332 = .ok (.ireturn, 1) := by decide +kernel
theorem dL_law_1333 : decode cL_law 1333 = .ok (.iload 5, 2) := by decide +kernel
theorem dL_law_1335 : decode cL_law 1335 = .ok (.ifCond .ne 15, 3) := by decide +kernel
theorem dL_law_1338 : decode cL_law 1338 = .ok (.aload_n 3, 1) := by decide +kernel
theorem dL_law_1339 : decode cL_law 1339 = .ok (.iconst 0, 1) := by decide +kernel
theorem dL_law_1340 : decode cL_law 1340 = .ok (.laload, 1) := by decide +kernel
theorem dL_law_1341 : decode cL_law 1341 = .ok (.iload 6, 2) := by decide +kernel
theorem dL_law_1343 : decode cL_law 1343 = .ok (.i2l, 1) := by decide +kernel
theorem dL_law_1344 : decode cL_law 1344 = .ok (.lcmp, 1) := by decide +kernel
theorem dL_law_1345 : decode cL_law 1345 = .ok (.ifCond .eq 5, 3) := by decide +kernel
theorem dL_law_1348 : decode cL_law 1348 = .ok (.iconst 0, 1) := by decide +kernel
theorem dL_law_1349 : decode cL_law 1349 = .ok (.ireturn, 1) := by decide +kernel
theorem dL_law_1350 : decode cL_law 1350 = .ok (.goto 1066, 3) := by decide +kernel
theorem dL_law_1353 : decode cL_law 1353 = .ok (.aload_n 1, 1) := by decide +kernel
theorem dL_law_1354 : decode cL_law 1354 = .ok (.aload_n 0, 1) := by decide +kernel
theorem dL_law_1355 : decode cL_law 1355 = .ok (.iload 4, 2) := by decide +kernel
theorem dL_law_1357 : decode cL_law 1357 = .ok (.iconst 1, 1) := by decide +kernel
theorem dL_law_1358 : decode cL_law 1358 = .ok (.iadd, 1) := by decide +kernel
theorem dL_law_1359 : decode cL_law 1359 = .ok (.iaload, 1) := by decide +kernel
theorem dL_law_1360 : decode cL_law 1360 = .ok (.aload_n 0, 1) := by decide +kernel
theorem dL_law_1361 : decode cL_law 1361 = .ok (.iload 4, 2) := by decide +kernel
theorem dL_law_1363 : decode cL_law 1363 = .ok (.iconst 2, 1) := by decide +kernel
theorem dL_law_1364 : decode cL_law 1364 = .ok (.iadd, 1) := by decide +kernel
theorem dL_law_1365 : decode cL_law 1365 = .ok (.iaload, 1) := by decide +kernel
theorem dL_law_1366 : decode cL_law 1366 = .ok (.aload_n 0, 1) := by decide +kernel
theorem dL_law_1367 : decode cL_law 1367 = .ok (.iload 4, 2) := by decide +kernel
theorem dL_law_1369 : decode cL_law 1369 = .ok (.iconst 3, 1) := by decide +kernel
theorem dL_law_1370 : decode cL_law 1370 = .ok (.iadd, 1) := by decide +kernel
theorem dL_law_1371 : decode cL_law 1371 = .ok (.iaload, 1) := by decide +kernel
theorem dL_law_1372 : decode cL_law 1372 = .ok (.aload_n 3, 1) := by decide +kernel
theorem dL_law_1373 : decode cL_law 1373 = .ok (.invokestatic 191, 3) := by decide +kernel
theorem dL_law_1376 : decode cL_law 1376 = .ok (.istore 5, 2) := by decide +kernel
theorem dL_law_1378 : decode cL_law 1378 = .ok (.aload_n 2, 1) := by decide +kernel
theorem dL_law_1379 : decode cL_law 1379 = .ok (.aload_n 0, 1) := by decide +kernel
theorem dL_law_1380 : decode cL_law 1380 = .ok (.iload 4, 2) := by decide +kernel
theorem dL_law_1382 : decode cL_law 1382 = .ok (.iconst 1, 1) := by decide +kernel
theorem dL_law_1383 : decode cL_law 1383 = .ok (.iadd, 1) := by decide +kernel
theorem dL_law_1384 : decode cL_law 1384 = .ok (.iaload, 1) := by decide +kernel
theorem dL_law_1385 : decode cL_law 1385 = .ok (.aload_n 0, 1) := by decide +kernel
theorem dL_law_1386 : decode cL_law 1386 = .ok (.iload 4, 2) := by decide +kernel
theorem dL_law_1388 : decode cL_law 1388 = .ok (.iconst 2, 1) := by decide +kernel
theorem dL_law_1389 : decode cL_law 1389 = .ok (.iadd, 1) := by decide +kernel
theorem dL_law_1390 : decode cL_law 1390 = .ok (.iaload, 1) := by decide +kernel
theorem dL_law_1391 : decode cL_law 1391 = .ok (.aload_n 0, 1) := by decide +kernel
theorem dL_law_1392 : decode cL_law 1392 = .ok (.iload 4, 2) := by decide +kernel
theorem dL_law_1394 : decode cL_law 1394 = .ok (.iconst 3, 1) := by decide +kernel
theorem dL_law_1395 : decode cL_law 1395 = .ok (.iadd, 1) := by decide +kernel
theorem dL_law_1396 : decode cL_law 1396 = .ok (.iaload, 1) := by decide +kernel
theorem dL_law_1397 : decode cL_law 1397 = .ok (.invokevirtual 193, 3) := by decide +kernel
theorem dL_law_1400 : decode cL_law 1400 = .ok (.istore 6, 2) := by decide +kernel
theorem dL_law_1402 : decode cL_law 1402 = .ok (.aload_n 2, 1) := by decide +kernel
theorem dL_law_1403 : decode cL_law 1403 = .ok (.invokevirtual 128, 3) := by decide +kernel
theorem dL_law_1406 : decode cL_law 1406 = .ok (.iload 5, 2) := by decide +kernel
theorem dL_law_1408 : decode cL_law 1408 = .ok (.if_icmp .eq 5, 3) := by decide +kernel
theorem dL_law_1411 : decode cL_law 1411 = .ok (.iconst 0, 1) := by decide +kernel
theorem dL_law_1412 : decode cL_law 1412 = .ok (.ireturn, 1) := by decide +kernel
theorem dL_law_1413 : decode cL_law 1413 = .ok (.iload 5, 2) := by decide +kernel
theorem dL_law_1415 : decode cL_law 1415 = .ok (.ifCond .ne 15, 3) := by decide +kernel
theorem dL_law_1418 : decode cL_law 1418 = .ok (.aload_n 3, 1) := by decide +kernel
theorem dL_law_1419 : decode cL_law 1419 = .ok (.iconst 0, 1) := by decide +kernel
theorem dL_law_1420 : decode cL_law 1420 = .ok (.laload, 1) := by decide +kernel
theorem dL_law_1421 : decode cL_law 1421 = .ok (.iload 6, 2) := by decide +kernel
theorem dL_law_1423 : decode cL_law 1423 = .ok (.i2l, 1) := by decide +kernel
theorem dL_law_1424 : decode cL_law 1424 = .ok (.lcmp, 1) := by decide +kernel
theorem dL_law_1425 : decode cL_law 1425 = .ok (.ifCond .eq 5, 3) := by decide +kernel
theorem dL_law_1428 : decode cL_law 1428 = .ok (.iconst 0, 1) := by decide +kernel
theorem dL_law_1429 : decode cL_law 1429 = .ok (.ireturn, 1) := by decide +kernel
theorem dL_law_1430 : decode cL_law 1430 = .ok (.goto 986, 3) := by decide +kernel
theorem dL_law_1433 : decode cL_law 1433 = .ok (.aload_n 1, 1) := by decide +kernel
theorem dL_law_1434 : decode cL_law 1434 = .ok (.aload_n 0, 1) := by decide +kernel
theorem dL_law_1435 : decode cL_law 1435 = .ok (.iload 4, 2) := by decide +kernel
theorem dL_law_1437 : decode cL_law 1437 = .ok (.iconst 1, 1) := by decide +kernel
theorem dL_law_1438 : decode cL_law 1438 = .ok (.iadd, 1) := by decide +kernel
theorem dL_law_1439 : decode cL_law 1439 = .ok (.iaload, 1) := by decide +kernel
theorem dL_law_1440 : decode cL_law 1440 = .ok (.aload_n 0, 1) := by decide +kernel
theorem dL_law_1441 : decode cL_law 1441 = .ok (.iload 4, 2) := by decide +kernel
theorem dL_law_1443 : decode cL_law 1443 = .ok (.iconst 2, 1) := by decide +kernel
theorem dL_law_1444 : decode cL_law 1444 = .ok (.iadd, 1) := by decide +kernel
theorem dL_law_1445 : decode cL_law 1445 = .ok (.iaload, 1) := by decide +kernel
theorem dL_law_1446 : decode cL_law 1446 = .ok (.aload_n 3, 1) := by decide +kernel
theorem dL_law_1447 : decode cL_law 1447 = .ok (.invokestatic 194, 3) := by decide +kernel
theorem dL_law_1450 : decode cL_law 1450 = .ok (.istore 5, 2) := by decide +kernel
theorem dL_law_1452 : decode cL_law 1452 = .ok (.aload_n 2, 1) := by decide +kernel
theorem dL_law_1453 : decode cL_law 1453 = .ok (.aload_n 0, 1) := by decide +kernel
theorem dL_law_1454 : decode cL_law 1454 = .ok (.iload 4, 2) := by decide +kernel
theorem dL_law_1456 : decode cL_law 1456 = .ok (.iconst 1, 1) := by decide +kernel
theorem dL_law_1457 : decode cL_law 1457 = .ok (.iadd, 1) := by decide +kernel
theorem dL_law_1458 : decode cL_law 1458 = .ok (.iaload, 1) := by decide +kernel
theorem dL_law_1459 : decode cL_law 1459 = .ok (.aload_n 0, 1) := by decide +kernel
theorem dL_law_1460 : decode cL_law 1460 = .ok (.iload 4, 2) := by decide +kernel
theorem dL_law_1462 : decode cL_law 1462 = .ok (.iconst 2, 1) := by decide +kernel
theorem dL_law_1463 : decode cL_law 1463 = .ok (.iadd, 1) := by decide +kernel
theorem dL_law_1464 : decode cL_law 1464 = .ok (.iaload, 1) := by decide +kernel
theorem dL_law_1465 : decode cL_law 1465 = .ok (.invokevirtual 196, 3) := by decide +kernel
theorem dL_law_1468 : decode cL_law 1468 = .ok (.istore 6, 2) := by decide +kernel
theorem dL_law_1470 : decode cL_law 1470 = .ok (.aload_n 2, 1) := by decide +kernel
theorem dL_law_1471 : decode cL_law 1471 = .ok (.invokevirtual 128, 3) := by decide +kernel
theorem dL_law_1474 : decode cL_law 1474 = .ok (.iload 5, 2) := by decide +kernel
theorem dL_law_1476 : decode cL_law 1476 = .ok (.if_icmp .eq 5, 3) := by decide +kernel
theorem dL_law_1479 : decode cL_law 1479 = .ok (.iconst 0, 1) := by decide +kernel
theorem dL_law_1480 : decode cL_law 1480 = .ok (.ireturn, 1) := by decide +kernel
theorem dL_law_1481 : decode cL_law 1481 = .ok (.iload 5, 2) := by decide +kernel
theorem dL_law_1483 : decode cL_law 1483 = .ok (.ifCond .ne 15, 3) := by decide +kernel
theorem dL_law_1486 : decode cL_law 1486 = .ok (.aload_n 3, 1) := by decide +kernel
theorem dL_law_1487 : decode cL_law 1487 = .ok (.iconst 0, 1) := by decide +kernel
theorem dL_law_1488 : decode cL_law 1488 = .ok (.laload, 1) := by decide +kernel
theorem dL_law_1489 : decode cL_law 1489 = .ok (.iload 6, 2) := by decide +kernel
theorem dL_law_1491 : decode cL_law 1491 = .ok (.i2l, 1) := by decide +kernel
theorem dL_law_1492 : decode cL_law 1492 = .ok (.lcmp, 1) := by decide +kernel
theorem dL_law_1493 : decode cL_law 1493 = .ok (.ifCond .eq 5, 3) := by decide +kernel
theorem dL_law_1496 : decode cL_law 1496 = .ok (.iconst 0, 1) := by decide +kernel
theorem dL_law_1497 : decode cL_law 1497 = .ok (.ireturn, 1) := by decide +kernel
theorem dL_law_1498 : decode cL_law 1498 = .ok (.goto 918, 3) := by decide +kernel
theorem dL_law_1501 : decode cL_law 1501 = .ok (.aload_n 1, 1) := by decide +kernel
theorem dL_law_1502 : decode cL_law 1502 = .ok (.aload_n 0, 1) := by decide +kernel
theorem dL_law_1503 : decode cL_law 1503 = .ok (.iload 4, 2) := by decide +kernel
theorem dL_law_1505 : decode cL_law 1505 = .ok (.iconst 1, 1) := by decide +kernel
theorem dL_law_1506 : decode cL_law 1506 = .ok (.iadd, 1) := by decide +kernel
theorem dL_law_1507 : decode cL_law 1507 = .ok (.iaload, 1) := by decide +kernel
theorem dL_law_1508 : decode cL_law 1508 = .ok (.aload_n 0, 1) := by decide +kernel
theorem dL_law_1509 : decode cL_law 1509 = .ok (.iload 4, 2) := by decide +kernel
theorem dL_law_1511 : decode cL_law 1511 = .ok (.iconst 2, 1) := by decide +kernel
theorem dL_law_1512 : decode cL_law 1512 = .ok (.iadd, 1) := by decide +kernel
theorem dL_law_1513 : decode cL_law 1513 = .ok (.iaload, 1) := by decide +kernel
theorem dL_law_1514 : decode cL_law 1514 = .ok (.aload_n 3, 1) := by decide +kernel
theorem dL_law_1515 : decode cL_law 1515 = .ok (.invokestatic 197, 3) := by decide +kernel
theorem dL_law_1518 : decode cL_law 1518 = .ok (.istore 5, 2) := by decide +kernel
theorem dL_law_1520 : decode cL_law 1520 = .ok (.aload_n 2, 1) := by decide +kernel
theorem dL_law_1521 : decode cL_law 1521 = .ok (.aload_n 0, 1) := by decide +kernel
theorem dL_law_1522 : decode cL_law 1522 = .ok (.iload 4, 2) := by decide +kernel
theorem dL_law_1524 : decode cL_law 1524 = .ok (.iconst 1, 1) := by decide +kernel
theorem dL_law_1525 : decode cL_law 1525 = .ok (.iadd, 1) := by decide +kernel
theorem dL_law_1526 : decode cL_law 1526 = .ok (.iaload, 1) := by decide +kernel
theorem dL_law_1527 : decode cL_law 1527 = .ok (.aload_n 0, 1) := by decide +kernel
theorem dL_law_1528 : decode cL_law 1528 = .ok (.iload 4, 2) := by decide +kernel
theorem dL_law_1530 : decode cL_law 1530 = .ok (.iconst 2, 1) := by decide +kernel
theorem dL_law_1531 : decode cL_law 1531 = .ok (.iadd, 1) := by decide +kernel
theorem dL_law_1532 : decode cL_law 1532 = .ok (.iaload, 1) := by decide +kernel
theorem dL_law_1533 : decode cL_law 1533 = .ok (.invokevirtual 199, 3) := by decide +kernel
theorem dL_law_1536 : decode cL_law 1536 = .ok (.istore 6, 2) := by decide +kernel
theorem dL_law_1538 : decode cL_law 1538 = .ok (.aload_n 2, 1) := by decide +kernel
theorem dL_law_1539 : decode cL_law 1539 = .ok (.invokevirtual 128, 3) := by decide +kernel
theorem dL_law_1542 : decode cL_law 1542 = .ok (.iload 5, 2) := by decide +kernel
theorem dL_law_1544 : decode cL_law 1544 = .ok (.if_icmp .eq 5, 3) := by decide +kernel
theorem dL_law_1547 : decode cL_law 1547 = .ok (.iconst 0, 1) := by decide +kernel
theorem dL_law_1548 : decode cL_law 1548 = .ok (.ireturn, 1) := by decide +kernel
theorem dL_law_1549 : decode cL_law 1549 = .ok (.iload 5, 2) := by decide +kernel
theorem dL_law_1551 : decode cL_law 1551 = .ok (.ifCond .ne 15, 3) := by decide +kernel
theorem dL_law_1554 : decode cL_law 1554 = .ok (.aload_n 3, 1) := by decide +kernel
theorem dL_law_1555 : decode cL_law 1555 = .ok (.iconst 0, 1) := by decide +kernel
theorem dL_law_1556 : decode cL_law 1556 = .ok (.laload, 1) := by decide +kernel
theorem dL_law_1557 : decode cL_law 1557 = .ok (.iload 6, 2) := by decide +kernel
theorem dL_law_1559 : decode cL_law 1559 = .ok (.i2l, 1) := by decide +kernel
theorem dL_law_1560 : decode cL_law 1560 = .ok (.lcmp, 1) := by decide +kernel
theorem dL_law_1561 : decode cL_law 1561 = .ok (.ifCond .eq 5, 3) := by decide +kernel
theorem dL_law_1564 : decode cL_law 1564 = .ok (.iconst 0, 1) := by decide +kernel
theorem dL_law_1565 : decode cL_law 1565 = .ok (.ireturn, 1) := by decide +kernel
theorem dL_law_1566 : decode cL_law 1566 = .ok (.goto 850, 3) := by decide +kernel
theorem dL_law_1569 : decode cL_law 1569 = .ok (.aload_n 1, 1) := by decide +kernel
theorem dL_law_1570 : decode cL_law 1570 = .ok (.aload_n 0, 1) := by decide +kernel
theorem dL_law_1571 : decode cL_law 1571 = .ok (.iload 4, 2) := by decide +kernel
theorem dL_law_1573 : decode cL_law 1573 = .ok (.iconst 1, 1) := by decide +kernel
theorem dL_law_1574 : decode cL_law 1574 = .ok (.iadd, 1) := by decide +kernel
theorem dL_law_1575 : decode cL_law 1575 = .ok (.iaload, 1) := by decide +kernel
theorem dL_law_1576 : decode cL_law 1576 = .ok (.aload_n 0, 1) := by decide +kernel
theorem dL_law_1577 : decode cL_law 1577 = .ok (.iload 4, 2) := by decide +kernel
theorem dL_law_1579 : decode cL_law 1579 = .ok (.iconst 2, 1) := by decide +kernel
theorem dL_law_1580 : decode cL_law 1580 = .ok (.iadd, 1) := by decide +kernel
theorem dL_law_1581 : decode cL_law 1581 = .ok (.iaload, 1) := by decide +kernel
theorem dL_law_1582 : decode cL_law 1582 = .ok (.aload_n 0, 1) := by decide +kernel
theorem dL_law_1583 : decode cL_law 1583 = .ok (.iload 4, 2) := by decide +kernel
theorem dL_law_1585 : decode cL_law 1585 = .ok (.iconst 3, 1) := by decide +kernel
theorem dL_law_1586 : decode cL_law 1586 = .ok (.iadd, 1) := by decide +kernel
theorem dL_law_1587 : decode cL_law 1587 = .ok (.iaload, 1) := by decide +kernel
theorem dL_law_1588 : decode cL_law 1588 = .ok (.aload_n 3, 1) := by decide +kernel
theorem dL_law_1589 : decode cL_law 1589 = .ok (.invokestatic 200, 3) := by decide +kernel
theorem dL_law_1592 : decode cL_law 1592 = .ok (.istore 5, 2) := by decide +kernel
theorem dL_law_1594 : decode cL_law 1594 = .ok (.aload_n 2, 1) := by decide +kernel
theorem dL_law_1595 : decode cL_law 1595 = .ok (.aload_n 0, 1) := by decide +kernel
theorem dL_law_1596 : decode cL_law 1596 = .ok (.iload 4, 2) := by decide +kernel
theorem dL_law_1598 : decode cL_law 1598 = .ok (.iconst 1, 1) := by decide +kernel
theorem dL_law_1599 : decode cL_law 1599 = .ok (.iadd, 1) := by decide +kernel
theorem dL_law_1600 : decode cL_law 1600 = .ok (.iaload, 1) := by decide +kernel
theorem dL_law_1601 : decode cL_law 1601 = .ok (.aload_n 0, 1) := by decide +kernel
theorem dL_law_1602 : decode cL_law 1602 = .ok (.iload 4, 2) := by decide +kernel
theorem dL_law_1604 : decode cL_law 1604 = .ok (.iconst 2, 1) := by decide +kernel
theorem dL_law_1605 : decode cL_law 1605 = .ok (.iadd, 1) := by decide +kernel
theorem dL_law_1606 : decode cL_law 1606 = .ok (.iaload, 1) := by decide +kernel
theorem dL_law_1607 : decode cL_law 1607 = .ok (.aload_n 0, 1) := by decide +kernel
theorem dL_law_1608 : decode cL_law 1608 = .ok (.iload 4, 2) := by decide +kernel
theorem dL_law_1610 : decode cL_law 1610 = .ok (.iconst 3, 1) := by decide +kernel
theorem dL_law_1611 : decode cL_law 1611 = .ok (.iadd, 1) := by decide +kernel
theorem dL_law_1612 : decode cL_law 1612 = .ok (.iaload, 1) := by decide +kernel
theorem dL_law_1613 : decode cL_law 1613 = .ok (.invokevirtual 202, 3) := by decide +kernel
theorem dL_law_1616 : decode cL_law 1616 = .ok (.istore 6, 2) := by decide +kernel
theorem dL_law_1618 : decode cL_law 1618 = .ok (.aload_n 2, 1) := by decide +kernel
theorem dL_law_1619 : decode cL_law 1619 = .ok (.invokevirtual 128, 3) := by decide +kernel
theorem dL_law_1622 : decode cL_law 1622 = .ok (.iload 5, 2) := by decide +kernel
theorem dL_law_1624 : decode cL_law 1624 = .ok (.if_icmp .eq 5, 3) := by decide +kernel
theorem dL_law_1627 : decode cL_law 1627 = .ok (.iconst 0, 1) := by decide +kernel
theorem dL_law_1628 : decode cL_law 1628 = .ok (.ireturn, 1) := by decide +kernel
theorem dL_law_1629 : decode cL_law 1629 = .ok (.iload 5, 2) := by decide +kernel
theorem dL_law_1631 : decode cL_law 1631 = .ok (.ifCond .ne 15, 3) := by decide +kernel
theorem dL_law_1634 : decode cL_law 1634 = .ok (.aload_n 3, 1) := by decide +kernel
theorem dL_law_1635 : decode cL_law 1635 = .ok (.iconst 0, 1) := by decide +kernel
theorem dL_law_1636 : decode cL_law 1636 = .ok (.laload, 1) := by decide +kernel
theorem dL_law_1637 : decode cL_law 1637 = .ok (.iload 6, 2) := by decide +kernel
theorem dL_law_1639 : decode cL_law 1639 = .ok (.i2l, 1) := by decide +kernel
theorem dL_law_1640 : decode cL_law 1640 = .ok (.lcmp, 1) := by decide +kernel
theorem dL_law_1641 : decode cL_law 1641 = .ok (.ifCond .eq 5, 3) := by decide +kernel
theorem dL_law_1644 : decode cL_law 1644 = .ok (.iconst 0, 1) := by decide +kernel
theorem dL_law_1645 : decode cL_law 1645 = .ok (.ireturn, 1) := by decide +kernel
theorem dL_law_1646 : decode cL_law 1646 = .ok (.goto 770, 3) := by decide +kernel
theorem dL_law_1649 : decode cL_law 1649 = .ok (.aload_n 1, 1) := by decide +kernel
theorem dL_law_1650 : decode cL_law 1650 = .ok (.aload_n 0, 1) := by decide +kernel
theorem dL_law_1651 : decode cL_law 1651 = .ok (.iload 4, 2) := by decide +kernel
theorem dL_law_1653 : decode cL_law 1653 = .ok (.iconst 1, 1) := by decide +kernel
theorem dL_law_1654 : decode cL_law 1654 = .ok (.iadd, 1) := by decide +kernel
theorem dL_law_1655 : decode cL_law 1655 = .ok (.iaload, 1) := by decide +kernel
theorem dL_law_1656 : decode cL_law 1656 = .ok (.aload_n 0, 1) := by decide +kernel
theorem dL_law_1657 : decode cL_law 1657 = .ok (.iload 4, 2) := by decide +kernel
theorem dL_law_1659 : decode cL_law 1659 = .ok (.iconst 2, 1) := by decide +kernel
theorem dL_law_1660 : decode cL_law 1660 = .ok (.iadd, 1) := by decide +kernel
theorem dL_law_1661 : decode cL_law 1661 = .ok (.iaload, 1) := by decide +kernel
theorem dL_law_1662 : decode cL_law 1662 = .ok (.aload_n 3, 1) := by decide +kernel
theorem dL_law_1663 : decode cL_law 1663 = .ok (.invokestatic 203, 3) := by decide +kernel
theorem dL_law_1666 : decode cL_law 1666 = .ok (.istore 5, 2) := by decide +kernel
theorem dL_law_1668 : decode cL_law 1668 = .ok (.aload_n 2, 1) := by decide +kernel
theorem dL_law_1669 : decode cL_law 1669 = .ok (.aload_n 0, 1) := by decide +kernel
theorem dL_law_1670 : decode cL_law 1670 = .ok (.iload 4, 2) := by decide +kernel
theorem dL_law_1672 : decode cL_law 1672 = .ok (.iconst 1, 1) := by decide +kernel
theorem dL_law_1673 : decode cL_law 1673 = .ok (.iadd, 1) := by decide +kernel
theorem dL_law_1674 : decode cL_law 1674 = .ok (.iaload, 1) := by decide +kernel
theorem dL_law_1675 : decode cL_law 1675 = .ok (.aload_n 0, 1) := by decide +kernel
theorem dL_law_1676 : decode cL_law 1676 = .ok (.iload 4, 2) := by decide +kernel
theorem dL_law_1678 : decode cL_law 1678 = .ok (.iconst 2, 1) := by decide +kernel
theorem dL_law_1679 : decode cL_law 1679 = .ok (.iadd, 1) := by decide +kernel
theorem dL_law_1680 : decode cL_law 1680 = .ok (.iaload, 1) := by decide +kernel
theorem dL_law_1681 : decode cL_law 1681 = .ok (.invokevirtual 205, 3) := by decide +kernel
theorem dL_law_1684 : decode cL_law 1684 = .ok (.istore 6, 2) := by decide +kernel
theorem dL_law_1686 : decode cL_law 1686 = .ok (.aload_n 2, 1) := by decide +kernel
theorem dL_law_1687 : decode cL_law 1687 = .ok (.invokevirtual 128, 3) := by decide +kernel
theorem dL_law_1690 : decode cL_law 1690 = .ok (.iload 5, 2) := by decide +kernel
theorem dL_law_1692 : decode cL_law 1692 = .ok (.if_icmp .eq 5, 3) := by decide +kernel
theorem dL_law_1695 : decode cL_law 1695 = .ok (.iconst 0, 1) := by decide +kernel
theorem dL_law_1696 : decode cL_law 1696 = .ok (.ireturn, 1) := by decide +kernel
theorem dL_law_1697 : decode cL_law 1697 = .ok (.iload 5, 2) := by decide +kernel
theorem dL_law_1699 : decode cL_law 1699 = .ok (.ifCond .ne 15, 3) := by decide +kernel
theorem dL_law_1702 : decode cL_law 1702 = .ok (.aload_n 3, 1) := by decide +kernel
theorem dL_law_1703 : decode cL_law 1703 = .ok (.iconst 0, 1) := by decide +kernel
theorem dL_law_1704 : decode cL_law 1704 = .ok (.laload, 1) := by decide +kernel
theorem dL_law_1705 : decode cL_law 1705 = .ok (.iload 6, 2) := by decide +kernel
theorem dL_law_1707 : decode cL_law 1707 = .ok (.i2l, 1) := by decide +kernel
theorem dL_law_1708 : decode cL_law 1708 = .ok (.lcmp, 1) := by decide +kernel
theorem dL_law_1709 : decode cL_law 1709 = .ok (.ifCond .eq 5, 3) := by decide +kernel
theorem dL_law_1712 : decode cL_law 1712 = .ok (.iconst 0, 1) := by decide +kernel
theorem dL_law_1713 : decode cL_law 1713 = .ok (.ireturn, 1) := by decide +kernel
theorem dL_law_1714 : decode cL_law 1714 = .ok (.goto 702, 3) := by decide +kernel
theorem dL_law_1717 : decode cL_law 1717 = .ok (.aload_n 1, 1) := by decide +kernel
theorem dL_law_1718 : decode cL_law 1718 = .ok (.aload_n 0, 1) := by decide +kernel
theorem dL_law_1719 : decode cL_law 1719 = .ok (.iload 4, 2) := by decide +kernel
theorem dL_law_1721 : decode cL_law 1721 = .ok (.iconst 1, 1) := by decide +kernel
theorem dL_law_1722 : decode cL_law 1722 = .ok (.iadd, 1) := by decide +kernel
theorem dL_law_1723 : decode cL_law 1723 = .ok (.iaload, 1) := by decide +kernel
theorem dL_law_1724 : decode cL_law 1724 = .ok (.aload_n 0, 1) := by decide +kernel
theorem dL_law_1725 : decode cL_law 1725 = .ok (.iload 4, 2) := by decide +kernel
theorem dL_law_1727 : decode cL_law 1727 = .ok (.iconst 2, 1) := by decide +kernel
theorem dL_law_1728 : decode cL_law 1728 = .ok (.iadd, 1) := by decide +kernel
theorem dL_law_1729 : decode cL_law 1729 = .ok (.iaload, 1) := by decide +kernel
theorem dL_law_1730 : decode cL_law 1730 = .ok (.aload_n 3, 1) := by decide +kernel
theorem dL_law_1731 : decode cL_law 1731 = .ok (.invokestatic 206, 3) := by decide +kernel
theorem dL_law_1734 : decode cL_law 1734 = .ok (.istore 5, 2) := by decide +kernel
theorem dL_law_1736 : decode cL_law 1736 = .ok (.aload_n 2, 1) := by decide +kernel
theorem dL_law_1737 : decode cL_law 1737 = .ok (.aload_n 0, 1) := by decide +kernel
theorem dL_law_1738 : decode cL_law 1738 = .ok (.iload 4, 2) := by decide +kernel
theorem dL_law_1740 : decode cL_law 1740 = .ok (.iconst 1, 1) := by decide +kernel
theorem dL_law_1741 : decode cL_law 1741 = .ok (.iadd, 1) := by decide +kernel
theorem dL_law_1742 : decode cL_law 1742 = .ok (.iaload, 1) := by decide +kernel
theorem dL_law_1743 : decode cL_law 1743 = .ok (.aload_n 0, 1) := by decide +kernel
theorem dL_law_1744 : decode cL_law 1744 = .ok (.iload 4, 2) := by decide +kernel
theorem dL_law_1746 : decode cL_law 1746 = .ok (.iconst 2, 1) := by decide +kernel
theorem dL_law_1747 : decode cL_law 1747 = .ok (.iadd, 1) := by decide +kernel
theorem dL_law_1748 : decode cL_law 1748 = .ok (.iaload, 1) := by decide +kernel
theorem dL_law_1749 : decode cL_law 1749 = .ok (.invokevirtual 208, 3) := by decide +kernel
theorem dL_law_1752 : decode cL_law 1752 = .ok (.istore 6, 2) := by decide +kernel
theorem dL_law_1754 : decode cL_law 1754 = .ok (.aload_n 2, 1) := by decide +kernel
theorem dL_law_1755 : decode cL_law 1755 = .ok (.invokevirtual 128, 3) := by decide +kernel
theorem dL_law_1758 : decode cL_law 1758 = .ok (.iload 5, 2) := by decide +kernel
theorem dL_law_1760 : decode cL_law 1760 = .ok (.if_icmp .eq 5, 3) := by decide +kernel
theorem dL_law_1763 : decode cL_law 1763 = .ok (.iconst 0, 1) := by decide +kernel
theorem dL_law_1764 : decode cL_law 1764 = .ok (.ireturn, 1) := by decide +kernel
theorem dL_law_1765 : decode cL_law 1765 = .ok (.iload 5, 2) := by decide +kernel
theorem dL_law_1767 : decode cL_law 1767 = .ok (.ifCond .ne 15, 3) := by decide +kernel
theorem dL_law_1770 : decode cL_law 1770 = .ok (.aload_n 3, 1) := by decide +kernel
theorem dL_law_1771 : decode cL_law 1771 = .ok (.iconst 0, 1) := by decide +kernel
theorem dL_law_1772 : decode cL_law 1772 = .ok (.laload, 1) := by decide +kernel
theorem dL_law_1773 : decode cL_law 1773 = .ok (.iload 6, 2) := by decide +kernel
theorem dL_law_1775 : decode cL_law 1775 = .ok (.i2l, 1) := by decide +kernel
theorem dL_law_1776 : decode cL_law 1776 = .ok (.lcmp, 1) := by decide +kernel
theorem dL_law_1777 : decode cL_law 1777 = .ok (.ifCond .eq 5, 3) := by decide +kernel
theorem dL_law_1780 : decode cL_law 1780 = .ok (.iconst 0, 1) := by decide +kernel
theorem dL_law_1781 : decode cL_law 1781 = .ok (.ireturn, 1) := by decide +kernel
theorem dL_law_1782 : decode cL_law 1782 = .ok (.goto 634, 3) := by decide +kernel
theorem dL_law_1785 : decode cL_law 1785 = .ok (.aload_n 1, 1) := by decide +kernel
theorem dL_law_1786 : decode cL_law 1786 = .ok (.aload_n 0, 1) := by decide +kernel
theorem dL_law_1787 : decode cL_law 1787 = .ok (.iload 4, 2) := by decide +kernel
theorem dL_law_1789 : decode cL_law 1789 = .ok (.iconst 1, 1) := by decide +kernel
theorem dL_law_1790 : decode cL_law 1790 = .ok (.iadd, 1) := by decide +kernel
theorem dL_law_1791 : decode cL_law 1791 = .ok (.iaload, 1) := by decide +kernel
theorem dL_law_1792 : decode cL_law 1792 = .ok (.aload_n 3, 1) := by decide +kernel
theorem dL_law_1793 : decode cL_law 1793 = .ok (.invokestatic 209, 3) := by decide +kernel
theorem dL_law_1796 : decode cL_law 1796 = .ok (.istore 5, 2) := by decide +kernel
theorem dL_law_1798 : decode cL_law 1798 = .ok (.aload_n 2, 1) := by decide +kernel
theorem dL_law_1799 : decode cL_law 1799 = .ok (.aload_n 0, 1) := by decide +kernel
theorem dL_law_1800 : decode cL_law 1800 = .ok (.iload 4, 2) := by decide +kernel
theorem dL_law_1802 : decode cL_law 1802 = .ok (.iconst 1, 1) := by decide +kernel
theorem dL_law_1803 : decode cL_law 1803 = .ok (.iadd, 1) := by decide +kernel
theorem dL_law_1804 : decode cL_law 1804 = .ok (.iaload, 1) := by decide +kernel
theorem dL_law_1805 : decode cL_law 1805 = .ok (.invokevirtual 211, 3) := by decide +kernel
theorem dL_law_1808 : decode cL_law 1808 = .ok (.istore 6, 2) := by decide +kernel
theorem dL_law_1810 : decode cL_law 1810 = .ok (.aload_n 2, 1) := by decide +kernel
theorem dL_law_1811 : decode cL_law 1811 = .ok (.invokevirtual 128, 3) := by decide +kernel
theorem dL_law_1814 : decode cL_law 1814 = .ok (.iload 5, 2) := by decide +kernel
theorem dL_law_1816 : decode cL_law 1816 = .ok (.if_icmp .eq 5, 3) := by decide +kernel
theorem dL_law_1819 : decode cL_law 1819 = .ok (.iconst 0, 1) := by decide +kernel
theorem dL_law_1820 : decode cL_law 1820 = .ok (.ireturn, 1) := by decide +kernel
theorem dL_law_1821 : decode cL_law 1821 = .ok (.iload 5, 2) := by decide +kernel
theorem dL_law_1823 : decode cL_law 1823 = .ok (.ifCond .ne 15, 3) := by decide +kernel
theorem dL_law_1826 : decode cL_law 1826 = .ok (.aload_n 3, 1) := by decide +kernel
theorem dL_law_1827 : decode cL_law 1827 = .ok (.iconst 0, 1) := by decide +kernel
theorem dL_law_1828 : decode cL_law 1828 = .ok (.laload, 1) := by decide +kernel
theorem dL_law_1829 : decode cL_law 1829 = .ok (.iload 6, 2) := by decide +kernel
theorem dL_law_1831 : decode cL_law 1831 = .ok (.i2l, 1) := by decide +kernel
theorem dL_law_1832 : decode cL_law 1832 = .ok (.lcmp, 1) := by decide +kernel
theorem dL_law_1833 : decode cL_law 1833 = .ok (.ifCond .eq 5, 3) := by decide +kernel
theorem dL_law_1836 : decode cL_law 1836 = .ok (.iconst 0, 1) := by decide +kernel
theorem dL_law_1837 : decode cL_law 1837 = .ok (.ireturn, 1) := by decide +kernel
theorem dL_law_1838 : decode cL_law 1838 = .ok (.goto 578, 3) := by decide +kernel
theorem dL_law_1841 : decode cL_law 1841 = .ok (.aload_n 1, 1) := by decide +kernel
theorem dL_law_1842 : decode cL_law 1842 = .ok (.aload_n 0, 1) := by decide +kernel
theorem dL_law_1843 : decode cL_law 1843 = .ok (.iload 4, 2) := by decide +kernel
theorem dL_law_1845 : decode cL_law 1845 = .ok (.iconst 1, 1) := by decide +kernel
theorem dL_law_1846 : decode cL_law 1846 = .ok (.iadd, 1) := by decide +kernel
theorem dL_law_1847 : decode cL_law 1847 = .ok (.iaload, 1) := by decide +kernel
theorem dL_law_1848 : decode cL_law 1848 = .ok (.aload_n 0, 1) := by decide +kernel
theorem dL_law_1849 : decode cL_law 1849 = .ok (.iload 4, 2) := by decide +kernel
theorem dL_law_1851 : decode cL_law 1851 = .ok (.iconst 2, 1) := by decide +kernel
theorem dL_law_1852 : decode cL_law 1852 = .ok (.iadd, 1) := by decide +kernel
theorem dL_law_1853 : decode cL_law 1853 = .ok (.iaload, 1) := by decide +kernel
theorem dL_law_1854 : decode cL_law 1854 = .ok (.aload_n 3, 1) := by decide +kernel
theorem dL_law_1855 : decode cL_law 1855 = .ok (.invokestatic 212, 3) := by decide +kernel
theorem dL_law_1858 : decode cL_law 1858 = .ok (.istore 5, 2) := by decide +kernel
theorem dL_law_1860 : decode cL_law 1860 = .ok (.aload_n 2, 1) := by decide +kernel
theorem dL_law_1861 : decode cL_law 1861 = .ok (.aload_n 0, 1) := by decide +kernel
theorem dL_law_1862 : decode cL_law 1862 = .ok (.iload 4, 2) := by decide +kernel
theorem dL_law_1864 : decode cL_law 1864 = .ok (.iconst 1, 1) := by decide +kernel
theorem dL_law_1865 : decode cL_law 1865 = .ok (.iadd, 1) := by decide +kernel
theorem dL_law_1866 : decode cL_law 1866 = .ok (.iaload, 1) := by decide +kernel
theorem dL_law_1867 : decode cL_law 1867 = .ok (.aload_n 0, 1) := by decide +kernel
theorem dL_law_1868 : decode cL_law 1868 = .ok (.iload 4, 2) := by decide +kernel
theorem dL_law_1870 : decode cL_law 1870 = .ok (.iconst 2, 1) := by decide +kernel
theorem dL_law_1871 : decode cL_law 1871 = .ok (.iadd, 1) := by decide +kernel
theorem dL_law_1872 : decode cL_law 1872 = .ok (.iaload, 1) := by decide +kernel
theorem dL_law_1873 : decode cL_law 1873 = .ok (.invokevirtual 214, 3) := by decide +kernel
theorem dL_law_1876 : decode cL_law 1876 = .ok (.istore 6, 2) := by decide +kernel
theorem dL_law_1878 : decode cL_law 1878 = .ok (.aload_n 2, 1) := by decide +kernel
theorem dL_law_1879 : decode cL_law 1879 = .ok (.invokevirtual 128, 3) := by decide +kernel
theorem dL_law_1882 : decode cL_law 1882 = .ok (.iload 5, 2) := by decide +kernel
theorem dL_law_1884 : decode cL_law 1884 = .ok (.if_icmp .eq 5, 3) := by decide +kernel
theorem dL_law_1887 : decode cL_law 1887 = .ok (.iconst 0, 1) := by decide +kernel
theorem dL_law_1888 : decode cL_law 1888 = .ok (.ireturn, 1) := by decide +kernel
theorem dL_law_1889 : decode cL_law 1889 = .ok (.iload 5, 2) := by decide +kernel
theorem dL_law_1891 : decode cL_law 1891 = .ok (.ifCond .ne 22, 3) := by decide +kernel
theorem dL_law_1894 : decode cL_law 1894 = .ok (.aload_n 3, 1) := by decide +kernel
theorem dL_law_1895 : decode cL_law 1895 = .ok (.iconst 0, 1) := by decide +kernel
theorem dL_law_1896 : decode cL_law 1896 = .ok (.laload, 1) := by decide +kernel
theorem dL_law_1897 : decode cL_law 1897 = .ok (.iload 6, 2) := by decide +kernel
theorem dL_law_1899 : decode cL_law 1899 = .ok (.ifCond .eq 7, 3) := by decide +kernel
theorem dL_law_1902 : decode cL_law 1902 = .ok (.lconst 1, 1) := by decide +kernel
theorem dL_law_1903 : decode cL_law 1903 = .ok (.goto 4, 3) := by decide +kernel
theorem dL_law_1906 : decode cL_law 1906 = .ok (.lconst 0, 1) := by decide +kernel
theorem dL_law_1907 : decode cL_law 1907 = .ok (.lcmp, 1) := by decide +kernel
theorem dL_law_1908 : decode cL_law 1908 = .ok (.ifCond .eq 5, 3) := by decide +kernel
theorem dL_law_1911 : decode cL_law 1911 = .ok (.iconst 0, 1) := by decide +kernel
theorem dL_law_1912 : decode cL_law 1912 = .ok (.ireturn, 1) := by decide +kernel
theorem dL_law_1913 : decode cL_law 1913 = .ok (.goto 503, 3) := by decide +kernel
theorem dL_law_1916 : decode cL_law 1916 = .ok (.aload_n 1, 1) := by decide +kernel
theorem dL_law_1917 : decode cL_law 1917 = .ok (.aload_n 0, 1) := by decide +kernel
theorem dL_law_1918 : decode cL_law 1918 = .ok (.iload 4, 2) := by decide +kernel
theorem dL_law_1920 : decode cL_law 1920 = .ok (.iconst 1, 1) := by decide +kernel
theorem dL_law_1921 : decode cL_law 1921 = .ok (.iadd, 1) := by decide +kernel
theorem dL_law_1922 : decode cL_law 1922 = .ok (.iaload, 1) := by decide +kernel
theorem dL_law_1923 : decode cL_law 1923 = .ok (.aload_n 3, 1) := by decide +kernel
theorem dL_law_1924 : decode cL_law 1924 = .ok (.invokestatic 215, 3) := by decide +kernel
theorem dL_law_1927 : decode cL_law 1927 = .ok (.istore 5, 2) := by decide +kernel
theorem dL_law_1929 : decode cL_law 1929 = .ok (.aload_n 2, 1) := by decide +kernel
theorem dL_law_1930 : decode cL_law 1930 = .ok (.aload_n 0, 1) := by decide +kernel
theorem dL_law_1931 : decode cL_law 1931 = .ok (.iload 4, 2) := by decide +kernel
theorem dL_law_1933 : decode cL_law 1933 = .ok (.iconst 1, 1) := by decide +kernel
theorem dL_law_1934 : decode cL_law 1934 = .ok (.iadd, 1) := by decide +kernel
theorem dL_law_1935 : decode cL_law 1935 = .ok (.iaload, 1) := by decide +kernel
theorem dL_law_1936 : decode cL_law 1936 = .ok (.invokevirtual 217, 3) := by decide +kernel
theorem dL_law_1939 : decode cL_law 1939 = .ok (.istore 6, 2) := by decide +kernel
theorem dL_law_1941 : decode cL_law 1941 = .ok (.aload_n 2, 1) := by decide +kernel
theorem dL_law_1942 : decode cL_law 1942 = .ok (.invokevirtual 128, 3) := by decide +kernel
theorem dL_law_1945 : decode cL_law 1945 = .ok (.iload 5, 2) := by decide +kernel
theorem dL_law_1947 : decode cL_law 1947 = .ok (.if_icmp .eq 5, 3) := by decide +kernel
theorem dL_law_1950 : decode cL_law 1950 = .ok (.iconst 0, 1) := by decide +kernel
theorem dL_law_1951 : decode cL_law 1951 = .ok (.ireturn, 1) := by decide +kernel
theorem dL_law_1952 : decode cL_law 1952 = .ok (.iload 5, 2) := by decide +kernel
theorem dL_law_1954 : decode cL_law 1954 = .ok (.ifCond .ne 15, 3) := by decide +kernel
theorem dL_law_1957 : decode cL_law 1957 = .ok (.aload_n 3, 1) := by decide +kernel
theorem dL_law_1958 : decode cL_law 1958 = .ok (.iconst 0, 1) := by decide +kernel
theorem dL_law_1959 : decode cL_law 1959 = .ok (.laload, 1) := by decide +kernel
theorem dL_law_1960 : decode cL_law 1960 = .ok (.iload 6, 2) := by decide +kernel
theorem dL_law_1962 : decode cL_law 1962 = .ok (.i2l, 1) := by decide +kernel
theorem dL_law_1963 : decode cL_law 1963 = .ok (.lcmp, 1) := by decide +kernel
theorem dL_law_1964 : decode cL_law 1964 = .ok (.ifCond .eq 5, 3) := by decide +kernel
theorem dL_law_1967 : decode cL_law 1967 = .ok (.iconst 0, 1) := by decide +kernel
theorem dL_law_1968 : decode cL_law 1968 = .ok (.ireturn, 1) := by decide +kernel
theorem dL_law_1969 : decode cL_law 1969 = .ok (.goto 447, 3) := by decide +kernel
theorem dL_law_1972 : decode cL_law 1972 = .ok (.aload_n 1, 1) := by decide +kernel
theorem dL_law_1973 : decode cL_law 1973 = .ok (.aload_n 0, 1) := by decide +kernel
theorem dL_law_1974 : decode cL_law 1974 = .ok (.iload 4, 2) := by decide +kernel
theorem dL_law_1976 : decode cL_law 1976 = .ok (.iconst 1, 1) := by decide +kernel
theorem dL_law_1977 : decode cL_law 1977 = .ok (.iadd, 1) := by decide +kernel
theorem dL_law_1978 : decode cL_law 1978 = .ok (.iaload, 1) := by decide +kernel
theorem dL_law_1979 : decode cL_law 1979 = .ok (.aload_n 0, 1) := by decide +kernel
theorem dL_law_1980 : decode cL_law 1980 = .ok (.iload 4, 2) := by decide +kernel
theorem dL_law_1982 : decode cL_law 1982 = .ok (.iconst 2, 1) := by decide +kernel
theorem dL_law_1983 : decode cL_law 1983 = .ok (.iadd, 1) := by decide +kernel
theorem dL_law_1984 : decode cL_law 1984 = .ok (.iaload, 1) := by decide +kernel
theorem dL_law_1985 : decode cL_law 1985 = .ok (.aload_n 3, 1) := by decide +kernel
theorem dL_law_1986 : decode cL_law 1986 = .ok (.invokestatic 218, 3) := by decide +kernel
theorem dL_law_1989 : decode cL_law 1989 = .ok (.istore 5, 2) := by decide +kernel
theorem dL_law_1991 : decode cL_law 1991 = .ok (.aload_n 2, 1) := by decide +kernel
theorem dL_law_1992 : decode cL_law 1992 = .ok (.aload_n 0, 1) := by decide +kernel
theorem dL_law_1993 : decode cL_law 1993 = .ok (.iload 4, 2) := by decide +kernel
theorem dL_law_1995 : decode cL_law 1995 = .ok (.iconst 1, 1) := by decide +kernel
theorem dL_law_1996 : decode cL_law 1996 = .ok (.iadd, 1) := by decide +kernel
theorem dL_law_1997 : decode cL_law 1997 = .ok (.iaload, 1) := by decide +kernel
theorem dL_law_1998 : decode cL_law 1998 = .ok (.aload_n 0, 1) := by decide +kernel
theorem dL_law_1999 : decode cL_law 1999 = .ok (.iload 4, 2) := by decide +kernel
theorem dL_law_2001 : decode cL_law 2001 = .ok (.iconst 2, 1) := by decide +kernel
theorem dL_law_2002 : decode cL_law 2002 = .ok (.iadd, 1) := by decide +kernel
theorem dL_law_2003 : decode cL_law 2003 = .ok (.iaload, 1) := by decide +kernel
theorem dL_law_2004 : decode cL_law 2004 = .ok (.invokevirtual 220, 3) := by decide +kernel
theorem dL_law_2007 : decode cL_law 2007 = .ok (.istore 6, 2) := by decide +kernel
theorem dL_law_2009 : decode cL_law 2009 = .ok (.aload_n 2, 1) := by decide +kernel
theorem dL_law_2010 : decode cL_law 2010 = .ok (.invokevirtual 128, 3) := by decide +kernel
theorem dL_law_2013 : decode cL_law 2013 = .ok (.iload 5, 2) := by decide +kernel
theorem dL_law_2015 : decode cL_law 2015 = .ok (.if_icmp .eq 5, 3) := by decide +kernel
theorem dL_law_2018 : decode cL_law 2018 = .ok (.iconst 0, 1) := by decide +kernel
theorem dL_law_2019 : decode cL_law 2019 = .ok (.ireturn, 1) := by decide +kernel
theorem dL_law_2020 : decode cL_law 2020 = .ok (.iload 5, 2) := by decide +kernel
theorem dL_law_2022 : decode cL_law 2022 = .ok (.ifCond .ne 15, 3) := by decide +kernel
theorem dL_law_2025 : decode cL_law 2025 = .ok (.aload_n 3, 1) := by decide +kernel
theorem dL_law_2026 : decode cL_law 2026 = .ok (.iconst 0, 1) := by decide +kernel
theorem dL_law_2027 : decode cL_law 2027 = .ok (.laload, 1) := by decide +kernel
theorem dL_law_2028 : decode cL_law 2028 = .ok (.iload 6, 2) := by decide +kernel
theorem dL_law_2030 : decode cL_law 2030 = .ok (.i2l, 1) := by decide +kernel
theorem dL_law_2031 : decode cL_law 2031 = .ok (.lcmp, 1) := by decide +kernel
theorem dL_law_2032 : decode cL_law 2032 = .ok (.ifCond .eq 5, 3) := by decide +kernel
theorem dL_law_2035 : decode cL_law 2035 = .ok (.iconst 0, 1) := by decide +kernel
theorem dL_law_2036 : decode cL_law 2036 = .ok (.ireturn, 1) := by decide +kernel
theorem dL_law_2037 : decode cL_law 2037 = .ok (.goto 379, 3) := by decide +kernel
theorem dL_law_2040 : decode cL_law 2040 = .ok (.aload_n 1, 1) := by decide +kernel
theorem dL_law_2041 : decode cL_law 2041 = .ok (.aload_n 0, 1) := by decide +kernel
theorem dL_law_2042 : decode cL_law 2042 = .ok (.iload 4, 2) := by decide +kernel
theorem dL_law_2044 : decode cL_law 2044 = .ok (.iconst 1, 1) := by decide +kernel
theorem dL_law_2045 : decode cL_law 2045 = .ok (.iadd, 1) := by decide +kernel
theorem dL_law_2046 : decode cL_law 2046 = .ok (.iaload, 1) := by decide +kernel
theorem dL_law_2047 : decode cL_law 2047 = .ok (.aload_n 0, 1) := by decide +kernel
theorem dL_law_2048 : decode cL_law 2048 = .ok (.iload 4, 2) := by decide +kernel
theorem dL_law_2050 : decode cL_law 2050 = .ok (.iconst 2, 1) := by decide +kernel
theorem dL_law_2051 : decode cL_law 2051 = .ok (.iadd, 1) := by decide +kernel
theorem dL_law_2052 : decode cL_law 2052 = .ok (.iaload, 1) := by decide +kernel
theorem dL_law_2053 : decode cL_law 2053 = .ok (.aload_n 0, 1) := by decide +kernel
theorem dL_law_2054 : decode cL_law 2054 = .ok (.iload 4, 2) := by decide +kernel
theorem dL_law_2056 : decode cL_law 2056 = .ok (.iconst 3, 1) := by decide +kernel
theorem dL_law_2057 : decode cL_law 2057 = .ok (.iadd, 1) := by decide +kernel
theorem dL_law_2058 : decode cL_law 2058 = .ok (.iaload, 1) := by decide +kernel
theorem dL_law_2059 : decode cL_law 2059 = .ok (.aload_n 0, 1) := by decide +kernel
theorem dL_law_2060 : decode cL_law 2060 = .ok (.iload 4, 2) := by decide +kernel
theorem dL_law_2062 : decode cL_law 2062 = .ok (.iconst 4, 1) := by decide +kernel
theorem dL_law_2063 : decode cL_law 2063 = .ok (.iadd, 1) := by decide +kernel
theorem dL_law_2064 : decode cL_law 2064 = .ok (.iaload, 1) := by decide +kernel
theorem dL_law_2065 : decode cL_law 2065 = .ok (.aload_n 3, 1) := by decide +kernel
theorem dL_law_2066 : decode cL_law 2066 = .ok (.invokestatic 221, 3) := by decide +kernel
theorem dL_law_2069 : decode cL_law 2069 = .ok (.istore 5, 2) := by decide +kernel
theorem dL_law_2071 : decode cL_law 2071 = .ok (.aload_n 2, 1) := by decide +kernel
theorem dL_law_2072 : decode cL_law 2072 = .ok (.aload_n 0, 1) := by decide +kernel
theorem dL_law_2073 : decode cL_law 2073 = .ok (.iload 4, 2) := by decide +kernel
theorem dL_law_2075 : decode cL_law 2075 = .ok (.iconst 1, 1) := by decide +kernel
theorem dL_law_2076 : decode cL_law 2076 = .ok (.iadd, 1) := by decide +kernel
theorem dL_law_2077 : decode cL_law 2077 = .ok (.iaload, 1) := by decide +kernel
theorem dL_law_2078 : decode cL_law 2078 = .ok (.aload_n 0, 1) := by decide +kernel
theorem dL_law_2079 : decode cL_law 2079 = .ok (.iload 4, 2) := by decide +kernel
theorem dL_law_2081 : decode cL_law 2081 = .ok (.iconst 2, 1) := by decide +kernel
theorem dL_law_2082 : decode cL_law 2082 = .ok (.iadd, 1) := by decide +kernel
theorem dL_law_2083 : decode cL_law 2083 = .ok (.iaload, 1) := by decide +kernel
theorem dL_law_2084 : decode cL_law 2084 = .ok (.aload_n 0, 1) := by decide +kernel
theorem dL_law_2085 : decode cL_law 2085 = .ok (.iload 4, 2) := by decide +kernel
theorem dL_law_2087 : decode cL_law 2087 = .ok (.iconst 3, 1) := by decide +kernel
theorem dL_law_2088 : decode cL_law 2088 = .ok (.iadd, 1) := by decide +kernel
theorem dL_law_2089 : decode cL_law 2089 = .ok (.iaload, 1) := by decide +kernel
theorem dL_law_2090 : decode cL_law 2090 = .ok (.aload_n 0, 1) := by decide +kernel
theorem dL_law_2091 : decode cL_law 2091 = .ok (.iload 4, 2) := by decide +kernel
theorem dL_law_2093 : decode cL_law 2093 = .ok (.iconst 4, 1) := by decide +kernel
theorem dL_law_2094 : decode cL_law 2094 = .ok (.iadd, 1) := by decide +kernel
theorem dL_law_2095 : decode cL_law 2095 = .ok (.iaload, 1) := by decide +kernel
theorem dL_law_2096 : decode cL_law 2096 = .ok (.invokevirtual 223, 3) := by decide +kernel
theorem dL_law_2099 : decode cL_law 2099 = .ok (.istore 6, 2) := by decide +kernel
theorem dL_law_2101 : decode cL_law 2101 = .ok (.aload_n 2, 1) := by decide +kernel
theorem dL_law_2102 : decode cL_law 2102 = .ok (.invokevirtual 128, 3) := by decide +kernel
theorem dL_law_2105 : decode cL_law 2105 = .ok (.iload 5, 2) := by decide +kernel
theorem dL_law_2107 : decode cL_law 2107 = .ok (.if_icmp .eq 5, 3) := by decide +kernel
theorem dL_law_2110 : decode cL_law 2110 = .ok (.iconst 0, 1) := by decide +kernel
theorem dL_law_2111 : decode cL_law 2111 = .ok (.ireturn, 1) := by decide +kernel
theorem dL_law_2112 : decode cL_law 2112 = .ok (.iload 5, 2) := by decide +kernel
theorem dL_law_2114 : decode cL_law 2114 = .ok (.ifCond .ne 15, 3) := by decide +kernel
theorem dL_law_2117 : decode cL_law 2117 = .ok (.aload_n 3, 1) := by decide +kernel
theorem dL_law_2118 : decode cL_law 2118 = .ok (.iconst 0, 1) := by decide +kernel
theorem dL_law_2119 : decode cL_law 2119 = .ok (.laload, 1) := by decide +kernel
theorem dL_law_2120 : decode cL_law 2120 = .ok (.iload 6, 2) := by decide +kernel
theorem dL_law_2122 : decode cL_law 2122 = .ok (.i2l, 1) := by decide +kernel
theorem dL_law_2123 : decode cL_law 2123 = .ok (.lcmp, 1) := by decide +kernel
theorem dL_law_2124 : decode cL_law 2124 = .ok (.ifCond .eq 5, 3) := by decide +kernel
theorem dL_law_2127 : decode cL_law 2127 = .ok (.iconst 0, 1) := by decide +kernel
theorem dL_law_2128 : decode cL_law 2128 = .ok (.ireturn, 1) := by decide +kernel
theorem dL_law_2129 : decode cL_law 2129 = .ok (.goto 287, 3) := by decide +kernel
theorem dL_law_2132 : decode cL_law 2132 = .ok (.aload_n 1, 1) := by decide +kernel
theorem dL_law_2133 : decode cL_law 2133 = .ok (.aload_n 0, 1) := by decide +kernel
theorem dL_law_2134 : decode cL_law 2134 = .ok (.iload 4, 2) := by decide +kernel
theorem dL_law_2136 : decode cL_law 2136 = .ok (.iconst 1, 1) := by decide +kernel
theorem dL_law_2137 : decode cL_law 2137 = .ok (.iadd, 1) := by decide +kernel
theorem dL_law_2138 : decode cL_law 2138 = .ok (.iaload, 1) := by decide +kernel
theorem dL_law_2139 : decode cL_law 2139 = .ok (.aload_n 0, 1) := by decide +kernel
theorem dL_law_2140 : decode cL_law 2140 = .ok (.iload 4, 2) := by decide +kernel
theorem dL_law_2142 : decode cL_law 2142 = .ok (.iconst 2, 1) := by decide +kernel
theorem dL_law_2143 : decode cL_law 2143 = .ok (.iadd, 1) := by decide +kernel
theorem dL_law_2144 : decode cL_law 2144 = .ok (.iaload, 1) := by decide +kernel
theorem dL_law_2145 : decode cL_law 2145 = .ok (.aload_n 0, 1) := by decide +kernel
theorem dL_law_2146 : decode cL_law 2146 = .ok (.iload 4, 2) := by decide +kernel
theorem dL_law_2148 : decode cL_law 2148 = .ok (.iconst 3, 1) := by decide +kernel
theorem dL_law_2149 : decode cL_law 2149 = .ok (.iadd, 1) := by decide +kernel
theorem dL_law_2150 : decode cL_law 2150 = .ok (.iaload, 1) := by decide +kernel
theorem dL_law_2151 : decode cL_law 2151 = .ok (.aload_n 3, 1) := by decide +kernel
theorem dL_law_2152 : decode cL_law 2152 = .ok (.invokestatic 224, 3) := by decide +kernel
theorem dL_law_2155 : decode cL_law 2155 = .ok (.istore 5, 2) := by decide +kernel
theorem dL_law_2157 : decode cL_law 2157 = .ok (.aload_n 2, 1) := by decide +kernel
theorem dL_law_2158 : decode cL_law 2158 = .ok (.aload_n 0, 1) := by decide +kernel
theorem dL_law_2159 : decode cL_law 2159 = .ok (.iload 4, 2) := by decide +kernel
theorem dL_law_2161 : decode cL_law 2161 = .ok (.iconst 1, 1) := by decide +kernel
theorem dL_law_2162 : decode cL_law 2162 = .ok (.iadd, 1) := by decide +kernel
theorem dL_law_2163 : decode cL_law 2163 = .ok (.iaload, 1) := by decide +kernel
theorem dL_law_2164 : decode cL_law 2164 = .ok (.aload_n 0, 1) := by decide +kernel
theorem dL_law_2165 : decode cL_law 2165 = .ok (.iload 4, 2) := by decide +kernel
theorem dL_law_2167 : decode cL_law 2167 = .ok (.iconst 2, 1) := by decide +kernel
theorem dL_law_2168 : decode cL_law 2168 = .ok (.iadd, 1) := by decide +kernel
theorem dL_law_2169 : decode cL_law 2169 = .ok (.iaload, 1) := by decide +kernel
theorem dL_law_2170 : decode cL_law 2170 = .ok (.aload_n 0, 1) := by decide +kernel
theorem dL_law_2171 : decode cL_law 2171 = .ok (.iload 4, 2) := by decide +kernel
theorem dL_law_2173 : decode cL_law 2173 = .ok (.iconst 3, 1) := by decide +kernel
theorem dL_law_2174 : decode cL_law 2174 = .ok (.iadd, 1) := by decide +kernel
theorem dL_law_2175 : decode cL_law 2175 = .ok (.iaload, 1) := by decide +kernel
theorem dL_law_2176 : decode cL_law 2176 = .ok (.invokevirtual 226, 3) := by decide +kernel
theorem dL_law_2179 : decode cL_law 2179 = .ok (.istore 6, 2) := by decide +kernel
theorem dL_law_2181 : decode cL_law 2181 = .ok (.aload_n 2, 1) := by decide +kernel
theorem dL_law_2182 : decode cL_law 2182 = .ok (.invokevirtual 128, 3) := by decide +kernel
theorem dL_law_2185 : decode cL_law 2185 = .ok (.iload 5, 2) := by decide +kernel
theorem dL_law_2187 : decode cL_law 2187 = .ok (.if_icmp .eq 5, 3) := by decide +kernel
theorem dL_law_2190 : decode cL_law 2190 = .ok (.iconst 0, 1) := by decide +kernel
theorem dL_law_2191 : decode cL_law 2191 = .ok (.ireturn, 1) := by decide +kernel
theorem dL_law_2192 : decode cL_law 2192 = .ok (.iload 5, 2) := by decide +kernel
theorem dL_law_2194 : decode cL_law 2194 = .ok (.ifCond .ne 15, 3) := by decide +kernel
theorem dL_law_2197 : decode cL_law 2197 = .ok (.aload_n 3, 1) := by decide +kernel
theorem dL_law_2198 : decode cL_law 2198 = .ok (.iconst 0, 1) := by decide +kernel
theorem dL_law_2199 : decode cL_law 2199 = .ok (.laload, 1) := by decide +kernel
theorem dL_law_2200 : decode cL_law 2200 = .ok (.iload 6, 2) := by decide +kernel
theorem dL_law_2202 : decode cL_law 2202 = .ok (.i2l, 1) := by decide +kernel
theorem dL_law_2203 : decode cL_law 2203 = .ok (.lcmp, 1) := by decide +kernel
theorem dL_law_2204 : decode cL_law 2204 = .ok (.ifCond .eq 5, 3) := by decide +kernel
theorem dL_law_2207 : decode cL_law 2207 = .ok (.iconst 0, 1) := by decide +kernel
theorem dL_law_2208 : decode cL_law 2208 = .ok (.ireturn, 1) := by decide +kernel
theorem dL_law_2209 : decode cL_law 2209 = .ok (.goto 207, 3) := by decide +kernel
theorem dL_law_2212 : decode cL_law 2212 = .ok (.aload_n 1, 1) := by decide +kernel
theorem dL_law_2213 : decode cL_law 2213 = .ok (.aload_n 0, 1) := by decide +kernel
theorem dL_law_2214 : decode cL_law 2214 = .ok (.iload 4, 2) := by decide +kernel
theorem dL_law_2216 : decode cL_law 2216 = .ok (.iconst 1, 1) := by decide +kernel
theorem dL_law_2217 : decode cL_law 2217 = .ok (.iadd, 1) := by decide +kernel
theorem dL_law_2218 : decode cL_law 2218 = .ok (.iaload, 1) := by decide +kernel
theorem dL_law_2219 : decode cL_law 2219 = .ok (.aload_n 3, 1) := by decide +kernel
theorem dL_law_2220 : decode cL_law 2220 = .ok (.invokestatic 227, 3) := by decide +kernel
theorem dL_law_2223 : decode cL_law 2223 = .ok (.istore 5, 2) := by decide +kernel
theorem dL_law_2225 : decode cL_law 2225 = .ok (.aload_n 2, 1) := by decide +kernel
theorem dL_law_2226 : decode cL_law 2226 = .ok (.aload_n 0, 1) := by decide +kernel
theorem dL_law_2227 : decode cL_law 2227 = .ok (.iload 4, 2) := by decide +kernel
theorem dL_law_2229 : decode cL_law 2229 = .ok (.iconst 1, 1) := by decide +kernel
theorem dL_law_2230 : decode cL_law 2230 = .ok (.iadd, 1) := by decide +kernel
theorem dL_law_2231 : decode cL_law 2231 = .ok (.iaload, 1) := by decide +kernel
theorem dL_law_2232 : decode cL_law 2232 = .ok (.invokevirtual 229, 3) := by decide +kernel
theorem dL_law_2235 : decode cL_law 2235 = .ok (.istore 6, 2) := by decide +kernel
theorem dL_law_2237 : decode cL_law 2237 = .ok (.aload_n 2, 1) := by decide +kernel
theorem dL_law_2238 : decode cL_law 2238 = .ok (.invokevirtual 128, 3) := by decide +kernel
theorem dL_law_2241 : decode cL_law 2241 = .ok (.iload 5, 2) := by decide +kernel
theorem dL_law_2243 : decode cL_law 2243 = .ok (.if_icmp .eq 5, 3) := by decide +kernel
theorem dL_law_2246 : decode cL_law 2246 = .ok (.iconst 0, 1) := by decide +kernel
theorem dL_law_2247 : decode cL_law 2247 = .ok (.ireturn, 1) := by decide +kernel
theorem dL_law_2248 : decode cL_law 2248 = .ok (.iload 5, 2) := by decide +kernel
theorem dL_law_2250 : decode cL_law 2250 = .ok (.ifCond .ne 15, 3) := by decide +kernel
theorem dL_law_2253 : decode cL_law 2253 = .ok (.aload_n 3, 1) := by decide +kernel
theorem dL_law_2254 : decode cL_law 2254 = .ok (.iconst 0, 1) := by decide +kernel
theorem dL_law_2255 : decode cL_law 2255 = .ok (.laload, 1) := by decide +kernel
theorem dL_law_2256 : decode cL_law 2256 = .ok (.iload 6, 2) := by decide +kernel
theorem dL_law_2258 : decode cL_law 2258 = .ok (.i2l, 1) := by decide +kernel
theorem dL_law_2259 : decode cL_law 2259 = .ok (.lcmp, 1) := by decide +kernel
theorem dL_law_2260 : decode cL_law 2260 = .ok (.ifCond .eq 5, 3) := by decide +kernel
theorem dL_law_2263 : decode cL_law 2263 = .ok (.iconst 0, 1) := by decide +kernel
theorem dL_law_2264 : decode cL_law 2264 = .ok (.ireturn, 1) := by decide +kernel
theorem dL_law_2265 : decode cL_law 2265 = .ok (.goto 151, 3) := by decide +kernel
theorem dL_law_2268 : decode cL_law 2268 = .ok (.aload_n 1, 1) := by decide +kernel
theorem dL_law_2269 : decode cL_law 2269 = .ok (.aload_n 0, 1) := by decide +kernel
theorem dL_law_2270 : decode cL_law 2270 = .ok (.iload 4, 2) := by decide +kernel
theorem dL_law_2272 : decode cL_law 2272 = .ok (.iconst 1, 1) := by decide +kernel
theorem dL_law_2273 : decode cL_law 2273 = .ok (.iadd, 1) := by decide +kernel
theorem dL_law_2274 : decode cL_law 2274 = .ok (.iaload, 1) := by decide +kernel
theorem dL_law_2275 : decode cL_law 2275 = .ok (.aload_n 0, 1) := by decide +kernel
theorem dL_law_2276 : decode cL_law 2276 = .ok (.iload 4, 2) := by decide +kernel
theorem dL_law_2278 : decode cL_law 2278 = .ok (.iconst 2, 1) := by decide +kernel
theorem dL_law_2279 : decode cL_law 2279 = .ok (.iadd, 1) := by decide +kernel
theorem dL_law_2280 : decode cL_law 2280 = .ok (.iaload, 1) := by decide +kernel
theorem dL_law_2281 : decode cL_law 2281 = .ok (.aload_n 3, 1) := by decide +kernel
theorem dL_law_2282 : decode cL_law 2282 = .ok (.invokestatic 230, 3) := by decide +kernel
theorem dL_law_2285 : decode cL_law 2285 = .ok (.istore 5, 2) := by decide +kernel
theorem dL_law_2287 : decode cL_law 2287 = .ok (.aload_n 2, 1) := by decide +kernel
theorem dL_law_2288 : decode cL_law 2288 = .ok (.aload_n 0, 1) := by decide +kernel
theorem dL_law_2289 : decode cL_law 2289 = .ok (.iload 4, 2) := by decide +kernel
theorem dL_law_2291 : decode cL_law 2291 = .ok (.iconst 1, 1) := by decide +kernel
theorem dL_law_2292 : decode cL_law 2292 = .ok (.iadd, 1) := by decide +kernel
theorem dL_law_2293 : decode cL_law 2293 = .ok (.iaload, 1) := by decide +kernel
theorem dL_law_2294 : decode cL_law 2294 = .ok (.aload_n 0, 1) := by decide +kernel
theorem dL_law_2295 : decode cL_law 2295 = .ok (.iload 4, 2) := by decide +kernel
theorem dL_law_2297 : decode cL_law 2297 = .ok (.iconst 2, 1) := by decide +kernel
theorem dL_law_2298 : decode cL_law 2298 = .ok (.iadd, 1) := by decide +kernel
theorem dL_law_2299 : decode cL_law 2299 = .ok (.iaload, 1) := by decide +kernel
theorem dL_law_2300 : decode cL_law 2300 = .ok (.invokevirtual 232, 3) := by decide +kernel
theorem dL_law_2303 : decode cL_law 2303 = .ok (.istore 6, 2) := by decide +kernel
theorem dL_law_2305 : decode cL_law 2305 = .ok (.aload_n 2, 1) := by decide +kernel
theorem dL_law_2306 : decode cL_law 2306 = .ok (.invokevirtual 128, 3) := by decide +kernel
theorem dL_law_2309 : decode cL_law 2309 = .ok (.iload 5, 2) := by decide +kernel
theorem dL_law_2311 : decode cL_law 2311 = .ok (.if_icmp .eq 5, 3) := by decide +kernel
theorem dL_law_2314 : decode cL_law 2314 = .ok (.iconst 0, 1) := by decide +kernel
theorem dL_law_2315 : decode cL_law 2315 = .ok (.ireturn, 1) := by decide +kernel
theorem dL_law_2316 : decode cL_law 2316 = .ok (.iload 5, 2) := by decide +kernel
theorem dL_law_2318 : decode cL_law 2318 = .ok (.ifCond .ne 15, 3) := by decide +kernel
theorem dL_law_2321 : decode cL_law 2321 = .ok (.aload_n 3, 1) := by decide +kernel
theorem dL_law_2322 : decode cL_law 2322 = .ok (.iconst 0, 1) := by decide +kernel
theorem dL_law_2323 : decode cL_law 2323 = .ok (.laload, 1) := by decide +kernel
theorem dL_law_2324 : decode cL_law 2324 = .ok (.iload 6, 2) := by decide +kernel
theorem dL_law_2326 : decode cL_law 2326 = .ok (.i2l, 1) := by decide +kernel
theorem dL_law_2327 : decode cL_law 2327 = .ok (.lcmp, 1) := by decide +kernel
theorem dL_law_2328 : decode cL_law 2328 = .ok (.ifCond .eq 5, 3) := by decide +kernel
theorem dL_law_2331 : decode cL_law 2331 = .ok (.iconst 0, 1) := by decide +kernel
theorem dL_law_2332 : decode cL_law 2332 = .ok (.ireturn, 1) := by decide +kernel
theorem dL_law_2333 : decode cL_law 2333 = .ok (.goto 83, 3) := by decide +kernel
theorem dL_law_2336 : decode cL_law 2336 = .ok (.aload_n 1, 1) := by decide +kernel
theorem dL_law_2337 : decode cL_law 2337 = .ok (.aload_n 0, 1) := by decide +kernel
theorem dL_law_2338 : decode cL_law 2338 = .ok (.iload 4, 2) := by decide +kernel
theorem dL_law_2340 : decode cL_law 2340 = .ok (.iconst 1, 1) := by decide +kernel
theorem dL_law_2341 : decode cL_law 2341 = .ok (.iadd, 1) := by decide +kernel
theorem dL_law_2342 : decode cL_law 2342 = .ok (.iaload, 1) := by decide +kernel
theorem dL_law_2343 : decode cL_law 2343 = .ok (.aload_n 0, 1) := by decide +kernel
theorem dL_law_2344 : decode cL_law 2344 = .ok (.iload 4, 2) := by decide +kernel
theorem dL_law_2346 : decode cL_law 2346 = .ok (.iconst 2, 1) := by decide +kernel
theorem dL_law_2347 : decode cL_law 2347 = .ok (.iadd, 1) := by decide +kernel
theorem dL_law_2348 : decode cL_law 2348 = .ok (.iaload, 1) := by decide +kernel
theorem dL_law_2349 : decode cL_law 2349 = .ok (.aload_n 0, 1) := by decide +kernel
theorem dL_law_2350 : decode cL_law 2350 = .ok (.iload 4, 2) := by decide +kernel
theorem dL_law_2352 : decode cL_law 2352 = .ok (.iconst 3, 1) := by decide +kernel
theorem dL_law_2353 : decode cL_law 2353 = .ok (.iadd, 1) := by decide +kernel
theorem dL_law_2354 : decode cL_law 2354 = .ok (.iaload, 1) := by decide +kernel
theorem dL_law_2355 : decode cL_law 2355 = .ok (.aload_n 3, 1) := by decide +kernel
theorem dL_law_2356 : decode cL_law 2356 = .ok (.invokestatic 233, 3) := by decide +kernel
theorem dL_law_2359 : decode cL_law 2359 = .ok (.istore 5, 2) := by decide +kernel
theorem dL_law_2361 : decode cL_law 2361 = .ok (.aload_n 2, 1) := by decide +kernel
theorem dL_law_2362 : decode cL_law 2362 = .ok (.aload_n 0, 1) := by decide +kernel
theorem dL_law_2363 : decode cL_law 2363 = .ok (.iload 4, 2) := by decide +kernel
theorem dL_law_2365 : decode cL_law 2365 = .ok (.iconst 1, 1) := by decide +kernel
theorem dL_law_2366 : decode cL_law 2366 = .ok (.iadd, 1) := by decide +kernel
theorem dL_law_2367 : decode cL_law 2367 = .ok (.iaload, 1) := by decide +kernel
theorem dL_law_2368 : decode cL_law 2368 = .ok (.aload_n 0, 1) := by decide +kernel
theorem dL_law_2369 : decode cL_law 2369 = .ok (.iload 4, 2) := by decide +kernel
theorem dL_law_2371 : decode cL_law 2371 = .ok (.iconst 2, 1) := by decide +kernel
theorem dL_law_2372 : decode cL_law 2372 = .ok (.iadd, 1) := by decide +kernel
theorem dL_law_2373 : decode cL_law 2373 = .ok (.iaload, 1) := by decide +kernel
theorem dL_law_2374 : decode cL_law 2374 = .ok (.aload_n 0, 1) := by decide +kernel
theorem dL_law_2375 : decode cL_law 2375 = .ok (.iload 4, 2) := by decide +kernel
theorem dL_law_2377 : decode cL_law 2377 = .ok (.iconst 3, 1) := by decide +kernel
theorem dL_law_2378 : decode cL_law 2378 = .ok (.iadd, 1) := by decide +kernel
theorem dL_law_2379 : decode cL_law 2379 = .ok (.iaload, 1) := by decide +kernel
theorem dL_law_2380 : decode cL_law 2380 = .ok (.invokevirtual 235, 3) := by decide +kernel
theorem dL_law_2383 : decode cL_law 2383 = .ok (.istore 6, 2) := by decide +kernel
theorem dL_law_2385 : decode cL_law 2385 = .ok (.aload_n 2, 1) := by decide +kernel
theorem dL_law_2386 : decode cL_law 2386 = .ok (.invokevirtual 128, 3) := by decide +kernel
theorem dL_law_2389 : decode cL_law 2389 = .ok (.iload 5, 2) := by decide +kernel
theorem dL_law_2391 : decode cL_law 2391 = .ok (.if_icmp .eq 5, 3) := by decide +kernel
theorem dL_law_2394 : decode cL_law 2394 = .ok (.iconst 0, 1) := by decide +kernel
theorem dL_law_2395 : decode cL_law 2395 = .ok (.ireturn, 1) := by decide +kernel
theorem dL_law_2396 : decode cL_law 2396 = .ok (.iload 5, 2) := by decide +kernel
theorem dL_law_2398 : decode cL_law 2398 = .ok (.ifCond .ne 15, 3) := by decide +kernel
theorem dL_law_2401 : decode cL_law 2401 = .ok (.aload_n 3, 1) := by decide +kernel
theorem dL_law_2402 : decode cL_law 2402 = .ok (.iconst 0, 1) := by decide +kernel
theorem dL_law_2403 : decode cL_law 2403 = .ok (.laload, 1) := by decide +kernel
theorem dL_law_2404 : decode cL_law 2404 = .ok (.iload 6, 2) := by decide +kernel
theorem dL_law_2406 : decode cL_law 2406 = .ok (.i2l, 1) := by decide +kernel
theorem dL_law_2407 : decode cL_law 2407 = .ok (.lcmp, 1) := by decide +kernel
theorem dL_law_2408 : decode cL_law 2408 = .ok (.ifCond .eq 5, 3) := by decide +kernel
theorem dL_law_2411 : decode cL_law 2411 = .ok (.iconst 0, 1) := by decide +kernel
theorem dL_law_2412 : decode cL_law 2412 = .ok (.ireturn, 1) := by decide +kernel
theorem dL_law_2413 : decode cL_law 2413 = .ok (.goto 3, 3) := by decide +kernel
theorem dL_law_2416 : decode cL_law 2416 = .ok (.iinc 4 5, 3) := by decide +kernel
theorem dL_law_2419 : decode cL_law 2419 = .ok (.goto (-2396), 3) := by decide +kernel
theorem dL_law_2422 : decode cL_law 2422 = .ok (.iconst 1, 1) := by decide +kernel
theorem dL_law_2423 : decode cL_law 2423 = .ok (.ireturn, 1) := by decide +kernel
end
