section
-- ===== PART A: goes FIRST, ahead of the names: the tables' words, and 'selects' of the private methods out of them =====
/-- a private method of a class that the tables say can be made, by its rows of tables_1 -/
def lw_okq (q : MethodName × Nat) : Prop := (q.1.cls ≠ "java/lang/invoke/MethodHandle" ∧ q.1.cls ≠ "java/lang/invoke/VarHandle") ∧ Cond.instantiable q.1.cls q.2 ∈ tables_1 ∧ Cond.privateMethod q.1 ∈ tables_1 ∧ Cond.instanceMethod q.1 ∈ tables_1
theorem lw_p0 : lw_okq (⟨"TaleSums$Tape", "advance", "()V"⟩, 4) := ⟨⟨by decide +kernel, by decide +kernel⟩, List.mem_of_getElem? (i := 30) (by decide +kernel), List.mem_of_getElem? (i := 217) (by decide +kernel), List.mem_of_getElem? (i := 218) (by decide +kernel)⟩
theorem lw_p1 : lw_okq (⟨"TaleSums$Tape", "find", "(Ljava/lang/String;II)I"⟩, 4) := ⟨⟨by decide +kernel, by decide +kernel⟩, List.mem_of_getElem? (i := 30) (by decide +kernel), List.mem_of_getElem? (i := 255) (by decide +kernel), List.mem_of_getElem? (i := 256) (by decide +kernel)⟩
theorem lw_p2 : lw_okq (⟨"TaleSums$Reader", "readQuestion", "(LTaleSums$Story;)Z"⟩, 1) := ⟨⟨by decide +kernel, by decide +kernel⟩, List.mem_of_getElem? (i := 50) (by decide +kernel), List.mem_of_getElem? (i := 297) (by decide +kernel), List.mem_of_getElem? (i := 298) (by decide +kernel)⟩
theorem lw_p3 : lw_okq (⟨"TaleSums$Reader", "takeAskedSort", "()I"⟩, 1) := ⟨⟨by decide +kernel, by decide +kernel⟩, List.mem_of_getElem? (i := 50) (by decide +kernel), List.mem_of_getElem? (i := 307) (by decide +kernel), List.mem_of_getElem? (i := 308) (by decide +kernel)⟩
theorem lw_p4 : lw_okq (⟨"TaleSums$Reader", "readSentence", "(LTaleSums$Story;)Z"⟩, 1) := ⟨⟨by decide +kernel, by decide +kernel⟩, List.mem_of_getElem? (i := 50) (by decide +kernel), List.mem_of_getElem? (i := 333) (by decide +kernel), List.mem_of_getElem? (i := 334) (by decide +kernel)⟩
theorem lw_p5 : lw_okq (⟨"TaleSums$Reader", "readHas", "(LTaleSums$Story;I)Z"⟩, 1) := ⟨⟨by decide +kernel, by decide +kernel⟩, List.mem_of_getElem? (i := 50) (by decide +kernel), List.mem_of_getElem? (i := 345) (by decide +kernel), List.mem_of_getElem? (i := 346) (by decide +kernel)⟩
theorem lw_p6 : lw_okq (⟨"TaleSums$Reader", "readUnit", "(LTaleSums$Story;)Z"⟩, 1) := ⟨⟨by decide +kernel, by decide +kernel⟩, List.mem_of_getElem? (i := 50) (by decide +kernel), List.mem_of_getElem? (i := 355) (by decide +kernel), List.mem_of_getElem? (i := 356) (by decide +kernel)⟩
theorem lw_p7 : lw_okq (⟨"TaleSums$Reader", "readSecond", "(LTaleSums$Story;I)Z"⟩, 1) := ⟨⟨by decide +kernel, by decide +kernel⟩, List.mem_of_getElem? (i := 50) (by decide +kernel), List.mem_of_getElem? (i := 360) (by decide +kernel), List.mem_of_getElem? (i := 361) (by decide +kernel)⟩
theorem lw_p8 : lw_okq (⟨"TaleSums$Reader", "readPlain", "(LTaleSums$Story;I)Z"⟩, 1) := ⟨⟨by decide +kernel, by decide +kernel⟩, List.mem_of_getElem? (i := 50) (by decide +kernel), List.mem_of_getElem? (i := 367) (by decide +kernel), List.mem_of_getElem? (i := 368) (by decide +kernel)⟩
theorem lw_p9 : lw_okq (⟨"TaleSums$Sums", "makeLaws", "()V"⟩, 14) := ⟨⟨by decide +kernel, by decide +kernel⟩, List.mem_of_getElem? (i := 103) (by decide +kernel), List.mem_of_getElem? (i := 400) (by decide +kernel), List.mem_of_getElem? (i := 401) (by decide +kernel)⟩
theorem lw_p10 : lw_okq (⟨"TaleSums$Sums", "weigh", "([JIIII)V"⟩, 14) := ⟨⟨by decide +kernel, by decide +kernel⟩, List.mem_of_getElem? (i := 103) (by decide +kernel), List.mem_of_getElem? (i := 419) (by decide +kernel), List.mem_of_getElem? (i := 420) (by decide +kernel)⟩
theorem lw_p11 : lw_okq (⟨"TaleSums$Sums", "addFacts", "()V"⟩, 14) := ⟨⟨by decide +kernel, by decide +kernel⟩, List.mem_of_getElem? (i := 103) (by decide +kernel), List.mem_of_getElem? (i := 440) (by decide +kernel), List.mem_of_getElem? (i := 441) (by decide +kernel)⟩
theorem lw_p12 : lw_okq (⟨"TaleSums$Sums", "isFact", "(I)Z"⟩, 14) := ⟨⟨by decide +kernel, by decide +kernel⟩, List.mem_of_getElem? (i := 103) (by decide +kernel), List.mem_of_getElem? (i := 448) (by decide +kernel), List.mem_of_getElem? (i := 449) (by decide +kernel)⟩
theorem lw_p13 : lw_okq (⟨"TaleSums$Sums", "settleAmounts", "()V"⟩, 14) := ⟨⟨by decide +kernel, by decide +kernel⟩, List.mem_of_getElem? (i := 103) (by decide +kernel), List.mem_of_getElem? (i := 480) (by decide +kernel), List.mem_of_getElem? (i := 481) (by decide +kernel)⟩
theorem lw_p14 : lw_okq (⟨"TaleSums$Sums", "settleAnswer", "()V"⟩, 14) := ⟨⟨by decide +kernel, by decide +kernel⟩, List.mem_of_getElem? (i := 103) (by decide +kernel), List.mem_of_getElem? (i := 487) (by decide +kernel), List.mem_of_getElem? (i := 488) (by decide +kernel)⟩
theorem lw_p15 : lw_okq (⟨"TaleSums$Sums", "hasAnswer", "()Z"⟩, 14) := ⟨⟨by decide +kernel, by decide +kernel⟩, List.mem_of_getElem? (i := 103) (by decide +kernel), List.mem_of_getElem? (i := 517) (by decide +kernel), List.mem_of_getElem? (i := 518) (by decide +kernel)⟩
def lw_privs_1 : List (MethodName × Nat) := [(⟨"TaleSums$Tape", "advance", "()V"⟩, 4), (⟨"TaleSums$Tape", "find", "(Ljava/lang/String;II)I"⟩, 4), (⟨"TaleSums$Reader", "readQuestion", "(LTaleSums$Story;)Z"⟩, 1), (⟨"TaleSums$Reader", "takeAskedSort", "()I"⟩, 1), (⟨"TaleSums$Reader", "readSentence", "(LTaleSums$Story;)Z"⟩, 1), (⟨"TaleSums$Reader", "readHas", "(LTaleSums$Story;I)Z"⟩, 1), (⟨"TaleSums$Reader", "readUnit", "(LTaleSums$Story;)Z"⟩, 1), (⟨"TaleSums$Reader", "readSecond", "(LTaleSums$Story;I)Z"⟩, 1), (⟨"TaleSums$Reader", "readPlain", "(LTaleSums$Story;I)Z"⟩, 1), (⟨"TaleSums$Sums", "makeLaws", "()V"⟩, 14), (⟨"TaleSums$Sums", "weigh", "([JIIII)V"⟩, 14), (⟨"TaleSums$Sums", "addFacts", "()V"⟩, 14), (⟨"TaleSums$Sums", "isFact", "(I)Z"⟩, 14), (⟨"TaleSums$Sums", "settleAmounts", "()V"⟩, 14), (⟨"TaleSums$Sums", "settleAnswer", "()V"⟩, 14), (⟨"TaleSums$Sums", "hasAnswer", "()Z"⟩, 14)]
theorem lw_r1 : ∀ q ∈ lw_privs_1, lw_okq q := List.forall_mem_cons.mpr ⟨lw_p0, List.forall_mem_cons.mpr ⟨lw_p1, List.forall_mem_cons.mpr ⟨lw_p2, List.forall_mem_cons.mpr ⟨lw_p3, List.forall_mem_cons.mpr ⟨lw_p4, List.forall_mem_cons.mpr ⟨lw_p5, List.forall_mem_cons.mpr ⟨lw_p6, List.forall_mem_cons.mpr ⟨lw_p7, List.forall_mem_cons.mpr ⟨lw_p8, List.forall_mem_cons.mpr ⟨lw_p9, List.forall_mem_cons.mpr ⟨lw_p10, List.forall_mem_cons.mpr ⟨lw_p11, List.forall_mem_cons.mpr ⟨lw_p12, List.forall_mem_cons.mpr ⟨lw_p13, List.forall_mem_cons.mpr ⟨lw_p14, List.forall_mem_cons.mpr ⟨lw_p15, fun _ h => absurd h List.not_mem_nil⟩⟩⟩⟩⟩⟩⟩⟩⟩⟩⟩⟩⟩⟩⟩⟩
theorem lw_p16 : lw_okq (⟨"TaleSums$Sums", "topAt", "(III)J"⟩, 14) := ⟨⟨by decide +kernel, by decide +kernel⟩, List.mem_of_getElem? (i := 103) (by decide +kernel), List.mem_of_getElem? (i := 534) (by decide +kernel), List.mem_of_getElem? (i := 535) (by decide +kernel)⟩
theorem lw_p17 : lw_okq (⟨"TaleSums$Sums", "isSettledBy", "(I)Z"⟩, 14) := ⟨⟨by decide +kernel, by decide +kernel⟩, List.mem_of_getElem? (i := 103) (by decide +kernel), List.mem_of_getElem? (i := 546) (by decide +kernel), List.mem_of_getElem? (i := 547) (by decide +kernel)⟩
theorem lw_p18 : lw_okq (⟨"TaleSums$Sums", "factsOf", "(I)I"⟩, 14) := ⟨⟨by decide +kernel, by decide +kernel⟩, List.mem_of_getElem? (i := 103) (by decide +kernel), List.mem_of_getElem? (i := 550) (by decide +kernel), List.mem_of_getElem? (i := 551) (by decide +kernel)⟩
theorem lw_p19 : lw_okq (⟨"TaleSums$Sums", "seekFewest", "(II)I"⟩, 14) := ⟨⟨by decide +kernel, by decide +kernel⟩, List.mem_of_getElem? (i := 103) (by decide +kernel), List.mem_of_getElem? (i := 563) (by decide +kernel), List.mem_of_getElem? (i := 564) (by decide +kernel)⟩
theorem lw_p20 : lw_okq (⟨"TaleSums$Sums", "isStrange", "(III)Z"⟩, 14) := ⟨⟨by decide +kernel, by decide +kernel⟩, List.mem_of_getElem? (i := 103) (by decide +kernel), List.mem_of_getElem? (i := 592) (by decide +kernel), List.mem_of_getElem? (i := 593) (by decide +kernel)⟩
theorem lw_p21 : lw_okq (⟨"TaleSums$Changes", "dropFirst", "()V"⟩, 3) := ⟨⟨by decide +kernel, by decide +kernel⟩, List.mem_of_getElem? (i := 60) (by decide +kernel), List.mem_of_getElem? (i := 613) (by decide +kernel), List.mem_of_getElem? (i := 614) (by decide +kernel)⟩
theorem lw_p22 : lw_okq (⟨"java/lang/Throwable", "fillInStackTrace", "(I)Ljava/lang/Throwable;"⟩, 6) := ⟨⟨by decide +kernel, by decide +kernel⟩, List.mem_of_getElem? (i := 698) (by decide +kernel), List.mem_of_getElem? (i := 696) (by decide +kernel), List.mem_of_getElem? (i := 697) (by decide +kernel)⟩
theorem lw_p23 : lw_okq (⟨"TaleSumsModel", "put4", "(I)V"⟩, 27) := ⟨⟨by decide +kernel, by decide +kernel⟩, List.mem_of_getElem? (i := 723) (by decide +kernel), List.mem_of_getElem? (i := 822) (by decide +kernel), List.mem_of_getElem? (i := 823) (by decide +kernel)⟩
theorem lw_p24 : lw_okq (⟨"TaleSumsModel", "reads", "()I"⟩, 27) := ⟨⟨by decide +kernel, by decide +kernel⟩, List.mem_of_getElem? (i := 723) (by decide +kernel), List.mem_of_getElem? (i := 834) (by decide +kernel), List.mem_of_getElem? (i := 835) (by decide +kernel)⟩
theorem lw_p25 : lw_okq (⟨"TaleSumsModel", "next", "()V"⟩, 27) := ⟨⟨by decide +kernel, by decide +kernel⟩, List.mem_of_getElem? (i := 723) (by decide +kernel), List.mem_of_getElem? (i := 838) (by decide +kernel), List.mem_of_getElem? (i := 839) (by decide +kernel)⟩
theorem lw_p26 : lw_okq (⟨"TaleSumsModel", "is", "(Ljava/lang/String;)Z"⟩, 27) := ⟨⟨by decide +kernel, by decide +kernel⟩, List.mem_of_getElem? (i := 723) (by decide +kernel), List.mem_of_getElem? (i := 849) (by decide +kernel), List.mem_of_getElem? (i := 850) (by decide +kernel)⟩
theorem lw_p27 : lw_okq (⟨"TaleSumsModel", "name", "()I"⟩, 27) := ⟨⟨by decide +kernel, by decide +kernel⟩, List.mem_of_getElem? (i := 723) (by decide +kernel), List.mem_of_getElem? (i := 855) (by decide +kernel), List.mem_of_getElem? (i := 856) (by decide +kernel)⟩
theorem lw_p28 : lw_okq (⟨"TaleSumsModel", "sentence", "()Z"⟩, 27) := ⟨⟨by decide +kernel, by decide +kernel⟩, List.mem_of_getElem? (i := 723) (by decide +kernel), List.mem_of_getElem? (i := 870) (by decide +kernel), List.mem_of_getElem? (i := 871) (by decide +kernel)⟩
theorem lw_p29 : lw_okq (⟨"TaleSumsModel", "takesName", "(Z)Z"⟩, 27) := ⟨⟨by decide +kernel, by decide +kernel⟩, List.mem_of_getElem? (i := 723) (by decide +kernel), List.mem_of_getElem? (i := 874) (by decide +kernel), List.mem_of_getElem? (i := 875) (by decide +kernel)⟩
theorem lw_p30 : lw_okq (⟨"TaleSumsModel", "takes", "(Ljava/lang/String;)Z"⟩, 27) := ⟨⟨by decide +kernel, by decide +kernel⟩, List.mem_of_getElem? (i := 723) (by decide +kernel), List.mem_of_getElem? (i := 879) (by decide +kernel), List.mem_of_getElem? (i := 880) (by decide +kernel)⟩
theorem lw_p31 : lw_okq (⟨"TaleSumsModel", "takesNumber", "()Z"⟩, 27) := ⟨⟨by decide +kernel, by decide +kernel⟩, List.mem_of_getElem? (i := 723) (by decide +kernel), List.mem_of_getElem? (i := 884) (by decide +kernel), List.mem_of_getElem? (i := 885) (by decide +kernel)⟩
def lw_privs_2 : List (MethodName × Nat) := [(⟨"TaleSums$Sums", "topAt", "(III)J"⟩, 14), (⟨"TaleSums$Sums", "isSettledBy", "(I)Z"⟩, 14), (⟨"TaleSums$Sums", "factsOf", "(I)I"⟩, 14), (⟨"TaleSums$Sums", "seekFewest", "(II)I"⟩, 14), (⟨"TaleSums$Sums", "isStrange", "(III)Z"⟩, 14), (⟨"TaleSums$Changes", "dropFirst", "()V"⟩, 3), (⟨"java/lang/Throwable", "fillInStackTrace", "(I)Ljava/lang/Throwable;"⟩, 6), (⟨"TaleSumsModel", "put4", "(I)V"⟩, 27), (⟨"TaleSumsModel", "reads", "()I"⟩, 27), (⟨"TaleSumsModel", "next", "()V"⟩, 27), (⟨"TaleSumsModel", "is", "(Ljava/lang/String;)Z"⟩, 27), (⟨"TaleSumsModel", "name", "()I"⟩, 27), (⟨"TaleSumsModel", "sentence", "()Z"⟩, 27), (⟨"TaleSumsModel", "takesName", "(Z)Z"⟩, 27), (⟨"TaleSumsModel", "takes", "(Ljava/lang/String;)Z"⟩, 27), (⟨"TaleSumsModel", "takesNumber", "()Z"⟩, 27)]
theorem lw_r2 : ∀ q ∈ lw_privs_2, lw_okq q := List.forall_mem_cons.mpr ⟨lw_p16, List.forall_mem_cons.mpr ⟨lw_p17, List.forall_mem_cons.mpr ⟨lw_p18, List.forall_mem_cons.mpr ⟨lw_p19, List.forall_mem_cons.mpr ⟨lw_p20, List.forall_mem_cons.mpr ⟨lw_p21, List.forall_mem_cons.mpr ⟨lw_p22, List.forall_mem_cons.mpr ⟨lw_p23, List.forall_mem_cons.mpr ⟨lw_p24, List.forall_mem_cons.mpr ⟨lw_p25, List.forall_mem_cons.mpr ⟨lw_p26, List.forall_mem_cons.mpr ⟨lw_p27, List.forall_mem_cons.mpr ⟨lw_p28, List.forall_mem_cons.mpr ⟨lw_p29, List.forall_mem_cons.mpr ⟨lw_p30, List.forall_mem_cons.mpr ⟨lw_p31, fun _ h => absurd h List.not_mem_nil⟩⟩⟩⟩⟩⟩⟩⟩⟩⟩⟩⟩⟩⟩⟩⟩
theorem lw_p32 : lw_okq (⟨"TaleSumsModel", "number", "()I"⟩, 27) := ⟨⟨by decide +kernel, by decide +kernel⟩, List.mem_of_getElem? (i := 723) (by decide +kernel), List.mem_of_getElem? (i := 888) (by decide +kernel), List.mem_of_getElem? (i := 889) (by decide +kernel)⟩
theorem lw_p33 : lw_okq (⟨"TaleSumsModel", "takesUnit", "()Z"⟩, 27) := ⟨⟨by decide +kernel, by decide +kernel⟩, List.mem_of_getElem? (i := 723) (by decide +kernel), List.mem_of_getElem? (i := 892) (by decide +kernel), List.mem_of_getElem? (i := 893) (by decide +kernel)⟩
theorem lw_p34 : lw_okq (⟨"TaleSumsModel", "unit", "()I"⟩, 27) := ⟨⟨by decide +kernel, by decide +kernel⟩, List.mem_of_getElem? (i := 723) (by decide +kernel), List.mem_of_getElem? (i := 896) (by decide +kernel), List.mem_of_getElem? (i := 897) (by decide +kernel)⟩
theorem lw_p35 : lw_okq (⟨"TaleSumsModel", "asks", "()Z"⟩, 27) := ⟨⟨by decide +kernel, by decide +kernel⟩, List.mem_of_getElem? (i := 723) (by decide +kernel), List.mem_of_getElem? (i := 919) (by decide +kernel), List.mem_of_getElem? (i := 920) (by decide +kernel)⟩
theorem lw_p36 : lw_okq (⟨"TaleSumsModel", "of", "(II)I"⟩, 27) := ⟨⟨by decide +kernel, by decide +kernel⟩, List.mem_of_getElem? (i := 723) (by decide +kernel), List.mem_of_getElem? (i := 937) (by decide +kernel), List.mem_of_getElem? (i := 938) (by decide +kernel)⟩
theorem lw_p37 : lw_okq (⟨"TaleSumsModel", "quarrelAt", "()I"⟩, 27) := ⟨⟨by decide +kernel, by decide +kernel⟩, List.mem_of_getElem? (i := 723) (by decide +kernel), List.mem_of_getElem? (i := 949) (by decide +kernel), List.mem_of_getElem? (i := 950) (by decide +kernel)⟩
theorem lw_p38 : lw_okq (⟨"TaleSumsModel", "isFact", "(I)Z"⟩, 27) := ⟨⟨by decide +kernel, by decide +kernel⟩, List.mem_of_getElem? (i := 723) (by decide +kernel), List.mem_of_getElem? (i := 953) (by decide +kernel), List.mem_of_getElem? (i := 954) (by decide +kernel)⟩
theorem lw_p39 : lw_okq (⟨"TaleSumsModel", "gather", "(II)Z"⟩, 27) := ⟨⟨by decide +kernel, by decide +kernel⟩, List.mem_of_getElem? (i := 723) (by decide +kernel), List.mem_of_getElem? (i := 957) (by decide +kernel), List.mem_of_getElem? (i := 958) (by decide +kernel)⟩
theorem lw_p40 : lw_okq (⟨"TaleSumsModel", "law", "(I)V"⟩, 27) := ⟨⟨by decide +kernel, by decide +kernel⟩, List.mem_of_getElem? (i := 723) (by decide +kernel), List.mem_of_getElem? (i := 961) (by decide +kernel), List.mem_of_getElem? (i := 962) (by decide +kernel)⟩
theorem lw_p41 : lw_okq (⟨"TaleSumsModel", "more", "(III)I"⟩, 27) := ⟨⟨by decide +kernel, by decide +kernel⟩, List.mem_of_getElem? (i := 723) (by decide +kernel), List.mem_of_getElem? (i := 965) (by decide +kernel), List.mem_of_getElem? (i := 966) (by decide +kernel)⟩
theorem lw_p42 : lw_okq (⟨"TaleSumsModel", "adds", "()Z"⟩, 27) := ⟨⟨by decide +kernel, by decide +kernel⟩, List.mem_of_getElem? (i := 723) (by decide +kernel), List.mem_of_getElem? (i := 970) (by decide +kernel), List.mem_of_getElem? (i := 971) (by decide +kernel)⟩
theorem lw_p43 : lw_okq (⟨"TaleSumsModel", "hasAnswer", "()Z"⟩, 27) := ⟨⟨by decide +kernel, by decide +kernel⟩, List.mem_of_getElem? (i := 723) (by decide +kernel), List.mem_of_getElem? (i := 984) (by decide +kernel), List.mem_of_getElem? (i := 985) (by decide +kernel)⟩
theorem lw_p44 : lw_okq (⟨"TaleSumsModel", "all", "()I"⟩, 27) := ⟨⟨by decide +kernel, by decide +kernel⟩, List.mem_of_getElem? (i := 723) (by decide +kernel), List.mem_of_getElem? (i := 988) (by decide +kernel), List.mem_of_getElem? (i := 989) (by decide +kernel)⟩
theorem lw_p45 : lw_okq (⟨"TaleSumsModel", "answersBy", "(I)Z"⟩, 27) := ⟨⟨by decide +kernel, by decide +kernel⟩, List.mem_of_getElem? (i := 723) (by decide +kernel), List.mem_of_getElem? (i := 992) (by decide +kernel), List.mem_of_getElem? (i := 993) (by decide +kernel)⟩
theorem lw_p46 : lw_okq (⟨"TaleSumsModel", "settles", "(II)Z"⟩, 27) := ⟨⟨by decide +kernel, by decide +kernel⟩, List.mem_of_getElem? (i := 723) (by decide +kernel), List.mem_of_getElem? (i := 996) (by decide +kernel), List.mem_of_getElem? (i := 997) (by decide +kernel)⟩
theorem lw_p47 : lw_okq (⟨"TaleSumsModel", "part", "(I)J"⟩, 27) := ⟨⟨by decide +kernel, by decide +kernel⟩, List.mem_of_getElem? (i := 723) (by decide +kernel), List.mem_of_getElem? (i := 1001) (by decide +kernel), List.mem_of_getElem? (i := 1002) (by decide +kernel)⟩
def lw_privs_3 : List (MethodName × Nat) := [(⟨"TaleSumsModel", "number", "()I"⟩, 27), (⟨"TaleSumsModel", "takesUnit", "()Z"⟩, 27), (⟨"TaleSumsModel", "unit", "()I"⟩, 27), (⟨"TaleSumsModel", "asks", "()Z"⟩, 27), (⟨"TaleSumsModel", "of", "(II)I"⟩, 27), (⟨"TaleSumsModel", "quarrelAt", "()I"⟩, 27), (⟨"TaleSumsModel", "isFact", "(I)Z"⟩, 27), (⟨"TaleSumsModel", "gather", "(II)Z"⟩, 27), (⟨"TaleSumsModel", "law", "(I)V"⟩, 27), (⟨"TaleSumsModel", "more", "(III)I"⟩, 27), (⟨"TaleSumsModel", "adds", "()Z"⟩, 27), (⟨"TaleSumsModel", "hasAnswer", "()Z"⟩, 27), (⟨"TaleSumsModel", "all", "()I"⟩, 27), (⟨"TaleSumsModel", "answersBy", "(I)Z"⟩, 27), (⟨"TaleSumsModel", "settles", "(II)Z"⟩, 27), (⟨"TaleSumsModel", "part", "(I)J"⟩, 27)]
theorem lw_r3 : ∀ q ∈ lw_privs_3, lw_okq q := List.forall_mem_cons.mpr ⟨lw_p32, List.forall_mem_cons.mpr ⟨lw_p33, List.forall_mem_cons.mpr ⟨lw_p34, List.forall_mem_cons.mpr ⟨lw_p35, List.forall_mem_cons.mpr ⟨lw_p36, List.forall_mem_cons.mpr ⟨lw_p37, List.forall_mem_cons.mpr ⟨lw_p38, List.forall_mem_cons.mpr ⟨lw_p39, List.forall_mem_cons.mpr ⟨lw_p40, List.forall_mem_cons.mpr ⟨lw_p41, List.forall_mem_cons.mpr ⟨lw_p42, List.forall_mem_cons.mpr ⟨lw_p43, List.forall_mem_cons.mpr ⟨lw_p44, List.forall_mem_cons.mpr ⟨lw_p45, List.forall_mem_cons.mpr ⟨lw_p46, List.forall_mem_cons.mpr ⟨lw_p47, fun _ h => absurd h List.not_mem_nil⟩⟩⟩⟩⟩⟩⟩⟩⟩⟩⟩⟩⟩⟩⟩⟩
theorem lw_p48 : lw_okq (⟨"TaleSumsModel", "stages", "()I"⟩, 27) := ⟨⟨by decide +kernel, by decide +kernel⟩, List.mem_of_getElem? (i := 723) (by decide +kernel), List.mem_of_getElem? (i := 1009) (by decide +kernel), List.mem_of_getElem? (i := 1010) (by decide +kernel)⟩
theorem lw_p49 : lw_okq (⟨"TaleSumsModel", "amounts", "(III)Z"⟩, 27) := ⟨⟨by decide +kernel, by decide +kernel⟩, List.mem_of_getElem? (i := 723) (by decide +kernel), List.mem_of_getElem? (i := 1013) (by decide +kernel), List.mem_of_getElem? (i := 1014) (by decide +kernel)⟩
theorem lw_p50 : lw_okq (⟨"TaleSumsModel", "facts", "()I"⟩, 27) := ⟨⟨by decide +kernel, by decide +kernel⟩, List.mem_of_getElem? (i := 723) (by decide +kernel), List.mem_of_getElem? (i := 1025) (by decide +kernel), List.mem_of_getElem? (i := 1026) (by decide +kernel)⟩
def lw_privs_4 : List (MethodName × Nat) := [(⟨"TaleSumsModel", "stages", "()I"⟩, 27), (⟨"TaleSumsModel", "amounts", "(III)Z"⟩, 27), (⟨"TaleSumsModel", "facts", "()I"⟩, 27)]
theorem lw_r4 : ∀ q ∈ lw_privs_4, lw_okq q := List.forall_mem_cons.mpr ⟨lw_p48, List.forall_mem_cons.mpr ⟨lw_p49, List.forall_mem_cons.mpr ⟨lw_p50, fun _ h => absurd h List.not_mem_nil⟩⟩⟩
def lw_privs : List (MethodName × Nat) := lw_privs_1 ++ (lw_privs_2 ++ (lw_privs_3 ++ (lw_privs_4)))
def lw_tbl : List Cond := k2_sels lw_privs ++ tables_1
theorem lw_privs_ok : ∀ q ∈ lw_privs, lw_okq q := by
  show ∀ q ∈ lw_privs_1 ++ (lw_privs_2 ++ (lw_privs_3 ++ (lw_privs_4))), lw_okq q
  exact List.forall_mem_append.mpr ⟨lw_r1, List.forall_mem_append.mpr ⟨lw_r2, List.forall_mem_append.mpr ⟨lw_r3, lw_r4⟩⟩⟩
end
section
/-- what the tables say of the class of arrays of arrays (a word that the printed rows below use and do not define) -/
def va_AOA (t : FieldType) (U : State) : Prop := (Cond.arrayOver (.array t)).before #[] U = true
theorem va_AOA.use {t : FieldType} {A : Array Value} {U : State} (h : va_AOA t U) : (Cond.arrayOver (.array t)).before A U = true := h
/-! ===== BEGIN words of one list among another's, by their places ===== -/
theorem goodIn_r {big : List Cond} (ws : List Cond) (ps : List Nat) (hp : ws = ps.filterMap (fun i => big[i]?)) (h : ws.all goodWord = true) : GoodIn big ws := by
  intro w hw
  have h1 := List.all_eq_true.mp h w hw
  rw [hp] at hw
  obtain ⟨i, -, hi⟩ := List.mem_filterMap.mp hw
  have hm : w ∈ big := by first | exact List.mem_of_getElem? hi | exact List.getElem?_mem hi
  exact ⟨hm, good_of_word h1⟩
theorem goodIn_app {big a b : List Cond} (ha : GoodIn big a) (hb : GoodIn big b) : GoodIn big (a ++ b) := fun w h => (List.mem_append.mp h).elim (ha w) (hb w)
theorem goodIn_ca {big a b : List Cond} {c : Cond} (ha : GoodIn big (c :: a)) (hb : GoodIn big b) : GoodIn big (c :: (a ++ b)) := fun w h => (List.mem_cons.mp h).elim (fun e => ha w (List.mem_cons.mpr (Or.inl e))) (fun h => (List.mem_append.mp h).elim (fun h => ha w (List.mem_cons.mpr (Or.inr h))) (hb w))
theorem goodIn_sub {big ws : List Cond} (hm : ∀ w ∈ ws, w ∈ big) (h : ws.all goodWord = true) : GoodIn big ws := fun w hw => ⟨hm w hw, good_of_word (List.all_eq_true.mp h w hw)⟩
/-! ===== END ===== -/

/-! ===== BEGIN new T[n][m]: the outer array a place, the inner ones among the pooled ===== -/
/-- f, but v at every address of l -/
def vr_up {α : Type} (f : Nat → α) (l : List Nat) (v : α) : Nat → α := fun a => if a ∈ l then v else f a
theorem vr_up_in {α : Type} {f : Nat → α} {l : List Nat} {v : α} {a : Nat} (h : a ∈ l) : vr_up f l v a = v := if_pos h
theorem vr_up_ne {α : Type} {f : Nat → α} {l : List Nat} {v : α} {a : Nat} (h : a ∉ l) : vr_up f l v a = f a := if_neg h
theorem vr_rows {L l : List Nat} {f : Nat → va_E} {e : va_E} (h : ∀ a, a ∈ l → a ∉ L) : va_pl L f ++ l.map (fun a => (a, e)) = va_pl (L ++ l) (vr_up f l e) := by
  unfold va_pl
  rw [List.map_append]
  congr 1
  · apply List.map_congr_left
    intro a ha
    rw [vr_up_ne (fun q => h a q ha)]
  · apply List.map_congr_left
    intro a ha
    rw [vr_up_in ha]
theorem vr_lay {X rows : va_W} {x : Nat × va_E} {pl : va_W} {D : va_G} {cl : List vw_C} {H : Heap} (hP : va_P D cl (((X ++ pl) ++ [x]) ++ rows) H) : va_P D cl ((X ++ [x]) ++ (pl ++ rows)) H := by
  rw [List.append_assoc (X ++ pl)] at hP
  have h := va_P.swap hP
  rw [← List.append_assoc X] at h
  have h2 := va_P.swap h
  rw [List.append_assoc (X ++ [x])] at h2
  exact h2
theorem vr_layD {X rows : va_W} {x : Nat × va_E} {pl : va_W} {A : Nat → Prop} (hD : va_D A (((X ++ pl) ++ [x]) ++ rows)) : va_D A ((X ++ [x]) ++ (pl ++ rows)) := by
  rw [List.append_assoc (X ++ pl)] at hD
  have h := va_D.swap hD
  rw [← List.append_assoc X] at h
  have h2 := va_D.swap h
  rw [List.append_assoc (X ++ [x])] at h2
  exact h2
theorem vr_outer (c : ClassId) (N h0 : Nat) : ∀ i : Nat, Jvm.Free.Multi.outerC c N h0 i = arrV c N (fun j => va_rf (if j < i then some (h0 + 1 + j) else none))
  | 0 => by
    show ({ cls := c, slots := Array.replicate N .null, vm := .none } : Cell) = _
    rw [arrV_new]
    refine congrArg (arrV c N) (funext fun j => ?_)
    simp [va_rf]
  | i + 1 => by
    show (Jvm.Free.Multi.outerC c N h0 i).setSlot i (.ref (h0 + 1 + i)) = _
    rw [vr_outer c N h0 i, arrV_store]
    refine congrArg (arrV c N) (funext fun j => ?_)
    by_cases e : j = i
    · subst e
      simp [updV, va_rf]
    · by_cases h : j < i
      · simp [updV, e, h, Nat.lt_succ_of_lt h]
      · simp [updV, e, h, show ¬ j < i + 1 by omega]
section VGM
variable {p : Program} {l : Launch} {e : Env} {R : Room} {s : State} {m : MethodId} {args : Array Value} {below : List Frame} {meth : Method} {c : Code} {H : Heap} {locs : List Loc} {cells slots : Nat} {Q : State → Prop}
variable {cc : ByteArray} {pc : Nat} {ls : Array Slot} {rest : List Value} {D : va_G} {cl : List vw_C} {A : Nat → Prop} {a : Nat} {tys : List (ClassId × FieldType)} {ws : va_W} {H0 : Heap}
theorem va_mna {X : va_W} {L : List Nat} {f : Nat → va_E} {cc : ByteArray} (hexec : p.tables.exec = Jvm.exec) (hb : c.code = cc) {own : String} {index : Nat} {ty : FieldType} {cy : ClassId} (hown : s.vm.findClass own = some m.cls) (hclink : (Cond.classLink own index ("[" ++ (FieldType.array ty).toString)).before args s = true) (hover : va_AOA ty s) (harr : (Cond.arrayClass ty).before args s = true) (hcy : s.vm.findClass (FieldType.array ty).toString = some cy)
    (hK : va_K D cl tys s) (hP : va_P D cl (X ++ va_pl L f) H) (hD : va_D A (X ++ va_pl L f)) (hS : va_S A H0 H locs) (hA : ∀ q, H0.size ≤ q → A q) {n k : Int32} {N' K' : Nat} {z : vp_A} (hn : ¬ n < 0) (hk : ¬ k < 0) (hN : n.toNatClampNeg = N') (hM : k.toNatClampNeg = K')
    (hb1 : N' * 4 ≤ 536870912) (hb2 : K' * componentBytes ty ≤ 536870912) (hb3 : K' ≤ 536870912) (hdf : fits ty (defaultValue ty) = true) (hdd : (defaultValue ty).isDefault = true) (hcells : cells + (1 + N') ≤ R.cells) (hslots : slots + (N' + N' * K') ≤ R.slots) (hz : ∀ c : ClassId, Jvm.Free.Multi.innerC c K' (defaultValue ty) = vp_cell c z) (hdg : decode cc pc = .ok (.multianewarray index 2, 4))
    (kk : ∀ (q : Nat) (r : Nat → Nat) (cA : ClassId) (H1 : Heap), (∀ i j : Nat, i < N' → j < N' → r i = r j → i = j) → (∀ i : Nat, i < N' → r i ∉ L) → va_K D cl (tys ++ [(cA, .array ty)]) s →
      va_P D cl ((X ++ [(q, .inl (cA, N', .inr (.inr (.inr (.inr (fun i => if i < N' then some (r i) else none))))))]) ++ va_pl (L ++ (List.range N').map r) (vr_up f ((List.range N').map r) (.inl (cy, z)))) H1 → va_D A ((X ++ [(q, .inl (cA, N', .inr (.inr (.inr (.inr (fun i => if i < N' then some (r i) else none))))))]) ++ va_pl (L ++ (List.range N').map r) (vr_up f ((List.range N').map r) (.inl (cy, z)))) → va_S A H0 H1 locs →
      W p l e R s m args below meth c H1 locs (cells + 1 + N') (slots + N' + N' * K') Q (F0 m (pc + 4) ls (.ref q :: rest))) : W p l e R s m args below meth c H locs cells slots Q (F0 m pc ls (.int k :: .int n :: rest)) := by
  subst hN
  subst hM
  intro T hT Xs
  obtain ⟨vm₁, cA, comp, -, fA, fC, hO, -, X', step⟩ := Xs.multianewarray2F hexec hown hclink (va_AOA.use hover) harr (g := F0 m pc ls (.int k :: .int n :: rest)) rfl (by rw [hb]; exact hdg) rfl hn hk hb1 hb2 hb3 hdf hdd hcells hslots
  have ec : some cy = some comp := hcy.symm.trans fC
  cases ec
  generalize hF : Jvm.Free.Multi.fill (T.setVm vm₁) cA cy n.toNatClampNeg k.toNatClampNeg (defaultValue ty) n.toNatClampNeg = F at X' step
  have hTh : (T.setVm vm₁).heap = H := hT
  obtain ⟨f1, f2, -, -⟩ := Jvm.Free.Multi.fill_facts (T.setVm vm₁) cA cy n.toNatClampNeg k.toNatClampNeg (defaultValue ty) n.toNatClampNeg
  rw [hF, hTh] at f1 f2
  have hold : ∀ x : Nat, x < H.size → F.heap[x]? = H[x]? := fun x hx => by
    have := Jvm.Free.Multi.fill_old (T.setVm vm₁) cA cy n.toNatClampNeg k.toNatClampNeg (defaultValue ty) (a := x) (by rw [hTh]; exact hx) n.toNatClampNeg
    rw [hF, hTh] at this
    exact this
  have hrow : ∀ j : Nat, j < n.toNatClampNeg → F.heap[H.size + 1 + j]? = some (vp_cell cy z) := fun j hj => by
    have := Jvm.Free.Multi.fill_inner (T.setVm vm₁) cA cy n.toNatClampNeg k.toNatClampNeg (defaultValue ty) n.toNatClampNeg j hj
    rw [hF, hTh, hz] at this
    exact this
  have hout : Jvm.Free.Multi.outerC cA n.toNatClampNeg H.size n.toNatClampNeg = vp_cell cA (n.toNatClampNeg, .inr (.inr (.inr (.inr (fun i => if i < n.toNatClampNeg then some (H.size + 1 + i) else none))))) := by
    rw [vp_cell_q]
    exact vr_outer cA n.toNatClampNeg H.size n.toNatClampNeg
  rw [hout] at f2
  have hlt : ∀ a, a ∈ L → a < H.size := fun a ha => by
    obtain ⟨k9, hk9⟩ := va_pl_get (X := X) (f := f) ha
    exact (hP k9 _ hk9).lt
  have hnl : ∀ i : Nat, i < n.toNatClampNeg → H.size + 1 + i ∉ L := fun i _ h => by
    have := hlt _ h
    omega
  have hnm : ∀ a, a ∈ (List.range n.toNatClampNeg).map (fun i => H.size + 1 + i) → a ∉ L := fun a ha h => by
    obtain ⟨i, -, rfl⟩ := List.mem_map.mp ha
    have := hlt _ h
    omega
  have hP0 : va_P D cl (X ++ va_pl L f) F.heap := hP.kept (fun k9 x hx => hold x.1 ((hP k9 x hx).lt))
  have hP1 : va_P D cl ((X ++ va_pl L f) ++ [(H.size, .inl (cA, n.toNatClampNeg, .inr (.inr (.inr (.inr (fun i => if i < n.toNatClampNeg then some (H.size + 1 + i) else none))))))]) F.heap := hP0.app (fun k9 x hx => by
    have h0 : k9 < 1 := (List.getElem?_eq_some_iff.mp hx).1
    rw [show k9 = 0 by omega] at hx
    cases hx
    exact f2)
  have hP2 : va_P D cl (((X ++ va_pl L f) ++ [(H.size, .inl (cA, n.toNatClampNeg, .inr (.inr (.inr (.inr (fun i => if i < n.toNatClampNeg then some (H.size + 1 + i) else none))))))]) ++ ((List.range n.toNatClampNeg).map (fun i => H.size + 1 + i)).map (fun a => (a, .inl (cy, z)))) F.heap := hP1.app (fun k9 x hx => by
    obtain ⟨a, ha, rfl⟩ := List.mem_map.mp (List.mem_of_getElem? hx)
    obtain ⟨i, hi, rfl⟩ := List.mem_map.mp ha
    exact hrow i (List.mem_range.mp hi))
  have hD2 : va_D A (((X ++ va_pl L f) ++ [(H.size, .inl (cA, n.toNatClampNeg, .inr (.inr (.inr (.inr (fun i => if i < n.toNatClampNeg then some (H.size + 1 + i) else none))))))]) ++ ((List.range n.toNatClampNeg).map (fun i => H.size + 1 + i)).map (fun a => (a, .inl (cy, z)))) := by
    have hD1 := hD.push (e := .inl (cA, n.toNatClampNeg, .inr (.inr (.inr (.inr (fun i => if i < n.toNatClampNeg then some (H.size + 1 + i) else none)))))) hP rfl (hA _ hS.1)
    generalize hW1 : (X ++ va_pl L f) ++ [(H.size, .inl (cA, n.toNatClampNeg, .inr (.inr (.inr (.inr (fun i => if i < n.toNatClampNeg then some (H.size + 1 + i) else none))))))] = W1 at hD1 hP1 ⊢
    have hle : ∀ (k9 : Nat) (x : Nat × va_E), W1[k9]? = some x → x.1 ≤ H.size := fun k9 x hx => by
      rw [← hW1] at hx
      by_cases hl : k9 < (X ++ va_pl L f).length
      · rw [List.getElem?_append_left hl] at hx
        exact Nat.le_of_lt ((hP k9 x hx).lt)
      · rw [List.getElem?_append_right (by omega)] at hx
        have h0 : k9 - (X ++ va_pl L f).length < 1 := (List.getElem?_eq_some_iff.mp hx).1
        rw [show k9 - (X ++ va_pl L f).length = 0 by omega] at hx
        cases hx
        exact Nat.le_refl _
    have hr : ∀ (k9 : Nat) (x : Nat × va_E), (((List.range n.toNatClampNeg).map (fun i => H.size + 1 + i)).map (fun a => ((a, .inl (cy, z)) : Nat × va_E)))[k9]? = some x → x.1 = H.size + 1 + k9 := fun k9 x hx => by
      rw [List.getElem?_map, List.getElem?_map] at hx
      by_cases h9 : k9 < n.toNatClampNeg
      · rw [List.getElem?_range h9] at hx
        cases hx
        rfl
      · have hn0 : (List.range n.toNatClampNeg)[k9]? = none := List.getElem?_eq_none (by rw [List.length_range]; omega)
        rw [hn0] at hx
        cases hx
    refine ⟨fun i j x y hi hj hxy => ?_, fun k9 x hx => ?_⟩
    · by_cases h1 : i < W1.length <;> by_cases h2 : j < W1.length
      · rw [List.getElem?_append_left h1] at hi
        rw [List.getElem?_append_left h2] at hj
        exact hD1.1 i j x y hi hj hxy
      · rw [List.getElem?_append_left h1] at hi
        rw [List.getElem?_append_right (by omega)] at hj
        have := hle _ _ hi
        have := hr _ _ hj
        omega
      · rw [List.getElem?_append_right (by omega)] at hi
        rw [List.getElem?_append_left h2] at hj
        have := hle _ _ hj
        have := hr _ _ hi
        omega
      · rw [List.getElem?_append_right (by omega)] at hi hj
        have := hr _ _ hi
        have := hr _ _ hj
        omega
    · by_cases h1 : k9 < W1.length
      · rw [List.getElem?_append_left h1] at hx
        exact hD1.2 k9 x hx
      · rw [List.getElem?_append_right (by omega)] at hx
        have := hr _ _ hx
        exact hA _ (by have := hS.1; omega)
  have hAr : ArrOfT s cA (.array ty) := fun N9 z9 => by
    obtain ⟨-, k9, hk9, cm9, hkk9⟩ := (hO 0 0 0).1
    exact ⟨(fun q hq => by cases hq), k9, hk9, cm9, hkk9⟩
  have hK2 : va_K D cl (tys ++ [(cA, .array ty)]) s := ⟨hK.1, fun k9 x hx => by
    by_cases hl : k9 < tys.length
    · rw [List.getElem?_append_left hl] at hx
      exact hK.2 k9 x hx
    · rw [List.getElem?_append_right (by omega)] at hx
      have h0 : k9 - tys.length < 1 := (List.getElem?_eq_some_iff.mp hx).1
      rw [show k9 - tys.length = 0 by omega] at hx
      cases hx
      exact ⟨hAr, fA⟩⟩
  obtain ⟨t, a1, b1⟩ := kk H.size (fun i => H.size + 1 + i) cA F.heap (fun i j _ _ h => by have h9 : H.size + 1 + i = H.size + 1 + j := h; omega) hnl hK2 (by rw [← vr_rows hnm]; exact vr_lay hP2) (by rw [← vr_rows hnm]; exact vr_layD hD2) ⟨by rw [f1]; have := hS.1; omega, fun x h1 h2 => (hold x (Nat.lt_of_lt_of_le h1 hS.1)).trans (hS.2.1 x h1 h2), hS.2.2⟩ F rfl X'
  refine ⟨t, step t ?_, b1⟩
  have e : T.heap.size = H.size := by rw [hT]
  rw [e]
  exact a1
end VGM
/-! ===== END ===== -/

/-! ===== BEGIN exceptions that leave a method, and their catching by the caller (launches without stack traces) ===== -/
section VXA
/-! The laws vx_back, vx_callV, vx_callS, vx_callSW, vx_throw0, vx_throwS follow proofs of the library, with one case more: JvmDerived/Free/Laws.lean (Back.of_free), Shelf42/LK1.lean (callV, callS), Shelf/KitTraced.lean (throwNew0V, throwNewS). -/
/-- where a method has thrown q: the class by its name, the cell, what was written, the world -/
def vx_T (XC : String → State → State → Prop) (st : State) (q : Addr) (t : State) (mc ms : Nat) (free : Addr → Prop) : Prop :=
  ∃ (E : String) (ce : Cell) (L : List Loc), XC E st t ∧ t.heap[q]? = some ce ∧ ce.vm = .none ∧ st.vm.findClass E = some ce.cls ∧ st.WarmedH t.vm ∧ st.sameButNew ({ t with vm := st.vm } : State) L mc ms ∧ ∀ z ∈ L, free z.base
def vx_Q (Qc : Array Value → State → Outcome → State → Prop) (XC : String → State → State → Prop) (mc ms : Nat) (free : Addr → Prop) : Array Value → State → Outcome → State → Prop := fun a st o t =>
  (Qc a st o t ∧ ∃ L, FrameEnd st o t L mc ms ∧ ∀ q ∈ L, free q.base) ∨ ∃ q, o = .threw q ∧ vx_T XC st q t mc ms free
/-- a callee that returns or throws -/
def vx_Met (l : Launch) (y : MethodName) (ws : List Cond) (rm : Room) (Pc : Array Value → State → Prop) (Qc : Array Value → State → Outcome → State → Prop) (XC : String → State → State → Prop) (mc ms : Nat) (free : Addr → Prop) : Prop :=
  MetFree l y (headSpec ws rm) Pc (fun _ _ _ _ _ => True) (vx_Q Qc XC mc ms free)
def vx_Post (XC : String → State → State → Prop) (mc ms : Nat) (free : Addr → Prop) : Pt → Array Value → Addr → Pt → Prop := fun A a q B =>
  ∃ (g : JFrame) (mk : MethodId) (t : State) (L : List Loc) (E : String) (ce : Cell), B.U.heap = t.heap ∧ B.U.vm = t.vm ∧ XC E (A.U.calling g mk a) t ∧ t.heap[q]? = some ce ∧ ce.vm = .none ∧ A.U.vm.findClass E = some ce.cls ∧ B.locs = A.locs ++ L ∧ (∀ z ∈ L, free z.base) ∧ B.cells = A.cells + mc ∧ B.slots = A.slots + ms
def vx_Back (l : Launch) (R : Room) (p : Program) (e : Env) (below : List Frame) (s : State) (sargs : Array Value) (y : MethodName) (len W9 : Nat)
    (Pre : Pt → Array Value → Prop) (Post : Pt → Array Value → Option Value → Pt → Prop) (PostX : Pt → Array Value → Addr → Pt → Prop) : Prop :=
  ∀ (m : MethodId) (meth : Method) (c : Code) (A : Pt) (g : JFrame) (ig : Instr) (mk : MethodId) (a : Array Value),
    Stand p l e R s m sargs below meth c A.U A.locs A.cells A.slots → g.method = m → g.locals.size = c.maxLocals → decode c.code g.pc = .ok (ig, len) →
    2 * g.monitorRoom + (g.stack.map fun v => v.category).sum ≤ W9 → A.U.methodNamed? y = some mk → Pre A a →
    (∃ (v : Option Value) (B : Pt), Stand p l e R s m sargs below meth c B.U B.locs B.cells B.slots ∧ Post A a v B ∧
      Steps p.tables e below (doInvoke e (A.U.setTop g) [] mk a).1 (B.U.setTop { g with pc := g.pc + len, stack := v.toList ++ g.stack })) ∨
    (∃ (q : Addr) (B : Pt), Stand p l e R s m sargs below meth c B.U B.locs B.cells B.slots ∧ PostX A a q B ∧
      Steps p.tables e below (doInvoke e (A.U.setTop g) [] mk a).1 ((B.U.setTop g).pushFrame (.throwing q)))
section Payer
variable {l : Launch} {R : Room} {p : Program} {e : Env} {below : List Frame} {s : State} {sargs : Array Value} {y : MethodName} {len W9 : Nat}
theorem vx_back {ws : List Cond} {rm : Room} {Pc : Array Value → State → Prop} {Qc : Array Value → State → Outcome → State → Prop} {XC : String → State → State → Prop} {mc ms : Nat} {free : Addr → Prop} {bytes : ByteArray} {maxL : Nat} {ret : Option FieldType}
    (hM : vx_Met l y ws rm Pc Qc XC mc ms free) (hblind : FrameBlind Pc) (hrc : rm.cells = mc) (hrs : rm.slots = ms)
    (hframes : rm.frames + 1 ≤ R.frames) (hlocals : W9 + (maxL + 11) + rm.locals ≤ R.locals)
    (hws : ∀ w ∈ ws, ∀ a' U, s.WarmedH U.vm → w.before a' U = true) (hcode : Cond.code y bytes maxL ret ∈ ws) (hinit : ∀ a' U, s.WarmedH U.vm → (Cond.initialized y.cls).before a' U = true) :
    vx_Back l R p e below s sargs y len W9 (PreOf R mc ms Pc) (PostOf Qc mc ms free) (vx_Post XC mc ms free) := by
  intro m meth c A g ig mk a X hg hsize hdg hW hn hp
  have h1 : (headSpec ws rm).pre.before a A.U = true := atoms_intro fun w hw => hws w hw _ _ X.warmed
  have h2 : (Cond.code y bytes maxL ret).before a A.U = true := hws _ hcode _ _ X.warmed
  have h3 : (Cond.initialized y.cls).before a A.U = true := hinit _ _ X.warmed
  have h4 : A.cells + (headSpec ws rm).room.cells ≤ R.cells := by rw [show (headSpec ws rm).room.cells = mc from hrc]; exact hp.1
  have h5 : A.slots + (headSpec ws rm).room.slots ≤ R.slots := by rw [show (headSpec ws rm).room.slots = ms from hrs]; exact hp.2.1
  have hPc : Pc a (A.U.calling g mk a) := hblind _ _ _ _ hp.2.2
  obtain ⟨U, Ls, c0, s0⟩ := A
  dsimp only [Pt.U, Pt.locs, Pt.cells, Pt.slots] at h1 h2 h3 h4 h5 X hn hPc ⊢
  obtain ⟨methY, cY, hmY, hcY, -, hlY, -, -, -, -⟩ := Cond.code_spec hn h2
  obtain ⟨kY, hkY, -⟩ := className_of_methodNamed hn
  have hinitY : kY.init = .initialized := Cond.initialized_spec (findClass_of_methodNamed hn) hkY h3
  have h : At U g.method c below := by rw [hg]; exact X.here
  have hlocals9 : W9 + (maxL + 11) + (headSpec ws rm).room.locals ≤ R.locals := hlocals
  have happ : (headSpec ws rm).appliesLoose y e.platform (U.calling g mk a) = true :=
    Spec.appliesLoose_calling (g := g) h hdg hn hkY hinitY
      (X.room_calling (g := g) (R' := (headSpec ws rm).room) hsize hmY hcY hframes (by rw [hlY]; omega) h4 h5) h1
  obtain ⟨mid, hmid⟩ := h.above
  have hfr : (U.setTop g).frames = (.java g :: mid) ++ below := by rw [State.frames_setTop' g h.top, hmid]; rfl
  obtain ⟨o, s₂, hsteps, -, hend, hq⟩ := Steps.callFree hM p X.admits X.cas X.clock (acts := []) hfr happ hPc trivial
  have hq' : vx_Q Qc XC mc ms free a (U.calling g mk a) o s₂ := hq
  rw [State.frames_setTop' g h.top] at hend
  obtain ⟨g₀, hg0⟩ := Option.isSome_iff_exists.mp h.top
  obtain ⟨r, hr⟩ := State.topJava?_eq_some.mp hg0
  have hr' : (({ U with heap := s₂.heap, slotsUsed := s₂.slotsUsed } : State).setVm s₂.vm).frames = .java g₀ :: r := hr
  rcases hq' with ⟨hqc, L, hfe, hL⟩ | ⟨q, rfl, E, ce, L, hx, hce, hcv, hcl, hW₂, hsm, hL⟩
  · obtain ⟨⟨v, rfl⟩, hW₂, e2, q2, q3, q4, q5, q6⟩ := id hfe
    have e3 : s₂ = ({ (U.calling g mk a).setFrames s₂.frames with heap := s₂.heap, slotsUsed := s₂.slotsUsed } : State).setVm s₂.vm := by
      have : s₂ = ({ s₂ with vm := (U.calling g mk a).vm } : State).setVm s₂.vm := rfl
      rw [e2] at this
      exact this
    obtain ⟨c₂, i₂, len₂, hc₂, hd₂, hf₂⟩ := hend
    have hW' : U.WarmedH s₂.vm := hW₂
    have hcc : c₂ = c := by
      have h1 : s₂.code? g.method = U.code? g.method := by
        rw [State.code?_eq, State.code?_eq, hW'.alike.method?]
      exact Option.some.inj (hc₂.symm.trans (h1.trans h.code))
    subst hcc
    have hlen : len₂ = len := by rw [hdg] at hd₂; cases hd₂; rfl
    subst hlen
    have hs₂ : s₂ = (({ U with heap := s₂.heap, slotsUsed := s₂.slotsUsed } : State).setVm s₂.vm).setTop { g with pc := g.pc + len₂, stack := v.toList ++ g.stack } := by
      refine e3.trans ?_
      rw [hf₂, State.calling_eq h.top, State.setFrames_setFrames, State.setTop_of_frames _ hr', hr]
      rfl
    have hsame : U.sameButNew ({ U with heap := s₂.heap, slotsUsed := s₂.slotsUsed } : State) L mc ms := by
      refine ⟨?_, q2, q3, q4, q5, q6⟩
      obtain ⟨t, ht, -⟩ := State.frames_cons hr
      show ({ U with heap := s₂.heap, slotsUsed := s₂.slotsUsed } : State) = { U.setFrames U.frames with heap := s₂.heap, slotsUsed := s₂.slotsUsed }
      rw [State.setFrames_self ht]
    subst hg
    refine Or.inl ⟨v, ⟨(({ U with heap := s₂.heap, slotsUsed := s₂.slotsUsed } : State).setVm s₂.vm), Ls ++ L, c0 + mc, s0 + ms⟩,
      ⟨X.admits, X.cas, X.clock, X.frames, X.room, X.hears, X.method, X.code, (X.here.setHeapUsed s₂.heap s₂.slotsUsed).setVm hW'.alike, X.tail, State.WarmedH.trans X.warmed hW', X.limits, X.bytes, X.same.trans (hsame.setVm s.vm)⟩,
      ⟨g, mk, s₂, L, rfl, rfl, hqc, rfl, hL, rfl, rfl⟩, ?_⟩
    show Steps p.tables e below _ ((({ U with heap := s₂.heap, slotsUsed := s₂.slotsUsed } : State).setVm s₂.vm).setTop { g with pc := g.pc + len₂, stack := v.toList ++ g.stack })
    rw [← hs₂]
    exact hsteps
  · obtain ⟨e2, q2, q3, q4, q5, q6⟩ := id hsm
    have e3 : s₂ = ({ (U.calling g mk a).setFrames s₂.frames with heap := s₂.heap, slotsUsed := s₂.slotsUsed } : State).setVm s₂.vm := by
      have : s₂ = ({ s₂ with vm := (U.calling g mk a).vm } : State).setVm s₂.vm := rfl
      rw [e2] at this
      exact this
    have hf₂ : s₂.frames = .throwing q :: .java g :: U.frames.tail := hend
    have hW' : U.WarmedH s₂.vm := hW₂
    have hs₂ : s₂ = ((({ U with heap := s₂.heap, slotsUsed := s₂.slotsUsed } : State).setVm s₂.vm).setTop g).pushFrame (.throwing q) := by
      refine e3.trans ?_
      rw [hf₂, State.calling_eq h.top, State.setFrames_setFrames, State.pushFrame, State.frames_setTop _ hr', State.setTop_of_frames _ hr', State.setFrames_setFrames, hr]
      rfl
    have hsame : U.sameButNew ({ U with heap := s₂.heap, slotsUsed := s₂.slotsUsed } : State) L mc ms := by
      refine ⟨?_, q2, q3, q4, q5, q6⟩
      obtain ⟨t, ht, -⟩ := State.frames_cons hr
      show ({ U with heap := s₂.heap, slotsUsed := s₂.slotsUsed } : State) = { U.setFrames U.frames with heap := s₂.heap, slotsUsed := s₂.slotsUsed }
      rw [State.setFrames_self ht]
    subst hg
    refine Or.inr ⟨q, ⟨(({ U with heap := s₂.heap, slotsUsed := s₂.slotsUsed } : State).setVm s₂.vm), Ls ++ L, c0 + mc, s0 + ms⟩,
      ⟨X.admits, X.cas, X.clock, X.frames, X.room, X.hears, X.method, X.code, (X.here.setHeapUsed s₂.heap s₂.slotsUsed).setVm hW'.alike, X.tail, State.WarmedH.trans X.warmed hW', X.limits, X.bytes, X.same.trans (hsame.setVm s.vm)⟩,
      ⟨g, mk, s₂, L, E, ce, rfl, rfl, hx, hce, hcv, hcl, rfl, hL, rfl, rfl⟩, ?_⟩
    show Steps p.tables e below _ (((({ U with heap := s₂.heap, slotsUsed := s₂.slotsUsed } : State).setVm s₂.vm).setTop g).pushFrame (.throwing q))
    rw [← hs₂]
    exact hsteps
end Payer
section Calls
variable {p : Program} {l : Launch} {e : Env} {R : Room} {s : State} {m : MethodId} {args : Array Value} {below : List Frame} {meth : Method} {c : Code} {T : State} {locs : List Loc} {cells slots : Nat}
theorem vx_callV (X : Stand p l e R s m args below meth c T locs cells slots) (hexec : p.tables.exec = Jvm.exec) {own C : String} {index : Nat} {y : MethodName} {bytes : ByteArray} {maxL : Nat} {ret : Option FieldType}
    (hown : s.vm.findClass own = some m.cls) (hlink : (Cond.methodLink own index y).before args s = true) (hinst : (Cond.instanceMethod y).before args s = true) (hsel : (Cond.selects C y y).before args s = true)
    (hcode : (Cond.code y bytes maxL ret).before args s = true) (hy : y.cls ≠ "java/lang/invoke/MethodHandle" ∧ y.cls ≠ "java/lang/invoke/VarHandle")
    {W9 : Nat} {Pre : Pt → Array Value → Prop} {Post : Pt → Array Value → Option Value → Pt → Prop} {PostX : Pt → Array Value → Addr → Pt → Prop} (hK : vx_Back l R p e below s args y 3 W9 Pre Post PostX)
    {b : Addr} {cellB : Cell} (hcell : T.heap[b]? = some cellB) (hobj : cellB.vm.isStatics = false) (hcls : s.vm.findClass C = some cellB.cls)
    {g : JFrame} (hg : g.method = m) (hsize : g.locals.size = c.maxLocals) {argsL rest : List Value} (hlen : ∀ sig, parseMethodDescriptor y.desc = some sig → argsL.length = sig.parameters.length)
    (hstack : g.stack = argsL.reverse ++ .ref b :: rest) (hW : 2 * g.monitorRoom + (rest.map fun v => v.category).sum ≤ W9) (hdg : decode c.code g.pc = .ok (.invokevirtual index, 3))
    (hpre : ∀ vm₁, s.WarmedH vm₁ → Pre ⟨T.setVm vm₁, locs, cells, slots⟩ (Value.ref b :: argsL).toArray) :
    (∃ (v : Option Value) (vm₁ : Vm) (B : Pt), s.WarmedH vm₁ ∧ Stand p l e R s m args below meth c B.U B.locs B.cells B.slots ∧ Post ⟨T.setVm vm₁, locs, cells, slots⟩ (Value.ref b :: argsL).toArray v B ∧
      ∀ target, Steps p.tables e below (B.U.setTop { g with pc := g.pc + 3, stack := v.toList ++ rest }) target → Steps p.tables e below (T.setTop g) target) ∨
    (∃ (q : Addr) (vm₁ : Vm) (B : Pt), s.WarmedH vm₁ ∧ Stand p l e R s m args below meth c B.U B.locs B.cells B.slots ∧ PostX ⟨T.setVm vm₁, locs, cells, slots⟩ (Value.ref b :: argsL).toArray q B ∧
      Steps p.tables e below (T.setTop g) ((B.U.setTop { g with stack := rest }).pushFrame (.throwing q))) := by
  obtain ⟨mk, methM, hnamed, hmethM, hstM, habM⟩ := Cond.instanceMethod_spec hinst
  obtain ⟨methM', cM, hmethM', -, -, -, -, -, -, hsigM⟩ := Cond.code_spec hnamed hcode
  cases hmethM.symm.trans hmethM'
  obtain ⟨c2, r2, m2, q1, q2, q3, q4, kP, hkP, hkPi⟩ := Cond.selects_spec hsel
  cases hcls.symm.trans q1
  cases (State.methodFound?_of_named hnamed hy).symm.trans q2
  cases hnamed.symm.trans q3
  have hselP : selectMethod e.platform s.vm cellB.cls mk = .method mk := by rw [Launch.admits_selectMethod X.admits]; exact q4
  obtain ⟨vm₁, X₁, hstep₁⟩ := X.invokevirtual hexec hown hlink hnamed hmethM hstM hkP hkPi hy (a := b) (cell := cellB) hcell
    (fun z h => by rw [h] at hobj; cases hobj) hselP hmethM habM hkP hkPi (g := g) hg (argsL := argsL) (rest := rest) (hlen _ hsigM) hstack hdg
  rcases hK m meth c ⟨T.setVm vm₁, locs, cells, slots⟩ { g with stack := rest } (.invokevirtual index) mk (Value.ref b :: argsL).toArray X₁ hg hsize hdg hW (X₁.named hnamed) (hpre vm₁ X₁.warmed) with ⟨v, B, X', hpost, hsteps⟩ | ⟨q, B, X', hpost, hsteps⟩
  · exact Or.inl ⟨v, vm₁, B, X₁.warmed, X', hpost, fun target h => hstep₁ _ fun acts => by rw [doInvoke_state]; exact hsteps.trans h⟩
  · exact Or.inr ⟨q, vm₁, B, X₁.warmed, X', hpost, hstep₁ _ fun acts => by rw [doInvoke_state]; exact hsteps⟩
theorem vx_callS (X : Stand p l e R s m args below meth c T locs cells slots) (hexec : p.tables.exec = Jvm.exec) {own : String} {index : Nat} {y : MethodName} {bytes : ByteArray} {maxL : Nat} {ret : Option FieldType}
    (hown : s.vm.findClass own = some m.cls) (hlink : (Cond.methodLink own index y).before args s = true) (hstat : (Cond.static y).before args s = true) (hinit : (Cond.initialized y.cls).before args s = true)
    (hcode : (Cond.code y bytes maxL ret).before args s = true) (hy : y.cls ≠ "java/lang/invoke/MethodHandle" ∧ y.cls ≠ "java/lang/invoke/VarHandle")
    {W9 : Nat} {Pre : Pt → Array Value → Prop} {Post : Pt → Array Value → Option Value → Pt → Prop} {PostX : Pt → Array Value → Addr → Pt → Prop} (hK : vx_Back l R p e below s args y 3 W9 Pre Post PostX)
    {g : JFrame} (hg : g.method = m) (hsize : g.locals.size = c.maxLocals) {argsL rest : List Value} (hlen : ∀ sig, parseMethodDescriptor y.desc = some sig → argsL.length = sig.parameters.length)
    (hstack : g.stack = argsL.reverse ++ rest) (hW : 2 * g.monitorRoom + (rest.map fun v => v.category).sum ≤ W9) (hdg : decode c.code g.pc = .ok (.invokestatic index, 3))
    (hpre : ∀ vm₁, s.WarmedH vm₁ → Pre ⟨T.setVm vm₁, locs, cells, slots⟩ argsL.toArray) :
    (∃ (v : Option Value) (vm₁ : Vm) (B : Pt), s.WarmedH vm₁ ∧ Stand p l e R s m args below meth c B.U B.locs B.cells B.slots ∧ Post ⟨T.setVm vm₁, locs, cells, slots⟩ argsL.toArray v B ∧
      ∀ target, Steps p.tables e below (B.U.setTop { g with pc := g.pc + 3, stack := v.toList ++ rest }) target → Steps p.tables e below (T.setTop g) target) ∨
    (∃ (q : Addr) (vm₁ : Vm) (B : Pt), s.WarmedH vm₁ ∧ Stand p l e R s m args below meth c B.U B.locs B.cells B.slots ∧ PostX ⟨T.setVm vm₁, locs, cells, slots⟩ argsL.toArray q B ∧
      Steps p.tables e below (T.setTop g) ((B.U.setTop { g with stack := rest }).pushFrame (.throwing q))) := by
  obtain ⟨mk, hnamed⟩ := Cond.code_named hcode
  obtain ⟨methM, cM, hmethM, -, -, -, -, -, -, hsigM⟩ := Cond.code_spec hnamed hcode
  have hstatic : methM.isStatic = true := Cond.static_spec hnamed hmethM hstat
  obtain ⟨kP, hkP, -⟩ := className_of_methodNamed hnamed
  have hinitP : kP.init = .initialized := Cond.initialized_spec (findClass_of_methodNamed hnamed) hkP hinit
  obtain ⟨vm₁, X₁, hstep₁⟩ := X.invokestatic hexec hown hlink hnamed hmethM hstatic hkP hinitP hy (g := g) hg (argsL := argsL) (rest := rest) (hlen _ hsigM) hstack hdg
  rcases hK m meth c ⟨T.setVm vm₁, locs, cells, slots⟩ { g with stack := rest } (.invokestatic index) mk argsL.toArray X₁ hg hsize hdg hW (X₁.named hnamed) (hpre vm₁ X₁.warmed) with ⟨v, B, X', hpost, hsteps⟩ | ⟨q, B, X', hpost, hsteps⟩
  · exact Or.inl ⟨v, vm₁, B, X₁.warmed, X', hpost, fun target h => hstep₁ _ fun acts => by rw [doInvoke_state]; exact hsteps.trans h⟩
  · exact Or.inr ⟨q, vm₁, B, X₁.warmed, X', hpost, hstep₁ _ fun acts => by rw [doInvoke_state]; exact hsteps⟩
end Calls
theorem vx_cls {s : State} {T : State} {vm₁ : Vm} {E : String} {k : ClassId} (hW : s.WarmedH vm₁) (h : (T.setVm vm₁).vm.findClass E = some k) : s.vm.findClass E = some k := by
  have h1 : vm₁.findClass E = some k := h
  rw [hW.alike.findClass] at h1
  exact h1
/-- the method's frame g, with q thrown over it -/
def vx_W (p : Program) (l : Launch) (e : Env) (R : Room) (s : State) (m : MethodId) (args : Array Value) (below : List Frame) (meth : Method) (c : Code) (H : Heap) (locs : List Loc) (cells slots : Nat) (Q : State → Prop) (g : JFrame) (q : Addr) : Prop :=
  ∀ T : State, T.heap = H → Stand p l e R s m args below meth c T locs cells slots → ∃ t, Steps p.tables e below ((T.setTop g).pushFrame (.throwing q)) t ∧ Q t
def vx_Run (p : Program) (l : Launch) (e : Env) (R : Room) (s : State) (m : MethodId) (args : Array Value) (below : List Frame) (meth : Method) (c : Code) (H : Heap) (locs : List Loc) (cells slots mc ms : Nat) (g : JFrame) (rest : List Value) (Qa : State → Outcome → State → Prop) (XC : String → State → State → Prop) (free : Addr → Prop) : Prop :=
  ∀ T : State, T.heap = H → Stand p l e R s m args below meth c T locs cells slots →
    (∃ (v : Option Value) (st₀ t T' : State) (L : List Loc), st₀.heap = H ∧ Stand p l e R s m args below meth c T' (locs ++ L) (cells + mc) (slots + ms) ∧ (∀ q ∈ L, free q.base) ∧ T'.heap = t.heap ∧ T'.vm = t.vm ∧ Qa st₀ (.returned v) t ∧
      Goes p e below T g T' { g with pc := g.pc + 3, stack := v.toList ++ rest }) ∨
    (∃ (q : Addr) (st₀ t T' : State) (L : List Loc) (E : String) (ce : Cell), st₀.heap = H ∧ Stand p l e R s m args below meth c T' (locs ++ L) (cells + mc) (slots + ms) ∧ (∀ z ∈ L, free z.base) ∧ T'.heap = t.heap ∧ T'.vm = t.vm ∧ XC E st₀ t ∧ t.heap[q]? = some ce ∧ ce.vm = .none ∧ s.vm.findClass E = some ce.cls ∧
      Steps p.tables e below (T.setTop g) ((T'.setTop { g with stack := rest }).pushFrame (.throwing q)))
def vx_X {S : Type} (px : S → Prop) (B : String → S → State → Prop) (A : Nat → Prop) : String → State → State → Prop := fun E st t => ∃ u : S, px u ∧ B E u t ∧ va_F A st t
section Runs
variable {p : Program} {l : Launch} {e : Env} {R : Room} {s : State} {m : MethodId} {args : Array Value} {below : List Frame} {meth : Method} {c : Code} {H : Heap} {locs : List Loc} {cells slots : Nat}
variable {y : MethodName} {bytes cc : ByteArray} {maxL nL mc ms n index : Nat} {ret : Option FieldType} {ws : List Cond} {rm : Room} {Pc : Array Value → State → Prop} {Qc : Array Value → State → Outcome → State → Prop} {XC : String → State → State → Prop} {free : Addr → Prop} {Ts : List Cond} {own C : String} {b : Addr} {As rest : List Value} {g : JFrame}
theorem vx_callBack (cb : CallB R s args own index y bytes maxL ret ws rm mc ms n) (hM : vx_Met l y ws rm Pc Qc XC mc ms free) (hbl : FrameBlind Pc) : vx_Back l R p e below s args y 3 8 (PreOf R mc ms Pc) (PostOf Qc mc ms free) (vx_Post XC mc ms free) := by
  obtain ⟨hrc, hrs, hfr, hlo, hws, hcw, -, hini, -⟩ := cb
  exact vx_back (bytes := bytes) (maxL := maxL) (ret := ret) hM hbl hrc hrs hfr hlo hws hcw (fun a' U hW => word_at hW (Or.inl (by first | rfl | simp [Cond.onTables, Cond.keeps, Cond.steady])) hini)
theorem vx_runV (S : CallFix p m c cc nL s args Ts own) (hM : vx_Met l y ws rm Pc Qc XC mc ms free) (cw : CallW R s args own C index y bytes maxL ret ws rm mc ms n) (hp : PreV s H C b Pc As)
    (hg : g.method = m) (hn : As.length = n) (hsize : g.locals.size = nL) (hstack : g.stack = As.reverse ++ .ref b :: rest) (hW : 2 * g.monitorRoom + (rest.map fun v => v.category).sum ≤ 8) (hdg : decode cc g.pc = .ok (.invokevirtual index, 3)) (hf : cells + mc ≤ R.cells ∧ slots + ms ≤ R.slots) :
    vx_Run p l e R s m args below meth c H locs cells slots mc ms g rest (Qc (Value.ref b :: As).toArray) XC free := by
  have hK : vx_Back l R p e below s args y 3 8 (PreOf R mc ms Pc) (PostOf Qc mc ms free) (vx_Post XC mc ms free) := vx_callBack cw.1 hM hp.1
  obtain ⟨⟨-, -, -, -, -, -, hcode, -, hy, hlen, hl⟩, hin, hse⟩ := cw
  obtain ⟨hx, hb, hml, ho, -⟩ := S
  obtain ⟨-, ⟨cellB, hcB, hoB, hclB⟩, hPc⟩ := hp
  intro T hT X
  rcases vx_callV X hx (C := C) (bytes := bytes) (maxL := maxL) (ret := ret) ho hl hin hse hcode hy hK (by rw [hT]; exact hcB) hoB hclB hg (hsize.trans hml.symm) (argsL := As) (rest := rest) (fun sig h => hn.trans (hlen sig h)) hstack hW (by rw [hb]; exact hdg)
    (fun vm₁ hW₁ => ⟨hf.1, hf.2, hPc (T.setVm vm₁) hT hW₁⟩) with ⟨v, vm₁, ⟨U', l2, c2, s2⟩, hW₁, X', ⟨g', mk, t, L, e1, e2, hq, h1, hL, h2, h3⟩, st⟩ | ⟨q, vm₁, ⟨U', l2, c2, s2⟩, hW₁, X', ⟨g', mk, t, L, E, ce, e1, e2, hq, hce, hcv, hcl, h1, hL, h2, h3⟩, st⟩
  · dsimp only [Pt.U, Pt.locs, Pt.cells, Pt.slots] at X' e1 e2 h1 h2 h3 st
    subst h1; subst h2; subst h3
    exact Or.inl ⟨v, (T.setVm vm₁).calling g' mk (Value.ref b :: As).toArray, t, U', L, hT, X', hL, e1, e2, hq, st⟩
  · dsimp only [Pt.U, Pt.locs, Pt.cells, Pt.slots] at X' e1 e2 h1 h2 h3 st hcl
    subst h1; subst h2; subst h3
    exact Or.inr ⟨q, (T.setVm vm₁).calling g' mk (Value.ref b :: As).toArray, t, U', L, E, ce, hT, X', hL, e1, e2, hq, hce, hcv, vx_cls hW₁ hcl, st⟩
theorem vx_runS (S : CallFix p m c cc nL s args Ts own) (hM : vx_Met l y ws rm Pc Qc XC mc ms free) (cw : CallB R s args own index y bytes maxL ret ws rm mc ms n ∧ (Cond.static y).before args s = true) (hp : PreS s H Pc As)
    (hg : g.method = m) (hn : As.length = n) (hsize : g.locals.size = nL) (hstack : g.stack = As.reverse ++ rest) (hW : 2 * g.monitorRoom + (rest.map fun v => v.category).sum ≤ 8) (hdg : decode cc g.pc = .ok (.invokestatic index, 3)) (hf : cells + mc ≤ R.cells ∧ slots + ms ≤ R.slots) :
    vx_Run p l e R s m args below meth c H locs cells slots mc ms g rest (Qc As.toArray) XC free := by
  have hK : vx_Back l R p e below s args y 3 8 (PreOf R mc ms Pc) (PostOf Qc mc ms free) (vx_Post XC mc ms free) := vx_callBack cw.1 hM hp.1
  obtain ⟨⟨-, -, -, -, -, -, hcode, hini, hy, hlen, hl⟩, hstt⟩ := cw
  obtain ⟨hx, hb, hml, ho, -⟩ := S
  intro T hT X
  rcases vx_callS X hx (bytes := bytes) (maxL := maxL) (ret := ret) ho hl hstt hini hcode hy hK hg (hsize.trans hml.symm) (argsL := As) (rest := rest) (fun sig h => hn.trans (hlen sig h)) hstack hW (by rw [hb]; exact hdg)
    (fun vm₁ hW₁ => ⟨hf.1, hf.2, hp.2 (T.setVm vm₁) hT hW₁⟩) with ⟨v, vm₁, ⟨U', l2, c2, s2⟩, hW₁, X', ⟨g', mk, t, L, e1, e2, hq, h1, hL, h2, h3⟩, st⟩ | ⟨q, vm₁, ⟨U', l2, c2, s2⟩, hW₁, X', ⟨g', mk, t, L, E, ce, e1, e2, hq, hce, hcv, hcl, h1, hL, h2, h3⟩, st⟩
  · dsimp only [Pt.U, Pt.locs, Pt.cells, Pt.slots] at X' e1 e2 h1 h2 h3 st
    subst h1; subst h2; subst h3
    exact Or.inl ⟨v, (T.setVm vm₁).calling g' mk As.toArray, t, U', L, hT, X', hL, e1, e2, hq, st⟩
  · dsimp only [Pt.U, Pt.locs, Pt.cells, Pt.slots] at X' e1 e2 h1 h2 h3 st hcl
    subst h1; subst h2; subst h3
    exact Or.inr ⟨q, (T.setVm vm₁).calling g' mk As.toArray, t, U', L, E, ce, hT, X', hL, e1, e2, hq, hce, hcv, vx_cls hW₁ hcl, st⟩
end Runs
section Rows
variable {p : Program} {l : Launch} {e : Env} {R : Room} {s : State} {m : MethodId} {args : Array Value} {below : List Frame} {meth : Method} {c : Code} {H : Heap} {locs : List Loc} {cells slots : Nat} {Q : State → Prop}
variable {mc ms : Nat} {free : Addr → Prop} {A0 A1 : Nat → Prop} {H0 : Heap} {a : Array Value} {pc : Nat} {ls : Array Slot} {st0 rest : List Value}
theorem vx_keep {st₀ t T' : State} {L : List Loc} (h0 : st₀.heap = H) (e1 : T'.heap = t.heap) (hS : va_S A0 H0 H locs) (hA : ∀ q, q < H.size → A1 q → A0 q) (hf : ∀ q, free q → A0 q) (hL : ∀ q ∈ L, free q.base) (hF : va_F A1 st₀ t) :
    H.size ≤ T'.heap.size ∧ (∀ q : Nat, q < H.size → ¬ A1 q → T'.heap[q]? = H[q]?) ∧ va_S A0 H0 T'.heap (locs ++ L) := by
  obtain ⟨hz, hk⟩ := hF
  rw [h0] at hz hk
  exact ⟨by rw [e1]; exact hz, fun q h1 h2 => by rw [e1]; exact hk q h1 h2,
    ⟨Nat.le_trans hS.1 (by rw [e1]; exact hz), fun q h1 h2 => by rw [e1, hk q (Nat.lt_of_lt_of_le h1 hS.1) (fun z => h2 (hA q (Nat.lt_of_lt_of_le h1 hS.1) z))]; exact hS.2.1 q h1 h2, fun q hq => by
      rcases List.mem_append.mp hq with h | h
      · exact hS.2.2 q h
      · exact hf _ (hL q h)⟩⟩
theorem vx_calli {S SX : Type} {post : Int32 → S → Prop} {px : SX → Prop} {B : S → State → Prop} {BX : String → SX → State → Prop} {AX : Nat → Prop} (hr : vx_Run p l e R s m args below meth c H locs cells slots mc ms (F0 m pc ls st0) rest (va_Qi post B A1 a) (vx_X px BX AX) free) (hS : va_S A0 H0 H locs) (hA : ∀ q, q < H.size → A1 q → A0 q) (hf : ∀ q, free q → A0 q) (hAX : ∀ q, q < H.size → AX q → A0 q)
    (kx : ∀ (E : String) (ce : Cell) (q9 : Addr) (u : SX) (t : State) (H1 : Heap) (locs1 : List Loc), t.heap = H1 → s.vm.Alike t.vm → px u → BX E u t → H.size ≤ H1.size → (∀ q : Nat, q < H.size → ¬ AX q → H1[q]? = H[q]?) → va_S A0 H0 H1 locs1 → H1[q9]? = some ce → ce.vm = .none → s.vm.findClass E = some ce.cls → vx_W p l e R s m args below meth c H1 locs1 (cells + mc) (slots + ms) Q (F0 m pc ls rest) q9)
    (kk : ∀ (r : Int32) (u : S) (t : State) (H1 : Heap) (locs1 : List Loc), t.heap = H1 → s.vm.Alike t.vm → post r u → B u t → H.size ≤ H1.size → (∀ q : Nat, q < H.size → ¬ A1 q → H1[q]? = H[q]?) → va_S A0 H0 H1 locs1 → W p l e R s m args below meth c H1 locs1 (cells + mc) (slots + ms) Q (F0 m (pc + 3) ls (.int r :: rest))) : W p l e R s m args below meth c H locs cells slots Q (F0 m pc ls st0) := by
  intro T hT X
  rcases hr T hT X with ⟨v, st₀, t, T', L, h0, X', hL, e1, e2, ⟨⟨r, u, hv, hp, hb⟩, hF⟩, st⟩ | ⟨q, st₀, t, T', L, E, ce, h0, X', hL, e1, e2, ⟨u, hp, hb, hF⟩, hce, hcv, hcl, st⟩
  · cases hv
    obtain ⟨k1, k2, k3⟩ := vx_keep h0 e1 hS hA hf hL hF
    obtain ⟨t2, a1, b1⟩ := kk r u t T'.heap (locs ++ L) e1.symm (by rw [← e2]; exact X'.warmed.alike) hp hb k1 k2 k3 T' rfl X'
    exact ⟨t2, st t2 a1, b1⟩
  · obtain ⟨k1, k2, k3⟩ := vx_keep h0 e1 hS hAX hf hL hF
    obtain ⟨t2, a1, b1⟩ := kx E ce q u t T'.heap (locs ++ L) e1.symm (by rw [← e2]; exact X'.warmed.alike) hp hb k1 k2 k3 (by rw [e1]; exact hce) hcv hcl T' rfl X'
    exact ⟨t2, st.trans a1, b1⟩
theorem vx_calll {S SX : Type} {post : Int64 → S → Prop} {px : SX → Prop} {B : S → State → Prop} {BX : String → SX → State → Prop} {AX : Nat → Prop} (hr : vx_Run p l e R s m args below meth c H locs cells slots mc ms (F0 m pc ls st0) rest (va_Ql post B A1 a) (vx_X px BX AX) free) (hS : va_S A0 H0 H locs) (hA : ∀ q, q < H.size → A1 q → A0 q) (hf : ∀ q, free q → A0 q) (hAX : ∀ q, q < H.size → AX q → A0 q)
    (kx : ∀ (E : String) (ce : Cell) (q9 : Addr) (u : SX) (t : State) (H1 : Heap) (locs1 : List Loc), t.heap = H1 → s.vm.Alike t.vm → px u → BX E u t → H.size ≤ H1.size → (∀ q : Nat, q < H.size → ¬ AX q → H1[q]? = H[q]?) → va_S A0 H0 H1 locs1 → H1[q9]? = some ce → ce.vm = .none → s.vm.findClass E = some ce.cls → vx_W p l e R s m args below meth c H1 locs1 (cells + mc) (slots + ms) Q (F0 m pc ls rest) q9)
    (kk : ∀ (r : Int64) (u : S) (t : State) (H1 : Heap) (locs1 : List Loc), t.heap = H1 → s.vm.Alike t.vm → post r u → B u t → H.size ≤ H1.size → (∀ q : Nat, q < H.size → ¬ A1 q → H1[q]? = H[q]?) → va_S A0 H0 H1 locs1 → W p l e R s m args below meth c H1 locs1 (cells + mc) (slots + ms) Q (F0 m (pc + 3) ls (.long r :: rest))) : W p l e R s m args below meth c H locs cells slots Q (F0 m pc ls st0) := by
  intro T hT X
  rcases hr T hT X with ⟨v, st₀, t, T', L, h0, X', hL, e1, e2, ⟨⟨r, u, hv, hp, hb⟩, hF⟩, st⟩ | ⟨q, st₀, t, T', L, E, ce, h0, X', hL, e1, e2, ⟨u, hp, hb, hF⟩, hce, hcv, hcl, st⟩
  · cases hv
    obtain ⟨k1, k2, k3⟩ := vx_keep h0 e1 hS hA hf hL hF
    obtain ⟨t2, a1, b1⟩ := kk r u t T'.heap (locs ++ L) e1.symm (by rw [← e2]; exact X'.warmed.alike) hp hb k1 k2 k3 T' rfl X'
    exact ⟨t2, st t2 a1, b1⟩
  · obtain ⟨k1, k2, k3⟩ := vx_keep h0 e1 hS hAX hf hL hF
    obtain ⟨t2, a1, b1⟩ := kx E ce q u t T'.heap (locs ++ L) e1.symm (by rw [← e2]; exact X'.warmed.alike) hp hb k1 k2 k3 (by rw [e1]; exact hce) hcv hcl T' rfl X'
    exact ⟨t2, st.trans a1, b1⟩
theorem vx_callf {S SX : Type} {post : UInt32 → S → Prop} {px : SX → Prop} {B : S → State → Prop} {BX : String → SX → State → Prop} {AX : Nat → Prop} (hr : vx_Run p l e R s m args below meth c H locs cells slots mc ms (F0 m pc ls st0) rest (va_Qf post B A1 a) (vx_X px BX AX) free) (hS : va_S A0 H0 H locs) (hA : ∀ q, q < H.size → A1 q → A0 q) (hf : ∀ q, free q → A0 q) (hAX : ∀ q, q < H.size → AX q → A0 q)
    (kx : ∀ (E : String) (ce : Cell) (q9 : Addr) (u : SX) (t : State) (H1 : Heap) (locs1 : List Loc), t.heap = H1 → s.vm.Alike t.vm → px u → BX E u t → H.size ≤ H1.size → (∀ q : Nat, q < H.size → ¬ AX q → H1[q]? = H[q]?) → va_S A0 H0 H1 locs1 → H1[q9]? = some ce → ce.vm = .none → s.vm.findClass E = some ce.cls → vx_W p l e R s m args below meth c H1 locs1 (cells + mc) (slots + ms) Q (F0 m pc ls rest) q9)
    (kk : ∀ (r : UInt32) (u : S) (t : State) (H1 : Heap) (locs1 : List Loc), t.heap = H1 → s.vm.Alike t.vm → post r u → B u t → H.size ≤ H1.size → (∀ q : Nat, q < H.size → ¬ A1 q → H1[q]? = H[q]?) → va_S A0 H0 H1 locs1 → W p l e R s m args below meth c H1 locs1 (cells + mc) (slots + ms) Q (F0 m (pc + 3) ls (.float r :: rest))) : W p l e R s m args below meth c H locs cells slots Q (F0 m pc ls st0) := by
  intro T hT X
  rcases hr T hT X with ⟨v, st₀, t, T', L, h0, X', hL, e1, e2, ⟨⟨r, u, hv, hp, hb⟩, hF⟩, st⟩ | ⟨q, st₀, t, T', L, E, ce, h0, X', hL, e1, e2, ⟨u, hp, hb, hF⟩, hce, hcv, hcl, st⟩
  · cases hv
    obtain ⟨k1, k2, k3⟩ := vx_keep h0 e1 hS hA hf hL hF
    obtain ⟨t2, a1, b1⟩ := kk r u t T'.heap (locs ++ L) e1.symm (by rw [← e2]; exact X'.warmed.alike) hp hb k1 k2 k3 T' rfl X'
    exact ⟨t2, st t2 a1, b1⟩
  · obtain ⟨k1, k2, k3⟩ := vx_keep h0 e1 hS hAX hf hL hF
    obtain ⟨t2, a1, b1⟩ := kx E ce q u t T'.heap (locs ++ L) e1.symm (by rw [← e2]; exact X'.warmed.alike) hp hb k1 k2 k3 (by rw [e1]; exact hce) hcv hcl T' rfl X'
    exact ⟨t2, st.trans a1, b1⟩
theorem vx_calld {S SX : Type} {post : UInt64 → S → Prop} {px : SX → Prop} {B : S → State → Prop} {BX : String → SX → State → Prop} {AX : Nat → Prop} (hr : vx_Run p l e R s m args below meth c H locs cells slots mc ms (F0 m pc ls st0) rest (va_Qd post B A1 a) (vx_X px BX AX) free) (hS : va_S A0 H0 H locs) (hA : ∀ q, q < H.size → A1 q → A0 q) (hf : ∀ q, free q → A0 q) (hAX : ∀ q, q < H.size → AX q → A0 q)
    (kx : ∀ (E : String) (ce : Cell) (q9 : Addr) (u : SX) (t : State) (H1 : Heap) (locs1 : List Loc), t.heap = H1 → s.vm.Alike t.vm → px u → BX E u t → H.size ≤ H1.size → (∀ q : Nat, q < H.size → ¬ AX q → H1[q]? = H[q]?) → va_S A0 H0 H1 locs1 → H1[q9]? = some ce → ce.vm = .none → s.vm.findClass E = some ce.cls → vx_W p l e R s m args below meth c H1 locs1 (cells + mc) (slots + ms) Q (F0 m pc ls rest) q9)
    (kk : ∀ (r : UInt64) (u : S) (t : State) (H1 : Heap) (locs1 : List Loc), t.heap = H1 → s.vm.Alike t.vm → post r u → B u t → H.size ≤ H1.size → (∀ q : Nat, q < H.size → ¬ A1 q → H1[q]? = H[q]?) → va_S A0 H0 H1 locs1 → W p l e R s m args below meth c H1 locs1 (cells + mc) (slots + ms) Q (F0 m (pc + 3) ls (.double r :: rest))) : W p l e R s m args below meth c H locs cells slots Q (F0 m pc ls st0) := by
  intro T hT X
  rcases hr T hT X with ⟨v, st₀, t, T', L, h0, X', hL, e1, e2, ⟨⟨r, u, hv, hp, hb⟩, hF⟩, st⟩ | ⟨q, st₀, t, T', L, E, ce, h0, X', hL, e1, e2, ⟨u, hp, hb, hF⟩, hce, hcv, hcl, st⟩
  · cases hv
    obtain ⟨k1, k2, k3⟩ := vx_keep h0 e1 hS hA hf hL hF
    obtain ⟨t2, a1, b1⟩ := kk r u t T'.heap (locs ++ L) e1.symm (by rw [← e2]; exact X'.warmed.alike) hp hb k1 k2 k3 T' rfl X'
    exact ⟨t2, st t2 a1, b1⟩
  · obtain ⟨k1, k2, k3⟩ := vx_keep h0 e1 hS hAX hf hL hF
    obtain ⟨t2, a1, b1⟩ := kx E ce q u t T'.heap (locs ++ L) e1.symm (by rw [← e2]; exact X'.warmed.alike) hp hb k1 k2 k3 (by rw [e1]; exact hce) hcv hcl T' rfl X'
    exact ⟨t2, st.trans a1, b1⟩
theorem vx_callv {S SX : Type} {post : S → Prop} {px : SX → Prop} {B : S → State → Prop} {BX : String → SX → State → Prop} {AX : Nat → Prop} (hr : vx_Run p l e R s m args below meth c H locs cells slots mc ms (F0 m pc ls st0) rest (va_Qv post B A1 a) (vx_X px BX AX) free) (hS : va_S A0 H0 H locs) (hA : ∀ q, q < H.size → A1 q → A0 q) (hf : ∀ q, free q → A0 q) (hAX : ∀ q, q < H.size → AX q → A0 q)
    (kx : ∀ (E : String) (ce : Cell) (q9 : Addr) (u : SX) (t : State) (H1 : Heap) (locs1 : List Loc), t.heap = H1 → s.vm.Alike t.vm → px u → BX E u t → H.size ≤ H1.size → (∀ q : Nat, q < H.size → ¬ AX q → H1[q]? = H[q]?) → va_S A0 H0 H1 locs1 → H1[q9]? = some ce → ce.vm = .none → s.vm.findClass E = some ce.cls → vx_W p l e R s m args below meth c H1 locs1 (cells + mc) (slots + ms) Q (F0 m pc ls rest) q9)
    (kk : ∀ (u : S) (t : State) (H1 : Heap) (locs1 : List Loc), t.heap = H1 → s.vm.Alike t.vm → post u → B u t → H.size ≤ H1.size → (∀ q : Nat, q < H.size → ¬ A1 q → H1[q]? = H[q]?) → va_S A0 H0 H1 locs1 → W p l e R s m args below meth c H1 locs1 (cells + mc) (slots + ms) Q (F0 m (pc + 3) ls (rest))) : W p l e R s m args below meth c H locs cells slots Q (F0 m pc ls st0) := by
  intro T hT X
  rcases hr T hT X with ⟨v, st₀, t, T', L, h0, X', hL, e1, e2, ⟨⟨u, hv, hp, hb⟩, hF⟩, st⟩ | ⟨q, st₀, t, T', L, E, ce, h0, X', hL, e1, e2, ⟨u, hp, hb, hF⟩, hce, hcv, hcl, st⟩
  · cases hv
    obtain ⟨k1, k2, k3⟩ := vx_keep h0 e1 hS hA hf hL hF
    obtain ⟨t2, a1, b1⟩ := kk u t T'.heap (locs ++ L) e1.symm (by rw [← e2]; exact X'.warmed.alike) hp hb k1 k2 k3 T' rfl X'
    exact ⟨t2, st t2 a1, b1⟩
  · obtain ⟨k1, k2, k3⟩ := vx_keep h0 e1 hS hAX hf hL hF
    obtain ⟨t2, a1, b1⟩ := kx E ce q u t T'.heap (locs ++ L) e1.symm (by rw [← e2]; exact X'.warmed.alike) hp hb k1 k2 k3 (by rw [e1]; exact hce) hcv hcl T' rfl X'
    exact ⟨t2, st.trans a1, b1⟩
/-- caught by the row x of this method's table; the rows ahead don't take it -/
theorem vx_catch {own name : String} {E : String} {ce : Cell} {q : Addr} (hown : s.vm.findClass own = some m.cls) (pre : List ExceptionTableEntry) (x : ExceptionTableEntry) (suf : List ExceptionTableEntry) (hsplit : c.exceptionTable.toList = pre ++ x :: suf)
    (hpass : ∀ z ∈ pre, covers z pc = false ∨ (z.catchType ≠ 0 ∧ ∃ nm : String, (Cond.classLink own z.catchType nm).before args s = true ∧ va_Nc E nm s)) (hx : covers x pc = true) (h0 : x.catchType ≠ 0)
    (hlink : (Cond.classLink own x.catchType name).before args s = true) (hcast : (Cond.castable E name).before args s = true) (hcell : H[q]? = some ce) (hv : ce.vm = .none) (hcl : s.vm.findClass E = some ce.cls)
    (kk : W p l e R s m args below meth c H locs cells slots Q (F0 m x.handlerPc ls [.ref q])) : vx_W p l e R s m args below meth c H locs cells slots Q (F0 m pc ls rest) q := by
  intro T hT X
  have hpl : e.platform.magicAccessors = ({} : Platform).magicAccessors := by rw [X.admits.platform]
  obtain ⟨c3, c4, hc3, hc4, hasg⟩ := Cond.castable_spec hcast
  cases Option.some.inj (hc3.symm.trans hcl)
  obtain ⟨c5, hc5, hcl5⟩ := Cond.classLink_spec hown hlink e.platform hpl
  cases Option.some.inj (hc4.symm.trans hc5)
  obtain ⟨vm', X', st⟩ := X.thenCaughtThrough q (g := F0 m pc ls rest) rfl (Steps.refl _) (by rw [hT]; exact hcell) (by rw [hv]; rfl) (by obtain ⟨k9, h9, -⟩ := Vm.findClass_spec hcl; exact ⟨k9, h9⟩) pre x suf hsplit
    (fun z hz => by
      rcases hpass z hz with h | ⟨hz0, nm, hl1, hn1⟩
      · exact Or.inl h
      · obtain ⟨c6, hc6, hcl6⟩ := Cond.classLink_spec hown hl1 e.platform hpl
        obtain ⟨a8, b8, h1, h2, h3⟩ := hn1
        cases Option.some.inj (h1.symm.trans hcl)
        cases Option.some.inj (h2.symm.trans hc6)
        exact Or.inr ⟨hz0, _, hcl6, h3⟩) hx (Or.inr ⟨h0, c4, hcl5, hasg⟩)
  obtain ⟨t, a1, b1⟩ := kk (T.setVm vm') hT X'
  exact ⟨t, st.trans a1, b1⟩
end Rows
section Ends
variable {p : Program} {l : Launch} {e : Env} {R : Room} {s : State} {m : MethodId} {args : Array Value} {below : List Frame} {meth : Method} {c : Code} {H : Heap} {locs : List Loc} {cells slots : Nat} {Q : State → Prop}
variable {mc ms : Nat} {free : Addr → Prop} {A0 A1 : Nat → Prop} {H0 : Heap} {a : Array Value} {ls : Array Slot} {st0 rest : List Value}
variable {Qc : Array Value → State → Outcome → State → Prop} {XC : String → State → State → Prop}
/-- what a body that may throw owes at its end -/
def vx_MQ (below : List Frame) (Qc : Array Value → State → Outcome → State → Prop) (XC : String → State → State → Prop) (a : Array Value) (s : State) (mc ms : Nat) (free : Addr → Prop) : State → Prop := fun t =>
  ∃ o, t.status = .running ∧ Ended t below o ∧ vx_Q Qc XC mc ms free a s o t
theorem vx_ret {g : JFrame} {mc ms : Nat} (k : W p l e R s m args below meth c H locs cells slots (MQ below Qc args s mc ms free) g) : W p l e R s m args below meth c H locs cells slots (vx_MQ below Qc XC args s mc ms free) g := by
  intro T hT X
  obtain ⟨t, a1, o, b1, b2, b3, b4⟩ := k T hT X
  exact ⟨t, a1, o, b1, b2, Or.inl ⟨b3, b4⟩⟩
/-- not caught here: it goes on to the caller -/
theorem vx_widen {g : JFrame} {q : Addr} {k n : Nat} (h1 : cells ≤ k) (h2 : slots ≤ n) (kk : vx_W p l e R s m args below meth c H locs k n Q g q) : vx_W p l e R s m args below meth c H locs cells slots Q g q := fun T hT X => kk T hT (stand_widen X h1 h2)
theorem vx_out {pc : Nat} {E : String} {ce : Cell} {q : Addr} {mc ms : Nat} (hout : ∀ x ∈ c.exceptionTable.toList, covers x pc = false) (hlocks : meth.locks = false) (hcell : H[q]? = some ce) (hv : ce.vm = .none) (hcl : s.vm.findClass E = some ce.cls)
    (hx : ∀ t : State, t.heap = H → s.vm.Alike t.vm → XC E s t) (hf : ∀ z ∈ locs, free z.base) (hc : cells ≤ mc) (hs : slots ≤ ms) :
    vx_W p l e R s m args below meth c H locs cells slots (vx_MQ below Qc XC args s mc ms free) (F0 m pc ls rest) q := by
  intro T hT X
  obtain ⟨st1, hrun, hend, hW, hsm⟩ := X.leaveThrown q (g := F0 m pc ls rest) rfl rfl rfl hout hlocks
  have hcell9 : (T.setFrames (.throwing q :: below)).heap[q]? = some ce := by
    show T.heap[q]? = some ce
    rw [hT]; exact hcell
  exact ⟨_, st1, .threw q, hrun, hend, Or.inr ⟨q, rfl, E, ce, locs, hx _ hT hW.alike, hcell9, hv, hcl, hW, hsm.mono hc hs, hf⟩⟩
theorem vx_frame {U : State} {k n : Nat} (h : s.sameButNew ({ U with vm := s.vm } : State) locs k n) : s.heap.size ≤ U.heap.size ∧ ∀ q : Nat, q < s.heap.size → (∀ z ∈ locs, z.base ≠ q) → U.heap[q]? = s.heap[q]? := by
  obtain ⟨-, h2, -, -, -, h6⟩ := h
  refine ⟨h2, fun q hq hz => ?_⟩
  obtain ⟨c9, e1, e2, e3, e4⟩ := h6 q _ (Array.getElem?_eq_getElem hq)
  have hs : c9.slots = (s.heap[q]).slots := Array.ext_getElem? fun i => e4 i fun hm => hz _ hm rfl
  have h9 : c9 = s.heap[q] := by
    rw [hs] at e2
    exact e2
  have e5 : U.heap[q]? = some c9 := e1
  rw [e5, h9, Array.getElem?_eq_getElem hq]
/-- the words of a throw but the four that speak of the heap -/
def vx_no (w : Cond) : Bool := decide (w ≠ .isRef (.static Bundle.tN "UNASSIGNED_STACK" Bundle.steD)) && decide (w ≠ .isRef (.static Bundle.tN "SUPPRESSED_SENTINEL" Bundle.listD)) && decide (w ≠ .laysStatic Bundle.tN "UNASSIGNED_STACK" Bundle.steD) && decide (w ≠ .laysStatic Bundle.tN "SUPPRESSED_SENTINEL" Bundle.listD)
def vx_at0 (own : String) (ic : Nat) (X : String) (names : List String) : List Cond := (Bundle.ownAtoms0 own ic X names).filter vx_no
def vx_atS (own : String) (ic : Nat) (X : String) (names : List String) : List Cond := (Bundle.ownAtoms own ic X names).filter vx_no
/-- a word that the tables alone decide, or a good one -/
def vx_ot (w : Cond) : Bool := w.onTables || goodWord w
theorem vx_ot_at {args a' : Array Value} {s U : State} {w : Cond} (hW : s.WarmedH U.vm) (hvm : s.vm = U.vm) (hg : vx_ot w = true) (h : w.before args s = true) : w.before a' U = true := by
  simp only [vx_ot, Bool.or_eq_true] at hg
  rcases hg with hg | hg
  · exact va_tabs hg hvm h
  · exact word_at hW (good_of_word hg) h
/-- a list's words: the good ones out of the method's own list, the others by premises of their own -/
theorem vx_hat {args : Array Value} {s : State} {L B : List Cond} (h1 : ∀ w ∈ L.filter goodWord, w.before args s = true) (h2 : ∀ w ∈ L.filter (fun w => !goodWord w), w ∈ B) (h3 : ∀ w ∈ B, w.before args s = true) : ∀ w ∈ L, w.before args s = true := by
  intro w hw
  by_cases g : goodWord w = true
  · exact h1 w (List.mem_filter.mpr ⟨hw, g⟩)
  · refine h3 w (h2 w (List.mem_filter.mpr ⟨hw, ?_⟩))
    show (!goodWord w) = true
    cases hgw : goodWord w
    · rfl
    · exact absurd hgw g
theorem vx_c {args : Array Value} {s : State} {w : Cond} {B : List Cond} (h : w.before args s = true) (t : ∀ w ∈ B, w.before args s = true) : ∀ w' ∈ w :: B, w'.before args s = true := fun w' h' => (List.mem_cons.mp h').elim (fun e => by rw [e]; exact h) (t w')
theorem vx_n {args : Array Value} {s : State} : ∀ w ∈ ([] : List Cond), w.before args s = true := fun _ h => nomatch h
theorem vx_own {args : Array Value} {s : State} {L : List Cond} (h1 : ∀ w ∈ L.filter vx_no, w.before args s = true)
    (hU : (Cond.isRef (.static Bundle.tN "UNASSIGNED_STACK" Bundle.steD)).before args s = true) (hN : (Cond.isRef (.static Bundle.tN "SUPPRESSED_SENTINEL" Bundle.listD)).before args s = true)
    (lU : (Cond.laysStatic Bundle.tN "UNASSIGNED_STACK" Bundle.steD).before args s = true) (lN : (Cond.laysStatic Bundle.tN "SUPPRESSED_SENTINEL" Bundle.listD).before args s = true) : ∀ w ∈ L, w.before args s = true := by
  intro w hw
  by_cases e1 : w = .isRef (.static Bundle.tN "UNASSIGNED_STACK" Bundle.steD)
  · rw [e1]; exact hU
  · by_cases e2 : w = .isRef (.static Bundle.tN "SUPPRESSED_SENTINEL" Bundle.listD)
    · rw [e2]; exact hN
    · by_cases e3 : w = .laysStatic Bundle.tN "UNASSIGNED_STACK" Bundle.steD
      · rw [e3]; exact lU
      · by_cases e4 : w = .laysStatic Bundle.tN "SUPPRESSED_SENTINEL" Bundle.listD
        · rw [e4]; exact lN
        · exact h1 w (List.mem_filter.mpr ⟨hw, by unfold vx_no; rw [decide_eq_true e1, decide_eq_true e2, decide_eq_true e3, decide_eq_true e4]; rfl⟩)
/-- where a static field lies, its class's statics cell in H -/
def vx_L (C n d : String) (A : Nat → Prop) (U : State) (H : Heap) : Prop := ∃ (c : ClassId) (k : Class) (i : Nat) (f : Field) (a : Nat) (cell : Cell), U.vm.findClass C = some c ∧ U.fieldFound? C n d = some (c, k, i, f) ∧ f.isStatic = true ∧ k.statics = some a ∧ H[a]? = some cell ∧ cell.vm.isStatics = true ∧ cell.cls = c ∧ f.slot < cell.slots.size ∧ k.staticTypes[f.slot]? = some f.type ∧ ¬ A a
theorem vx_L.moved {C n d : String} {A : Nat → Prop} {u U : State} {H : Heap} (hvm : u.vm.Alike U.vm) (h : vx_L C n d A u H) : vx_L C n d A U H := by
  obtain ⟨c, k, i, f, a, cell, h1, h2, h3, h4, h5, h6, h7, h8, h9, h10⟩ := h
  obtain ⟨k', hi', he⟩ := State.fieldFound?_setVm hvm h2
  exact ⟨c, k', i, f, a, cell, by rw [hvm.findClass]; exact h1, hi', h3, by rw [he]; exact h4, h5, h6, h7, h8, by rw [he]; exact h9, h10⟩
theorem vx_L.kept {C n d : String} {A : Nat → Prop} {U : State} {H H1 : Heap} (h : vx_L C n d A U H) (hq : ∀ a : Nat, a < H.size → ¬ A a → H1[a]? = H[a]?) : vx_L C n d A U H1 := by
  obtain ⟨c, k, i, f, a, cell, h1, h2, h3, h4, h5, h6, h7, h8, h9, h10⟩ := h
  exact ⟨c, k, i, f, a, cell, h1, h2, h3, h4, by rw [hq a (Array.getElem?_eq_some_iff.mp h5).1 h10]; exact h5, h6, h7, h8, h9, h10⟩
theorem vx_L.narrow {C n d : String} {A B : Nat → Prop} {U : State} {H : Heap} (h : vx_L C n d A U H) (hAB : ∀ q, B q → A q) : vx_L C n d B U H := by
  obtain ⟨c, k, i, f, a, cell, h1, h2, h3, h4, h5, h6, h7, h8, h9, h10⟩ := h
  exact ⟨c, k, i, f, a, cell, h1, h2, h3, h4, h5, h6, h7, h8, h9, fun z => h10 (hAB _ z)⟩
theorem vx_L.word {C n d : String} {A : Nat → Prop} {s : State} {args : Array Value} (h : vx_L C n d A s s.heap) : (Cond.laysStatic C n d).before args s = true := by
  obtain ⟨c, k, i, f, a, cell, h1, h2, h3, h4, h5, h6, h7, h8, h9, -⟩ := h
  show (Cond.laysStatic C n d).holds args s none s [] = true
  exact Cond.laysStatic_of h1 h2 h3 h4 h5 h6 h7 h8 h9
/-- .. and what it holds: null or some reference -/
def vx_Zq (C n d : String) (A : Nat → Prop) (U : State) (H : Heap) : Prop := va_Zq C n d A U H ∧ vx_L C n d A U H
theorem vx_Zq.moved {C n d : String} {A : Nat → Prop} {u U : State} {H : Heap} (hvm : u.vm.Alike U.vm) (h : vx_Zq C n d A u H) : vx_Zq C n d A U H := ⟨va_Zq.moved hvm h.1, vx_L.moved hvm h.2⟩
theorem vx_Zq.kept {C n d : String} {A : Nat → Prop} {U : State} {H H1 : Heap} (h : vx_Zq C n d A U H) (hq : ∀ a : Nat, a < H.size → ¬ A a → H1[a]? = H[a]?) : vx_Zq C n d A U H1 := ⟨va_Zq.kept h.1 hq, vx_L.kept h.2 hq⟩
theorem vx_Zq.narrow {C n d : String} {A B : Nat → Prop} {U : State} {H : Heap} (h : vx_Zq C n d A U H) (hAB : ∀ q, B q → A q) : vx_Zq C n d B U H := ⟨va_Zq.narrow h.1 hAB, vx_L.narrow h.2 hAB⟩
theorem vx_Zqof {args : Array Value} {s : State} {C n d : String} {A : Nat → Prop} (hl : (Cond.laysStatic C n d).before args s = true) (hini : (Cond.initialized C).before args s = true) (h : (Cond.isRef (.static C n d)).before args s = true) (hA : ∀ a : Nat, a < s.heap.size → ¬ A a) : vx_Zq C n d A s s.heap := by
  refine ⟨va_Zqof hl hini h hA, ?_⟩
  obtain ⟨c, k, i, f, a, cell, h1, h2, h3, h4, h5, h6, h7, h8, h9⟩ := Cond.laysStatic_spec hl
  exact ⟨c, k, i, f, a, cell, h1, h2, h3, h4, h5, h6, h7, h8, h9, hA a (Array.getElem?_eq_some_iff.mp h5).1⟩
theorem vx_isRef {C n d : String} {v : Value} {A : Nat → Prop} {s : State} {args : Array Value} (h : va_Z C n d v A s s.heap) (hv : v.isRef = true) : (Cond.isRef (.static C n d)).before args s = true := by
  obtain ⟨cf, kf, fi, f, a, cell, h1, h2, h3, h4, h5, h6, h7, -⟩ := h
  have he : (Term.static C n d).eval args s none [] s = some v := by
    simp [Term.eval, State.fieldNamed?, h1, h2, h4, h5, h6, h7]
  simp only [Cond.before, Cond.holds, Cond.value, he]
  cases v <;> simp_all [Value.isRef]
theorem vx_isRefq {C n d : String} {A : Nat → Prop} {s : State} {args : Array Value} (h : va_Zq C n d A s s.heap) : (Cond.isRef (.static C n d)).before args s = true := by
  rcases h with h | ⟨t, h⟩
  · exact vx_isRef h rfl
  · exact vx_isRef h rfl
/-- the same frame, seen from here: as if the method were called anew in this heap -/
theorem vx_rebase {T : State} (X : Stand p l e R s m args below meth c T locs cells slots) {R' : Room} (hf : R'.frames ≤ R.frames) (hl : R'.locals ≤ R.locals) (hc : cells + R'.cells ≤ R.cells) (hs : slots + R'.slots ≤ R.slots) :
    Stand p l e R' ((T.setVm s.vm).setFrames (.invoking m args :: below)) m args below meth c T [] 0 0 := by
  have htop : (T.setVm s.vm).topJava?.isSome := X.here.top
  have hF : ((T.setVm s.vm).setFrames (.invoking m args :: below)).frames = .invoking m args :: below := State.frames_setFrames _ (State.cur_lt_of_top htop)
  obtain ⟨g₀, hg0⟩ := Option.isSome_iff_exists.mp htop
  obtain ⟨r, hr⟩ := State.topJava?_eq_some.mp hg0
  have hl9 : e.platform.stackLimits (T.setVm s.vm).me = e.platform.stackLimits s.me := X.limits
  have hb9 : (T.setVm s.vm).me.stackBytes = s.me.stackBytes := X.bytes
  refine ⟨X.admits, X.cas, X.clock, hF, ?_, X.hears, X.method, X.code, X.here, X.tail, X.warmed, ?_, ?_, ?_⟩
  · have h := X.room
    have hU : ((T.setVm s.vm).setFrames (.invoking m args :: below)).localsInUse = s.localsInUse := by
      rw [State.localsInUse_invoking hF (meth := meth) (c := c) X.method X.code, State.localsInUse_invoking X.frames X.method X.code]
    simp only [State.hasRoom, Bool.and_eq_true, decide_eq_true_eq] at h ⊢
    obtain ⟨⟨⟨⟨h1, h2, h3, h4, h5, h6⟩, h7⟩, h8⟩, h9⟩ := h
    rw [X.frames, List.length_cons] at h2 h3
    have q1 := X.heapSize
    have q2 := X.used
    simp only [hF, hU, List.length_cons, State.stackLimits_setFrames, State.stackBytes_setFrames, hl9, hb9]
    refine ⟨⟨⟨⟨by omega, by omega, by omega, by omega, by omega, h6⟩, ?_⟩, ?_⟩, X.book⟩
    · show T.heap.size + R'.cells ≤ e.platform.maxCells
      omega
    · show T.slotsUsed + R'.slots ≤ e.platform.maxSlots
      omega
  · rw [State.stackLimits_setFrames]; rfl
  · rw [State.stackBytes_setFrames]; rfl
  · refine ⟨?_, Nat.le_refl _, Nat.le_refl _, ?_, ?_, fun a c9 h9 => ⟨c9, h9, rfl, rfl, fun _ _ => rfl⟩⟩
    · obtain ⟨t, ht, -⟩ := State.frames_cons hr
      show T.setVm s.vm = { ((T.setVm s.vm).setFrames (.invoking m args :: below)).setFrames (T.setVm s.vm).frames with heap := T.heap, slotsUsed := T.slotsUsed }
      rw [State.setFrames_setFrames, State.setFrames_self ht]
      rfl
    · show T.slotsUsed = T.slotsUsed + ((T.heap.toList.drop T.heap.size).map (·.slots.size)).sum
      rw [List.drop_eq_nil_of_le (Nat.le_of_eq Array.length_toList)]
      rfl
    · show ((T.heap.toList.drop T.heap.size).map (·.slots.size)).sum ≤ 0
      rw [List.drop_eq_nil_of_le (Nat.le_of_eq Array.length_toList)]
      exact Nat.le_refl _
/-- 'throw new E()': new; dup; invokespecial; athrow -/
theorem vx_throw0 {cc : ByteArray} {pc : Nat} (hexec : p.tables.exec = Jvm.exec) (hb : c.code = cc) (hl : l.stackTraces = false) {own cls : String} {names : List String} {ik ic mc ms : Nat} {A : Nat → Prop}
    (hown : s.vm.findClass own = some m.cls) (hcls : Bundle.fit cls = true) (hnames : ∀ n ∈ names, Bundle.fit n = true)
    (hk : (Cond.classLink own ik cls).before args s = true) (hini : (Cond.initialized cls).before args s = true) (hat : ∀ w ∈ vx_at0 own ic cls names, w.before args s = true)
    (hgood : ∀ w ∈ Cond.classLink own ik cls :: Cond.initialized cls :: vx_at0 own ic cls names, vx_ot w = true)
    (hU : vx_Zq Bundle.tN "UNASSIGNED_STACK" Bundle.steD A s s.heap) (hN : vx_Zq Bundle.tN "SUPPRESSED_SENTINEL" Bundle.listD A s s.heap) (hS : va_S A s.heap H locs) (hsize : ls.size = c.maxLocals)
    (d0 : decode cc pc = .ok (.new ik, 3)) (d3 : decode cc (pc + 3) = .ok (.dup, 1)) (d4 : decode cc (pc + 4) = .ok (.invokespecial ic, 3)) (d7 : decode cc (pc + 7) = .ok (.athrow, 1))
    (hout : ∀ x ∈ c.exceptionTable.toList, covers x (pc + 7) = false)
    (hRframes : names.length + 3 < R.frames) (hRlocals : (rest.map fun v => v.category).sum + (13 * (names.length + 1) + 42) ≤ R.locals) (hRcells : cells + 1 ≤ R.cells) (hRslots : slots + 6 ≤ R.slots) (hlocks : meth.locks = false)
    (hx : ∀ t : State, s.vm.Alike t.vm → H.size ≤ t.heap.size → (∀ q : Nat, q < H.size → t.heap[q]? = H[q]?) → XC cls s t)
    (hf : ∀ z ∈ locs, free z.base) (hc : cells + 1 ≤ mc) (hs : slots + 6 ≤ ms) :
    W p l e R s m args below meth c H locs cells slots (vx_MQ below Qc XC args s mc ms free) (F0 m pc ls rest) := by
  intro T hT X
  have htr : e.platform.stackTraces = false := (show e.platform.stackTraces = l.stackTraces by rw [X.admits.platform]).trans hl
  have Y := vx_rebase X (R' := { frames := R.frames, locals := R.locals, cells := 1, slots := 6 }) (Nat.le_refl _) (Nat.le_refl _) hRcells hRslots
  obtain ⟨s', hA⟩ : ∃ z, z = (T.setVm s.vm).setFrames (.invoking m args :: below) := ⟨_, rfl⟩
  rw [← hA] at Y
  have hvm : s'.vm = s.vm := by rw [hA]; rfl
  have hhp : s'.heap = H := by rw [hA]; exact hT
  have hW0 : s.WarmedH s'.vm := by rw [hvm]; exact State.WarmedH.refl s
  have hat' : ∀ w ∈ vx_at0 own ic cls names, w.before args s' = true := fun w hw => vx_ot_at hW0 hvm.symm (hgood w (List.mem_cons_of_mem _ (List.mem_cons_of_mem _ hw))) (hat w hw)
  have hk' : (Cond.classLink own ik cls).before args s' = true := vx_ot_at hW0 hvm.symm (hgood _ List.mem_cons_self) hk
  have hini' : (Cond.initialized cls).before args s' = true := vx_ot_at hW0 hvm.symm (hgood _ (List.mem_cons_of_mem _ List.mem_cons_self)) hini
  have hU' : vx_Zq Bundle.tN "UNASSIGNED_STACK" Bundle.steD A s' s'.heap := by rw [hhp]; exact vx_Zq.moved hW0.alike (hU.kept hS.2.1)
  have hN' : vx_Zq Bundle.tN "SUPPRESSED_SENTINEL" Bundle.listD A s' s'.heap := by rw [hhp]; exact vx_Zq.moved hW0.alike (hN.kept hS.2.1)
  have h : ∀ w ∈ Bundle.ownAtoms0 own ic cls names, w.before args s' = true := vx_own hat' (vx_isRefq hU'.1) (vx_isRefq hN'.1) hU'.2.word hN'.2.word
  have hown' : s'.vm.findClass own = some m.cls := by rw [hvm]; exact hown
  have hins : (Cond.instantiable cls 6).before args s' = true := h _ (by simp [Bundle.ownAtoms0])
  obtain ⟨vm₁, cX, kX, hfX, hkX, -, -, X₁, st1⟩ := Y.newCold hexec (own := own) (C := cls) (index := ik) (n := 6) hown' hk' hins hini'
    (g := F0 m pc ls rest) rfl (by rw [hb]; exact d0) (Nat.le_refl _) (Nat.le_refl _)
  generalize hT1 : (T.setVm vm₁).pushCell { cls := cX, slots := kX.instanceTypes.map defaultValue, vm := .none } = T1 at X₁ st1
  have hcat : (Value.ref T.heap.size).category = 1 := rfl
  have hcellA : T1.heap[T.heap.size]? = some (freshCell cX kX) := by rw [← hT1]; exact State.heap_pushCell_size _ _
  have d3' : decode c.code (pc + 3) = .ok (.dup, 1) := by rw [hb]; exact d3
  obtain ⟨U, hsteps, hrun, hend, hW, hsame, ce, hce, hO⟩ := X₁.ctorThrow0 hexec htr (own := own) (cls := cls) (names := names) (ic := ic) hown' hcls hnames h (fun x hx => nomatch hx) hfX hkX hcellA (by rw [hhp, hT]; exact Nat.le_refl _)
    (g := { method := m, pc := pc + 4, locals := ls, stack := .ref T.heap.size :: .ref T.heap.size :: rest, locked := none }) rfl hsize rfl rfl (rest := rest) rfl
    (by rw [hb]; exact d4) (by rw [hb]; exact d7) hout hRframes (by simp only [List.map_cons, List.sum_cons, hcat]; omega) hlocks
  obtain ⟨f1, f2⟩ := vx_frame hsame
  rw [hhp] at f1 f2
  have hWs : s.WarmedH U.vm := State.WarmedH.trans hW0 hW
  have hcl : s.vm.findClass cls = some ce.cls := by
    have h9 := hO.cls
    rw [hvm] at h9
    exact h9
  have hall : s.sameButNew ({ U with vm := s.vm } : State) locs mc ms := by
    subst hA
    obtain ⟨e1, e2⟩ := hsame
    rw [State.setFrames_setFrames] at e1
    have h2 : (T.setVm s.vm).sameButNew ({ U with vm := s.vm } : State) [] (0 + 1) (0 + 6) := ⟨e1, e2⟩
    have h3 := X.same.trans h2
    rw [List.append_nil] at h3
    exact h3.mono hc hs
  refine ⟨U, ?_, .threw T.heap.size, hrun, hend, Or.inr ⟨T.heap.size, rfl, cls, ce, locs, hx U hWs.alike f1 (fun q hq => f2 q hq (fun z hz => nomatch hz)), hce, hO.vm, hcl, hWs, hall, hf⟩⟩
  refine st1 _ ?_
  show Steps p.tables e below (T1.setTop { method := m, pc := pc + 3, locals := ls, stack := .ref T.heap.size :: rest, locked := none }) _
  jvm_step X₁.here [X₁.here.top, hexec, d3', Value.category]
  exact hsteps
/-- 'throw new E("text")': new; dup; ldc; invokespecial; athrow -/
theorem vx_throwS {cc : ByteArray} {pc : Nat} (hexec : p.tables.exec = Jvm.exec) (hb : c.code = cc) (hl : l.stackTraces = false) {own cls text : String} {names : List String} {ik is ic mc ms sa : Nat} {A : Nat → Prop}
    (hown : s.vm.findClass own = some m.cls) (hcls : Bundle.fit cls = true) (hnames : ∀ n ∈ names, Bundle.fit n = true)
    (hk : (Cond.classLink own ik cls).before args s = true) (hini : (Cond.initialized cls).before args s = true) (hstr : vk_R own is text sa s) (hat : ∀ w ∈ vx_atS own ic cls names, w.before args s = true)
    (hgood : ∀ w ∈ Cond.classLink own ik cls :: Cond.initialized cls :: vx_atS own ic cls names, vx_ot w = true)
    (hU : vx_Zq Bundle.tN "UNASSIGNED_STACK" Bundle.steD A s s.heap) (hN : vx_Zq Bundle.tN "SUPPRESSED_SENTINEL" Bundle.listD A s s.heap) (hS : va_S A s.heap H locs) (hsize : ls.size = c.maxLocals)
    (d0 : decode cc pc = .ok (.new ik, 3)) (d3 : decode cc (pc + 3) = .ok (.dup, 1)) (d4 : decode cc (pc + 4) = .ok (.ldc is, 2)) (d6 : decode cc (pc + 6) = .ok (.invokespecial ic, 3)) (d9 : decode cc (pc + 9) = .ok (.athrow, 1))
    (hout : ∀ x ∈ c.exceptionTable.toList, covers x (pc + 9) = false)
    (hRframes : names.length + 3 < R.frames) (hRlocals : (rest.map fun v => v.category).sum + (13 * (names.length + 1) + 43) ≤ R.locals) (hRcells : cells + 1 ≤ R.cells) (hRslots : slots + 6 ≤ R.slots) (hlocks : meth.locks = false)
    (hx : ∀ t : State, s.vm.Alike t.vm → H.size ≤ t.heap.size → (∀ q : Nat, q < H.size → t.heap[q]? = H[q]?) → XC cls s t)
    (hf : ∀ z ∈ locs, free z.base) (hc : cells + 1 ≤ mc) (hs : slots + 6 ≤ ms) :
    W p l e R s m args below meth c H locs cells slots (vx_MQ below Qc XC args s mc ms free) (F0 m pc ls rest) := by
  intro T hT X
  have htr : e.platform.stackTraces = false := (show e.platform.stackTraces = l.stackTraces by rw [X.admits.platform]).trans hl
  have Y := vx_rebase X (R' := { frames := R.frames, locals := R.locals, cells := 1, slots := 6 }) (Nat.le_refl _) (Nat.le_refl _) hRcells hRslots
  obtain ⟨s', hA⟩ : ∃ z, z = (T.setVm s.vm).setFrames (.invoking m args :: below) := ⟨_, rfl⟩
  rw [← hA] at Y
  have hvm : s'.vm = s.vm := by rw [hA]; rfl
  have hhp : s'.heap = H := by rw [hA]; exact hT
  have hW0 : s.WarmedH s'.vm := by rw [hvm]; exact State.WarmedH.refl s
  have hat' : ∀ w ∈ vx_atS own ic cls names, w.before args s' = true := fun w hw => vx_ot_at hW0 hvm.symm (hgood w (List.mem_cons_of_mem _ (List.mem_cons_of_mem _ hw))) (hat w hw)
  have hk' : (Cond.classLink own ik cls).before args s' = true := vx_ot_at hW0 hvm.symm (hgood _ List.mem_cons_self) hk
  have hini' : (Cond.initialized cls).before args s' = true := vx_ot_at hW0 hvm.symm (hgood _ (List.mem_cons_of_mem _ List.mem_cons_self)) hini
  have hU' : vx_Zq Bundle.tN "UNASSIGNED_STACK" Bundle.steD A s' s'.heap := by rw [hhp]; exact vx_Zq.moved hW0.alike (hU.kept hS.2.1)
  have hN' : vx_Zq Bundle.tN "SUPPRESSED_SENTINEL" Bundle.listD A s' s'.heap := by rw [hhp]; exact vx_Zq.moved hW0.alike (hN.kept hS.2.1)
  have h : ∀ w ∈ Bundle.ownAtoms own ic cls names, w.before args s' = true := vx_own hat' (vx_isRefq hU'.1) (vx_isRefq hN'.1) hU'.2.word hN'.2.word
  have hown' : s'.vm.findClass own = some m.cls := by rw [hvm]; exact hown
  have hins : (Cond.instantiable cls 6).before args s' = true := h _ (by simp [Bundle.ownAtoms])
  obtain ⟨vm₁, cX, kX, hfX, hkX, -, -, X₁, st1⟩ := Y.newCold hexec (own := own) (C := cls) (index := ik) (n := 6) hown' hk' hins hini'
    (g := F0 m pc ls rest) rfl (by rw [hb]; exact d0) (Nat.le_refl _) (Nat.le_refl _)
  generalize hT1 : (T.setVm vm₁).pushCell { cls := cX, slots := kX.instanceTypes.map defaultValue, vm := .none } = T1 at X₁ st1
  have hcat : (Value.ref T.heap.size).category = 1 := rfl
  have hcellA : T1.heap[T.heap.size]? = some (freshCell cX kX) := by rw [← hT1]; exact State.heap_pushCell_size _ _
  have d3' : decode c.code (pc + 3) = .ok (.dup, 1) := by rw [hb]; exact d3
  have d4' : decode c.code (pc + 4) = .ok (.ldc is, 2) := by rw [hb]; exact d4
  have hstr' : vk_R own is text sa s' := vk_R.warm hW0 hstr
  obtain ⟨U, hsteps, hrun, hend, hW, hsame, ce, hce, hO⟩ := X₁.ctorThrowS hexec htr (own := own) (cls := cls) (names := names) (ic := ic) hown' hcls hnames h (fun x hx => nomatch hx) hfX hkX hcellA (by rw [hhp, hT]; exact Nat.le_refl _) (msg := .ref sa) rfl
    (g := { method := m, pc := pc + 6, locals := ls, stack := .ref sa :: .ref T.heap.size :: .ref T.heap.size :: rest, locked := none }) rfl hsize rfl rfl (rest := rest) rfl
    (by rw [hb]; exact d6) (by rw [hb]; exact d9) hout hRframes (by simp only [List.map_cons, List.sum_cons, hcat]; omega) hlocks
  obtain ⟨f1, f2⟩ := vx_frame hsame
  rw [hhp] at f1 f2
  have hWs : s.WarmedH U.vm := State.WarmedH.trans hW0 hW
  have hcl : s.vm.findClass cls = some ce.cls := by
    have h9 := hO.cls
    rw [hvm] at h9
    exact h9
  have hall : s.sameButNew ({ U with vm := s.vm } : State) locs mc ms := by
    subst hA
    obtain ⟨e1, e2⟩ := hsame
    rw [State.setFrames_setFrames] at e1
    have h2 : (T.setVm s.vm).sameButNew ({ U with vm := s.vm } : State) [] (0 + 1) (0 + 6) := ⟨e1, e2⟩
    have h3 := X.same.trans h2
    rw [List.append_nil] at h3
    exact h3.mono hc hs
  refine ⟨U, ?_, .threw T.heap.size, hrun, hend, Or.inr ⟨T.heap.size, rfl, cls, ce, locs, hx U hWs.alike f1 (fun q hq => f2 q hq (fun z hz => nomatch hz)), hce, hO.vm, hcl, hWs, hall, hf⟩⟩
  refine st1 _ ?_
  show Steps p.tables e below (T1.setTop { method := m, pc := pc + 3, locals := ls, stack := .ref T.heap.size :: rest, locked := none }) _
  jvm_step X₁.here [X₁.here.top, hexec, d3', Value.category]
  exact X₁.ldcString hexec (own := own) (text := text) (index := is) (a := sa) hown' hstr'.1 hstr'.2
    (g := { method := m, pc := pc + 4, locals := ls, stack := .ref T.heap.size :: .ref T.heap.size :: rest, locked := none }) rfl d4' _ hsteps
/-- 'throw new E("text")', the text by a wide index -/
theorem vx_throwSW {cc : ByteArray} {pc : Nat} (hexec : p.tables.exec = Jvm.exec) (hb : c.code = cc) (hl : l.stackTraces = false) {own cls text : String} {names : List String} {ik is ic mc ms sa : Nat} {A : Nat → Prop}
    (hown : s.vm.findClass own = some m.cls) (hcls : Bundle.fit cls = true) (hnames : ∀ n ∈ names, Bundle.fit n = true)
    (hk : (Cond.classLink own ik cls).before args s = true) (hini : (Cond.initialized cls).before args s = true) (hstr : vk_R own is text sa s) (hat : ∀ w ∈ vx_atS own ic cls names, w.before args s = true)
    (hgood : ∀ w ∈ Cond.classLink own ik cls :: Cond.initialized cls :: vx_atS own ic cls names, vx_ot w = true)
    (hU : vx_Zq Bundle.tN "UNASSIGNED_STACK" Bundle.steD A s s.heap) (hN : vx_Zq Bundle.tN "SUPPRESSED_SENTINEL" Bundle.listD A s s.heap) (hS : va_S A s.heap H locs) (hsize : ls.size = c.maxLocals)
    (d0 : decode cc pc = .ok (.new ik, 3)) (d3 : decode cc (pc + 3) = .ok (.dup, 1)) (d4 : decode cc (pc + 4) = .ok (.ldc_w is, 3)) (d7 : decode cc (pc + 7) = .ok (.invokespecial ic, 3)) (d10 : decode cc (pc + 10) = .ok (.athrow, 1))
    (hout : ∀ x ∈ c.exceptionTable.toList, covers x (pc + 10) = false)
    (hRframes : names.length + 3 < R.frames) (hRlocals : (rest.map fun v => v.category).sum + (13 * (names.length + 1) + 43) ≤ R.locals) (hRcells : cells + 1 ≤ R.cells) (hRslots : slots + 6 ≤ R.slots) (hlocks : meth.locks = false)
    (hx : ∀ t : State, s.vm.Alike t.vm → H.size ≤ t.heap.size → (∀ q : Nat, q < H.size → t.heap[q]? = H[q]?) → XC cls s t)
    (hf : ∀ z ∈ locs, free z.base) (hc : cells + 1 ≤ mc) (hs : slots + 6 ≤ ms) :
    W p l e R s m args below meth c H locs cells slots (vx_MQ below Qc XC args s mc ms free) (F0 m pc ls rest) := by
  intro T hT X
  have htr : e.platform.stackTraces = false := (show e.platform.stackTraces = l.stackTraces by rw [X.admits.platform]).trans hl
  have Y := vx_rebase X (R' := { frames := R.frames, locals := R.locals, cells := 1, slots := 6 }) (Nat.le_refl _) (Nat.le_refl _) hRcells hRslots
  obtain ⟨s', hA⟩ : ∃ z, z = (T.setVm s.vm).setFrames (.invoking m args :: below) := ⟨_, rfl⟩
  rw [← hA] at Y
  have hvm : s'.vm = s.vm := by rw [hA]; rfl
  have hhp : s'.heap = H := by rw [hA]; exact hT
  have hW0 : s.WarmedH s'.vm := by rw [hvm]; exact State.WarmedH.refl s
  have hat' : ∀ w ∈ vx_atS own ic cls names, w.before args s' = true := fun w hw => vx_ot_at hW0 hvm.symm (hgood w (List.mem_cons_of_mem _ (List.mem_cons_of_mem _ hw))) (hat w hw)
  have hk' : (Cond.classLink own ik cls).before args s' = true := vx_ot_at hW0 hvm.symm (hgood _ List.mem_cons_self) hk
  have hini' : (Cond.initialized cls).before args s' = true := vx_ot_at hW0 hvm.symm (hgood _ (List.mem_cons_of_mem _ List.mem_cons_self)) hini
  have hU' : vx_Zq Bundle.tN "UNASSIGNED_STACK" Bundle.steD A s' s'.heap := by rw [hhp]; exact vx_Zq.moved hW0.alike (hU.kept hS.2.1)
  have hN' : vx_Zq Bundle.tN "SUPPRESSED_SENTINEL" Bundle.listD A s' s'.heap := by rw [hhp]; exact vx_Zq.moved hW0.alike (hN.kept hS.2.1)
  have h : ∀ w ∈ Bundle.ownAtoms own ic cls names, w.before args s' = true := vx_own hat' (vx_isRefq hU'.1) (vx_isRefq hN'.1) hU'.2.word hN'.2.word
  have hown' : s'.vm.findClass own = some m.cls := by rw [hvm]; exact hown
  have hins : (Cond.instantiable cls 6).before args s' = true := h _ (by simp [Bundle.ownAtoms])
  obtain ⟨vm₁, cX, kX, hfX, hkX, -, -, X₁, st1⟩ := Y.newCold hexec (own := own) (C := cls) (index := ik) (n := 6) hown' hk' hins hini'
    (g := F0 m pc ls rest) rfl (by rw [hb]; exact d0) (Nat.le_refl _) (Nat.le_refl _)
  generalize hT1 : (T.setVm vm₁).pushCell { cls := cX, slots := kX.instanceTypes.map defaultValue, vm := .none } = T1 at X₁ st1
  have hcat : (Value.ref T.heap.size).category = 1 := rfl
  have hcellA : T1.heap[T.heap.size]? = some (freshCell cX kX) := by rw [← hT1]; exact State.heap_pushCell_size _ _
  have d3' : decode c.code (pc + 3) = .ok (.dup, 1) := by rw [hb]; exact d3
  have d4' : decode c.code (pc + 4) = .ok (.ldc_w is, 3) := by rw [hb]; exact d4
  have hstr' : vk_R own is text sa s' := vk_R.warm hW0 hstr
  obtain ⟨U, hsteps, hrun, hend, hW, hsame, ce, hce, hO⟩ := X₁.ctorThrowS hexec htr (own := own) (cls := cls) (names := names) (ic := ic) hown' hcls hnames h (fun x hx => nomatch hx) hfX hkX hcellA (by rw [hhp, hT]; exact Nat.le_refl _) (msg := .ref sa) rfl
    (g := { method := m, pc := pc + 7, locals := ls, stack := .ref sa :: .ref T.heap.size :: .ref T.heap.size :: rest, locked := none }) rfl hsize rfl rfl (rest := rest) rfl
    (by rw [hb]; exact d7) (by rw [hb]; exact d10) hout hRframes (by simp only [List.map_cons, List.sum_cons, hcat]; omega) hlocks
  obtain ⟨f1, f2⟩ := vx_frame hsame
  rw [hhp] at f1 f2
  have hWs : s.WarmedH U.vm := State.WarmedH.trans hW0 hW
  have hcl : s.vm.findClass cls = some ce.cls := by
    have h9 := hO.cls
    rw [hvm] at h9
    exact h9
  have hall : s.sameButNew ({ U with vm := s.vm } : State) locs mc ms := by
    subst hA
    obtain ⟨e1, e2⟩ := hsame
    rw [State.setFrames_setFrames] at e1
    have h2 : (T.setVm s.vm).sameButNew ({ U with vm := s.vm } : State) [] (0 + 1) (0 + 6) := ⟨e1, e2⟩
    have h3 := X.same.trans h2
    rw [List.append_nil] at h3
    exact h3.mono hc hs
  refine ⟨U, ?_, .threw T.heap.size, hrun, hend, Or.inr ⟨T.heap.size, rfl, cls, ce, locs, hx U hWs.alike f1 (fun q hq => f2 q hq (fun z hz => nomatch hz)), hce, hO.vm, hcl, hWs, hall, hf⟩⟩
  refine st1 _ ?_
  show Steps p.tables e below (T1.setTop { method := m, pc := pc + 3, locals := ls, stack := .ref T.heap.size :: rest, locked := none }) _
  jvm_step X₁.here [X₁.here.top, hexec, d3', Value.category]
  exact X₁.ldcStringW hexec (own := own) (text := text) (index := is) (a := sa) hown' hstr'.1 hstr'.2
    (g := { method := m, pc := pc + 4, locals := ls, stack := .ref T.heap.size :: .ref T.heap.size :: rest, locked := none }) rfl d4' _ hsteps
end Ends
section Bodies
variable {l : Launch}
theorem vx_ofW {y : MethodName} {ws ws' : List Cond} {rm : Room} {Pc : Array Value → State → Prop} {Qc : Array Value → State → Outcome → State → Prop} {XC : String → State → State → Prop} {mc ms : Nat} {free : Addr → Prop} {cc : ByteArray} {maxL : Nat} {ret : Option FieldType}
    (hy : plainName y.cls = true) (hw : ws = Cond.code y cc maxL ret :: ws')
    (body : ∀ p e s m args below meth c s₁, BodyLoose p l y (headSpec ws rm) cc maxL ret e s m args below meth c s₁ → c.maxLocals = maxL → (∀ x ∈ c.exceptionTable.toList, False) → Pc args s →
      W p l e (headSpec ws rm).room s m args below meth c s.heap [] 0 0 (vx_MQ below Qc XC args s mc ms free) (entryFrame m args maxL)) : vx_Met l y ws rm Pc Qc XC mc ms free := by
  refine MetFree.of_bodyS (code := cc) (maxLocals := maxL) (ret := ret) hy ?_ ?_
  · intro args s m h hn
    obtain ⟨meth, c, h1, h2, h3, h4, h5, h6, -, -⟩ := Cond.code_spec hn (atoms_spec (ws := ws) h _ (by rw [hw]; exact List.mem_cons_self))
    exact ⟨meth, c, h1, h2, h3, h4, h5, h6⟩
  · intro p e s m args below meth c s₁ B hml hP _
    have hh0 : s₁.heap = s.heap := by rw [B.state]; rfl
    have ht : ∀ x ∈ c.exceptionTable.toList, False := by
      obtain ⟨meth9, c9, h1, h2, -, -, -, -, h7, -⟩ := Cond.code_spec B.named (atoms_spec (ws := ws) B.pre _ (by rw [hw]; exact List.mem_cons_self))
      cases Option.some.inj (h1.symm.trans B.method)
      cases Option.some.inj (h2.symm.trans (Stand.of_body B).code)
      intro x hx
      rw [Array.isEmpty_iff.mp h7] at hx
      cases hx
    obtain ⟨t, a1, o, b1, b2, b3⟩ := body p e s m args below meth c s₁ B hml ht hP s₁ hh0 (Stand.of_body B)
    exact ⟨t, o, a1, b1, b2, b3⟩
/-- the table of a body with handlers -/
theorem vx_table {p : Program} {x y : MethodName} {S : Spec} {cc bytes : ByteArray} {maxL maxL' : Nat} {ret ret' : Option FieldType} {e : Env} {s s₁ : State} {m : MethodId} {args : Array Value} {below : List Frame} {meth : Method} {c : Code} {hh : List (Nat × Nat × Nat × Nat)}
    (B : BodyLoose p l y S cc maxL ret e s m args below meth c s₁) (h : (Cond.codeWith y bytes maxL' ret' hh).before args s = true) : c.exceptionTable.toList = tableOf hh := by
  obtain ⟨m9, meth9, c9, hn9, h1, h2, -, -, h6, -⟩ := Cond.codeWith_spec h
  cases Option.some.inj (hn9.symm.trans B.named)
  cases Option.some.inj (h1.symm.trans B.method)
  cases Option.some.inj (h2.symm.trans (Stand.of_body B).code)
  rw [← h6, table_eq]
end Bodies
end VXA
/-! ===== END ===== -/
/-! ===== BEGIN a static call of a method with an exception table ===== -/
section VXS
variable {p : Program} {l : Launch} {e : Env} {R : Room} {s : State} {m : MethodId} {args : Array Value} {below : List Frame} {meth : Method} {c : Code} {T : State} {H : Heap} {locs : List Loc} {cells slots : Nat}
abbrev vx_CSW (R : Room) (s : State) (args : Array Value) (own : String) (index : Nat) (y : MethodName) (bytes : ByteArray) (maxL : Nat) (ret : Option FieldType) (hh : List (Nat × Nat × Nat × Nat)) (ws : List Cond) (rm : Room) (mc ms n : Nat) : Prop :=
  (rm.cells = mc ∧ rm.slots = ms ∧ rm.frames + 1 ≤ R.frames ∧ 8 + (maxL + 11) + rm.locals ≤ R.locals ∧ (∀ w ∈ ws, ∀ (a' : Array Value) (U : State), s.WarmedH U.vm → w.before a' U = true) ∧ Cond.codeWith y bytes maxL ret hh ∈ ws) ∧
  (Cond.codeWith y bytes maxL ret hh).before args s = true ∧ (Cond.initialized y.cls).before args s = true ∧ (y.cls ≠ "java/lang/invoke/MethodHandle" ∧ y.cls ≠ "java/lang/invoke/VarHandle") ∧
  (∀ sig, parseMethodDescriptor y.desc = some sig → n = sig.parameters.length) ∧ (Cond.methodLink own index y).before args s = true ∧ (Cond.static y).before args s = true
theorem vx_cwSW {own : String} {index maxL mc ms : Nat} {y : MethodName} {bytes : ByteArray} {ret : Option FieldType} {hh : List (Nat × Nat × Nat × Nat)} {Ts ws ws' : List Cond} {rm : Room} (n : Nat) (ht : ∀ w ∈ Ts, w.before args s = true) (hT : GoodIn Ts (va_wsS own index y ws)) (hw : ws = Cond.codeWith y bytes maxL ret hh :: ws') (hrc : rm.cells = mc) (hrs : rm.slots = ms)
    (hd : y.cls ≠ "java/lang/invoke/MethodHandle" ∧ y.cls ≠ "java/lang/invoke/VarHandle" ∧ (parseMethodDescriptor y.desc).map (fun d => d.parameters.length) = some n) (hR : rm.frames + 1 ≤ R.frames ∧ 8 + (maxL + 11) + rm.locals ≤ R.locals) :
    vx_CSW R s args own index y bytes maxL ret hh ws rm mc ms n := by
  have ok : ∀ w ∈ va_wsS own index y ws, w.before args s = true := fun w h => ht w (hT w h).1
  have hG : GoodIn Ts ws := fun w h => hT w (by unfold va_wsS; exact List.mem_append_right _ h)
  have hc : Cond.codeWith y bytes maxL ret hh ∈ ws := by rw [hw]; exact List.mem_cons_self
  refine ⟨⟨hrc, hrs, hR.1, hR.2, pay_in ht hG, hc⟩, ht _ (hG _ hc).1, ok _ (by simp [va_wsS]), ⟨hd.1, hd.2.1⟩, fun sig h => ?_, ok _ (by simp [va_wsS]), ok _ (by simp [va_wsS])⟩
  have h2 := hd.2.2
  rw [h] at h2
  exact (Option.some.inj h2).symm
theorem vx_callSW (X : Stand p l e R s m args below meth c T locs cells slots) (hexec : p.tables.exec = Jvm.exec) {own : String} {index : Nat} {y : MethodName} {bytes : ByteArray} {maxL : Nat} {ret : Option FieldType} {hh : List (Nat × Nat × Nat × Nat)}
    (hown : s.vm.findClass own = some m.cls) (hlink : (Cond.methodLink own index y).before args s = true) (hstat : (Cond.static y).before args s = true) (hinit : (Cond.initialized y.cls).before args s = true)
    (hcode : (Cond.codeWith y bytes maxL ret hh).before args s = true) (hy : y.cls ≠ "java/lang/invoke/MethodHandle" ∧ y.cls ≠ "java/lang/invoke/VarHandle")
    {W9 : Nat} {Pre : Pt → Array Value → Prop} {Post : Pt → Array Value → Option Value → Pt → Prop} (hK : Back l R p e below s args y 3 W9 Pre Post)
    {g : JFrame} (hg : g.method = m) (hsize : g.locals.size = c.maxLocals) {argsL rest : List Value} (hlen : ∀ sig, parseMethodDescriptor y.desc = some sig → argsL.length = sig.parameters.length)
    (hstack : g.stack = argsL.reverse ++ rest) (hW : 2 * g.monitorRoom + (rest.map fun v => v.category).sum ≤ W9) (hdg : decode c.code g.pc = .ok (.invokestatic index, 3))
    (hpre : ∀ vm₁, s.WarmedH vm₁ → Pre ⟨T.setVm vm₁, locs, cells, slots⟩ argsL.toArray) :
    ∃ (v : Option Value) (vm₁ : Vm) (B : Pt), s.WarmedH vm₁ ∧ Stand p l e R s m args below meth c B.U B.locs B.cells B.slots ∧ Post ⟨T.setVm vm₁, locs, cells, slots⟩ argsL.toArray v B ∧
      ∀ target, Steps p.tables e below (B.U.setTop { g with pc := g.pc + 3, stack := v.toList ++ rest }) target → Steps p.tables e below (T.setTop g) target := by
  obtain ⟨mk, methM, cM, hnamed, hmethM, -, -, -, -, -, -, hsigM⟩ := Cond.codeWith_spec hcode
  have hstatic : methM.isStatic = true := Cond.static_spec hnamed hmethM hstat
  obtain ⟨kP, hkP, -⟩ := className_of_methodNamed hnamed
  have hinitP : kP.init = .initialized := Cond.initialized_spec (findClass_of_methodNamed hnamed) hkP hinit
  obtain ⟨vm₁, X₁, hstep₁⟩ := X.invokestatic hexec hown hlink hnamed hmethM hstatic hkP hinitP hy (g := g) hg (argsL := argsL) (rest := rest) (hlen _ hsigM) hstack hdg
  obtain ⟨v, B, X', hpost, hsteps⟩ := hK m meth c ⟨T.setVm vm₁, locs, cells, slots⟩ { g with stack := rest } (.invokestatic index) mk argsL.toArray X₁ hg hsize hdg hW (X₁.named hnamed) (hpre vm₁ X₁.warmed)
  exact ⟨v, vm₁, B, X₁.warmed, X', hpost, fun target h => hstep₁ _ fun acts => by rw [doInvoke_state]; exact hsteps.trans h⟩
theorem vx_runSW {y : MethodName} {bytes cc : ByteArray} {maxL nL mc ms n index : Nat} {ret : Option FieldType} {hh : List (Nat × Nat × Nat × Nat)} {ws : List Cond} {rm : Room} {Pc : Array Value → State → Prop} {Qc : Array Value → State → Outcome → State → Prop} {free : Addr → Prop} {Ts : List Cond} {own : String} {As rest : List Value} {g : JFrame}
    (S : CallFix p m c cc nL s args Ts own) (hM : Met l y ws rm Pc Qc mc ms free) (cw : vx_CSW R s args own index y bytes maxL ret hh ws rm mc ms n) (hp : PreS s H Pc As)
    (hg : g.method = m) (hn : As.length = n) (hsize : g.locals.size = nL) (hstack : g.stack = As.reverse ++ rest) (hW : 2 * g.monitorRoom + (rest.map fun v => v.category).sum ≤ 8) (hdg : decode cc g.pc = .ok (.invokestatic index, 3)) (hf : cells + mc ≤ R.cells ∧ slots + ms ≤ R.slots) :
    va_Run p l e R s m args below meth c H locs cells slots mc ms g rest (Qc As.toArray) (free) := by
  obtain ⟨⟨hrc, hrs, hfr, hlo, hws, hcw⟩, hcode, hini, hy, hlen, hl, hstt⟩ := cw
  have hK : Back l R p e below s args y 3 8 (PreOf R mc ms Pc) (PostOf Qc mc ms free) := va_backW (hh := hh) (bytes := bytes) (maxL := maxL) (ret := ret) hM hp.1 hrc hrs hfr hlo hws hcw (fun a' U hW => word_at hW (Or.inl (by first | rfl | simp [Cond.onTables, Cond.keeps, Cond.steady])) hini)
  obtain ⟨hx, hb, hml, ho, -⟩ := S
  intro T hT X
  obtain ⟨v, vm₁, ⟨U', l2, c2, s2⟩, hW₁, X', ⟨g', mk, t, L, e1, e2, hq, h1, hL, h2, h3⟩, st⟩ := vx_callSW X hx (hh := hh) (bytes := bytes) (maxL := maxL) (ret := ret) ho hl hstt hini hcode hy hK hg (hsize.trans hml.symm) (argsL := As) (rest := rest) (fun sig h => hn.trans (hlen sig h)) hstack hW (by rw [hb]; exact hdg)
    (fun vm₁ hW₁ => ⟨hf.1, hf.2, hp.2 (T.setVm vm₁) hT hW₁⟩)
  dsimp only [Pt.U, Pt.locs, Pt.cells, Pt.slots] at X' e1 e2 h1 h2 h3 st
  subst h1; subst h2; subst h3
  exact ⟨v, (T.setVm vm₁).calling g' mk As.toArray, t, U', L, hT, X', hL, e1, e2, hq, st⟩
/-- not caught here, past rows that name other classes: it goes on to the caller -/
theorem vx_outP {p : Program} {l : Launch} {e : Env} {R : Room} {s : State} {m : MethodId} {args : Array Value} {below : List Frame} {meth : Method} {c : Code} {H : Heap} {locs : List Loc} {cells slots : Nat} {free : Addr → Prop} {ls : Array Slot} {rest : List Value} {Qc : Array Value → State → Outcome → State → Prop} {XC : String → State → State → Prop}
    {pc : Nat} {own E : String} {ce : Cell} {q : Addr} {mc ms : Nat} (hown : s.vm.findClass own = some m.cls) (hlocks : meth.locks = false)
    (hpass : ∀ z ∈ c.exceptionTable.toList, covers z pc = false ∨ (z.catchType ≠ 0 ∧ ∃ nm : String, (Cond.classLink own z.catchType nm).before args s = true ∧ va_Nc E nm s)) (hcell : H[q]? = some ce) (hv : ce.vm = .none) (hcl : s.vm.findClass E = some ce.cls)
    (hx : ∀ t : State, t.heap = H → s.vm.Alike t.vm → XC E s t) (hf : ∀ z ∈ locs, free z.base) (hc : cells ≤ mc) (hs : slots ≤ ms) :
    vx_W p l e R s m args below meth c H locs cells slots (vx_MQ below Qc XC args s mc ms free) (F0 m pc ls rest) q := by
  intro T hT X
  have hpl : e.platform.magicAccessors = ({} : Platform).magicAccessors := by rw [X.admits.platform]
  obtain ⟨vm', hW', X', st⟩ := X.outThrough hlocks q (g := F0 m pc ls rest) rfl rfl rfl (cell := ce) (by rw [hT]; exact hcell) (by rw [hv]; rfl)
    (by obtain ⟨k9, h9, -⟩ := Vm.findClass_spec hcl; exact ⟨k9, h9⟩) (fun z hz => by
      rcases hpass z hz with h | ⟨hz0, nm, hl1, hn1⟩
      · exact Or.inl h
      · obtain ⟨c6, hc6, hcl6⟩ := Cond.classLink_spec hown hl1 e.platform hpl
        obtain ⟨a8, b8, h1, h2, h3⟩ := hn1
        cases Option.some.inj (h1.symm.trans hcl)
        cases Option.some.inj (h2.symm.trans hc6)
        exact Or.inr ⟨hz0, _, hcl6, h3⟩)
  obtain ⟨g₀, hfr⟩ := X'.frames_eq
  have hcell9 : ((T.setVm vm').setFrames (.throwing q :: below)).heap[q]? = some ce := by
    show T.heap[q]? = some ce
    rw [hT]; exact hcell
  have hend : Ended ((T.setVm vm').setFrames (.throwing q :: below)) below (.threw q) := State.frames_setFrames _ (State.cur_lt_of_frames hfr)
  refine ⟨(T.setVm vm').setFrames (.throwing q :: below), ?_, .threw q, X'.here.running, hend, Or.inr ⟨q, rfl, E, ce, locs, hx _ hT (X'.ends _).1.alike, hcell9, hv, hcl, (X'.ends _).1, (X'.ends _).2.mono hc hs, hf⟩⟩
  rw [X.pushThrowing_eq]
  exact st
/-- a thing of a world lies in the heap -/
theorem vx_lt {D : va_G} {cl : List vw_C} {ws : va_W} {H1 : Heap} (h : va_P D cl ws H1) {k : Nat} {q : Nat × va_E} (hk : ws[k]? = some q) : q.1 < H1.size := (h k q hk).lt
end VXS
/-! ===== END ===== -/
/-! ===== BEGIN methods with a table of their own: called by a name, returning or throwing ===== -/
section VXH
/-! vx_backW, vx_callVX, vx_callSX, vx_callVW, vx_runVW, vx_runVX, vx_runSX, vx_ofWH follow the same proofs as their sisters above (Free/Laws.lean, Shelf42/LK1.lean); vx_outP calls Shelf42/NT130.lean (outThrough). -/
section
variable {l : Launch} {R : Room} {p : Program} {e : Env} {below : List Frame} {s : State} {sargs : Array Value} {y : MethodName} {len W9 : Nat}
theorem vx_backW {ws : List Cond} {rm : Room} {Pc : Array Value → State → Prop} {Qc : Array Value → State → Outcome → State → Prop} {XC : String → State → State → Prop} {mc ms : Nat} {free : Addr → Prop} {bytes : ByteArray} {maxL : Nat} {ret : Option FieldType} {hh : List (Nat × Nat × Nat × Nat)}
    (hM : vx_Met l y ws rm Pc Qc XC mc ms free) (hblind : FrameBlind Pc) (hrc : rm.cells = mc) (hrs : rm.slots = ms)
    (hframes : rm.frames + 1 ≤ R.frames) (hlocals : W9 + (maxL + 11) + rm.locals ≤ R.locals)
    (hws : ∀ w ∈ ws, ∀ a' U, s.WarmedH U.vm → w.before a' U = true) (hcode : Cond.codeWith y bytes maxL ret hh ∈ ws) (hinit : ∀ a' U, s.WarmedH U.vm → (Cond.initialized y.cls).before a' U = true) :
    vx_Back l R p e below s sargs y len W9 (PreOf R mc ms Pc) (PostOf Qc mc ms free) (vx_Post XC mc ms free) := by
  intro m meth c A g ig mk a X hg hsize hdg hW hn hp
  have h1 : (headSpec ws rm).pre.before a A.U = true := atoms_intro fun w hw => hws w hw _ _ X.warmed
  have h2 : (Cond.codeWith y bytes maxL ret hh).before a A.U = true := hws _ hcode _ _ X.warmed
  have h3 : (Cond.initialized y.cls).before a A.U = true := hinit _ _ X.warmed
  have h4 : A.cells + (headSpec ws rm).room.cells ≤ R.cells := by rw [show (headSpec ws rm).room.cells = mc from hrc]; exact hp.1
  have h5 : A.slots + (headSpec ws rm).room.slots ≤ R.slots := by rw [show (headSpec ws rm).room.slots = ms from hrs]; exact hp.2.1
  have hPc : Pc a (A.U.calling g mk a) := hblind _ _ _ _ hp.2.2
  obtain ⟨U, Ls, c0, s0⟩ := A
  dsimp only [Pt.U, Pt.locs, Pt.cells, Pt.slots] at h1 h2 h3 h4 h5 X hn hPc ⊢
  obtain ⟨m9, methY, cY, hn9, hmY, hcY, -, hlY, -⟩ := Cond.codeWith_spec h2
  cases Option.some.inj (hn9.symm.trans hn)
  obtain ⟨kY, hkY, -⟩ := className_of_methodNamed hn
  have hinitY : kY.init = .initialized := Cond.initialized_spec (findClass_of_methodNamed hn) hkY h3
  have h : At U g.method c below := by rw [hg]; exact X.here
  have hlocals9 : W9 + (maxL + 11) + (headSpec ws rm).room.locals ≤ R.locals := hlocals
  have happ : (headSpec ws rm).appliesLoose y e.platform (U.calling g mk a) = true :=
    Spec.appliesLoose_calling (g := g) h hdg hn hkY hinitY
      (X.room_calling (g := g) (R' := (headSpec ws rm).room) hsize hmY hcY hframes (by rw [hlY]; omega) h4 h5) h1
  obtain ⟨mid, hmid⟩ := h.above
  have hfr : (U.setTop g).frames = (.java g :: mid) ++ below := by rw [State.frames_setTop' g h.top, hmid]; rfl
  obtain ⟨o, s₂, hsteps, -, hend, hq⟩ := Steps.callFree hM p X.admits X.cas X.clock (acts := []) hfr happ hPc trivial
  have hq' : vx_Q Qc XC mc ms free a (U.calling g mk a) o s₂ := hq
  rw [State.frames_setTop' g h.top] at hend
  obtain ⟨g₀, hg0⟩ := Option.isSome_iff_exists.mp h.top
  obtain ⟨r, hr⟩ := State.topJava?_eq_some.mp hg0
  have hr' : (({ U with heap := s₂.heap, slotsUsed := s₂.slotsUsed } : State).setVm s₂.vm).frames = .java g₀ :: r := hr
  rcases hq' with ⟨hqc, L, hfe, hL⟩ | ⟨q, rfl, E, ce, L, hx, hce, hcv, hcl, hW₂, hsm, hL⟩
  · obtain ⟨⟨v, rfl⟩, hW₂, e2, q2, q3, q4, q5, q6⟩ := id hfe
    have e3 : s₂ = ({ (U.calling g mk a).setFrames s₂.frames with heap := s₂.heap, slotsUsed := s₂.slotsUsed } : State).setVm s₂.vm := by
      have : s₂ = ({ s₂ with vm := (U.calling g mk a).vm } : State).setVm s₂.vm := rfl
      rw [e2] at this
      exact this
    obtain ⟨c₂, i₂, len₂, hc₂, hd₂, hf₂⟩ := hend
    have hW' : U.WarmedH s₂.vm := hW₂
    have hcc : c₂ = c := by
      have h1 : s₂.code? g.method = U.code? g.method := by
        rw [State.code?_eq, State.code?_eq, hW'.alike.method?]
      exact Option.some.inj (hc₂.symm.trans (h1.trans h.code))
    subst hcc
    have hlen : len₂ = len := by rw [hdg] at hd₂; cases hd₂; rfl
    subst hlen
    have hs₂ : s₂ = (({ U with heap := s₂.heap, slotsUsed := s₂.slotsUsed } : State).setVm s₂.vm).setTop { g with pc := g.pc + len₂, stack := v.toList ++ g.stack } := by
      refine e3.trans ?_
      rw [hf₂, State.calling_eq h.top, State.setFrames_setFrames, State.setTop_of_frames _ hr', hr]
      rfl
    have hsame : U.sameButNew ({ U with heap := s₂.heap, slotsUsed := s₂.slotsUsed } : State) L mc ms := by
      refine ⟨?_, q2, q3, q4, q5, q6⟩
      obtain ⟨t, ht, -⟩ := State.frames_cons hr
      show ({ U with heap := s₂.heap, slotsUsed := s₂.slotsUsed } : State) = { U.setFrames U.frames with heap := s₂.heap, slotsUsed := s₂.slotsUsed }
      rw [State.setFrames_self ht]
    subst hg
    refine Or.inl ⟨v, ⟨(({ U with heap := s₂.heap, slotsUsed := s₂.slotsUsed } : State).setVm s₂.vm), Ls ++ L, c0 + mc, s0 + ms⟩,
      ⟨X.admits, X.cas, X.clock, X.frames, X.room, X.hears, X.method, X.code, (X.here.setHeapUsed s₂.heap s₂.slotsUsed).setVm hW'.alike, X.tail, State.WarmedH.trans X.warmed hW', X.limits, X.bytes, X.same.trans (hsame.setVm s.vm)⟩,
      ⟨g, mk, s₂, L, rfl, rfl, hqc, rfl, hL, rfl, rfl⟩, ?_⟩
    show Steps p.tables e below _ ((({ U with heap := s₂.heap, slotsUsed := s₂.slotsUsed } : State).setVm s₂.vm).setTop { g with pc := g.pc + len₂, stack := v.toList ++ g.stack })
    rw [← hs₂]
    exact hsteps
  · obtain ⟨e2, q2, q3, q4, q5, q6⟩ := id hsm
    have e3 : s₂ = ({ (U.calling g mk a).setFrames s₂.frames with heap := s₂.heap, slotsUsed := s₂.slotsUsed } : State).setVm s₂.vm := by
      have : s₂ = ({ s₂ with vm := (U.calling g mk a).vm } : State).setVm s₂.vm := rfl
      rw [e2] at this
      exact this
    have hf₂ : s₂.frames = .throwing q :: .java g :: U.frames.tail := hend
    have hW' : U.WarmedH s₂.vm := hW₂
    have hs₂ : s₂ = ((({ U with heap := s₂.heap, slotsUsed := s₂.slotsUsed } : State).setVm s₂.vm).setTop g).pushFrame (.throwing q) := by
      refine e3.trans ?_
      rw [hf₂, State.calling_eq h.top, State.setFrames_setFrames, State.pushFrame, State.frames_setTop _ hr', State.setTop_of_frames _ hr', State.setFrames_setFrames, hr]
      rfl
    have hsame : U.sameButNew ({ U with heap := s₂.heap, slotsUsed := s₂.slotsUsed } : State) L mc ms := by
      refine ⟨?_, q2, q3, q4, q5, q6⟩
      obtain ⟨t, ht, -⟩ := State.frames_cons hr
      show ({ U with heap := s₂.heap, slotsUsed := s₂.slotsUsed } : State) = { U.setFrames U.frames with heap := s₂.heap, slotsUsed := s₂.slotsUsed }
      rw [State.setFrames_self ht]
    subst hg
    refine Or.inr ⟨q, ⟨(({ U with heap := s₂.heap, slotsUsed := s₂.slotsUsed } : State).setVm s₂.vm), Ls ++ L, c0 + mc, s0 + ms⟩,
      ⟨X.admits, X.cas, X.clock, X.frames, X.room, X.hears, X.method, X.code, (X.here.setHeapUsed s₂.heap s₂.slotsUsed).setVm hW'.alike, X.tail, State.WarmedH.trans X.warmed hW', X.limits, X.bytes, X.same.trans (hsame.setVm s.vm)⟩,
      ⟨g, mk, s₂, L, E, ce, rfl, rfl, hx, hce, hcv, hcl, rfl, hL, rfl, rfl⟩, ?_⟩
    show Steps p.tables e below _ (((({ U with heap := s₂.heap, slotsUsed := s₂.slotsUsed } : State).setVm s₂.vm).setTop g).pushFrame (.throwing q))
    rw [← hs₂]
    exact hsteps
end
variable {p : Program} {l : Launch} {e : Env} {R : Room} {s : State} {m : MethodId} {args : Array Value} {below : List Frame} {meth : Method} {c : Code} {T : State} {H : Heap} {locs : List Loc} {cells slots : Nat}
theorem vx_callVX (X : Stand p l e R s m args below meth c T locs cells slots) (hexec : p.tables.exec = Jvm.exec) {own C : String} {index : Nat} {y : MethodName} {bytes : ByteArray} {maxL : Nat} {ret : Option FieldType} {hh : List (Nat × Nat × Nat × Nat)}
    (hown : s.vm.findClass own = some m.cls) (hlink : (Cond.methodLink own index y).before args s = true) (hinst : (Cond.instanceMethod y).before args s = true) (hsel : (Cond.selects C y y).before args s = true)
    (hcode : (Cond.codeWith y bytes maxL ret hh).before args s = true) (hy : y.cls ≠ "java/lang/invoke/MethodHandle" ∧ y.cls ≠ "java/lang/invoke/VarHandle")
    {W9 : Nat} {Pre : Pt → Array Value → Prop} {Post : Pt → Array Value → Option Value → Pt → Prop} {PostX : Pt → Array Value → Addr → Pt → Prop} (hK : vx_Back l R p e below s args y 3 W9 Pre Post PostX)
    {b : Addr} {cellB : Cell} (hcell : T.heap[b]? = some cellB) (hobj : cellB.vm.isStatics = false) (hcls : s.vm.findClass C = some cellB.cls)
    {g : JFrame} (hg : g.method = m) (hsize : g.locals.size = c.maxLocals) {argsL rest : List Value} (hlen : ∀ sig, parseMethodDescriptor y.desc = some sig → argsL.length = sig.parameters.length)
    (hstack : g.stack = argsL.reverse ++ .ref b :: rest) (hW : 2 * g.monitorRoom + (rest.map fun v => v.category).sum ≤ W9) (hdg : decode c.code g.pc = .ok (.invokevirtual index, 3))
    (hpre : ∀ vm₁, s.WarmedH vm₁ → Pre ⟨T.setVm vm₁, locs, cells, slots⟩ (Value.ref b :: argsL).toArray) :
    (∃ (v : Option Value) (vm₁ : Vm) (B : Pt), s.WarmedH vm₁ ∧ Stand p l e R s m args below meth c B.U B.locs B.cells B.slots ∧ Post ⟨T.setVm vm₁, locs, cells, slots⟩ (Value.ref b :: argsL).toArray v B ∧
      ∀ target, Steps p.tables e below (B.U.setTop { g with pc := g.pc + 3, stack := v.toList ++ rest }) target → Steps p.tables e below (T.setTop g) target) ∨
    (∃ (q : Addr) (vm₁ : Vm) (B : Pt), s.WarmedH vm₁ ∧ Stand p l e R s m args below meth c B.U B.locs B.cells B.slots ∧ PostX ⟨T.setVm vm₁, locs, cells, slots⟩ (Value.ref b :: argsL).toArray q B ∧
      Steps p.tables e below (T.setTop g) ((B.U.setTop { g with stack := rest }).pushFrame (.throwing q))) := by
  obtain ⟨mk, methM, hnamed, hmethM, hstM, habM⟩ := Cond.instanceMethod_spec hinst
  obtain ⟨m8, methM', cM, hn8, hmethM', -, -, -, -, -, -, hsigM⟩ := Cond.codeWith_spec hcode
  cases Option.some.inj (hn8.symm.trans hnamed)
  cases hmethM.symm.trans hmethM'
  obtain ⟨c2, r2, m2, q1, q2, q3, q4, kP, hkP, hkPi⟩ := Cond.selects_spec hsel
  cases hcls.symm.trans q1
  cases (State.methodFound?_of_named hnamed hy).symm.trans q2
  cases hnamed.symm.trans q3
  have hselP : selectMethod e.platform s.vm cellB.cls mk = .method mk := by rw [Launch.admits_selectMethod X.admits]; exact q4
  obtain ⟨vm₁, X₁, hstep₁⟩ := X.invokevirtual hexec hown hlink hnamed hmethM hstM hkP hkPi hy (a := b) (cell := cellB) hcell
    (fun z h => by rw [h] at hobj; cases hobj) hselP hmethM habM hkP hkPi (g := g) hg (argsL := argsL) (rest := rest) (hlen _ hsigM) hstack hdg
  rcases hK m meth c ⟨T.setVm vm₁, locs, cells, slots⟩ { g with stack := rest } (.invokevirtual index) mk (Value.ref b :: argsL).toArray X₁ hg hsize hdg hW (X₁.named hnamed) (hpre vm₁ X₁.warmed) with ⟨v, B, X', hpost, hsteps⟩ | ⟨q, B, X', hpost, hsteps⟩
  · exact Or.inl ⟨v, vm₁, B, X₁.warmed, X', hpost, fun target h => hstep₁ _ fun acts => by rw [doInvoke_state]; exact hsteps.trans h⟩
  · exact Or.inr ⟨q, vm₁, B, X₁.warmed, X', hpost, hstep₁ _ fun acts => by rw [doInvoke_state]; exact hsteps⟩
theorem vx_callSX (X : Stand p l e R s m args below meth c T locs cells slots) (hexec : p.tables.exec = Jvm.exec) {own : String} {index : Nat} {y : MethodName} {bytes : ByteArray} {maxL : Nat} {ret : Option FieldType} {hh : List (Nat × Nat × Nat × Nat)}
    (hown : s.vm.findClass own = some m.cls) (hlink : (Cond.methodLink own index y).before args s = true) (hstat : (Cond.static y).before args s = true) (hinit : (Cond.initialized y.cls).before args s = true)
    (hcode : (Cond.codeWith y bytes maxL ret hh).before args s = true) (hy : y.cls ≠ "java/lang/invoke/MethodHandle" ∧ y.cls ≠ "java/lang/invoke/VarHandle")
    {W9 : Nat} {Pre : Pt → Array Value → Prop} {Post : Pt → Array Value → Option Value → Pt → Prop} {PostX : Pt → Array Value → Addr → Pt → Prop} (hK : vx_Back l R p e below s args y 3 W9 Pre Post PostX)
    {g : JFrame} (hg : g.method = m) (hsize : g.locals.size = c.maxLocals) {argsL rest : List Value} (hlen : ∀ sig, parseMethodDescriptor y.desc = some sig → argsL.length = sig.parameters.length)
    (hstack : g.stack = argsL.reverse ++ rest) (hW : 2 * g.monitorRoom + (rest.map fun v => v.category).sum ≤ W9) (hdg : decode c.code g.pc = .ok (.invokestatic index, 3))
    (hpre : ∀ vm₁, s.WarmedH vm₁ → Pre ⟨T.setVm vm₁, locs, cells, slots⟩ argsL.toArray) :
    (∃ (v : Option Value) (vm₁ : Vm) (B : Pt), s.WarmedH vm₁ ∧ Stand p l e R s m args below meth c B.U B.locs B.cells B.slots ∧ Post ⟨T.setVm vm₁, locs, cells, slots⟩ argsL.toArray v B ∧
      ∀ target, Steps p.tables e below (B.U.setTop { g with pc := g.pc + 3, stack := v.toList ++ rest }) target → Steps p.tables e below (T.setTop g) target) ∨
    (∃ (q : Addr) (vm₁ : Vm) (B : Pt), s.WarmedH vm₁ ∧ Stand p l e R s m args below meth c B.U B.locs B.cells B.slots ∧ PostX ⟨T.setVm vm₁, locs, cells, slots⟩ argsL.toArray q B ∧
      Steps p.tables e below (T.setTop g) ((B.U.setTop { g with stack := rest }).pushFrame (.throwing q))) := by
  obtain ⟨mk, methM, cM, hnamed, hmethM, -, -, -, -, -, -, hsigM⟩ := Cond.codeWith_spec hcode
  have hstatic : methM.isStatic = true := Cond.static_spec hnamed hmethM hstat
  obtain ⟨kP, hkP, -⟩ := className_of_methodNamed hnamed
  have hinitP : kP.init = .initialized := Cond.initialized_spec (findClass_of_methodNamed hnamed) hkP hinit
  obtain ⟨vm₁, X₁, hstep₁⟩ := X.invokestatic hexec hown hlink hnamed hmethM hstatic hkP hinitP hy (g := g) hg (argsL := argsL) (rest := rest) (hlen _ hsigM) hstack hdg
  rcases hK m meth c ⟨T.setVm vm₁, locs, cells, slots⟩ { g with stack := rest } (.invokestatic index) mk argsL.toArray X₁ hg hsize hdg hW (X₁.named hnamed) (hpre vm₁ X₁.warmed) with ⟨v, B, X', hpost, hsteps⟩ | ⟨q, B, X', hpost, hsteps⟩
  · exact Or.inl ⟨v, vm₁, B, X₁.warmed, X', hpost, fun target h => hstep₁ _ fun acts => by rw [doInvoke_state]; exact hsteps.trans h⟩
  · exact Or.inr ⟨q, vm₁, B, X₁.warmed, X', hpost, hstep₁ _ fun acts => by rw [doInvoke_state]; exact hsteps⟩
theorem vx_callVW (X : Stand p l e R s m args below meth c T locs cells slots) (hexec : p.tables.exec = Jvm.exec) {own C : String} {index : Nat} {y : MethodName} {bytes : ByteArray} {maxL : Nat} {ret : Option FieldType} {hh : List (Nat × Nat × Nat × Nat)}
    (hown : s.vm.findClass own = some m.cls) (hlink : (Cond.methodLink own index y).before args s = true) (hinst : (Cond.instanceMethod y).before args s = true) (hsel : (Cond.selects C y y).before args s = true)
    (hcode : (Cond.codeWith y bytes maxL ret hh).before args s = true) (hy : y.cls ≠ "java/lang/invoke/MethodHandle" ∧ y.cls ≠ "java/lang/invoke/VarHandle")
    {W9 : Nat} {Pre : Pt → Array Value → Prop} {Post : Pt → Array Value → Option Value → Pt → Prop} (hK : Back l R p e below s args y 3 W9 Pre Post)
    {b : Addr} {cellB : Cell} (hcell : T.heap[b]? = some cellB) (hobj : cellB.vm.isStatics = false) (hcls : s.vm.findClass C = some cellB.cls)
    {g : JFrame} (hg : g.method = m) (hsize : g.locals.size = c.maxLocals) {argsL rest : List Value} (hlen : ∀ sig, parseMethodDescriptor y.desc = some sig → argsL.length = sig.parameters.length)
    (hstack : g.stack = argsL.reverse ++ .ref b :: rest) (hW : 2 * g.monitorRoom + (rest.map fun v => v.category).sum ≤ W9) (hdg : decode c.code g.pc = .ok (.invokevirtual index, 3))
    (hpre : ∀ vm₁, s.WarmedH vm₁ → Pre ⟨T.setVm vm₁, locs, cells, slots⟩ (Value.ref b :: argsL).toArray) :
    ∃ (v : Option Value) (vm₁ : Vm) (B : Pt), s.WarmedH vm₁ ∧ Stand p l e R s m args below meth c B.U B.locs B.cells B.slots ∧ Post ⟨T.setVm vm₁, locs, cells, slots⟩ (Value.ref b :: argsL).toArray v B ∧
      ∀ target, Steps p.tables e below (B.U.setTop { g with pc := g.pc + 3, stack := v.toList ++ rest }) target → Steps p.tables e below (T.setTop g) target := by
  obtain ⟨mk, methM, hnamed, hmethM, hstM, habM⟩ := Cond.instanceMethod_spec hinst
  obtain ⟨m8, methM', cM, hn8, hmethM', -, -, -, -, -, -, hsigM⟩ := Cond.codeWith_spec hcode
  cases Option.some.inj (hn8.symm.trans hnamed)
  cases hmethM.symm.trans hmethM'
  obtain ⟨c2, r2, m2, q1, q2, q3, q4, kP, hkP, hkPi⟩ := Cond.selects_spec hsel
  cases hcls.symm.trans q1
  cases (State.methodFound?_of_named hnamed hy).symm.trans q2
  cases hnamed.symm.trans q3
  have hselP : selectMethod e.platform s.vm cellB.cls mk = .method mk := by rw [Launch.admits_selectMethod X.admits]; exact q4
  obtain ⟨vm₁, X₁, hstep₁⟩ := X.invokevirtual hexec hown hlink hnamed hmethM hstM hkP hkPi hy (a := b) (cell := cellB) hcell
    (fun z h => by rw [h] at hobj; cases hobj) hselP hmethM habM hkP hkPi (g := g) hg (argsL := argsL) (rest := rest) (hlen _ hsigM) hstack hdg
  obtain ⟨v, B, X', hpost, hsteps⟩ := hK m meth c ⟨T.setVm vm₁, locs, cells, slots⟩ { g with stack := rest } (.invokevirtual index) mk (Value.ref b :: argsL).toArray X₁ hg hsize hdg hW (X₁.named hnamed) (hpre vm₁ X₁.warmed)
  exact ⟨v, vm₁, B, X₁.warmed, X', hpost, fun target h => hstep₁ _ fun acts => by rw [doInvoke_state]; exact hsteps.trans h⟩
abbrev vx_CVW (R : Room) (s : State) (args : Array Value) (own C : String) (index : Nat) (y : MethodName) (bytes : ByteArray) (maxL : Nat) (ret : Option FieldType) (hh : List (Nat × Nat × Nat × Nat)) (ws : List Cond) (rm : Room) (mc ms n : Nat) : Prop :=
  (rm.cells = mc ∧ rm.slots = ms ∧ rm.frames + 1 ≤ R.frames ∧ 8 + (maxL + 11) + rm.locals ≤ R.locals ∧ (∀ w ∈ ws, ∀ (a' : Array Value) (U : State), s.WarmedH U.vm → w.before a' U = true) ∧ Cond.codeWith y bytes maxL ret hh ∈ ws) ∧
  (Cond.codeWith y bytes maxL ret hh).before args s = true ∧ (Cond.initialized y.cls).before args s = true ∧ (y.cls ≠ "java/lang/invoke/MethodHandle" ∧ y.cls ≠ "java/lang/invoke/VarHandle") ∧
  (∀ sig, parseMethodDescriptor y.desc = some sig → n = sig.parameters.length) ∧ (Cond.methodLink own index y).before args s = true ∧ (Cond.instanceMethod y).before args s = true ∧ (Cond.selects C y y).before args s = true
theorem vx_cwVW {own C : String} {index maxL mc ms : Nat} {y : MethodName} {bytes : ByteArray} {ret : Option FieldType} {hh : List (Nat × Nat × Nat × Nat)} {Ts ws ws' : List Cond} {rm : Room} (n : Nat) (ht : ∀ w ∈ Ts, w.before args s = true) (hT : GoodIn Ts (wsV own index C y ws)) (hw : ws = Cond.codeWith y bytes maxL ret hh :: ws') (hrc : rm.cells = mc) (hrs : rm.slots = ms)
    (hd : y.cls = C ∧ y.cls ≠ "java/lang/invoke/MethodHandle" ∧ y.cls ≠ "java/lang/invoke/VarHandle" ∧ (parseMethodDescriptor y.desc).map (fun d => d.parameters.length) = some n) (hR : rm.frames + 1 ≤ R.frames ∧ 8 + (maxL + 11) + rm.locals ≤ R.locals) :
    vx_CVW R s args own C index y bytes maxL ret hh ws rm mc ms n := by
  obtain ⟨hC, hd⟩ := hd
  subst hC
  have ok : ∀ w ∈ wsV own index y.cls y ws, w.before args s = true := fun w h => ht w (hT w h).1
  have hG : GoodIn Ts ws := fun w h => hT w (by unfold wsV; exact List.mem_append_right _ h)
  have hc : Cond.codeWith y bytes maxL ret hh ∈ ws := by rw [hw]; exact List.mem_cons_self
  refine ⟨⟨hrc, hrs, hR.1, hR.2, pay_in ht hG, hc⟩, ht _ (hG _ hc).1, ok _ (by simp [wsV]), ⟨hd.1, hd.2.1⟩, fun sig h => ?_, ok _ (by simp [wsV]), ok _ (by simp [wsV]), ok _ (by simp [wsV])⟩
  have h2 := hd.2.2
  rw [h] at h2
  exact (Option.some.inj h2).symm
theorem vx_runVW {y : MethodName} {bytes cc : ByteArray} {maxL nL mc ms n index : Nat} {ret : Option FieldType} {hh : List (Nat × Nat × Nat × Nat)} {ws : List Cond} {rm : Room} {Pc : Array Value → State → Prop} {Qc : Array Value → State → Outcome → State → Prop} {free : Addr → Prop} {Ts : List Cond} {own C : String} {b : Addr} {As rest : List Value} {g : JFrame}
    (S : CallFix p m c cc nL s args Ts own) (hM : Met l y ws rm Pc Qc mc ms free) (cw : vx_CVW R s args own C index y bytes maxL ret hh ws rm mc ms n) (hp : PreV s H C b Pc As)
    (hg : g.method = m) (hn : As.length = n) (hsize : g.locals.size = nL) (hstack : g.stack = As.reverse ++ .ref b :: rest) (hW : 2 * g.monitorRoom + (rest.map fun v => v.category).sum ≤ 8) (hdg : decode cc g.pc = .ok (.invokevirtual index, 3)) (hf : cells + mc ≤ R.cells ∧ slots + ms ≤ R.slots) :
    va_Run p l e R s m args below meth c H locs cells slots mc ms g rest (Qc (Value.ref b :: As).toArray) free := by
  obtain ⟨⟨hrc, hrs, hfr, hlo, hws, hcw⟩, hcode, hini, hy, hlen, hl, hin, hse⟩ := cw
  have hK : Back l R p e below s args y 3 8 (PreOf R mc ms Pc) (PostOf Qc mc ms free) := va_backW (hh := hh) (bytes := bytes) (maxL := maxL) (ret := ret) hM hp.1 hrc hrs hfr hlo hws hcw (fun a' U hW => word_at hW (Or.inl (by first | rfl | simp [Cond.onTables, Cond.keeps, Cond.steady])) hini)
  obtain ⟨hx, hb, hml, ho, -⟩ := S
  obtain ⟨-, ⟨cellB, hcB, hoB, hclB⟩, hPc⟩ := hp
  intro T hT X
  obtain ⟨v, vm₁, ⟨U', l2, c2, s2⟩, hW₁, X', ⟨g', mk, t, L, e1, e2, hq, h1, hL, h2, h3⟩, st⟩ := vx_callVW X hx (C := C) (hh := hh) (bytes := bytes) (maxL := maxL) (ret := ret) ho hl hin hse hcode hy hK (by rw [hT]; exact hcB) hoB hclB hg (hsize.trans hml.symm) (argsL := As) (rest := rest) (fun sig h => hn.trans (hlen sig h)) hstack hW (by rw [hb]; exact hdg)
    (fun vm₁ hW₁ => ⟨hf.1, hf.2, hPc (T.setVm vm₁) hT hW₁⟩)
  dsimp only [Pt.U, Pt.locs, Pt.cells, Pt.slots] at X' e1 e2 h1 h2 h3 st
  subst h1; subst h2; subst h3
  exact ⟨v, (T.setVm vm₁).calling g' mk (Value.ref b :: As).toArray, t, U', L, hT, X', hL, e1, e2, hq, st⟩
section
variable {y : MethodName} {bytes cc : ByteArray} {maxL nL mc ms n index : Nat} {ret : Option FieldType} {ws : List Cond} {rm : Room} {Pc : Array Value → State → Prop} {Qc : Array Value → State → Outcome → State → Prop} {XC : String → State → State → Prop} {free : Addr → Prop} {Ts : List Cond} {own C : String} {b : Addr} {As rest : List Value} {g : JFrame}
theorem vx_runVX {hh : List (Nat × Nat × Nat × Nat)} (S : CallFix p m c cc nL s args Ts own) (hM : vx_Met l y ws rm Pc Qc XC mc ms free) (cw : vx_CVW R s args own C index y bytes maxL ret hh ws rm mc ms n) (hp : PreV s H C b Pc As)
    (hg : g.method = m) (hn : As.length = n) (hsize : g.locals.size = nL) (hstack : g.stack = As.reverse ++ .ref b :: rest) (hW : 2 * g.monitorRoom + (rest.map fun v => v.category).sum ≤ 8) (hdg : decode cc g.pc = .ok (.invokevirtual index, 3)) (hf : cells + mc ≤ R.cells ∧ slots + ms ≤ R.slots) :
    vx_Run p l e R s m args below meth c H locs cells slots mc ms g rest (Qc (Value.ref b :: As).toArray) XC free := by
  obtain ⟨⟨hrc, hrs, hfr, hlo, hws, hcw⟩, hcode, hini, hy, hlen, hl, hin, hse⟩ := cw
  have hK : vx_Back l R p e below s args y 3 8 (PreOf R mc ms Pc) (PostOf Qc mc ms free) (vx_Post XC mc ms free) := vx_backW (hh := hh) (bytes := bytes) (maxL := maxL) (ret := ret) hM hp.1 hrc hrs hfr hlo hws hcw (fun a' U hW => word_at hW (Or.inl (by first | rfl | simp [Cond.onTables, Cond.keeps, Cond.steady])) hini)
  obtain ⟨hx, hb, hml, ho, -⟩ := S
  obtain ⟨-, ⟨cellB, hcB, hoB, hclB⟩, hPc⟩ := hp
  intro T hT X
  rcases vx_callVX X hx (C := C) (hh := hh) (bytes := bytes) (maxL := maxL) (ret := ret) ho hl hin hse hcode hy hK (by rw [hT]; exact hcB) hoB hclB hg (hsize.trans hml.symm) (argsL := As) (rest := rest) (fun sig h => hn.trans (hlen sig h)) hstack hW (by rw [hb]; exact hdg)
    (fun vm₁ hW₁ => ⟨hf.1, hf.2, hPc (T.setVm vm₁) hT hW₁⟩) with ⟨v, vm₁, ⟨U', l2, c2, s2⟩, hW₁, X', ⟨g', mk, t, L, e1, e2, hq, h1, hL, h2, h3⟩, st⟩ | ⟨q, vm₁, ⟨U', l2, c2, s2⟩, hW₁, X', ⟨g', mk, t, L, E, ce, e1, e2, hq, hce, hcv, hcl, h1, hL, h2, h3⟩, st⟩
  · dsimp only [Pt.U, Pt.locs, Pt.cells, Pt.slots] at X' e1 e2 h1 h2 h3 st
    subst h1; subst h2; subst h3
    exact Or.inl ⟨v, (T.setVm vm₁).calling g' mk (Value.ref b :: As).toArray, t, U', L, hT, X', hL, e1, e2, hq, st⟩
  · dsimp only [Pt.U, Pt.locs, Pt.cells, Pt.slots] at X' e1 e2 h1 h2 h3 st hcl
    subst h1; subst h2; subst h3
    exact Or.inr ⟨q, (T.setVm vm₁).calling g' mk (Value.ref b :: As).toArray, t, U', L, E, ce, hT, X', hL, e1, e2, hq, hce, hcv, vx_cls hW₁ hcl, st⟩
theorem vx_runSX {hh : List (Nat × Nat × Nat × Nat)} (S : CallFix p m c cc nL s args Ts own) (hM : vx_Met l y ws rm Pc Qc XC mc ms free) (cw : vx_CSW R s args own index y bytes maxL ret hh ws rm mc ms n) (hp : PreS s H Pc As)
    (hg : g.method = m) (hn : As.length = n) (hsize : g.locals.size = nL) (hstack : g.stack = As.reverse ++ rest) (hW : 2 * g.monitorRoom + (rest.map fun v => v.category).sum ≤ 8) (hdg : decode cc g.pc = .ok (.invokestatic index, 3)) (hf : cells + mc ≤ R.cells ∧ slots + ms ≤ R.slots) :
    vx_Run p l e R s m args below meth c H locs cells slots mc ms g rest (Qc As.toArray) XC free := by
  obtain ⟨⟨hrc, hrs, hfr, hlo, hws, hcw⟩, hcode, hini, hy, hlen, hl, hstt⟩ := cw
  have hK : vx_Back l R p e below s args y 3 8 (PreOf R mc ms Pc) (PostOf Qc mc ms free) (vx_Post XC mc ms free) := vx_backW (hh := hh) (bytes := bytes) (maxL := maxL) (ret := ret) hM hp.1 hrc hrs hfr hlo hws hcw (fun a' U hW => word_at hW (Or.inl (by first | rfl | simp [Cond.onTables, Cond.keeps, Cond.steady])) hini)
  obtain ⟨hx, hb, hml, ho, -⟩ := S
  intro T hT X
  rcases vx_callSX X hx (hh := hh) (bytes := bytes) (maxL := maxL) (ret := ret) ho hl hstt hini hcode hy hK hg (hsize.trans hml.symm) (argsL := As) (rest := rest) (fun sig h => hn.trans (hlen sig h)) hstack hW (by rw [hb]; exact hdg)
    (fun vm₁ hW₁ => ⟨hf.1, hf.2, hp.2 (T.setVm vm₁) hT hW₁⟩) with ⟨v, vm₁, ⟨U', l2, c2, s2⟩, hW₁, X', ⟨g', mk, t, L, e1, e2, hq, h1, hL, h2, h3⟩, st⟩ | ⟨q, vm₁, ⟨U', l2, c2, s2⟩, hW₁, X', ⟨g', mk, t, L, E, ce, e1, e2, hq, hce, hcv, hcl, h1, hL, h2, h3⟩, st⟩
  · dsimp only [Pt.U, Pt.locs, Pt.cells, Pt.slots] at X' e1 e2 h1 h2 h3 st
    subst h1; subst h2; subst h3
    exact Or.inl ⟨v, (T.setVm vm₁).calling g' mk As.toArray, t, U', L, hT, X', hL, e1, e2, hq, st⟩
  · dsimp only [Pt.U, Pt.locs, Pt.cells, Pt.slots] at X' e1 e2 h1 h2 h3 st hcl
    subst h1; subst h2; subst h3
    exact Or.inr ⟨q, (T.setVm vm₁).calling g' mk As.toArray, t, U', L, E, ce, hT, X', hL, e1, e2, hq, hce, hcv, vx_cls hW₁ hcl, st⟩
end
end VXH
theorem vx_ofWH {l : Launch} {y : MethodName} {ws ws' : List Cond} {rm : Room} {Pc : Array Value → State → Prop} {Qc : Array Value → State → Outcome → State → Prop} {XC : String → State → State → Prop} {mc ms : Nat} {free : Addr → Prop} {cc : ByteArray} {maxL : Nat} {ret : Option FieldType} {hh : List (Nat × Nat × Nat × Nat)}
    (hy : plainName y.cls = true) (hw : ws = Cond.codeWith y cc maxL ret hh :: ws')
    (body : ∀ p e s m args below meth c s₁, BodyLoose p l y (headSpec ws rm) cc maxL ret e s m args below meth c s₁ → c.maxLocals = maxL → Pc args s →
      W p l e (headSpec ws rm).room s m args below meth c s.heap [] 0 0 (vx_MQ below Qc XC args s mc ms free) (entryFrame m args maxL)) : vx_Met l y ws rm Pc Qc XC mc ms free := by
  refine MetFree.of_bodyS (code := cc) (maxLocals := maxL) (ret := ret) hy ?_ ?_
  · intro args s m h hn
    obtain ⟨m9, meth, c, hn9, h1, h2, h3, h4, -, h5, h6, -⟩ := Cond.codeWith_spec (atoms_spec (ws := ws) h _ (by rw [hw]; exact List.mem_cons_self))
    cases hn.symm.trans hn9
    exact ⟨meth, c, h1, h2, h3, h4, h5, h6⟩
  · intro p e s m args below meth c s₁ B hml hP _
    have hh0 : s₁.heap = s.heap := by rw [B.state]; rfl
    obtain ⟨t, a1, o, b1, b2, b3⟩ := body p e s m args below meth c s₁ B hml hP s₁ hh0 (Stand.of_body B)
    exact ⟨t, o, a1, b1, b2, b3⟩
/-! ===== END ===== -/
end
section
def RX0 : String := "TaleSums$Changes"
def TX0 : u_T := fun k => match k with
  | 0 => ("TaleSums$Changes", "sentences", "[I", true)
  | 1 => ("TaleSums$Changes", "numbers", "[I", true)
  | _ => ("TaleSums$Changes", "size", "I", false)
def tyX0 : Nat → FieldType := fun k => match k with
  | 0 => .array .int
  | 1 => .array .int
  | _ => .int
abbrev wsX00 : List Cond := u_ws RX0 TX0 3
theorem nmX0 : ∀ a, a < 3 → ∀ b, b < 3 → a ≠ b → (TX0 a).2.1 ≠ (TX0 b).2.1 := by decide +kernel
theorem tyX0_ok : ∀ k, k < 3 → parseFieldDescriptor (TX0 k).2.2.1 = some (tyX0 k) := by decide +kernel
abbrev cX0_init : ByteArray := prog_2_method_1_code
def yX0_init : MethodName := ⟨RX0, "<init>", "()V"⟩
abbrev cX0_clear : ByteArray := prog_2_method_2_code
def yX0_clear : MethodName := ⟨RX0, "clear", "()V"⟩
abbrev cX0_size : ByteArray := prog_2_method_3_code
def yX0_size : MethodName := ⟨RX0, "size", "()I"⟩
abbrev cX0_keep : ByteArray := prog_2_method_4_code
def yX0_keep : MethodName := ⟨RX0, "keep", "(II)V"⟩
abbrev cX0_dropFirst : ByteArray := prog_2_method_5_code
def yX0_dropFirst : MethodName := ⟨RX0, "dropFirst", "()V"⟩
abbrev cX0_dropLast : ByteArray := prog_2_method_6_code
def yX0_dropLast : MethodName := ⟨RX0, "dropLast", "()V"⟩
abbrev cX0_lastSentence : ByteArray := prog_2_method_7_code
def yX0_lastSentence : MethodName := ⟨RX0, "lastSentence", "()I"⟩
abbrev cX0_lastNumber : ByteArray := prog_2_method_8_code
def yX0_lastNumber : MethodName := ⟨RX0, "lastNumber", "()I"⟩
def RX1 : String := "TaleSums$Laws"
def TX1 : u_T := fun k => match k with
  | 0 => ("TaleSums$Laws", "rows", "[[J", true)
  | _ => ("TaleSums$Laws", "leads", "[Z", true)
def tyX1 : Nat → FieldType := fun k => match k with
  | 0 => .array (.array .long)
  | _ => .array .boolean
abbrev wsX10 : List Cond := u_ws RX1 TX1 2
theorem nmX1 : ∀ a, a < 2 → ∀ b, b < 2 → a ≠ b → (TX1 a).2.1 ≠ (TX1 b).2.1 := by decide +kernel
theorem tyX1_ok : ∀ k, k < 2 → parseFieldDescriptor (TX1 k).2.2.1 = some (tyX1 k) := by decide +kernel
abbrev cX1_init : ByteArray := prog_3_method_1_code
def yX1_init : MethodName := ⟨RX1, "<init>", "()V"⟩
abbrev cX1_clear : ByteArray := prog_3_method_2_code
def yX1_clear : MethodName := ⟨RX1, "clear", "()V"⟩
abbrev cX1_add : ByteArray := prog_3_method_3_code
def yX1_add : MethodName := ⟨RX1, "add", "([J)Z"⟩
abbrev cX1_reduce : ByteArray := prog_3_method_4_code
def yX1_reduce : MethodName := ⟨RX1, "reduce", "([J)V"⟩
abbrev cX1_firstName : ByteArray := prog_3_method_5_code
def yX1_firstName : MethodName := ⟨RX1, "firstName", "([J)I"⟩
abbrev cX1_negate : ByteArray := prog_3_method_6_code
def yX1_negate : MethodName := ⟨RX1, "negate", "([J)V"⟩
abbrev cX1_eliminate : ByteArray := prog_3_method_7_code
def yX1_eliminate : MethodName := ⟨RX1, "eliminate", "([J[JI)V"⟩
abbrev cX1_gcd : ByteArray := prog_3_method_8_code
def yX1_gcd : MethodName := ⟨RX1, "gcd", "(JJ)J"⟩
def RX2 : String := "TaleSums$Reader"
def TX2 : u_T := fun k => match k with
  | _ => ("TaleSums$Reader", "tape", "LTaleSums$Tape;", true)
def tyX2 : Nat → FieldType := fun k => match k with
  | _ => .object "TaleSums$Tape"
abbrev wsX20 : List Cond := u_ws RX2 TX2 1
theorem nmX2 : ∀ a, a < 1 → ∀ b, b < 1 → a ≠ b → (TX2 a).2.1 ≠ (TX2 b).2.1 := by decide +kernel
theorem tyX2_ok : ∀ k, k < 1 → parseFieldDescriptor (TX2 k).2.2.1 = some (tyX2 k) := by decide +kernel
abbrev cX2_init : ByteArray := prog_4_method_1_code
def yX2_init : MethodName := ⟨RX2, "<init>", "(LTaleSums$Tape;)V"⟩
abbrev cX2_read : ByteArray := prog_4_method_2_code
def yX2_read : MethodName := ⟨RX2, "read", "(LTaleSums$Story;)I"⟩
abbrev cX2_readSentence : ByteArray := prog_4_method_3_code
def yX2_readSentence : MethodName := ⟨RX2, "readSentence", "(LTaleSums$Story;)Z"⟩
abbrev cX2_readHas : ByteArray := prog_4_method_4_code
def yX2_readHas : MethodName := ⟨RX2, "readHas", "(LTaleSums$Story;I)Z"⟩
abbrev cX2_readPlain : ByteArray := prog_4_method_5_code
def yX2_readPlain : MethodName := ⟨RX2, "readPlain", "(LTaleSums$Story;I)Z"⟩
abbrev cX2_readUnit : ByteArray := prog_4_method_6_code
def yX2_readUnit : MethodName := ⟨RX2, "readUnit", "(LTaleSums$Story;)Z"⟩
abbrev cX2_readSecond : ByteArray := prog_4_method_7_code
def yX2_readSecond : MethodName := ⟨RX2, "readSecond", "(LTaleSums$Story;I)Z"⟩
abbrev cX2_readQuestion : ByteArray := prog_4_method_8_code
def yX2_readQuestion : MethodName := ⟨RX2, "readQuestion", "(LTaleSums$Story;)Z"⟩
abbrev cX2_takeAskedSort : ByteArray := prog_4_method_9_code
def yX2_takeAskedSort : MethodName := ⟨RX2, "takeAskedSort", "()I"⟩
def RX3 : String := "TaleSums$Story"
def TX3 : u_T := fun k => match k with
  | 0 => ("TaleSums$Story", "parts", "[[I", true)
  | 1 => ("TaleSums$Story", "asked", "[I", true)
  | 2 => ("TaleSums$Story", "size", "I", false)
  | 3 => ("TaleSums$Story", "lastStage", "I", false)
  | 4 => ("TaleSums$Story", "factBits", "I", false)
  | _ => ("TaleSums$Story", "told", "Z", false)
def tyX3 : Nat → FieldType := fun k => match k with
  | 0 => .array (.array .int)
  | 1 => .array .int
  | 2 => .int
  | 3 => .int
  | 4 => .int
  | _ => .boolean
abbrev wsX30 : List Cond := u_ws RX3 TX3 6
theorem nmX3 : ∀ a, a < 6 → ∀ b, b < 6 → a ≠ b → (TX3 a).2.1 ≠ (TX3 b).2.1 := by decide +kernel
theorem tyX3_ok : ∀ k, k < 6 → parseFieldDescriptor (TX3 k).2.2.1 = some (tyX3 k) := by decide +kernel
abbrev cX3_init : ByteArray := prog_5_method_1_code
def yX3_init : MethodName := ⟨RX3, "<init>", "()V"⟩
abbrev cX3_clear : ByteArray := prog_5_method_2_code
def yX3_clear : MethodName := ⟨RX3, "clear", "()V"⟩
abbrev cX3_open : ByteArray := prog_5_method_3_code
def yX3_open : MethodName := ⟨RX3, "open", "(II)V"⟩
abbrev cX3_tell : ByteArray := prog_5_method_4_code
def yX3_tell : MethodName := ⟨RX3, "tell", "(II)V"⟩
abbrev cX3_close : ByteArray := prog_5_method_5_code
def yX3_close : MethodName := ⟨RX3, "close", "()V"⟩
abbrev cX3_ask : ByteArray := prog_5_method_6_code
def yX3_ask : MethodName := ⟨RX3, "ask", "(IIII)V"⟩
abbrev cX3_size : ByteArray := prog_5_method_7_code
def yX3_size : MethodName := ⟨RX3, "size", "()I"⟩
abbrev cX3_facts : ByteArray := prog_5_method_8_code
def yX3_facts : MethodName := ⟨RX3, "facts", "()I"⟩
abbrev cX3_stages : ByteArray := prog_5_method_9_code
def yX3_stages : MethodName := ⟨RX3, "stages", "()I"⟩
abbrev cX3_has : ByteArray := prog_5_method_10_code
def yX3_has : MethodName := ⟨RX3, "has", "(I)Z"⟩
abbrev cX3_part : ByteArray := prog_5_method_11_code
def yX3_part : MethodName := ⟨RX3, "part", "(II)I"⟩
abbrev cX3_asked : ByteArray := prog_5_method_12_code
def yX3_asked : MethodName := ⟨RX3, "asked", "(I)I"⟩
abbrev cX3_allows : ByteArray := prog_5_method_13_code
def yX3_allows : MethodName := ⟨RX3, "allows", "(II)Z"⟩
abbrev cX3_setNumber : ByteArray := prog_5_method_14_code
def yX3_setNumber : MethodName := ⟨RX3, "setNumber", "(II)V"⟩
abbrev cX3_gain : ByteArray := prog_5_method_15_code
def yX3_gain : MethodName := ⟨RX3, "gain", "(III)J"⟩
abbrev cX3_gainBy : ByteArray := prog_5_method_16_code
def yX3_gainBy : MethodName := ⟨RX3, "gainBy", "([II)I"⟩
def RX4 : String := "TaleSums$Sums"
def TX4 : u_T := fun k => match k with
  | 0 => ("TaleSums$Sums", "lawsOf", "[LTaleSums$Laws;", true)
  | 1 => ("TaleSums$Sums", "someLaws", "LTaleSums$Laws;", true)
  | 2 => ("TaleSums$Sums", "factLaws", "[[J", true)
  | 3 => ("TaleSums$Sums", "questionLaw", "[J", true)
  | 4 => ("TaleSums$Sums", "law", "[J", true)
  | 5 => ("TaleSums$Sums", "otherLaw", "[J", true)
  | 6 => ("TaleSums$Sums", "tops", "[J", true)
  | 7 => ("TaleSums$Sums", "bottoms", "[J", true)
  | 8 => ("TaleSums$Sums", "story", "LTaleSums$Story;", false)
  | 9 => ("TaleSums$Sums", "quarrel", "I", false)
  | 10 => ("TaleSums$Sums", "answerTop", "J", false)
  | 11 => ("TaleSums$Sums", "answerBottom", "J", false)
  | 12 => ("TaleSums$Sums", "idle", "I", false)
  | _ => ("TaleSums$Sums", "fewest", "I", false)
def tyX4 : Nat → FieldType := fun k => match k with
  | 0 => .array (.object "TaleSums$Laws")
  | 1 => .object "TaleSums$Laws"
  | 2 => .array (.array .long)
  | 3 => .array .long
  | 4 => .array .long
  | 5 => .array .long
  | 6 => .array .long
  | 7 => .array .long
  | 8 => .object "TaleSums$Story"
  | 9 => .int
  | 10 => .long
  | 11 => .long
  | 12 => .int
  | _ => .int
abbrev wsX40 : List Cond := u_ws RX4 TX4 14
theorem nmX4 : ∀ a, a < 14 → ∀ b, b < 14 → a ≠ b → (TX4 a).2.1 ≠ (TX4 b).2.1 := by decide +kernel
theorem tyX4_ok : ∀ k, k < 14 → parseFieldDescriptor (TX4 k).2.2.1 = some (tyX4 k) := by decide +kernel
abbrev cX4_init : ByteArray := prog_6_method_1_code
def yX4_init : MethodName := ⟨RX4, "<init>", "(LTaleSums$Story;)V"⟩
abbrev cX4_begin : ByteArray := prog_6_method_2_code
def yX4_begin : MethodName := ⟨RX4, "begin", "(LTaleSums$Story;)V"⟩
abbrev cX4_solve : ByteArray := prog_6_method_3_code
def yX4_solve : MethodName := ⟨RX4, "solve", "()V"⟩
abbrev cX4_makeLaws : ByteArray := prog_6_method_4_code
def yX4_makeLaws : MethodName := ⟨RX4, "makeLaws", "()V"⟩
abbrev cX4_madeBy : ByteArray := prog_6_method_5_code
def yX4_madeBy : MethodName := ⟨RX4, "madeBy", "(II)I"⟩
abbrev cX4_secondWeight : ByteArray := prog_6_method_6_code
def yX4_secondWeight : MethodName := ⟨RX4, "secondWeight", "(II)I"⟩
abbrev cX4_startSought : ByteArray := prog_6_method_7_code
def yX4_startSought : MethodName := ⟨RX4, "startSought", "([J)V"⟩
abbrev cX4_weigh : ByteArray := prog_6_method_8_code
def yX4_weigh : MethodName := ⟨RX4, "weigh", "([JIIII)V"⟩
abbrev cX4_addFacts : ByteArray := prog_6_method_9_code
def yX4_addFacts : MethodName := ⟨RX4, "addFacts", "()V"⟩
abbrev cX4_isFact : ByteArray := prog_6_method_10_code
def yX4_isFact : MethodName := ⟨RX4, "isFact", "(I)Z"⟩
abbrev cX4_settleAmounts : ByteArray := prog_6_method_11_code
def yX4_settleAmounts : MethodName := ⟨RX4, "settleAmounts", "()V"⟩
abbrev cX4_settleAnswer : ByteArray := prog_6_method_12_code
def yX4_settleAnswer : MethodName := ⟨RX4, "settleAnswer", "()V"⟩
abbrev cX4_quarrelAt : ByteArray := prog_6_method_13_code
def yX4_quarrelAt : MethodName := ⟨RX4, "quarrelAt", "()I"⟩
abbrev cX4_hasAnswer : ByteArray := prog_6_method_14_code
def yX4_hasAnswer : MethodName := ⟨RX4, "hasAnswer", "()Z"⟩
abbrev cX4_answerPart : ByteArray := prog_6_method_15_code
def yX4_answerPart : MethodName := ⟨RX4, "answerPart", "(I)J"⟩
abbrev cX4_amountPart : ByteArray := prog_6_method_16_code
def yX4_amountPart : MethodName := ⟨RX4, "amountPart", "(IIII)J"⟩
abbrev cX4_topAt : ByteArray := prog_6_method_17_code
def yX4_topAt : MethodName := ⟨RX4, "topAt", "(III)J"⟩
abbrev cX4_settledAtFirst : ByteArray := prog_6_method_18_code
def yX4_settledAtFirst : MethodName := ⟨RX4, "settledAtFirst", "()I"⟩
abbrev cX4_strangePart : ByteArray := prog_6_method_19_code
def yX4_strangePart : MethodName := ⟨RX4, "strangePart", "(I)I"⟩
abbrev cX4_isStrange : ByteArray := prog_6_method_20_code
def yX4_isStrange : MethodName := ⟨RX4, "isStrange", "(III)Z"⟩
abbrev cX4_choose : ByteArray := prog_6_method_21_code
def yX4_choose : MethodName := ⟨RX4, "choose", "(IIII)I"⟩
abbrev cX4_lackingName : ByteArray := prog_6_method_22_code
def yX4_lackingName : MethodName := ⟨RX4, "lackingName", "()I"⟩
abbrev cX4_areAlongside : ByteArray := prog_6_method_23_code
def yX4_areAlongside : MethodName := ⟨RX4, "areAlongside", "([J[J)Z"⟩
abbrev cX4_idleFacts : ByteArray := prog_6_method_24_code
def yX4_idleFacts : MethodName := ⟨RX4, "idleFacts", "()I"⟩
abbrev cX4_fewestFacts : ByteArray := prog_6_method_25_code
def yX4_fewestFacts : MethodName := ⟨RX4, "fewestFacts", "()I"⟩
abbrev cX4_seekFewest : ByteArray := prog_6_method_26_code
def yX4_seekFewest : MethodName := ⟨RX4, "seekFewest", "(II)I"⟩
abbrev cX4_factsOf : ByteArray := prog_6_method_27_code
def yX4_factsOf : MethodName := ⟨RX4, "factsOf", "(I)I"⟩
abbrev cX4_isSettledBy : ByteArray := prog_6_method_28_code
def yX4_isSettledBy : MethodName := ⟨RX4, "isSettledBy", "(I)Z"⟩
def RX5 : String := "TaleSums$Tape"
def TX5 : u_T := fun k => match k with
  | 0 => ("TaleSums$Tape", "bytes", "[I", true)
  | 1 => ("TaleSums$Tape", "length", "I", false)
  | 2 => ("TaleSums$Tape", "from", "I", false)
  | _ => ("TaleSums$Tape", "to", "I", false)
def tyX5 : Nat → FieldType := fun k => match k with
  | 0 => .array .int
  | 1 => .int
  | 2 => .int
  | _ => .int
abbrev wsX50 : List Cond := u_ws RX5 TX5 4
theorem nmX5 : ∀ a, a < 4 → ∀ b, b < 4 → a ≠ b → (TX5 a).2.1 ≠ (TX5 b).2.1 := by decide +kernel
theorem tyX5_ok : ∀ k, k < 4 → parseFieldDescriptor (TX5 k).2.2.1 = some (tyX5 k) := by decide +kernel
abbrev cX5_init : ByteArray := prog_7_method_1_code
def yX5_init : MethodName := ⟨RX5, "<init>", "()V"⟩
abbrev cX5_filledBytes : ByteArray := prog_7_method_2_code
def yX5_filledBytes : MethodName := ⟨RX5, "filledBytes", "(I)I"⟩
abbrev cX5_size : ByteArray := prog_7_method_3_code
def yX5_size : MethodName := ⟨RX5, "size", "()I"⟩
abbrev cX5_append : ByteArray := prog_7_method_4_code
def yX5_append : MethodName := ⟨RX5, "append", "(I)V"⟩
abbrev cX5_cut : ByteArray := prog_7_method_5_code
def yX5_cut : MethodName := ⟨RX5, "cut", "(I)Z"⟩
abbrev cX5_rewind : ByteArray := prog_7_method_6_code
def yX5_rewind : MethodName := ⟨RX5, "rewind", "()V"⟩
abbrev cX5_advance : ByteArray := prog_7_method_7_code
def yX5_advance : MethodName := ⟨RX5, "advance", "()V"⟩
abbrev cX5_isLetter : ByteArray := prog_7_method_8_code
def yX5_isLetter : MethodName := ⟨RX5, "isLetter", "(I)Z"⟩
abbrev cX5_isDigit : ByteArray := prog_7_method_9_code
def yX5_isDigit : MethodName := ⟨RX5, "isDigit", "(I)Z"⟩
abbrev cX5_start : ByteArray := prog_7_method_10_code
def yX5_start : MethodName := ⟨RX5, "start", "()I"⟩
abbrev cX5_isOver : ByteArray := prog_7_method_11_code
def yX5_isOver : MethodName := ⟨RX5, "isOver", "()Z"⟩
abbrev cX5_take : ByteArray := prog_7_method_12_code
def yX5_take : MethodName := ⟨RX5, "take", "(Ljava/lang/String;)Z"⟩
abbrev cX5_takeName : ByteArray := prog_7_method_13_code
def yX5_takeName : MethodName := ⟨RX5, "takeName", "(I)I"⟩
abbrev cX5_takeUnit : ByteArray := prog_7_method_14_code
def yX5_takeUnit : MethodName := ⟨RX5, "takeUnit", "()I"⟩
abbrev cX5_find : ByteArray := prog_7_method_15_code
def yX5_find : MethodName := ⟨RX5, "find", "(Ljava/lang/String;II)I"⟩
abbrev cX5_takeNumber : ByteArray := prog_7_method_16_code
def yX5_takeNumber : MethodName := ⟨RX5, "takeNumber", "()I"⟩
def RX6 : String := "TaleSums"
def TX6 : u_T := fun k => match k with
  | 0 => ("TaleSums", "tape", "LTaleSums$Tape;", true)
  | 1 => ("TaleSums", "reader", "LTaleSums$Reader;", true)
  | 2 => ("TaleSums", "changes", "LTaleSums$Changes;", true)
  | 3 => ("TaleSums", "sums", "LTaleSums$Sums;", true)
  | 4 => ("TaleSums", "story", "LTaleSums$Story;", false)
  | _ => ("TaleSums", "draft", "LTaleSums$Story;", false)
def tyX6 : Nat → FieldType := fun k => match k with
  | 0 => .object "TaleSums$Tape"
  | 1 => .object "TaleSums$Reader"
  | 2 => .object "TaleSums$Changes"
  | 3 => .object "TaleSums$Sums"
  | 4 => .object "TaleSums$Story"
  | _ => .object "TaleSums$Story"
abbrev wsX60 : List Cond := u_ws RX6 TX6 6
theorem nmX6 : ∀ a, a < 6 → ∀ b, b < 6 → a ≠ b → (TX6 a).2.1 ≠ (TX6 b).2.1 := by decide +kernel
theorem tyX6_ok : ∀ k, k < 6 → parseFieldDescriptor (TX6 k).2.2.1 = some (tyX6 k) := by decide +kernel
abbrev cX6_init : ByteArray := prog_1_method_1_code
def yX6_init : MethodName := ⟨RX6, "<init>", "()V"⟩
abbrev cX6_feed : ByteArray := prog_1_method_2_code
def yX6_feed : MethodName := ⟨RX6, "feed", "(IIIII)I"⟩
abbrev cX6_end : ByteArray := prog_1_method_3_code
def yX6_end : MethodName := ⟨RX6, "end", "(I)Z"⟩
abbrev cX6_fault : ByteArray := prog_1_method_4_code
def yX6_fault : MethodName := ⟨RX6, "fault", "()I"⟩
abbrev cX6_tale : ByteArray := prog_1_method_5_code
def yX6_tale : MethodName := ⟨RX6, "tale", "()Z"⟩
abbrev cX6_sentences : ByteArray := prog_1_method_6_code
def yX6_sentences : MethodName := ⟨RX6, "sentences", "()I"⟩
abbrev cX6_sentence : ByteArray := prog_1_method_7_code
def yX6_sentence : MethodName := ⟨RX6, "sentence", "(II)I"⟩
abbrev cX6_question : ByteArray := prog_1_method_8_code
def yX6_question : MethodName := ⟨RX6, "question", "(I)I"⟩
abbrev cX6_quarrel : ByteArray := prog_1_method_9_code
def yX6_quarrel : MethodName := ⟨RX6, "quarrel", "()I"⟩
abbrev cX6_answer : ByteArray := prog_1_method_10_code
def yX6_answer : MethodName := ⟨RX6, "answer", "(I)J"⟩
abbrev cX6_amount : ByteArray := prog_1_method_11_code
def yX6_amount : MethodName := ⟨RX6, "amount", "(IIII)J"⟩
abbrev cX6_idle : ByteArray := prog_1_method_12_code
def yX6_idle : MethodName := ⟨RX6, "idle", "()I"⟩
abbrev cX6_enough : ByteArray := prog_1_method_13_code
def yX6_enough : MethodName := ⟨RX6, "enough", "()I"⟩
abbrev cX6_lacking : ByteArray := prog_1_method_14_code
def yX6_lacking : MethodName := ⟨RX6, "lacking", "()I"⟩
abbrev cX6_strange : ByteArray := prog_1_method_15_code
def yX6_strange : MethodName := ⟨RX6, "strange", "(I)I"⟩
abbrev cX6_put : ByteArray := prog_1_method_16_code
def yX6_put : MethodName := ⟨RX6, "put", "(II)Z"⟩
abbrev cX6_undo : ByteArray := prog_1_method_17_code
def yX6_undo : MethodName := ⟨RX6, "undo", "()I"⟩
abbrev cX6_count : ByteArray := prog_1_method_18_code
def yX6_count : MethodName := ⟨RX6, "count", "(I)I"⟩
def RX7 : String := "TaleSumsModel"
def TX7 : u_T := fun k => match k with
  | 0 => ("TaleSumsModel", "thrown", "I", false)
  | 1 => ("TaleSumsModel", "tape", "[B", true)
  | 2 => ("TaleSumsModel", "length", "I", false)
  | 3 => ("TaleSumsModel", "told", "[I", true)
  | 4 => ("TaleSumsModel", "read", "[I", true)
  | 5 => ("TaleSumsModel", "asked", "[I", true)
  | 6 => ("TaleSumsModel", "readAsked", "[I", true)
  | 7 => ("TaleSumsModel", "many", "I", false)
  | 8 => ("TaleSumsModel", "readMany", "I", false)
  | 9 => ("TaleSumsModel", "isTale", "Z", false)
  | 10 => ("TaleSumsModel", "keptSentence", "[I", true)
  | 11 => ("TaleSumsModel", "keptNumber", "[I", true)
  | 12 => ("TaleSumsModel", "kept", "I", false)
  | 13 => ("TaleSumsModel", "from", "I", false)
  | 14 => ("TaleSumsModel", "behind", "I", false)
  | 15 => ("TaleSumsModel", "sort", "I", false)
  | 16 => ("TaleSumsModel", "first", "I", false)
  | 17 => ("TaleSumsModel", "second", "I", false)
  | 18 => ("TaleSumsModel", "of", "I", false)
  | 19 => ("TaleSumsModel", "count", "I", false)
  | 20 => ("TaleSumsModel", "stage", "I", false)
  | 21 => ("TaleSumsModel", "basis", "[J", true)
  | 22 => ("TaleSumsModel", "row", "[J", true)
  | 23 => ("TaleSumsModel", "begins", "[I", true)
  | 24 => ("TaleSumsModel", "rows", "I", false)
  | 25 => ("TaleSumsModel", "top", "J", false)
  | _ => ("TaleSumsModel", "below", "J", false)
def tyX7 : Nat → FieldType := fun k => match k with
  | 0 => .int
  | 1 => .array .byte
  | 2 => .int
  | 3 => .array .int
  | 4 => .array .int
  | 5 => .array .int
  | 6 => .array .int
  | 7 => .int
  | 8 => .int
  | 9 => .boolean
  | 10 => .array .int
  | 11 => .array .int
  | 12 => .int
  | 13 => .int
  | 14 => .int
  | 15 => .int
  | 16 => .int
  | 17 => .int
  | 18 => .int
  | 19 => .int
  | 20 => .int
  | 21 => .array .long
  | 22 => .array .long
  | 23 => .array .int
  | 24 => .int
  | 25 => .long
  | _ => .long
abbrev wsX70 : List Cond := u_ws RX7 TX7 27
theorem nmX7 : ∀ a, a < 27 → ∀ b, b < 27 → a ≠ b → (TX7 a).2.1 ≠ (TX7 b).2.1 := by decide +kernel
theorem tyX7_ok : ∀ k, k < 27 → parseFieldDescriptor (TX7 k).2.2.1 = some (tyX7 k) := by decide +kernel
abbrev cX7_init : ByteArray := prog_9_method_1_code
def yX7_init : MethodName := ⟨RX7, "<init>", "()V"⟩
abbrev cX7_thrown : ByteArray := prog_9_method_2_code
def yX7_thrown : MethodName := ⟨RX7, "thrown", "()I"⟩
abbrev cX7_isIn : ByteArray := prog_9_method_3_code
def yX7_isIn : MethodName := ⟨RX7, "isIn", "(III)Z"⟩
abbrev cX7_bytesIn : ByteArray := prog_9_method_4_code
def yX7_bytesIn : MethodName := ⟨RX7, "bytesIn", "(I)I"⟩
abbrev cX7_put4 : ByteArray := prog_9_method_5_code
def yX7_put4 : MethodName := ⟨RX7, "put4", "(I)V"⟩
abbrev cX7_feed : ByteArray := prog_9_method_6_code
def yX7_feed : MethodName := ⟨RX7, "feed", "(IIIII)I"⟩
abbrev cX7_end : ByteArray := prog_9_method_7_code
def yX7_end : MethodName := ⟨RX7, "end", "(I)Z"⟩
abbrev cX7_isSmall : ByteArray := prog_9_method_8_code
def yX7_isSmall : MethodName := ⟨RX7, "isSmall", "(I)Z"⟩
abbrev cX7_isDigit : ByteArray := prog_9_method_9_code
def yX7_isDigit : MethodName := ⟨RX7, "isDigit", "(I)Z"⟩
abbrev cX7_next : ByteArray := prog_9_method_10_code
def yX7_next : MethodName := ⟨RX7, "next", "()V"⟩
abbrev cX7_is : ByteArray := prog_9_method_11_code
def yX7_is : MethodName := ⟨RX7, "is", "(Ljava/lang/String;)Z"⟩
abbrev cX7_takes : ByteArray := prog_9_method_12_code
def yX7_takes : MethodName := ⟨RX7, "takes", "(Ljava/lang/String;)Z"⟩
abbrev cX7_one : ByteArray := prog_9_method_13_code
def yX7_one : MethodName := ⟨RX7, "one", "(ZZZZ)I"⟩
abbrev cX7_name : ByteArray := prog_9_method_14_code
def yX7_name : MethodName := ⟨RX7, "name", "()I"⟩
abbrev cX7_unit : ByteArray := prog_9_method_15_code
def yX7_unit : MethodName := ⟨RX7, "unit", "()I"⟩
abbrev cX7_number : ByteArray := prog_9_method_16_code
def yX7_number : MethodName := ⟨RX7, "number", "()I"⟩
abbrev cX7_takesName : ByteArray := prog_9_method_17_code
def yX7_takesName : MethodName := ⟨RX7, "takesName", "(Z)Z"⟩
abbrev cX7_takesUnit : ByteArray := prog_9_method_18_code
def yX7_takesUnit : MethodName := ⟨RX7, "takesUnit", "()Z"⟩
abbrev cX7_takesNumber : ByteArray := prog_9_method_19_code
def yX7_takesNumber : MethodName := ⟨RX7, "takesNumber", "()Z"⟩
abbrev cX7_sentence : ByteArray := prog_9_method_20_code
def yX7_sentence : MethodName := ⟨RX7, "sentence", "()Z"⟩
abbrev cX7_asks : ByteArray := prog_9_method_21_code
def yX7_asks : MethodName := ⟨RX7, "asks", "()Z"⟩
abbrev cX7_reads : ByteArray := prog_9_method_22_code
def yX7_reads : MethodName := ⟨RX7, "reads", "()I"⟩
abbrev cX7_fault : ByteArray := prog_9_method_23_code
def yX7_fault : MethodName := ⟨RX7, "fault", "()I"⟩
abbrev cX7_tale : ByteArray := prog_9_method_24_code
def yX7_tale : MethodName := ⟨RX7, "tale", "()Z"⟩
abbrev cX7_sentences : ByteArray := prog_9_method_25_code
def yX7_sentences : MethodName := ⟨RX7, "sentences", "()I"⟩
abbrev cX7_of : ByteArray := prog_9_method_26_code
def yX7_of : MethodName := ⟨RX7, "of", "(II)I"⟩
abbrev cX7_sentence_ : ByteArray := prog_9_method_27_code
def yX7_sentence_ : MethodName := ⟨RX7, "sentence", "(II)I"⟩
abbrev cX7_question : ByteArray := prog_9_method_28_code
def yX7_question : MethodName := ⟨RX7, "question", "(I)I"⟩
abbrev cX7_more : ByteArray := prog_9_method_29_code
def yX7_more : MethodName := ⟨RX7, "more", "(III)I"⟩
abbrev cX7_common : ByteArray := prog_9_method_30_code
def yX7_common : MethodName := ⟨RX7, "common", "(JJ)J"⟩
abbrev cX7_law : ByteArray := prog_9_method_31_code
def yX7_law : MethodName := ⟨RX7, "law", "(I)V"⟩
abbrev cX7_adds : ByteArray := prog_9_method_32_code
def yX7_adds : MethodName := ⟨RX7, "adds", "()Z"⟩
abbrev cX7_isFact : ByteArray := prog_9_method_33_code
def yX7_isFact : MethodName := ⟨RX7, "isFact", "(I)Z"⟩
abbrev cX7_gather : ByteArray := prog_9_method_34_code
def yX7_gather : MethodName := ⟨RX7, "gather", "(II)Z"⟩
abbrev cX7_settles : ByteArray := prog_9_method_35_code
def yX7_settles : MethodName := ⟨RX7, "settles", "(II)Z"⟩
abbrev cX7_part : ByteArray := prog_9_method_36_code
def yX7_part : MethodName := ⟨RX7, "part", "(I)J"⟩
abbrev cX7_all : ByteArray := prog_9_method_37_code
def yX7_all : MethodName := ⟨RX7, "all", "()I"⟩
abbrev cX7_quarrelAt : ByteArray := prog_9_method_38_code
def yX7_quarrelAt : MethodName := ⟨RX7, "quarrelAt", "()I"⟩
abbrev cX7_quarrel : ByteArray := prog_9_method_39_code
def yX7_quarrel : MethodName := ⟨RX7, "quarrel", "()I"⟩
abbrev cX7_answersBy : ByteArray := prog_9_method_40_code
def yX7_answersBy : MethodName := ⟨RX7, "answersBy", "(I)Z"⟩
abbrev cX7_hasAnswer : ByteArray := prog_9_method_41_code
def yX7_hasAnswer : MethodName := ⟨RX7, "hasAnswer", "()Z"⟩
abbrev cX7_answer : ByteArray := prog_9_method_42_code
def yX7_answer : MethodName := ⟨RX7, "answer", "(I)J"⟩
abbrev cX7_stages : ByteArray := prog_9_method_43_code
def yX7_stages : MethodName := ⟨RX7, "stages", "()I"⟩
abbrev cX7_amounts : ByteArray := prog_9_method_44_code
def yX7_amounts : MethodName := ⟨RX7, "amounts", "(III)Z"⟩
abbrev cX7_amount : ByteArray := prog_9_method_45_code
def yX7_amount : MethodName := ⟨RX7, "amount", "(IIII)J"⟩
abbrev cX7_idle : ByteArray := prog_9_method_46_code
def yX7_idle : MethodName := ⟨RX7, "idle", "()I"⟩
abbrev cX7_facts : ByteArray := prog_9_method_47_code
def yX7_facts : MethodName := ⟨RX7, "facts", "()I"⟩
abbrev cX7_enough : ByteArray := prog_9_method_48_code
def yX7_enough : MethodName := ⟨RX7, "enough", "()I"⟩
abbrev cX7_lacking : ByteArray := prog_9_method_49_code
def yX7_lacking : MethodName := ⟨RX7, "lacking", "()I"⟩
abbrev cX7_strange : ByteArray := prog_9_method_50_code
def yX7_strange : MethodName := ⟨RX7, "strange", "(I)I"⟩
abbrev cX7_put : ByteArray := prog_9_method_51_code
def yX7_put : MethodName := ⟨RX7, "put", "(II)Z"⟩
abbrev cX7_undo : ByteArray := prog_9_method_52_code
def yX7_undo : MethodName := ⟨RX7, "undo", "()I"⟩
abbrev cX7_count : ByteArray := prog_9_method_53_code
def yX7_count : MethodName := ⟨RX7, "count", "(I)I"⟩
def RJ6 : String := "java/lang/Integer"
def TJ6 : u_T := fun k => match k with
  | _ => ("", "", "", false)
def tyJ6 : Nat → FieldType := fun k => match k with
  | _ => .int
abbrev wsJ60 : List Cond := u_ws RJ6 TJ6 0
theorem nmJ6 : ∀ a, a < 0 → ∀ b, b < 0 → a ≠ b → (TJ6 a).2.1 ≠ (TJ6 b).2.1 := by decide +kernel
theorem tyJ6_ok : ∀ k, k < 0 → parseFieldDescriptor (TJ6 k).2.2.1 = some (tyJ6 k) := by decide +kernel
abbrev cJ6_bitCount_0f7a4 : ByteArray := prog_11_method_49_code
def yJ6_bitCount_0f7a4 : MethodName := ⟨RJ6, "bitCount", "(I)I"⟩
def RJ9 : String := "java/lang/Math"
def TJ9 : u_T := fun k => match k with
  | _ => ("", "", "", false)
def tyJ9 : Nat → FieldType := fun k => match k with
  | _ => .int
abbrev wsJ90 : List Cond := u_ws RJ9 TJ9 0
theorem nmJ9 : ∀ a, a < 0 → ∀ b, b < 0 → a ≠ b → (TJ9 a).2.1 ≠ (TJ9 b).2.1 := by decide +kernel
theorem tyJ9_ok : ∀ k, k < 0 → parseFieldDescriptor (TJ9 k).2.2.1 = some (tyJ9 k) := by decide +kernel
abbrev cJ9_abs_067f4 : ByteArray := prog_12_method_61_code
def yJ9_abs_067f4 : MethodName := ⟨RJ9, "abs", "(J)J"⟩
def RJ0 : String := "java/lang/String"
def TJ0 : u_T := fun k => match k with
  | _ => ("", "", "", false)
def tyJ0 : Nat → FieldType := fun k => match k with
  | _ => .int
abbrev wsJ00 : List Cond := u_ws RJ0 TJ0 0
theorem nmJ0 : ∀ a, a < 0 → ∀ b, b < 0 → a ≠ b → (TJ0 a).2.1 ≠ (TJ0 b).2.1 := by decide +kernel
theorem tyJ0_ok : ∀ k, k < 0 → parseFieldDescriptor (TJ0 k).2.2.1 = some (tyJ0 k) := by decide +kernel
abbrev cJ0_length_8abf5 : ByteArray := prog_14_method_54_code
def yJ0_length_8abf5 : MethodName := ⟨RJ0, "length", "()I"⟩
abbrev cJ0_charAt_5068e : ByteArray := prog_14_method_56_code
def yJ0_charAt_5068e : MethodName := ⟨RJ0, "charAt", "(I)C"⟩
abbrev cJ0_coder_7d493 : ByteArray := prog_14_method_152_code
def yJ0_coder_7d493 : MethodName := ⟨RJ0, "coder", "()B"⟩
abbrev cJ0_isLatin1_aae02 : ByteArray := prog_14_method_154_code
def yJ0_isLatin1_aae02 : MethodName := ⟨RJ0, "isLatin1", "()Z"⟩
abbrev cJ0_checkIndex_df160 : ByteArray := prog_14_method_155_code
def yJ0_checkIndex_df160 : MethodName := ⟨RJ0, "checkIndex", "(II)V"⟩
def RJ1 : String := "java/lang/StringLatin1"
def TJ1 : u_T := fun k => match k with
  | _ => ("", "", "", false)
def tyJ1 : Nat → FieldType := fun k => match k with
  | _ => .int
abbrev wsJ10 : List Cond := u_ws RJ1 TJ1 0
theorem nmJ1 : ∀ a, a < 0 → ∀ b, b < 0 → a ≠ b → (TJ1 a).2.1 ≠ (TJ1 b).2.1 := by decide +kernel
theorem tyJ1_ok : ∀ k, k < 0 → parseFieldDescriptor (TJ1 k).2.2.1 = some (tyJ1 k) := by decide +kernel
abbrev cJ1_charAt_3b067 : ByteArray := prog_15_method_2_code
def yJ1_charAt_3b067 : MethodName := ⟨RJ1, "charAt", "([BI)C"⟩
def RJ2 : String := "java/lang/StringUTF16"
def TJ2 : u_T := fun k => match k with
  | _ => ("", "", "", false)
def tyJ2 : Nat → FieldType := fun k => match k with
  | _ => .int
abbrev wsJ20 : List Cond := u_ws RJ2 TJ2 0
theorem nmJ2 : ∀ a, a < 0 → ∀ b, b < 0 → a ≠ b → (TJ2 a).2.1 ≠ (TJ2 b).2.1 := by decide +kernel
theorem tyJ2_ok : ∀ k, k < 0 → parseFieldDescriptor (TJ2 k).2.2.1 = some (tyJ2 k) := by decide +kernel
abbrev cJ2_getChar_3b067 : ByteArray := prog_16_method_5_code
def yJ2_getChar_3b067 : MethodName := ⟨RJ2, "getChar", "([BI)C"⟩
abbrev cJ2_length_9d52b : ByteArray := prog_16_method_6_code
def yJ2_length_9d52b : MethodName := ⟨RJ2, "length", "([B)I"⟩
abbrev cJ2_charAt_3b067 : ByteArray := prog_16_method_83_code
def yJ2_charAt_3b067 : MethodName := ⟨RJ2, "charAt", "([BI)C"⟩
abbrev cJ2_checkIndex_2214a : ByteArray := prog_16_method_91_code
def yJ2_checkIndex_2214a : MethodName := ⟨RJ2, "checkIndex", "(I[B)V"⟩
def RJ10 : String := "java/lang/System"
def TJ10 : u_T := fun k => match k with
  | _ => ("", "", "", false)
def tyJ10 : Nat → FieldType := fun k => match k with
  | _ => .int
abbrev wsJ100 : List Cond := u_ws RJ10 TJ10 0
theorem nmJ10 : ∀ a, a < 0 → ∀ b, b < 0 → a ≠ b → (TJ10 a).2.1 ≠ (TJ10 b).2.1 := by decide +kernel
theorem tyJ10_ok : ∀ k, k < 0 → parseFieldDescriptor (TJ10 k).2.2.1 = some (tyJ10 k) := by decide +kernel
def RJ7 : String := "java/util/Arrays"
def TJ7 : u_T := fun k => match k with
  | _ => ("", "", "", false)
def tyJ7 : Nat → FieldType := fun k => match k with
  | _ => .int
abbrev wsJ70 : List Cond := u_ws RJ7 TJ7 0
theorem nmJ7 : ∀ a, a < 0 → ∀ b, b < 0 → a ≠ b → (TJ7 a).2.1 ≠ (TJ7 b).2.1 := by decide +kernel
theorem tyJ7_ok : ∀ k, k < 0 → parseFieldDescriptor (TJ7 k).2.2.1 = some (tyJ7 k) := by decide +kernel
abbrev cJ7_fill_d0a16 : ByteArray := prog_19_method_101_code
def yJ7_fill_d0a16 : MethodName := ⟨RJ7, "fill", "([JJ)V"⟩
def RJ3 : String := "jdk/internal/util/Preconditions"
def TJ3 : u_T := fun k => match k with
  | _ => ("", "", "", false)
def tyJ3 : Nat → FieldType := fun k => match k with
  | _ => .int
abbrev wsJ30 : List Cond := u_ws RJ3 TJ3 0
theorem nmJ3 : ∀ a, a < 0 → ∀ b, b < 0 → a ≠ b → (TJ3 a).2.1 ≠ (TJ3 b).2.1 := by decide +kernel
theorem tyJ3_ok : ∀ k, k < 0 → parseFieldDescriptor (TJ3 k).2.2.1 = some (tyJ3 k) := by decide +kernel
abbrev cJ3_checkIndex_8e157 : ByteArray := prog_21_method_11_code
def yJ3_checkIndex_8e157 : MethodName := ⟨RJ3, "checkIndex", "(IILjava/util/function/BiFunction;)I"⟩
def RL : String := "TaleSumsLaw"
abbrev cL_sentence : ByteArray := method_3_code
def yL_sentence : MethodName := ⟨RL, "sentence", "(LTaleSums;II[J)I"⟩
abbrev cL_law : ByteArray := code
def yL_law : MethodName := ⟨RL, "law", "([I)Z"⟩
abbrev vwCl : List vw_C := [(RX0, TX0, 3), (RX1, TX1, 2), (RX2, TX2, 1), (RX3, TX3, 6), (RX4, TX4, 14), (RX5, TX5, 4), (RX6, TX6, 6), (RX7, TX7, 27)]
end
section
/-! THE WORDS: all good words of the tables; every method has them all -/
def zTbl : List Cond := lw_tbl.filter goodWord
theorem zmem {w : Cond} (i : Nat) (h : lw_tbl[i]? = some w) (g : goodWord w = true) : w ∈ zTbl := List.mem_filter.mpr ⟨List.mem_of_getElem? h, g⟩
theorem zgA : GoodIn zTbl zTbl := fun w h => ⟨h, good_of_word (List.mem_filter.mp h).2⟩
theorem zg1 {w : Cond} {ws : List Cond} (h : w ∈ zTbl) (g : GoodIn zTbl ws) : GoodIn zTbl (w :: ws) := fun x hx => by
  rcases List.mem_cons.mp hx with e | e
  · rw [e]; exact zgA w h
  · exact g x e
theorem zgI {y : MethodName} {b : ByteArray} {m : Nat} {r : Option FieldType} (h : Cond.code y b m r ∈ zTbl) : GoodIn zTbl (Cond.code y b m r :: zTbl) := zg1 h zgA
theorem zgS {own : String} {ix : Nat} {y : MethodName} {b : ByteArray} {m : Nat} {r : Option FieldType} (h1 : Cond.methodLink own ix y ∈ zTbl) (h2 : Cond.static y ∈ zTbl) (h3 : Cond.initialized y.cls ∈ zTbl) (h : Cond.code y b m r ∈ zTbl) : GoodIn zTbl (va_wsS own ix y (Cond.code y b m r :: zTbl)) := zg1 h1 (zg1 h2 (zg1 h3 (zgI h)))
theorem zgV {own C : String} {ix : Nat} {y : MethodName} {b : ByteArray} {m : Nat} {r : Option FieldType} (h1 : Cond.methodLink own ix y ∈ zTbl) (h2 : Cond.instanceMethod y ∈ zTbl) (h3 : Cond.selects C y y ∈ zTbl) (h4 : Cond.initialized C ∈ zTbl) (h : Cond.code y b m r ∈ zTbl) : GoodIn zTbl (wsV own ix C y (Cond.code y b m r :: zTbl)) := zg1 h1 (zg1 h2 (zg1 h3 (zg1 h4 (zgI h))))
theorem zws {C : String} {T : u_T} {N : Nat} (h : ∀ k, k < N → u_lay C T k ∈ zTbl) : ∀ w ∈ u_ws C T N, w ∈ zTbl := fun w hw => by
  obtain ⟨k, hk, rfl⟩ := List.mem_map.mp hw
  exact h k (List.mem_range.mp hk)
/-! THE MEMORY: what the cells hold, by address and place: ints, longs, references. A heap is a list of addresses, the kind and the length of each, and a memory. -/
abbrev zM : Type := (Nat → Nat → Int32) × (Nat → Nat → Int64) × (Nat → Nat → Option Nat)
abbrev zS : Type := List Nat × (Nat → Nat) × (Nat → Nat)
/-- classes' places, array classes, the addresses of the texts and of their bytes -/
abbrev zE : Type := va_G × (Nat → ClassId) × (Nat → Nat) × (Nat → Nat)
def zu {α : Type} (f : Nat → Nat → α) (a k : Nat) (v : α) : Nat → Nat → α := fun b j => if b = a ∧ j = k then v else f b j
def zr {α : Type} (f : Nat → Nat → α) (a : Nat) (g : Nat → α) : Nat → Nat → α := fun b j => if b = a then g j else f b j
theorem zu_s {α : Type} {f : Nat → Nat → α} {a k : Nat} {v : α} : zu f a k v a k = v := if_pos ⟨rfl, rfl⟩
theorem zu_k {α : Type} {f : Nat → Nat → α} {a b k j : Nat} {v : α} (h : j ≠ k) : zu f a k v b j = f b j := if_neg fun q => h q.2
theorem zu_a {α : Type} {f : Nat → Nat → α} {a b k j : Nat} {v : α} (h : b ≠ a) : zu f a k v b j = f b j := if_neg fun q => h q.1
theorem zr_s {α : Type} {f : Nat → Nat → α} {a : Nat} {g : Nat → α} : zr f a g a = g := funext fun _ => if_pos rfl
theorem zr_sk {α : Type} {f : Nat → Nat → α} {a k : Nat} {g : Nat → α} : zr f a g a k = g k := if_pos rfl
theorem zr_a {α : Type} {f : Nat → Nat → α} {a b : Nat} {g : Nat → α} (h : b ≠ a) : zr f a g b = f b := funext fun _ => if_neg h
theorem zr_ak {α : Type} {f : Nat → Nat → α} {a b k : Nat} {g : Nat → α} (h : b ≠ a) : zr f a g b k = f b k := if_neg h
theorem zr_id {α : Type} {f : Nat → Nat → α} {a : Nat} : zr f a (f a) = f := funext fun b => by
  by_cases h : b = a
  · subst h; exact zr_s
  · exact zr_a h
theorem zr_zr {α : Type} {f : Nat → Nat → α} {a : Nat} {g h : Nat → α} : zr (zr f a g) a h = zr f a h := funext fun b => funext fun j => by
  by_cases q : b = a <;> simp [zr, q]
theorem zu_zr {α : Type} {f : Nat → Nat → α} {a k : Nat} {v : α} {g : Nat → α} : zu (zr f a g) a k v = zr f a (fun j => if j = k then v else g j) := funext fun b => funext fun j => by
  by_cases q : b = a <;> by_cases w : j = k <;> simp [zr, zu, q, w]
theorem zu_as {α : Type} {f : Nat → Nat → α} {a k : Nat} {v : α} : zu f a k v = zr f a (fun j => if j = k then v else f a j) := funext fun b => funext fun j => by
  by_cases q : b = a <;> by_cases w : j = k <;> simp [zr, zu, q, w]
theorem zr_zu {α : Type} {f : Nat → Nat → α} {a k : Nat} {v : α} {g : Nat → α} : zr (zu f a k v) a g = zr f a g := funext fun b => funext fun j => by
  by_cases q : b = a <;> simp [zr, zu, q]
theorem zu_zu {α : Type} {f : Nat → Nat → α} {a k : Nat} {v w : α} : zu (zu f a k v) a k w = zu f a k w := funext fun b => funext fun j => by
  by_cases q : b = a ∧ j = k <;> simp [zu, q]
theorem zu_self {α : Type} {f : Nat → Nat → α} {a k : Nat} : zu f a k (f a k) = f := funext fun b => funext fun j => by
  by_cases q : b = a ∧ j = k
  · simp [zu, q]
  · simp [zu, q]
theorem zu_cm {α : Type} {f : Nat → Nat → α} {a b k j : Nat} {v w : α} (h : k ≠ j) : zu (zu f a k v) b j w = zu (zu f b j w) a k v := funext fun c => funext fun i => by
  by_cases q : c = a ∧ i = k <;> by_cases r : c = b ∧ i = j
  · exact absurd (q.2.symm.trans r.2) h
  · simp [zu, q, r, h]
  · simp [zu, q, r, Ne.symm h]
  · simp [zu, q, r]
theorem zu_ca {α : Type} {f : Nat → Nat → α} {a b k j : Nat} {v w : α} (h : a ≠ b) : zu (zu f a k v) b j w = zu (zu f b j w) a k v := funext fun c => funext fun i => by
  by_cases q : c = a ∧ i = k <;> by_cases r : c = b ∧ i = j
  · exact absurd (q.1.symm.trans r.1) h
  · simp [zu, q, r, h]
  · simp [zu, q, r, Ne.symm h]
  · simp [zu, q, r]
/-- the kinds of a class's fields: 0 int, 1 long, 2 reference -/
def zk : Nat → List Nat
  | 0 => [2, 2, 0]
  | 1 => [2, 2]
  | 2 => [2]
  | 3 => [2, 2, 0, 0, 0, 0]
  | 4 => [2, 2, 2, 2, 2, 2, 2, 2, 2, 0, 1, 1, 0, 0]
  | 5 => [2, 0, 0, 0]
  | 6 => [2, 2, 2, 2, 2, 2]
  | 7 => [0, 2, 0, 2, 2, 2, 2, 0, 0, 0, 2, 2, 0, 0, 0, 0, 0, 0, 0, 0, 0, 2, 2, 2, 0, 1, 1]
  | _ => []
def zval (μ : zM) (a t k : Nat) : Value := if t = 0 then .int (μ.1 a k) else if t = 1 then .long (μ.2.1 a k) else va_rf (μ.2.2 a k)
def zf (μ : zM) (a : Nat) : List Nat → Nat → List Value
  | [], _ => []
  | t :: ts, k => zval μ a t k :: zf μ a ts (k + 1)
theorem zf_len (μ : zM) (a : Nat) : ∀ (ts : List Nat) (k : Nat), (zf μ a ts k).length = ts.length
  | [], _ => rfl
  | _ :: ts, k => congrArg (· + 1) (zf_len μ a ts (k + 1))
theorem zf_get (μ : zM) (a : Nat) : ∀ (ts : List Nat) (k j t : Nat), ts[j]? = some t → (zf μ a ts k)[j]? = some (zval μ a t (k + j))
  | [], _, _, _, h => by simp at h
  | t0 :: ts, k, 0, t, h => by
    have e : t0 = t := by simpa using h
    subst e
    rfl
  | t0 :: ts, k, j + 1, t, h => by
    have e : ts[j]? = some t := by simpa using h
    have := zf_get μ a ts (k + 1) j t e
    show (zf μ a ts (k + 1))[j]? = _
    rw [this, show k + 1 + j = k + (j + 1) by omega]
theorem zf_set (μ ν : zM) (a : Nat) (v : Value) : ∀ (ts : List Nat) (k j t : Nat), ts[j]? = some t → zval ν a t (k + j) = v → (∀ i u : Nat, i ≠ k + j → zval ν a u i = zval μ a u i) → (zf μ a ts k).set j v = zf ν a ts k
  | [], _, _, _, h, _, _ => by simp at h
  | t0 :: ts, k, 0, t, h, hv, ho => by
    have e : t0 = t := by simpa using h
    subst e
    show v :: zf μ a ts (k + 1) = zval ν a t0 k :: zf ν a ts (k + 1)
    rw [← hv]
    congr 1
    have : ∀ (ts : List Nat) (i : Nat), k < i → zf μ a ts i = zf ν a ts i := by
      intro ts
      induction ts with
      | nil => intro i _; rfl
      | cons u us ih =>
        intro i hi
        show zval μ a u i :: _ = zval ν a u i :: _
        rw [ho i u (by omega), ih (i + 1) (by omega)]
    exact this ts (k + 1) (by omega)
  | t0 :: ts, k, j + 1, t, h, hv, ho => by
    have e : ts[j]? = some t := by simpa using h
    show zval μ a t0 k :: (zf μ a ts (k + 1)).set j v = zval ν a t0 k :: zf ν a ts (k + 1)
    rw [ho k t0 (by omega), zf_set μ ν a v ts (k + 1) j t e (by rw [show k + 1 + j = k + (j + 1) by omega]; exact hv) (fun i u hi => ho i u (by omega))]
/-- the cell at an address -/
def zc (Y : Nat → ClassId) (K N : Nat → Nat) (μ : zM) (a : Nat) : va_E :=
  if K a < 8 then .inr (K a, zf μ a (zk (K a)) 0) else .inl (Y (K a - 8), N a, if K a = 10 then .inr (.inl (μ.2.1 a)) else if K a < 12 then .inl (μ.1 a) else .inr (.inr (.inr (.inr (μ.2.2 a)))))
def zW (E : zE) (S : zS) (μ : zM) : va_W := va_pl S.1 (zc E.2.1 S.2.1 S.2.2 μ)
def zT (E : zE) : List (ClassId × FieldType) := [(E.2.1 0, .byte), (E.2.1 1, .int), (E.2.1 2, .long), (E.2.1 3, .boolean), (E.2.1 4, .object "TaleSums$Laws"), (E.2.1 5, .array .int), (E.2.1 6, .array .long)]
/-- an object of the class ci, an array of the kind k with n places -/
def zO (S : zS) (a ci : Nat) : Prop := a ∈ S.1 ∧ S.2.1 a = ci
def zA (S : zS) (a k n : Nat) : Prop := a ∈ S.1 ∧ S.2.1 a = k ∧ S.2.2 a = n
theorem zc_o {Y : Nat → ClassId} {K N : Nat → Nat} {μ : zM} {a ci : Nat} (h : K a = ci) (h8 : ci < 8) : zc Y K N μ a = .inr (ci, zf μ a (zk ci) 0) := by
  unfold zc; rw [h, if_pos h8]
theorem zc_i {Y : Nat → ClassId} {K N : Nat → Nat} {μ : zM} {a k n : Nat} (h : K a = k) (hn : N a = n) (h8 : ¬ k < 8) (h10 : k ≠ 10) (h12 : k < 12) : zc Y K N μ a = .inl (Y (k - 8), n, .inl (μ.1 a)) := by
  unfold zc; rw [h, hn, if_neg h8, if_neg h10, if_pos h12]
theorem zc_j {Y : Nat → ClassId} {K N : Nat → Nat} {μ : zM} {a n : Nat} (h : K a = 10) (hn : N a = n) : zc Y K N μ a = .inl (Y 2, n, .inr (.inl (μ.2.1 a))) := by
  unfold zc; rw [h, hn, if_neg (by decide), if_pos rfl]
theorem zc_r {Y : Nat → ClassId} {K N : Nat → Nat} {μ : zM} {a k n : Nat} (h : K a = k) (hn : N a = n) (h12 : 12 ≤ k) : zc Y K N μ a = .inl (Y (k - 8), n, .inr (.inr (.inr (.inr (μ.2.2 a))))) := by
  unfold zc; rw [h, hn, if_neg (by omega), if_neg (by omega), if_neg (by omega)]
theorem zW_at {E : zE} {S : zS} {μ : zM} {a : Nat} {x : va_E} (h : a ∈ S.1) (e : zc E.2.1 S.2.1 S.2.2 μ a = x) : ∃ k : Nat, (zW E S μ)[k]? = some (a, zc E.2.1 S.2.1 S.2.2 μ a) ∧ (zW E S μ)[k]? = some (a, x) := by
  obtain ⟨k, hk⟩ := va_pl_get (X := []) (f := zc E.2.1 S.2.1 S.2.2 μ) h
  exact ⟨k, hk, by rw [← e]; exact hk⟩
theorem zW_set {E : zE} {S : zS} {μ ν : zM} {A : Nat → Prop} {a k : Nat} {x : va_E} (hD : va_D A (zW E S μ)) (h : a ∈ S.1) (hk : (zW E S μ)[k]? = some (a, zc E.2.1 S.2.1 S.2.2 μ a)) (e : zc E.2.1 S.2.1 S.2.2 ν a = x) (ho : ∀ b, b ≠ a → zc E.2.1 S.2.1 S.2.2 ν b = zc E.2.1 S.2.1 S.2.2 μ b) : (zW E S μ).set k (a, x) = zW E S ν := by
  have h1 := va_pl_set (X := []) (L := S.1) (f := zc E.2.1 S.2.1 S.2.2 μ) (e := x) hD h hk
  show ([] ++ va_pl S.1 (zc E.2.1 S.2.1 S.2.2 μ)).set k (a, x) = va_pl S.1 (zc E.2.1 S.2.1 S.2.2 ν)
  rw [h1]
  refine va_pl_congr fun b => ?_
  by_cases q : b = a
  · subst q; rw [e]; simp [va_up]
  · rw [ho b q]; simp [va_up, q]
theorem zf_congr {μ ν : zM} {a : Nat} (h : ∀ t k, zval μ a t k = zval ν a t k) : ∀ (ts : List Nat) (k : Nat), zf μ a ts k = zf ν a ts k
  | [], _ => rfl
  | t :: ts, k => by show _ :: _ = _ :: _; rw [h t k, zf_congr h ts (k + 1)]
theorem zc_congr {Y : Nat → ClassId} {K N : Nat → Nat} {μ ν : zM} {b : Nat} (h1 : μ.1 b = ν.1 b) (h2 : μ.2.1 b = ν.2.1 b) (h3 : μ.2.2 b = ν.2.2 b) : zc Y K N μ b = zc Y K N ν b := by
  unfold zc
  rw [h1, h2, h3, zf_congr (μ := μ) (ν := ν) (fun t k => by unfold zval; rw [h1, h2, h3])]
theorem zu_o {α : Type} {f : Nat → Nat → α} {a b k : Nat} {v : α} (h : b ≠ a) : zu f a k v b = f b := funext fun _ => zu_a h
/-! THE TEXTS: every literal of the program by its place: class, entry, text, bytes -/
def zlits : List (String × Nat × String) := [("TaleSums$Reader", 25, "how"), ("TaleSums$Reader", 54, "has"), ("TaleSums$Reader", 60, "and"), ("TaleSums$Reader", 65, "have"), ("TaleSums$Reader", 70, "gives"), ("TaleSums$Reader", 72, "to"), ("TaleSums$Reader", 74, "buys"), ("TaleSums$Reader", 76, "eats"), ("TaleSums$Reader", 78, "."), ("TaleSums$Reader", 89, "more"), ("TaleSums$Reader", 94, "than"), ("TaleSums$Reader", 96, "fewer"), ("TaleSums$Reader", 98, "times"), ("TaleSums$Reader", 100, "as"), ("TaleSums$Reader", 102, "many"), ("TaleSums$Reader", 110, "?"), ("TaleSums$Reader", 116, "had"), ("TaleSums$Tape", 47, "annbobcatdanevefaygushal"), ("TaleSums$Tape", 49, "nutsfigspieseggs"), ("TaleSumsModel", 86, "ann"), ("TaleSumsModel", 88, "bob"), ("TaleSumsModel", 90, "cat"), ("TaleSumsModel", 92, "dan"), ("TaleSumsModel", 98, "eve"), ("TaleSumsModel", 100, "fay"), ("TaleSumsModel", 102, "gus"), ("TaleSumsModel", 104, "hal"), ("TaleSumsModel", 106, "nuts"), ("TaleSumsModel", 108, "figs"), ("TaleSumsModel", 110, "pies"), ("TaleSumsModel", 112, "eggs"), ("TaleSumsModel", 139, "and"), ("TaleSumsModel", 147, "have"), ("TaleSumsModel", 156, "."), ("TaleSumsModel", 158, "gives"), ("TaleSumsModel", 160, "to"), ("TaleSumsModel", 162, "buys"), ("TaleSumsModel", 164, "eats"), ("TaleSumsModel", 166, "has"), ("TaleSumsModel", 168, "more"), ("TaleSumsModel", 170, "fewer"), ("TaleSumsModel", 172, "than"), ("TaleSumsModel", 174, "times"), ("TaleSumsModel", 180, "as"), ("TaleSumsModel", 182, "many"), ("TaleSumsModel", 184, "how"), ("TaleSumsModel", 186, "had"), ("TaleSumsModel", 188, "?")]
def zlN : Nat := 48
def zlO (i : Nat) : String := (zlits.getD i ("", 0, "")).1
def zlK (i : Nat) : Nat := (zlits.getD i ("", 0, "")).2.1
def zlT (i : Nat) : String := (zlits.getD i ("", 0, "")).2.2
def zsB : List (List Int32) := [[104, 111, 119], [104, 97, 115], [97, 110, 100], [104, 97, 118, 101], [103, 105, 118, 101, 115], [116, 111], [98, 117, 121, 115], [101, 97, 116, 115], [46], [109, 111, 114, 101], [116, 104, 97, 110], [102, 101, 119, 101, 114], [116, 105, 109, 101, 115], [97, 115], [109, 97, 110, 121], [63], [104, 97, 100], [97, 110, 110, 98, 111, 98, 99, 97, 116, 100, 97, 110, 101, 118, 101, 102, 97, 121, 103, 117, 115, 104, 97, 108], [110, 117, 116, 115, 102, 105, 103, 115, 112, 105, 101, 115, 101, 103, 103, 115], [97, 110, 110], [98, 111, 98], [99, 97, 116], [100, 97, 110], [101, 118, 101], [102, 97, 121], [103, 117, 115], [104, 97, 108], [110, 117, 116, 115], [102, 105, 103, 115], [112, 105, 101, 115], [101, 103, 103, 115], [97, 110, 100], [104, 97, 118, 101], [46], [103, 105, 118, 101, 115], [116, 111], [98, 117, 121, 115], [101, 97, 116, 115], [104, 97, 115], [109, 111, 114, 101], [102, 101, 119, 101, 114], [116, 104, 97, 110], [116, 105, 109, 101, 115], [97, 115], [109, 97, 110, 121], [104, 111, 119], [104, 97, 100], [63]]
def zsb (i : Nat) : List Int32 := zsB.getD i []
/-- the text i, as an object that nothing here writes -/
def zs1 (E : zE) (A : Nat → Prop) (U : State) (H : Heap) (i : Nat) : Prop := va_O "java/lang/String" (E.2.2.1 i) A U H ∧ va_OF "java/lang/String" "coder" "B" (.int 0) (E.2.2.1 i) A U H ∧ va_OF "java/lang/String" "value" "[B" (.ref (E.2.2.2 i)) (E.2.2.1 i) A U H ∧ va_T .byte (E.2.2.2 i) (zsb i).length (fun j => .int ((zsb i).getD j 0)) A U H
theorem zs1_moved {E : zE} {A : Nat → Prop} {u U : State} {H : Heap} {i : Nat} (hvm : u.vm.Alike U.vm) (h : zs1 E A u H i) : zs1 E A U H i := ⟨va_O.moved hvm h.1, va_OF.moved hvm h.2.1, va_OF.moved hvm h.2.2.1, va_T.moved hvm h.2.2.2⟩
theorem zs1_kept {E : zE} {A : Nat → Prop} {U : State} {H H1 : Heap} {i : Nat} (hq : ∀ a : Nat, a < H.size → ¬ A a → H1[a]? = H[a]?) (h : zs1 E A U H i) : zs1 E A U H1 i := ⟨h.1.kept hq, h.2.1.kept hq, h.2.2.1.kept hq, h.2.2.2.kept hq⟩
theorem zs1_narrow {E : zE} {A B : Nat → Prop} {U : State} {H : Heap} {i : Nat} (hAB : ∀ q, B q → A q) (h : zs1 E A U H i) : zs1 E B U H i := ⟨h.1.narrow hAB, h.2.1.narrow hAB, h.2.2.1.narrow hAB, h.2.2.2.narrow hAB⟩
/-- the two statics of the JDK that are read -/
def zs2 (E : zE) (A : Nat → Prop) (U : State) (H : Heap) : Prop := va_Z "java/lang/String" "COMPACT_STRINGS" "Z" (.int 1) A U H ∧ va_Z "jdk/internal/util/Preconditions" "SIOOBE_FORMATTER" "Ljava/util/function/BiFunction;" (.ref (E.2.2.2 48)) A U H
def zX (E : zE) (A : Nat → Prop) (U : State) : Prop := (∀ i : Nat, i < zlN → zs1 E A U U.heap i) ∧ (∀ i : Nat, i < zlN → vk_R (zlO i) (zlK i) (zlT i) (E.2.2.1 i) U) ∧ zs2 E A U U.heap
/-- a method's fixed things: program, launch, env, room, start, method, args, frames below, its code, the end that is wanted, the free addresses, its locals -/
abbrev zC : Type := Program × Launch × Env × Room × State × MethodId × Array Value × List Frame × Method × Code × (State → Prop) × (Nat → Prop) × Nat
def zV (X : zC) (E : zE) (S : zS) (kc ks : Nat) (μ : zM) (pc : Nat) (lv : List (Nat × Value)) (st : List Value) : Prop :=
  ∀ (H : Heap) (locs : List Loc) (ls : Array Slot), va_P E.1 vwCl (zW E S μ) H → va_D X.2.2.2.2.2.2.2.2.2.2.2.1 (zW E S μ) → va_S X.2.2.2.2.2.2.2.2.2.2.2.1 X.2.2.2.2.1.heap H locs → lv_has ls X.2.2.2.2.2.2.2.2.2.2.2.2 lv →
    W X.1 X.2.1 X.2.2.1 X.2.2.2.1 X.2.2.2.2.1 X.2.2.2.2.2.1 X.2.2.2.2.2.2.1 X.2.2.2.2.2.2.2.1 X.2.2.2.2.2.2.2.2.1 X.2.2.2.2.2.2.2.2.2.1 H locs kc ks X.2.2.2.2.2.2.2.2.2.2.1 (F0 X.2.2.2.2.2.1 pc ls st)
/-- what holds of them all through the method -/
def zOK (X : zC) (E : zE) (l : Launch) (cc : ByteArray) (own : String) (Ts : List Cond) (rm : Room) (nL : Nat) : Prop :=
  X.1.tables.exec = Jvm.exec ∧ X.2.2.2.2.2.2.2.2.2.1.code = cc ∧ X.2.2.2.2.2.2.2.2.2.1.maxLocals = nL ∧ X.2.2.2.2.1.vm.findClass own = some X.2.2.2.2.2.1.cls ∧ (∀ w ∈ Ts, w.before X.2.2.2.2.2.2.1 X.2.2.2.2.1 = true) ∧ va_K E.1 vwCl (zT E) X.2.2.2.2.1 ∧ (∀ q, X.2.2.2.2.1.heap.size ≤ q → X.2.2.2.2.2.2.2.2.2.2.2.1 q) ∧ zX E X.2.2.2.2.2.2.2.2.2.2.2.1 X.2.2.2.2.1 ∧ X.2.1 = l ∧ X.2.2.2.1 = rm ∧ X.2.2.2.2.2.2.2.2.2.2.2.2 = nL
def lvg : List (Nat × Value) → Nat → Option Value
  | [], _ => none
  | q :: r, i => match Nat.beq q.1 i with
    | true => some q.2
    | false => lvg r i
theorem lvg_has {ls : Array Slot} {n : Nat} : ∀ {lv : List (Nat × Value)} {i : Nat} {v : Value}, lv_has ls n lv → lvg lv i = some v → ls[i]? = some (.val v) := by
  intro lv
  induction lv with
  | nil => intro i v _ h; simp [lvg] at h
  | cons q r ih =>
    intro i v h1 h
    unfold lvg at h
    cases e : Nat.beq q.1 i with
    | true =>
      rw [e] at h
      have h2 : q.2 = v := by simpa using h
      have h3 := Nat.eq_of_beq_eq_true e
      have h4 := h1.2.2 q List.mem_cons_self
      rw [h3, h2] at h4
      exact h4
    | false =>
      rw [e] at h
      exact ih ⟨h1.1, h1.2.1, fun q hq => h1.2.2 q (List.mem_cons_of_mem _ hq)⟩ h
def lvsub (lv : List (Nat × Value)) : List (Nat × Value) → Prop
  | [] => True
  | q :: r => lvg lv q.1 = some q.2 ∧ lvsub lv r
theorem lvsub_has {ls : Array Slot} {n : Nat} {lv : List (Nat × Value)} (h : lv_has ls n lv) : ∀ {lv' : List (Nat × Value)}, lvsub lv lv' → lv_has ls n lv' := by
  intro lv' hs
  refine ⟨h.1, h.2.1, ?_⟩
  induction lv' with
  | nil => intro q hq; simp at hq
  | cons q r ih =>
    intro x hx
    rcases List.mem_cons.mp hx with e | e
    · rw [e]; exact lvg_has h hs.1
    · exact ih hs.2 x e
abbrev lvs1 (lv : List (Nat × Value)) (i : Nat) (v : Value) : List (Nat × Value) := (i, v) :: lv.filter (fun q => !(q.1 == i) && !(q.1 + 1 == i && q.2.category == 2))
abbrev lvs2 (lv : List (Nat × Value)) (i : Nat) (v : Value) : List (Nat × Value) := (i, v) :: lv.filter (fun q => !(q.1 == i) && (!(q.1 == i + 1) && !(q.1 + 1 == i && q.2.category == 2)))
section ZV
variable {X : zC} {E : zE} {S : zS} {kc ks : Nat} {μ : zM} {pc : Nat} {lv : List (Nat × Value)} {st : List Value} {l : Launch} {cc : ByteArray} {own : String} {Ts : List Cond} {rm : Room} {nL : Nat}
theorem z_mem {ν : zM} (e : μ = ν) (k : zV X E S kc ks ν pc lv st) : zV X E S kc ks μ pc lv st := e ▸ k
theorem z_st {st' : List Value} (e : st = st') (k : zV X E S kc ks μ pc lv st') : zV X E S kc ks μ pc lv st := e ▸ k
theorem z_lv {lv' : List (Nat × Value)} (hs : lvsub lv lv') (k : zV X E S kc ks μ pc lv' st) : zV X E S kc ks μ pc lv st := fun H locs ls hP hD hS hl => k H locs ls hP hD hS (lvsub_has hl hs)
theorem z_wide {kc' ks' : Nat} (h1 : kc ≤ kc') (h2 : ks ≤ ks') (k : zV X E S kc' ks' μ pc lv st) : zV X E S kc ks μ pc lv st := fun H locs ls hP hD hS hl => W.widen h1 h2 (k H locs ls hP hD hS hl)
theorem z_iconst (h : zOK X E l cc own Ts rm nL) {n : Int} {v : Int32} (hd : decode cc pc = .ok (.iconst n, 1)) (hv : Int32.ofInt n = v) (k : zV X E S kc ks μ (pc + 1) lv (.int v :: st)) : zV X E S kc ks μ pc lv (st) := fun H locs ls hP hD hS hl => lv_iconst h.1 h.2.1 hd hv (k H locs ls hP hD hS hl)
theorem z_bipush (h : zOK X E l cc own Ts rm nL) {n : Int} {v : Int32} (hd : decode cc pc = .ok (.bipush n, 2)) (hv : (Int8.ofInt n).toInt32 = v) (k : zV X E S kc ks μ (pc + 2) lv (.int v :: st)) : zV X E S kc ks μ pc lv (st) := fun H locs ls hP hD hS hl => lv_bipush h.1 h.2.1 hd hv (k H locs ls hP hD hS hl)
theorem z_sipush (h : zOK X E l cc own Ts rm nL) {n : Int} {v : Int32} (hd : decode cc pc = .ok (.sipush n, 3)) (hv : (Int16.ofInt n).toInt32 = v) (k : zV X E S kc ks μ (pc + 3) lv (.int v :: st)) : zV X E S kc ks μ pc lv (st) := fun H locs ls hP hD hS hl => lv_sipush h.1 h.2.1 hd hv (k H locs ls hP hD hS hl)
theorem z_lconst (h : zOK X E l cc own Ts rm nL) {n : Fin 2} {v : Int64} (hd : decode cc pc = .ok (.lconst n, 1)) (hv : Int64.ofNat (n : Nat) = v) (k : zV X E S kc ks μ (pc + 1) lv (.long v :: st)) : zV X E S kc ks μ pc lv (st) := fun H locs ls hP hD hS hl => lv_lconst h.1 h.2.1 hd hv (k H locs ls hP hD hS hl)
theorem z_iload_n (h : zOK X E l cc own Ts rm nL) {j : Fin 4} {i : Nat} {x : Int32} (hd : decode cc pc = .ok (.iload_n j, 1)) (hi : (j : Nat) = i) (hv : lvg lv i = some (.int x)) (k : zV X E S kc ks μ (pc + 1) lv (.int x :: st)) : zV X E S kc ks μ pc lv (st) := fun H locs ls hP hD hS hl => lv_iload_n h.1 h.2.1 hd hi (lvg_has hl hv) (k H locs ls hP hD hS hl)
theorem z_iload (h : zOK X E l cc own Ts rm nL) {i : Nat} {x : Int32} (hd : decode cc pc = .ok (.iload i, 2)) (hv : lvg lv i = some (.int x)) (k : zV X E S kc ks μ (pc + 2) lv (.int x :: st)) : zV X E S kc ks μ pc lv (st) := fun H locs ls hP hD hS hl => lv_iload h.1 h.2.1 hd (lvg_has hl hv) (k H locs ls hP hD hS hl)
theorem z_istore_n (h : zOK X E l cc own Ts rm nL) {j : Fin 4} {i : Nat} {x : Int32} (hd : decode cc pc = .ok (.istore_n j, 1)) (hi : (j : Nat) = i) (hn : i < nL) (k : zV X E S kc ks μ (pc + 1) (lvs1 lv i (.int x)) st) : zV X E S kc ks μ pc lv (.int x :: st) := fun H locs ls hP hD hS hl => lv_istore_n h.1 h.2.1 hd hi hl (by rw [h.2.2.2.2.2.2.2.2.2.2]; exact hn) rfl (fun ls' hl' => k H locs ls' hP hD hS hl')
theorem z_istore (h : zOK X E l cc own Ts rm nL) {i : Nat} {x : Int32} (hd : decode cc pc = .ok (.istore i, 2)) (hn : i < nL) (k : zV X E S kc ks μ (pc + 2) (lvs1 lv i (.int x)) st) : zV X E S kc ks μ pc lv (.int x :: st) := fun H locs ls hP hD hS hl => lv_istore h.1 h.2.1 hd hl (by rw [h.2.2.2.2.2.2.2.2.2.2]; exact hn) rfl (fun ls' hl' => k H locs ls' hP hD hS hl')
theorem z_lload_n (h : zOK X E l cc own Ts rm nL) {j : Fin 4} {i : Nat} {x : Int64} (hd : decode cc pc = .ok (.lload_n j, 1)) (hi : (j : Nat) = i) (hv : lvg lv i = some (.long x)) (k : zV X E S kc ks μ (pc + 1) lv (.long x :: st)) : zV X E S kc ks μ pc lv (st) := fun H locs ls hP hD hS hl => lv_lload_n h.1 h.2.1 hd hi (lvg_has hl hv) (k H locs ls hP hD hS hl)
theorem z_lload (h : zOK X E l cc own Ts rm nL) {i : Nat} {x : Int64} (hd : decode cc pc = .ok (.lload i, 2)) (hv : lvg lv i = some (.long x)) (k : zV X E S kc ks μ (pc + 2) lv (.long x :: st)) : zV X E S kc ks μ pc lv (st) := fun H locs ls hP hD hS hl => lv_lload h.1 h.2.1 hd (lvg_has hl hv) (k H locs ls hP hD hS hl)
theorem z_lstore_n (h : zOK X E l cc own Ts rm nL) {j : Fin 4} {i : Nat} {x : Int64} (hd : decode cc pc = .ok (.lstore_n j, 1)) (hi : (j : Nat) = i) (hn : i + 1 < nL) (k : zV X E S kc ks μ (pc + 1) (lvs2 lv i (.long x)) st) : zV X E S kc ks μ pc lv (.long x :: st) := fun H locs ls hP hD hS hl => lv_lstore_n h.1 h.2.1 hd hi hl (by rw [h.2.2.2.2.2.2.2.2.2.2]; exact hn) rfl (fun ls' hl' => k H locs ls' hP hD hS hl')
theorem z_lstore (h : zOK X E l cc own Ts rm nL) {i : Nat} {x : Int64} (hd : decode cc pc = .ok (.lstore i, 2)) (hn : i + 1 < nL) (k : zV X E S kc ks μ (pc + 2) (lvs2 lv i (.long x)) st) : zV X E S kc ks μ pc lv (.long x :: st) := fun H locs ls hP hD hS hl => lv_lstore h.1 h.2.1 hd hl (by rw [h.2.2.2.2.2.2.2.2.2.2]; exact hn) rfl (fun ls' hl' => k H locs ls' hP hD hS hl')
theorem z_aload_n (h : zOK X E l cc own Ts rm nL) {j : Fin 4} {i : Nat} {x : Nat} (hd : decode cc pc = .ok (.aload_n j, 1)) (hi : (j : Nat) = i) (hv : lvg lv i = some (.ref x)) (k : zV X E S kc ks μ (pc + 1) lv (.ref x :: st)) : zV X E S kc ks μ pc lv (st) := fun H locs ls hP hD hS hl => lv_aload_n h.1 h.2.1 hd hi (lvg_has hl hv) (k H locs ls hP hD hS hl)
theorem z_aload (h : zOK X E l cc own Ts rm nL) {i : Nat} {x : Nat} (hd : decode cc pc = .ok (.aload i, 2)) (hv : lvg lv i = some (.ref x)) (k : zV X E S kc ks μ (pc + 2) lv (.ref x :: st)) : zV X E S kc ks μ pc lv (st) := fun H locs ls hP hD hS hl => lv_aload h.1 h.2.1 hd (lvg_has hl hv) (k H locs ls hP hD hS hl)
theorem z_astore_n (h : zOK X E l cc own Ts rm nL) {j : Fin 4} {i : Nat} {x : Nat} (hd : decode cc pc = .ok (.astore_n j, 1)) (hi : (j : Nat) = i) (hn : i < nL) (k : zV X E S kc ks μ (pc + 1) (lvs1 lv i (.ref x)) st) : zV X E S kc ks μ pc lv (.ref x :: st) := fun H locs ls hP hD hS hl => lv_astore_n h.1 h.2.1 hd hi hl (by rw [h.2.2.2.2.2.2.2.2.2.2]; exact hn) rfl (fun ls' hl' => k H locs ls' hP hD hS hl')
theorem z_astore (h : zOK X E l cc own Ts rm nL) {i : Nat} {x : Nat} (hd : decode cc pc = .ok (.astore i, 2)) (hn : i < nL) (k : zV X E S kc ks μ (pc + 2) (lvs1 lv i (.ref x)) st) : zV X E S kc ks μ pc lv (.ref x :: st) := fun H locs ls hP hD hS hl => lv_astore h.1 h.2.1 hd hl (by rw [h.2.2.2.2.2.2.2.2.2.2]; exact hn) rfl (fun ls' hl' => k H locs ls' hP hD hS hl')
theorem lvg_pos : ∀ {lv : List (Nat × Value)} {i : Nat} {v : Value}, lvg lv i = some v → ∃ k : Nat, lv[k]? = some (i, v) := by
  intro lv
  induction lv with
  | nil => intro i v h; simp [lvg] at h
  | cons q r ih =>
    intro i v h
    unfold lvg at h
    cases e : Nat.beq q.1 i with
    | true =>
      rw [e] at h
      have h2 : q.2 = v := by simpa using h
      have h3 := Nat.eq_of_beq_eq_true e
      exact ⟨0, by rw [← h3, ← h2]; rfl⟩
    | false =>
      rw [e] at h
      obtain ⟨k, hk⟩ := ih h
      exact ⟨k + 1, hk⟩
theorem z_iinc (h : zOK X E l cc own Ts rm nL) {i : Nat} {n : Int} {x v : Int32} (hd : decode cc pc = .ok (.iinc i n, 3)) (hx : lvg lv i = some (.int x)) (hv : x + Int32.ofInt n = v) (hn : i < nL) (k : zV X E S kc ks μ (pc + 3) (lvs1 lv i (.int v)) st) : zV X E S kc ks μ pc lv st := fun H locs ls hP hD hS hl => by
  obtain ⟨q, hq⟩ := lvg_pos hx
  exact lv_iinc h.1 h.2.1 hd hl hq hv (by rw [h.2.2.2.2.2.2.2.2.2.2]; exact hn) rfl (fun ls' hl' => k H locs ls' hP hD hS hl')
theorem z_iadd (h : zOK X E l cc own Ts rm nL) {x y : Int32} (hd : decode cc pc = .ok (.iadd, 1)) (k : zV X E S kc ks μ (pc + 1) lv (.int (x + y) :: st)) : zV X E S kc ks μ pc lv (.int y :: .int x :: st) := fun H locs ls hP hD hS hl => lv_iadd h.1 h.2.1 hd (k H locs ls hP hD hS hl)
theorem z_isub (h : zOK X E l cc own Ts rm nL) {x y : Int32} (hd : decode cc pc = .ok (.isub, 1)) (k : zV X E S kc ks μ (pc + 1) lv (.int (x - y) :: st)) : zV X E S kc ks μ pc lv (.int y :: .int x :: st) := fun H locs ls hP hD hS hl => lv_isub h.1 h.2.1 hd (k H locs ls hP hD hS hl)
theorem z_imul (h : zOK X E l cc own Ts rm nL) {x y : Int32} (hd : decode cc pc = .ok (.imul, 1)) (k : zV X E S kc ks μ (pc + 1) lv (.int (x * y) :: st)) : zV X E S kc ks μ pc lv (.int y :: .int x :: st) := fun H locs ls hP hD hS hl => lv_imul h.1 h.2.1 hd (k H locs ls hP hD hS hl)
theorem z_iand (h : zOK X E l cc own Ts rm nL) {x y : Int32} (hd : decode cc pc = .ok (.iand, 1)) (k : zV X E S kc ks μ (pc + 1) lv (.int (x &&& y) :: st)) : zV X E S kc ks μ pc lv (.int y :: .int x :: st) := fun H locs ls hP hD hS hl => lv_iand h.1 h.2.1 hd (k H locs ls hP hD hS hl)
theorem z_ior (h : zOK X E l cc own Ts rm nL) {x y : Int32} (hd : decode cc pc = .ok (.ior, 1)) (k : zV X E S kc ks μ (pc + 1) lv (.int (x ||| y) :: st)) : zV X E S kc ks μ pc lv (.int y :: .int x :: st) := fun H locs ls hP hD hS hl => lv_ior h.1 h.2.1 hd (k H locs ls hP hD hS hl)
theorem z_ixor (h : zOK X E l cc own Ts rm nL) {x y : Int32} (hd : decode cc pc = .ok (.ixor, 1)) (k : zV X E S kc ks μ (pc + 1) lv (.int (x ^^^ y) :: st)) : zV X E S kc ks μ pc lv (.int y :: .int x :: st) := fun H locs ls hP hD hS hl => lv_ixor h.1 h.2.1 hd (k H locs ls hP hD hS hl)
theorem z_ishl (h : zOK X E l cc own Ts rm nL) {x y : Int32} (hd : decode cc pc = .ok (.ishl, 1)) (k : zV X E S kc ks μ (pc + 1) lv (.int (x <<< (y &&& 31)) :: st)) : zV X E S kc ks μ pc lv (.int y :: .int x :: st) := fun H locs ls hP hD hS hl => lv_ishl h.1 h.2.1 hd (k H locs ls hP hD hS hl)
theorem z_ishr (h : zOK X E l cc own Ts rm nL) {x y : Int32} (hd : decode cc pc = .ok (.ishr, 1)) (k : zV X E S kc ks μ (pc + 1) lv (.int (x >>> (y &&& 31)) :: st)) : zV X E S kc ks μ pc lv (.int y :: .int x :: st) := fun H locs ls hP hD hS hl => lv_ishr h.1 h.2.1 hd (k H locs ls hP hD hS hl)
theorem z_iushr (h : zOK X E l cc own Ts rm nL) {x y v : Int32} (hd : decode cc pc = .ok (.iushr, 1)) (hv : (x.toUInt32 >>> (y.toUInt32 &&& Int32.toUInt32 31)).toInt32 = v) (k : zV X E S kc ks μ (pc + 1) lv (.int v :: st)) : zV X E S kc ks μ pc lv (.int y :: .int x :: st) := fun H locs ls hP hD hS hl => lv_iushr h.1 h.2.1 hd hv (k H locs ls hP hD hS hl)
theorem z_ineg (h : zOK X E l cc own Ts rm nL) {x : Int32} (hd : decode cc pc = .ok (.ineg, 1)) (k : zV X E S kc ks μ (pc + 1) lv (.int (-x) :: st)) : zV X E S kc ks μ pc lv (.int x :: st) := fun H locs ls hP hD hS hl => lv_ineg h.1 h.2.1 hd (k H locs ls hP hD hS hl)
theorem z_ladd (h : zOK X E l cc own Ts rm nL) {x y : Int64} (hd : decode cc pc = .ok (.ladd, 1)) (k : zV X E S kc ks μ (pc + 1) lv (.long (x + y) :: st)) : zV X E S kc ks μ pc lv (.long y :: .long x :: st) := fun H locs ls hP hD hS hl => lv_ladd h.1 h.2.1 hd (k H locs ls hP hD hS hl)
theorem z_lsub (h : zOK X E l cc own Ts rm nL) {x y : Int64} (hd : decode cc pc = .ok (.lsub, 1)) (k : zV X E S kc ks μ (pc + 1) lv (.long (x - y) :: st)) : zV X E S kc ks μ pc lv (.long y :: .long x :: st) := fun H locs ls hP hD hS hl => lv_lsub h.1 h.2.1 hd (k H locs ls hP hD hS hl)
theorem z_lmul (h : zOK X E l cc own Ts rm nL) {x y : Int64} (hd : decode cc pc = .ok (.lmul, 1)) (k : zV X E S kc ks μ (pc + 1) lv (.long (x * y) :: st)) : zV X E S kc ks μ pc lv (.long y :: .long x :: st) := fun H locs ls hP hD hS hl => lv_lmul h.1 h.2.1 hd (k H locs ls hP hD hS hl)
theorem z_ldiv (h : zOK X E l cc own Ts rm nL) {x y : Int64} (hd : decode cc pc = .ok (.ldiv, 1)) (hne : ¬ y = 0) (k : zV X E S kc ks μ (pc + 1) lv (.long (x / y) :: st)) : zV X E S kc ks μ pc lv (.long y :: .long x :: st) := fun H locs ls hP hD hS hl => lv_ldiv h.1 h.2.1 hd hne (k H locs ls hP hD hS hl)
theorem z_lrem (h : zOK X E l cc own Ts rm nL) {x y : Int64} (hd : decode cc pc = .ok (.lrem, 1)) (hne : ¬ y = 0) (k : zV X E S kc ks μ (pc + 1) lv (.long (x - x / y * y) :: st)) : zV X E S kc ks μ pc lv (.long y :: .long x :: st) := fun H locs ls hP hD hS hl => lv_lrem h.1 h.2.1 hd hne (k H locs ls hP hD hS hl)
theorem z_lneg (h : zOK X E l cc own Ts rm nL) {x : Int64} (hd : decode cc pc = .ok (.lneg, 1)) (k : zV X E S kc ks μ (pc + 1) lv (.long (-x) :: st)) : zV X E S kc ks μ pc lv (.long x :: st) := fun H locs ls hP hD hS hl => lv_lneg h.1 h.2.1 hd (k H locs ls hP hD hS hl)
theorem z_i2l (h : zOK X E l cc own Ts rm nL) {x : Int32} {v : Int64} (hd : decode cc pc = .ok (.i2l, 1)) (hv : x.toInt64 = v) (k : zV X E S kc ks μ (pc + 1) lv (.long v :: st)) : zV X E S kc ks μ pc lv (.int x :: st) := fun H locs ls hP hD hS hl => lv_i2l h.1 h.2.1 hd hv (k H locs ls hP hD hS hl)
theorem z_i2b (h : zOK X E l cc own Ts rm nL) {x : Int32} {v : Int32} (hd : decode cc pc = .ok (.i2b, 1)) (hv : x.toInt8.toInt32 = v) (k : zV X E S kc ks μ (pc + 1) lv (.int v :: st)) : zV X E S kc ks μ pc lv (.int x :: st) := fun H locs ls hP hD hS hl => lv_i2b h.1 h.2.1 hd hv (k H locs ls hP hD hS hl)
theorem z_i2c (h : zOK X E l cc own Ts rm nL) {x : Int32} {v : Int32} (hd : decode cc pc = .ok (.i2c, 1)) (hv : (x.toUInt32 % 65536).toInt32 = v) (k : zV X E S kc ks μ (pc + 1) lv (.int v :: st)) : zV X E S kc ks μ pc lv (.int x :: st) := fun H locs ls hP hD hS hl => lv_i2c h.1 h.2.1 hd hv (k H locs ls hP hD hS hl)
theorem z_dup (h : zOK X E l cc own Ts rm nL) {va : Value} (hd : decode cc pc = .ok (.dup, 1)) (hva : va.category = 1) (k : zV X E S kc ks μ (pc + 1) lv (va :: va :: st)) : zV X E S kc ks μ pc lv (va :: st) := fun H locs ls hP hD hS hl => lv_dup h.1 h.2.1 hd hva (k H locs ls hP hD hS hl)
theorem z_pop (h : zOK X E l cc own Ts rm nL) {va : Value} (hd : decode cc pc = .ok (.pop, 1)) (hva : va.category = 1) (k : zV X E S kc ks μ (pc + 1) lv (st)) : zV X E S kc ks μ pc lv (va :: st) := fun H locs ls hP hD hS hl => lv_pop h.1 h.2.1 hd hva (k H locs ls hP hD hS hl)
theorem z_dup2 (h : zOK X E l cc own Ts rm nL) {va vb : Value} (hd : decode cc pc = .ok (.dup2, 1)) (hva : va.category = 1) (hvb : vb.category = 1) (k : zV X E S kc ks μ (pc + 1) lv (va :: vb :: va :: vb :: st)) : zV X E S kc ks μ pc lv (va :: vb :: st) := fun H locs ls hP hD hS hl => lv_dup2_11 h.1 h.2.1 hd hva hvb (k H locs ls hP hD hS hl)
theorem z_lcmp (h : zOK X E l cc own Ts rm nL) {x y : Int64} (hd : decode cc pc = .ok (.lcmp, 1)) (k : zV X E S kc ks μ (pc + 1) lv (.int (lg_cmp x y) :: st)) : zV X E S kc ks μ pc lv (.long y :: .long x :: st) := fun H locs ls hP hD hS hl => W.lcmp h.1 h.2.1 hd (k H locs ls hP hD hS hl)
theorem z_ldc2 (h : zOK X E l cc own Ts rm nL) {index : Nat} {v : Int64} (hw : Cond.constantLong own index v ∈ Ts) (hd : decode cc pc = .ok (.ldc2_w index, 3)) (k : zV X E S kc ks μ (pc + 3) lv (.long v :: st)) : zV X E S kc ks μ pc lv (st) := fun H locs ls hP hD hS hl => lv_ldc2 h.1 h.2.1 h.2.2.2.1 (h.2.2.2.2.1 _ hw) hd (k H locs ls hP hD hS hl)
theorem z_ldcI (h : zOK X E l cc own Ts rm nL) {index : Nat} {v : Int32} (hw : Cond.constant own index v ∈ Ts) (hd : decode cc pc = .ok (.ldc index, 2)) (k : zV X E S kc ks μ (pc + 2) lv (.int v :: st)) : zV X E S kc ks μ pc lv (st) := fun H locs ls hP hD hS hl => lv_ldc h.1 h.2.1 h.2.2.2.1 (h.2.2.2.2.1 _ hw) hd (k H locs ls hP hD hS hl)
theorem z_ldcS (h : zOK X E l cc own Ts rm nL) {index : Nat} (i : Nat) (hi : i < zlN) (ho : zlO i = own) (hk : zlK i = index) (hd : decode cc pc = .ok (.ldc index, 2)) (k : zV X E S kc ks μ (pc + 2) lv (.ref (E.2.2.1 i) :: st)) : zV X E S kc ks μ pc lv (st) := fun H locs ls hP hD hS hl => va_ldcS h.1 h.2.1 h.2.2.2.1 (tx := zlT i) (by have := h.2.2.2.2.2.2.2.1.2.1 i hi; rw [ho, hk] at this; exact this) hd (k H locs ls hP hD hS hl)
theorem z_icmp_eq (h : zOK X E l cc own Ts rm nL) {x y : Int32} {off : Int} (tgt : Nat) (hd : decode cc pc = .ok (.if_icmp .eq off, 3)) (ht : (pc : Int) + off = (tgt : Int)) (kt : x = y → zV X E S kc ks μ tgt lv st) (kf : ¬ x = y → zV X E S kc ks μ (pc + 3) lv st) : zV X E S kc ks μ pc lv (.int y :: .int x :: st) := fun H locs ls hP hD hS hl => lv_icmp_eq h.1 h.2.1 hd ht (fun q => kt q H locs ls hP hD hS hl) (fun q => kf q H locs ls hP hD hS hl)
theorem z_if_eq (h : zOK X E l cc own Ts rm nL) {x : Int32} {off : Int} (tgt : Nat) (hd : decode cc pc = .ok (.ifCond .eq off, 3)) (ht : (pc : Int) + off = (tgt : Int)) (kt : x = 0 → zV X E S kc ks μ tgt lv st) (kf : ¬ x = 0 → zV X E S kc ks μ (pc + 3) lv st) : zV X E S kc ks μ pc lv (.int x :: st) := fun H locs ls hP hD hS hl => lv_if_eq h.1 h.2.1 hd ht (fun q => kt q H locs ls hP hD hS hl) (fun q => kf q H locs ls hP hD hS hl)
theorem z_icmp_ne (h : zOK X E l cc own Ts rm nL) {x y : Int32} {off : Int} (tgt : Nat) (hd : decode cc pc = .ok (.if_icmp .ne off, 3)) (ht : (pc : Int) + off = (tgt : Int)) (kt : ¬ x = y → zV X E S kc ks μ tgt lv st) (kf : x = y → zV X E S kc ks μ (pc + 3) lv st) : zV X E S kc ks μ pc lv (.int y :: .int x :: st) := fun H locs ls hP hD hS hl => lv_icmp_ne h.1 h.2.1 hd ht (fun q => kt q H locs ls hP hD hS hl) (fun q => kf q H locs ls hP hD hS hl)
theorem z_if_ne (h : zOK X E l cc own Ts rm nL) {x : Int32} {off : Int} (tgt : Nat) (hd : decode cc pc = .ok (.ifCond .ne off, 3)) (ht : (pc : Int) + off = (tgt : Int)) (kt : ¬ x = 0 → zV X E S kc ks μ tgt lv st) (kf : x = 0 → zV X E S kc ks μ (pc + 3) lv st) : zV X E S kc ks μ pc lv (.int x :: st) := fun H locs ls hP hD hS hl => lv_if_ne h.1 h.2.1 hd ht (fun q => kt q H locs ls hP hD hS hl) (fun q => kf q H locs ls hP hD hS hl)
theorem z_icmp_lt (h : zOK X E l cc own Ts rm nL) {x y : Int32} {off : Int} (tgt : Nat) (hd : decode cc pc = .ok (.if_icmp .lt off, 3)) (ht : (pc : Int) + off = (tgt : Int)) (kt : x < y → zV X E S kc ks μ tgt lv st) (kf : ¬ x < y → zV X E S kc ks μ (pc + 3) lv st) : zV X E S kc ks μ pc lv (.int y :: .int x :: st) := fun H locs ls hP hD hS hl => lv_icmp_lt h.1 h.2.1 hd ht (fun q => kt q H locs ls hP hD hS hl) (fun q => kf q H locs ls hP hD hS hl)
theorem z_if_lt (h : zOK X E l cc own Ts rm nL) {x : Int32} {off : Int} (tgt : Nat) (hd : decode cc pc = .ok (.ifCond .lt off, 3)) (ht : (pc : Int) + off = (tgt : Int)) (kt : x < 0 → zV X E S kc ks μ tgt lv st) (kf : ¬ x < 0 → zV X E S kc ks μ (pc + 3) lv st) : zV X E S kc ks μ pc lv (.int x :: st) := fun H locs ls hP hD hS hl => lv_if_lt h.1 h.2.1 hd ht (fun q => kt q H locs ls hP hD hS hl) (fun q => kf q H locs ls hP hD hS hl)
theorem z_icmp_ge (h : zOK X E l cc own Ts rm nL) {x y : Int32} {off : Int} (tgt : Nat) (hd : decode cc pc = .ok (.if_icmp .ge off, 3)) (ht : (pc : Int) + off = (tgt : Int)) (kt : y ≤ x → zV X E S kc ks μ tgt lv st) (kf : ¬ y ≤ x → zV X E S kc ks μ (pc + 3) lv st) : zV X E S kc ks μ pc lv (.int y :: .int x :: st) := fun H locs ls hP hD hS hl => lv_icmp_ge h.1 h.2.1 hd ht (fun q => kt q H locs ls hP hD hS hl) (fun q => kf q H locs ls hP hD hS hl)
theorem z_if_ge (h : zOK X E l cc own Ts rm nL) {x : Int32} {off : Int} (tgt : Nat) (hd : decode cc pc = .ok (.ifCond .ge off, 3)) (ht : (pc : Int) + off = (tgt : Int)) (kt : 0 ≤ x → zV X E S kc ks μ tgt lv st) (kf : ¬ 0 ≤ x → zV X E S kc ks μ (pc + 3) lv st) : zV X E S kc ks μ pc lv (.int x :: st) := fun H locs ls hP hD hS hl => lv_if_ge h.1 h.2.1 hd ht (fun q => kt q H locs ls hP hD hS hl) (fun q => kf q H locs ls hP hD hS hl)
theorem z_icmp_gt (h : zOK X E l cc own Ts rm nL) {x y : Int32} {off : Int} (tgt : Nat) (hd : decode cc pc = .ok (.if_icmp .gt off, 3)) (ht : (pc : Int) + off = (tgt : Int)) (kt : y < x → zV X E S kc ks μ tgt lv st) (kf : ¬ y < x → zV X E S kc ks μ (pc + 3) lv st) : zV X E S kc ks μ pc lv (.int y :: .int x :: st) := fun H locs ls hP hD hS hl => lv_icmp_gt h.1 h.2.1 hd ht (fun q => kt q H locs ls hP hD hS hl) (fun q => kf q H locs ls hP hD hS hl)
theorem z_if_gt (h : zOK X E l cc own Ts rm nL) {x : Int32} {off : Int} (tgt : Nat) (hd : decode cc pc = .ok (.ifCond .gt off, 3)) (ht : (pc : Int) + off = (tgt : Int)) (kt : 0 < x → zV X E S kc ks μ tgt lv st) (kf : ¬ 0 < x → zV X E S kc ks μ (pc + 3) lv st) : zV X E S kc ks μ pc lv (.int x :: st) := fun H locs ls hP hD hS hl => lv_if_gt h.1 h.2.1 hd ht (fun q => kt q H locs ls hP hD hS hl) (fun q => kf q H locs ls hP hD hS hl)
theorem z_icmp_le (h : zOK X E l cc own Ts rm nL) {x y : Int32} {off : Int} (tgt : Nat) (hd : decode cc pc = .ok (.if_icmp .le off, 3)) (ht : (pc : Int) + off = (tgt : Int)) (kt : x ≤ y → zV X E S kc ks μ tgt lv st) (kf : ¬ x ≤ y → zV X E S kc ks μ (pc + 3) lv st) : zV X E S kc ks μ pc lv (.int y :: .int x :: st) := fun H locs ls hP hD hS hl => lv_icmp_le h.1 h.2.1 hd ht (fun q => kt q H locs ls hP hD hS hl) (fun q => kf q H locs ls hP hD hS hl)
theorem z_if_le (h : zOK X E l cc own Ts rm nL) {x : Int32} {off : Int} (tgt : Nat) (hd : decode cc pc = .ok (.ifCond .le off, 3)) (ht : (pc : Int) + off = (tgt : Int)) (kt : x ≤ 0 → zV X E S kc ks μ tgt lv st) (kf : ¬ x ≤ 0 → zV X E S kc ks μ (pc + 3) lv st) : zV X E S kc ks μ pc lv (.int x :: st) := fun H locs ls hP hD hS hl => lv_if_le h.1 h.2.1 hd ht (fun q => kt q H locs ls hP hD hS hl) (fun q => kf q H locs ls hP hD hS hl)
theorem z_goto (h : zOK X E l cc own Ts rm nL) {off : Int} (tgt : Nat) (hd : decode cc pc = .ok (.goto off, 3)) (ht : (pc : Int) + off = (tgt : Int)) (k : zV X E S kc ks μ tgt lv st) : zV X E S kc ks μ pc lv st := fun H locs ls hP hD hS hl => lv_goto h.1 h.2.1 hd ht (k H locs ls hP hD hS hl)
end ZV
def zty : Nat → Nat → FieldType
  | 0 => tyX0
  | 1 => tyX1
  | 2 => tyX2
  | 3 => tyX3
  | 4 => tyX4
  | 5 => tyX5
  | 6 => tyX6
  | _ => tyX7
theorem zcls {ci : Nat} {C : String} {T : u_T} {N : Nat} (hc : vwCl[ci]? = some (C, T, N)) : (∀ k, k < N → parseFieldDescriptor (T k).2.2.1 = some (zty ci k)) ∧ (∀ a, a < N → ∀ b, b < N → a ≠ b → (T a).2.1 ≠ (T b).2.1) ∧ ci < 8 := by
  match ci, hc with
  | 0, hc => cases hc; exact ⟨tyX0_ok, nmX0, by decide⟩
  | 1, hc => cases hc; exact ⟨tyX1_ok, nmX1, by decide⟩
  | 2, hc => cases hc; exact ⟨tyX2_ok, nmX2, by decide⟩
  | 3, hc => cases hc; exact ⟨tyX3_ok, nmX3, by decide⟩
  | 4, hc => cases hc; exact ⟨tyX4_ok, nmX4, by decide⟩
  | 5, hc => cases hc; exact ⟨tyX5_ok, nmX5, by decide⟩
  | 6, hc => cases hc; exact ⟨tyX6_ok, nmX6, by decide⟩
  | 7, hc => cases hc; exact ⟨tyX7_ok, nmX7, by decide⟩
  | k + 8, hc => simp [vwCl] at hc
/-- an index that is in its row -/
def zix (i : Int32) (j n : Nat) : Prop := vp_in i n ∧ i.toNatClampNeg = j
theorem zix_nI {j n : Nat} (h : j < n) (hn : n < 2 ^ 31) : zix (nI j) j n := ⟨vp_in_nI h hn, nI_clamp (by omega)⟩
theorem zix_e {i : Int32} {j n : Nat} (e : i = nI j) (h : j < n) (hn : n < 2 ^ 31) : zix i j n := e ▸ zix_nI h hn
section ZF
variable {X : zC} {E : zE} {S : zS} {kc ks : Nat} {μ : zM} {I : Nat → Nat → Int32} {J : Nat → Nat → Int64} {R : Nat → Nat → Option Nat} {pc : Nat} {lv : List (Nat × Value)} {st : List Value} {l : Launch} {cc : ByteArray} {own : String} {Ts : List Cond} {rm : Room} {nL : Nat}
variable {C : String} {T : u_T} {N ci index a k : Nat}
theorem z_getI (h : zOK X E l cc own Ts rm nL) (ho : zO S a ci) (hc : vwCl[ci]? = some (C, T, N)) (hin : ∀ w ∈ u_ws C T N, w ∈ Ts) (k : Nat) (hk : k < N) (ht : (zk ci)[k]? = some 0) (hw : Cond.fieldLink own index (T k).1 (T k).2.1 (T k).2.2.1 ∈ Ts) (hd : decode cc pc = .ok (.getfield index, 3))
    (kk : zV X E S kc ks (I, J, R) (pc + 3) lv (.int (I a k) :: st)) : zV X E S kc ks (I, J, R) pc lv (.ref a :: st) := fun H locs ls hP hD hS hl => by
  obtain ⟨q, hq, hq'⟩ := zW_at (E := E) (μ := (I, J, R)) ho.1 (zc_o ho.2 (zcls hc).2.2)
  exact va_get h.1 h.2.1 h.2.2.2.2.1 hin h.2.2.2.1 h.2.2.2.2.2.1 hP q hq' hc k hk (h.2.2.2.2.1 _ hw) (fun _ h9 => h9) (v := .int (I a k)) (by rw [zf_get _ _ _ _ _ _ ht]; simp [zval]) hd (kk H locs ls hP hD hS hl)
theorem z_getJ (h : zOK X E l cc own Ts rm nL) (ho : zO S a ci) (hc : vwCl[ci]? = some (C, T, N)) (hin : ∀ w ∈ u_ws C T N, w ∈ Ts) (k : Nat) (hk : k < N) (ht : (zk ci)[k]? = some 1) (hw : Cond.fieldLink own index (T k).1 (T k).2.1 (T k).2.2.1 ∈ Ts) (hd : decode cc pc = .ok (.getfield index, 3))
    (kk : zV X E S kc ks (I, J, R) (pc + 3) lv (.long (J a k) :: st)) : zV X E S kc ks (I, J, R) pc lv (.ref a :: st) := fun H locs ls hP hD hS hl => by
  obtain ⟨q, hq, hq'⟩ := zW_at (E := E) (μ := (I, J, R)) ho.1 (zc_o ho.2 (zcls hc).2.2)
  exact va_get h.1 h.2.1 h.2.2.2.2.1 hin h.2.2.2.1 h.2.2.2.2.2.1 hP q hq' hc k hk (h.2.2.2.2.1 _ hw) (fun _ h9 => h9) (v := .long (J a k)) (by rw [zf_get _ _ _ _ _ _ ht]; simp [zval]) hd (kk H locs ls hP hD hS hl)
theorem z_getR (h : zOK X E l cc own Ts rm nL) (ho : zO S a ci) (hc : vwCl[ci]? = some (C, T, N)) (hin : ∀ w ∈ u_ws C T N, w ∈ Ts) (k : Nat) (hk : k < N) (ht : (zk ci)[k]? = some 2) {b : Nat} (hr : R a k = some b) (hw : Cond.fieldLink own index (T k).1 (T k).2.1 (T k).2.2.1 ∈ Ts) (hd : decode cc pc = .ok (.getfield index, 3))
    (kk : zV X E S kc ks (I, J, R) (pc + 3) lv (.ref b :: st)) : zV X E S kc ks (I, J, R) pc lv (.ref a :: st) := fun H locs ls hP hD hS hl => by
  obtain ⟨q, hq, hq'⟩ := zW_at (E := E) (μ := (I, J, R)) ho.1 (zc_o ho.2 (zcls hc).2.2)
  exact va_get h.1 h.2.1 h.2.2.2.2.1 hin h.2.2.2.1 h.2.2.2.2.2.1 hP q hq' hc k hk (h.2.2.2.2.1 _ hw) (fun _ h9 => h9) (v := .ref b) (by rw [zf_get _ _ _ _ _ _ ht]; simp [zval, hr, va_rf]) hd (kk H locs ls hP hD hS hl)
theorem zc_putI {Y : Nat → ClassId} {K N : Nat → Nat} {a ci k : Nat} {v : Int32} (e : K a = ci) (h8 : ci < 8) (ht : (zk ci)[k]? = some 0) : zc Y K N (zu μ.1 a k v, μ.2) a = .inr (ci, (zf μ a (zk ci) 0).set k (.int v)) := by
  rw [zc_o e h8, zf_set μ (zu μ.1 a k v, μ.2) a (.int v) (zk ci) 0 k 0 ht (by simp [zval, zu]) (fun i u hi => by simp [zval, zu, show i ≠ k by omega])]
theorem zc_putJ {Y : Nat → ClassId} {K N : Nat → Nat} {a ci k : Nat} {v : Int64} (e : K a = ci) (h8 : ci < 8) (ht : (zk ci)[k]? = some 1) : zc Y K N (μ.1, zu μ.2.1 a k v, μ.2.2) a = .inr (ci, (zf μ a (zk ci) 0).set k (.long v)) := by
  rw [zc_o e h8, zf_set μ (μ.1, zu μ.2.1 a k v, μ.2.2) a (.long v) (zk ci) 0 k 1 ht (by simp [zval, zu]) (fun i u hi => by simp [zval, zu, show i ≠ k by omega])]
theorem zc_putR {Y : Nat → ClassId} {K N : Nat → Nat} {a ci k : Nat} {v : Option Nat} (e : K a = ci) (h8 : ci < 8) (ht : (zk ci)[k]? = some 2) : zc Y K N (μ.1, μ.2.1, zu μ.2.2 a k v) a = .inr (ci, (zf μ a (zk ci) 0).set k (va_rf v)) := by
  rw [zc_o e h8, zf_set μ (μ.1, μ.2.1, zu μ.2.2 a k v) a (va_rf v) (zk ci) 0 k 2 ht (by simp [zval, zu]) (fun i u hi => by simp [zval, zu, show i ≠ k by omega])]
theorem z_putI (h : zOK X E l cc own Ts rm nL) (ho : zO S a ci) (hc : vwCl[ci]? = some (C, T, N)) (hin : ∀ w ∈ u_ws C T N, w ∈ Ts) (k : Nat) (hk : k < N) (ht : (zk ci)[k]? = some 0) (hfin : (T k).2.2.2 = false) {v : Int32} (hn : narrow (zty ci k) (.int v) = .int v) (hfit : fits (zty ci k) (.int v) = true) (hw : Cond.fieldLink own index (T k).1 (T k).2.1 (T k).2.2.1 ∈ Ts) (hd : decode cc pc = .ok (.putfield index, 3))
    (kk : zV X E S kc ks (zu I a k v, J, R) (pc + 3) lv st) : zV X E S kc ks (I, J, R) pc lv (.int v :: .ref a :: st) := fun H locs ls hP hD hS hl => by
  obtain ⟨h1, h2, h8⟩ := zcls hc
  obtain ⟨q, hq, hq'⟩ := zW_at (E := E) (μ := (I, J, R)) ho.1 (zc_o ho.2 h8)
  refine va_put h.1 h.2.1 h.2.2.2.2.1 hin (zty ci) h1 h2 h.2.2.2.1 h.2.2.2.2.2.1 hP hD hS q hq' hc k hk (h.2.2.2.2.1 _ hw) (fun _ h9 => h9) hfin (h1 k hk) hn hfit (by rw [zf_len]; exact (List.getElem?_eq_some_iff.mp ht).1) hd (fun H1 locs1 hP1 hD1 hS1 => ?_)
  have e := zW_set (ν := (zu I a k v, J, R)) hD ho.1 hq (zc_putI (μ := (I, J, R)) ho.2 h8 ht) (fun b hb => zc_congr (zu_o hb) rfl rfl)
  rw [e] at hP1 hD1
  exact kk H1 locs1 ls hP1 hD1 hS1 hl
theorem z_putJ (h : zOK X E l cc own Ts rm nL) (ho : zO S a ci) (hc : vwCl[ci]? = some (C, T, N)) (hin : ∀ w ∈ u_ws C T N, w ∈ Ts) (k : Nat) (hk : k < N) (ht : (zk ci)[k]? = some 1) (hfin : (T k).2.2.2 = false) {v : Int64} (hn : narrow (zty ci k) (.long v) = .long v) (hfit : fits (zty ci k) (.long v) = true) (hw : Cond.fieldLink own index (T k).1 (T k).2.1 (T k).2.2.1 ∈ Ts) (hd : decode cc pc = .ok (.putfield index, 3))
    (kk : zV X E S kc ks (I, zu J a k v, R) (pc + 3) lv st) : zV X E S kc ks (I, J, R) pc lv (.long v :: .ref a :: st) := fun H locs ls hP hD hS hl => by
  obtain ⟨h1, h2, h8⟩ := zcls hc
  obtain ⟨q, hq, hq'⟩ := zW_at (E := E) (μ := (I, J, R)) ho.1 (zc_o ho.2 h8)
  refine va_put h.1 h.2.1 h.2.2.2.2.1 hin (zty ci) h1 h2 h.2.2.2.1 h.2.2.2.2.2.1 hP hD hS q hq' hc k hk (h.2.2.2.2.1 _ hw) (fun _ h9 => h9) hfin (h1 k hk) hn hfit (by rw [zf_len]; exact (List.getElem?_eq_some_iff.mp ht).1) hd (fun H1 locs1 hP1 hD1 hS1 => ?_)
  have e := zW_set (ν := (I, zu J a k v, R)) hD ho.1 hq (zc_putJ (μ := (I, J, R)) ho.2 h8 ht) (fun b hb => zc_congr rfl (zu_o hb) rfl)
  rw [e] at hP1 hD1
  exact kk H1 locs1 ls hP1 hD1 hS1 hl
theorem z_putR (h : zOK X E l cc own Ts rm nL) (ho : zO S a ci) (hc : vwCl[ci]? = some (C, T, N)) (hin : ∀ w ∈ u_ws C T N, w ∈ Ts) (k : Nat) (hk : k < N) (ht : (zk ci)[k]? = some 2) (hfin : (T k).2.2.2 = false) {b : Nat} (hn : narrow (zty ci k) (.ref b) = .ref b) (hfit : fits (zty ci k) (.ref b) = true) (hw : Cond.fieldLink own index (T k).1 (T k).2.1 (T k).2.2.1 ∈ Ts) (hd : decode cc pc = .ok (.putfield index, 3))
    (kk : zV X E S kc ks (I, J, zu R a k (some b)) (pc + 3) lv st) : zV X E S kc ks (I, J, R) pc lv (.ref b :: .ref a :: st) := fun H locs ls hP hD hS hl => by
  obtain ⟨h1, h2, h8⟩ := zcls hc
  obtain ⟨q, hq, hq'⟩ := zW_at (E := E) (μ := (I, J, R)) ho.1 (zc_o ho.2 h8)
  refine va_put h.1 h.2.1 h.2.2.2.2.1 hin (zty ci) h1 h2 h.2.2.2.1 h.2.2.2.2.2.1 hP hD hS q hq' hc k hk (h.2.2.2.2.1 _ hw) (fun _ h9 => h9) hfin (h1 k hk) hn hfit (by rw [zf_len]; exact (List.getElem?_eq_some_iff.mp ht).1) hd (fun H1 locs1 hP1 hD1 hS1 => ?_)
  have e := zW_set (ν := (I, J, zu R a k (some b))) hD ho.1 hq (zc_putR (μ := (I, J, R)) ho.2 h8 ht) (fun b hb => zc_congr rfl rfl (zu_o hb))
  rw [show va_rf (some b) = Value.ref b from rfl] at e
  rw [e] at hP1 hD1
  exact kk H1 locs1 ls hP1 hD1 hS1 hl
theorem z_iald (h : zOK X E l cc own Ts rm nL) {n j : Nat} {i : Int32} (ha : zA S a 9 n) (hi : zix i j n) (hd : decode cc pc = .ok (.iaload, 1)) (kk : zV X E S kc ks (I, J, R) (pc + 1) lv (.int (I a j) :: st)) : zV X E S kc ks (I, J, R) pc lv (.int i :: .ref a :: st) := fun H locs ls hP hD hS hl => by
  obtain ⟨q, hq, hq'⟩ := zW_at (E := E) (μ := (I, J, R)) ha.1 (zc_i ha.2.1 ha.2.2 (by decide) (by decide) (by decide))
  refine va_iald h.1 h.2.1 h.2.2.2.2.2.1 hP q 1 hq' rfl hi.1 hd ?_
  rw [hi.2]
  exact kk H locs ls hP hD hS hl
theorem z_bald (h : zOK X E l cc own Ts rm nL) {n j : Nat} {i : Int32} (ha : zA S a 8 n) (hi : zix i j n) (hd : decode cc pc = .ok (.baload, 1)) (kk : zV X E S kc ks (I, J, R) (pc + 1) lv (.int (I a j) :: st)) : zV X E S kc ks (I, J, R) pc lv (.int i :: .ref a :: st) := fun H locs ls hP hD hS hl => by
  obtain ⟨q, hq, hq'⟩ := zW_at (E := E) (μ := (I, J, R)) ha.1 (zc_i ha.2.1 ha.2.2 (by decide) (by decide) (by decide))
  refine va_bald h.1 h.2.1 h.2.2.2.2.2.1 hP q 0 hq' rfl hi.1 hd ?_
  rw [hi.2]
  exact kk H locs ls hP hD hS hl
theorem z_zald (h : zOK X E l cc own Ts rm nL) {n j : Nat} {i : Int32} (ha : zA S a 11 n) (hi : zix i j n) (hd : decode cc pc = .ok (.baload, 1)) (kk : zV X E S kc ks (I, J, R) (pc + 1) lv (.int (I a j) :: st)) : zV X E S kc ks (I, J, R) pc lv (.int i :: .ref a :: st) := fun H locs ls hP hD hS hl => by
  obtain ⟨q, hq, hq'⟩ := zW_at (E := E) (μ := (I, J, R)) ha.1 (zc_i ha.2.1 ha.2.2 (by decide) (by decide) (by decide))
  refine va_zald h.1 h.2.1 h.2.2.2.2.2.1 hP q 3 hq' rfl hi.1 hd ?_
  rw [hi.2]
  exact kk H locs ls hP hD hS hl
theorem z_lald (h : zOK X E l cc own Ts rm nL) {n j : Nat} {i : Int32} (ha : zA S a 10 n) (hi : zix i j n) (hd : decode cc pc = .ok (.laload, 1)) (kk : zV X E S kc ks (I, J, R) (pc + 1) lv (.long (J a j) :: st)) : zV X E S kc ks (I, J, R) pc lv (.int i :: .ref a :: st) := fun H locs ls hP hD hS hl => by
  obtain ⟨q, hq, hq'⟩ := zW_at (E := E) (μ := (I, J, R)) ha.1 (zc_j ha.2.1 ha.2.2)
  refine va_lald h.1 h.2.1 h.2.2.2.2.2.1 hP q 2 hq' rfl hi.1 hd ?_
  rw [hi.2]
  exact kk H locs ls hP hD hS hl
theorem z_aaldL (h : zOK X E l cc own Ts rm nL) {n j b : Nat} {i : Int32} (ha : zA S a 12 n) (hi : zix i j n) (hr : R a j = some b) (hd : decode cc pc = .ok (.aaload, 1)) (kk : zV X E S kc ks (I, J, R) (pc + 1) lv (.ref b :: st)) : zV X E S kc ks (I, J, R) pc lv (.int i :: .ref a :: st) := fun H locs ls hP hD hS hl => by
  obtain ⟨q, hq, hq'⟩ := zW_at (E := E) (μ := (I, J, R)) ha.1 (zc_r ha.2.1 ha.2.2 (by decide))
  refine va_aldq h.1 h.2.1 h.2.2.2.2.2.1 hP q 4 hq' rfl hi.1 hd ?_
  rw [hi.2, show (I, J, R).2.2 a j = some b from hr]
  exact kk H locs ls hP hD hS hl
theorem va_aldA {p : Program} {l : Launch} {e : Env} {R : Room} {s : State} {m : MethodId} {args : Array Value} {below : List Frame} {meth : Method} {c : Code} {H : Heap} {locs : List Loc} {cells slots : Nat} {Q : State → Prop} {cc : ByteArray} {pc : Nat} {ls : Array Slot} {rest : List Value} {D : va_G} {cl : List vw_C} {a : Nat} {tys : List (ClassId × FieldType)} {ws : va_W} (hexec : p.tables.exec = Jvm.exec) (hb : c.code = cc) (hK : va_K D cl tys s) (hP : va_P D cl ws H) (q0 t0 : Nat) {cA : ClassId} {t : FieldType} {n : Nat} {f : Nat → Option Nat} (ha : ws[q0]? = some (a, .inl (cA, n, .inr (.inr (.inr (.inr f)))))) (ht : tys[t0]? = some (cA, .array t)) {i : Int32} (hin : vp_in i n) (hdg : decode cc pc = .ok (.aaload, 1))
    (kk : W p l e R s m args below meth c H locs cells slots Q (F0 m (pc + 1) ls (va_rf (f i.toNatClampNeg) :: rest))) : W p l e R s m args below meth c H locs cells slots Q (F0 m pc ls (.int i :: .ref a :: rest)) := by
  have hlt : i.toNatClampNeg < n := Nat.not_le.mp fun q => hin (Or.inr q)
  exact W.aald (v := va_rf (f i.toNatClampNeg)) (ty := .array t) hexec hb (hP q0 _ ha) ((hK.2 t0 _ ht).1 n (fun j => va_rf (f j))) rfl (fun q => by cases q) (by show ¬ (i < 0 ∨ (arrV _ _ _).slots.size ≤ _); rw [arrV_size]; exact hin) (by show (arrV _ _ _).slots[_]? = _; rw [arrV_read _ _ hlt]) rfl rfl hdg kk
theorem z_aaldI (h : zOK X E l cc own Ts rm nL) {n j b : Nat} {i : Int32} (ha : zA S a 13 n) (hi : zix i j n) (hr : R a j = some b) (hd : decode cc pc = .ok (.aaload, 1)) (kk : zV X E S kc ks (I, J, R) (pc + 1) lv (.ref b :: st)) : zV X E S kc ks (I, J, R) pc lv (.int i :: .ref a :: st) := fun H locs ls hP hD hS hl => by
  obtain ⟨q, hq, hq'⟩ := zW_at (E := E) (μ := (I, J, R)) ha.1 (zc_r ha.2.1 ha.2.2 (by decide))
  refine va_aldA h.1 h.2.1 h.2.2.2.2.2.1 hP q 5 hq' rfl hi.1 hd ?_
  rw [hi.2, show (I, J, R).2.2 a j = some b from hr]
  exact kk H locs ls hP hD hS hl
theorem z_aaldJ (h : zOK X E l cc own Ts rm nL) {n j b : Nat} {i : Int32} (ha : zA S a 14 n) (hi : zix i j n) (hr : R a j = some b) (hd : decode cc pc = .ok (.aaload, 1)) (kk : zV X E S kc ks (I, J, R) (pc + 1) lv (.ref b :: st)) : zV X E S kc ks (I, J, R) pc lv (.int i :: .ref a :: st) := fun H locs ls hP hD hS hl => by
  obtain ⟨q, hq, hq'⟩ := zW_at (E := E) (μ := (I, J, R)) ha.1 (zc_r ha.2.1 ha.2.2 (by decide))
  refine va_aldA h.1 h.2.1 h.2.2.2.2.2.1 hP q 6 hq' rfl hi.1 hd ?_
  rw [hi.2, show (I, J, R).2.2 a j = some b from hr]
  exact kk H locs ls hP hD hS hl
theorem zu_upd {f : Nat → Nat → Int32} {a j : Nat} {v : Int32} : zu f a j v a = upd (f a) j v := funext fun q => by by_cases e : q = j <;> simp [zu, upd, e]
theorem zu_updL {f : Nat → Nat → Int64} {a j : Nat} {v : Int64} : zu f a j v a = vp_updL (f a) j v := funext fun q => by by_cases e : q = j <;> simp [zu, vp_updL, e]
theorem z_iast (h : zOK X E l cc own Ts rm nL) {n j : Nat} {i x : Int32} (ha : zA S a 9 n) (hi : zix i j n) (hd : decode cc pc = .ok (.iastore, 1)) (kk : zV X E S kc ks (zu I a j x, J, R) (pc + 1) lv st) : zV X E S kc ks (I, J, R) pc lv (.int x :: .int i :: .ref a :: st) := fun H locs ls hP hD hS hl => by
  obtain ⟨q, hq, hq'⟩ := zW_at (E := E) (μ := (I, J, R)) ha.1 (zc_i ha.2.1 ha.2.2 (by decide) (by decide) (by decide))
  refine va_iast h.1 h.2.1 h.2.2.2.2.2.1 hP hD hS q 1 hq' rfl hi.1 hd (fun H1 locs1 hP1 hD1 hS1 => ?_)
  have e := zW_set (ν := (zu I a j x, J, R)) hD ha.1 hq (zc_i ha.2.1 ha.2.2 (by decide) (by decide) (by decide)) (fun b hb => zc_congr (zu_o hb) rfl rfl)
  rw [show (zu I a j x, J, R).1 a = upd (I a) j x from zu_upd] at e
  rw [hi.2] at hP1 hD1
  rw [e] at hP1 hD1
  exact kk H1 locs1 ls hP1 hD1 hS1 hl
theorem z_bast (h : zOK X E l cc own Ts rm nL) {n j : Nat} {i x : Int32} (ha : zA S a 8 n) (hi : zix i j n) (hd : decode cc pc = .ok (.bastore, 1)) (kk : zV X E S kc ks (zu I a j (vp_nar .byte x), J, R) (pc + 1) lv st) : zV X E S kc ks (I, J, R) pc lv (.int x :: .int i :: .ref a :: st) := fun H locs ls hP hD hS hl => by
  obtain ⟨q, hq, hq'⟩ := zW_at (E := E) (μ := (I, J, R)) ha.1 (zc_i ha.2.1 ha.2.2 (by decide) (by decide) (by decide))
  refine va_bast h.1 h.2.1 h.2.2.2.2.2.1 hP hD hS q 0 hq' rfl hi.1 hd (fun H1 locs1 hP1 hD1 hS1 => ?_)
  have e := zW_set (ν := (zu I a j (vp_nar .byte x), J, R)) hD ha.1 hq (zc_i ha.2.1 ha.2.2 (by decide) (by decide) (by decide)) (fun b hb => zc_congr (zu_o hb) rfl rfl)
  rw [show (zu I a j (vp_nar .byte x), J, R).1 a = upd (I a) j (vp_nar .byte x) from zu_upd] at e
  rw [hi.2] at hP1 hD1
  rw [e] at hP1 hD1
  exact kk H1 locs1 ls hP1 hD1 hS1 hl
theorem z_last (h : zOK X E l cc own Ts rm nL) {n j : Nat} {i : Int32} {x : Int64} (ha : zA S a 10 n) (hi : zix i j n) (hd : decode cc pc = .ok (.lastore, 1)) (kk : zV X E S kc ks (I, zu J a j x, R) (pc + 1) lv st) : zV X E S kc ks (I, J, R) pc lv (.long x :: .int i :: .ref a :: st) := fun H locs ls hP hD hS hl => by
  obtain ⟨q, hq, hq'⟩ := zW_at (E := E) (μ := (I, J, R)) ha.1 (zc_j ha.2.1 ha.2.2)
  refine va_last h.1 h.2.1 h.2.2.2.2.2.1 hP hD hS q 2 hq' rfl hi.1 hd (fun H1 locs1 hP1 hD1 hS1 => ?_)
  have e := zW_set (ν := (I, zu J a j x, R)) hD ha.1 hq (zc_j ha.2.1 ha.2.2) (fun b hb => zc_congr rfl (zu_o hb) rfl)
  rw [show (I, zu J a j x, R).2.1 a = vp_updL (J a) j x from zu_updL] at e
  rw [hi.2] at hP1 hD1
  rw [e] at hP1 hD1
  exact kk H1 locs1 ls hP1 hD1 hS1 hl
end ZF
/-! CONTRACTS: at memory μ, with these arguments, the method answers r and leaves the memory ν; it makes nothing. -/
def zP (E : zE) (S : zS) (μ : zM) (sz : Nat) (U : State) : Prop := U.heap.size = sz ∧ va_P E.1 vwCl (zW E S μ) U.heap ∧ va_K E.1 vwCl (zT E) U ∧ va_D (fun _ => True) (zW E S μ) ∧ zX E (va_A (zW E S μ) sz) U
def zB (E : zE) (S : zS) (A : Nat → Prop) (u : zM) (t : State) : Prop := va_P E.1 vwCl (zW E S u) t.heap ∧ va_K E.1 vwCl (zT E) t ∧ va_D A (zW E S u)
def zI (l : Launch) (y : MethodName) (ws : List Cond) (rm : Room) (E : zE) (S : zS) (av : List Value) (μ : zM) (r : Int32) (ν : zM) : Prop :=
  ∀ sz, Met l y ws rm (va_Pc av (zP E S μ sz)) (va_Qi (fun r' u => r' = r ∧ u = ν) (zB E S (va_A (zW E S μ) sz)) (va_A (zW E S μ) sz)) 0 0 (va_A (zW E S μ) sz)
def zL (l : Launch) (y : MethodName) (ws : List Cond) (rm : Room) (E : zE) (S : zS) (av : List Value) (μ : zM) (r : Int64) (ν : zM) : Prop :=
  ∀ sz, Met l y ws rm (va_Pc av (zP E S μ sz)) (va_Ql (fun r' u => r' = r ∧ u = ν) (zB E S (va_A (zW E S μ) sz)) (va_A (zW E S μ) sz)) 0 0 (va_A (zW E S μ) sz)
def zN (l : Launch) (y : MethodName) (ws : List Cond) (rm : Room) (E : zE) (S : zS) (av : List Value) (μ ν : zM) : Prop :=
  ∀ sz, Met l y ws rm (va_Pc av (zP E S μ sz)) (va_Qv (fun u => u = ν) (zB E S (va_A (zW E S μ) sz)) (va_A (zW E S μ) sz)) 0 0 (va_A (zW E S μ) sz)
theorem zX_moved {E : zE} {A : Nat → Prop} {u U : State} (hv : U.vm = u.vm) (hh : U.heap = u.heap) (h : zX E A u) : zX E A U := by
  have q : u.vm.Alike U.vm := by rw [hv]; exact Vm.Alike.refl u.vm
  refine ⟨fun i hi => ?_, fun i hi => vk_R.same hv (h.2.1 i hi), ?_⟩
  · rw [hh]
    exact zs1_moved q (h.1 i hi)
  · rw [hh]
    exact ⟨va_Z.moved q h.2.2.1, va_Z.moved q h.2.2.2⟩
theorem zX_warm {E : zE} {A B : Nat → Prop} {s U : State} {H : Heap} {locs : List Loc} (hW : s.WarmedH U.vm) (hU : U.heap = H) (hS : va_S A s.heap H locs) (hAB : ∀ q, B q → A q) (h : zX E A s) : zX E B U := by
  refine ⟨fun i hi => ?_, fun i hi => vk_R.warm hW (h.2.1 i hi), ?_⟩
  · rw [hU]
    exact zs1_narrow hAB (zs1_kept hS.2.1 (zs1_moved hW.alike (h.1 i hi)))
  · rw [hU]
    exact ⟨va_Z.narrow (va_Z.kept (va_Z.moved hW.alike h.2.2.1) hS.2.1) hAB, va_Z.narrow (va_Z.kept (va_Z.moved hW.alike h.2.2.2) hS.2.1) hAB⟩
section ZC
variable {l : Launch} {y : MethodName} {ws ws' : List Cond} {rm : Room} {E : zE} {S : zS} {av : List Value} {μ ν : zM} {cc : ByteArray} {maxL : Nat}
theorem zA_sub {A : Nat → Prop} {s : State} {H : Heap} {locs : List Loc} (hD : va_D A (zW E S μ)) (hS : va_S A s.heap H locs) (hA : ∀ q, s.heap.size ≤ q → A q) : ∀ q, va_A (zW E S μ) H.size q → A q := by
  intro q hq
  rcases hq with ⟨k, e, hk⟩ | hq
  · exact hD.2 k _ hk
  · exact hA q (Nat.le_trans hS.1 hq)
theorem z_metI {r : Int32} {ty : FieldType} (hy : plainName y.cls = true) (hw : ws = Cond.code y cc maxL (some ty) :: zTbl) (hlen : (lg_sl av).length ≤ maxL)
    (body : ∀ X : zC, zOK X E l cc y.cls zTbl rm maxL → (∀ {pc : Nat} {lv : List (Nat × Value)}, decode cc pc = .ok (.ireturn, 1) → narrow ty (.int r) = .int r → zV X E S 0 0 ν pc lv [.int r]) → zV X E S 0 0 μ 0 (lv_args 0 av) []) : zI l y ws rm E S av μ r ν := by
  intro sz
  refine Met.ofW (cc := cc) (maxL := maxL) (ret := some ty) hy hw ?_
  intro p e s m args below meth c s₁ B hml hv
  obtain ⟨rfl, hsz, hP, hK, hD0, hE⟩ := hv
  subst hsz
  have hD : va_D (va_A (zW E S μ) s.heap.size) (zW E S μ) := hD0.self (sz := s.heap.size)
  have hlocks := B.notSynchronized
  have hb := body (p, l, e, (headSpec ws rm).room, s, m, av.toArray, below, meth, c, MQ below (va_Qi (fun r' u => r' = r ∧ u = ν) (zB E S (va_A (zW E S μ) s.heap.size)) (va_A (zW E S μ) s.heap.size)) av.toArray s 0 0 (va_A (zW E S μ) s.heap.size), va_A (zW E S μ) s.heap.size, maxL)
    ⟨B.exec, B.bytes, hml, findClass_of_methodNamed B.named, fun w hw9 => atoms_spec (ws := ws) B.pre w (by rw [hw]; exact List.mem_cons_of_mem _ hw9), hK, fun q h => Or.inr h, hE, rfl, rfl, rfl⟩
    (fun {pc lv} hd hn H locs ls hP hD hS hl => W.zret (v := r) B.exec B.bytes B.returns hn (fun t ht hW => ⟨⟨r, ν, rfl, ⟨rfl, rfl⟩, by rw [ht]; exact hP, va_K.moved hW.alike hK, hD⟩, hS.F ht⟩) hS.2.2 hd)
  rw [lg_entry_eq]
  exact hb s.heap [] _ hP hD va_S.rf (lv_entry av hlen)
theorem z_metL {r : Int64} (hy : plainName y.cls = true) (hw : ws = Cond.code y cc maxL (some .long) :: zTbl) (hlen : (lg_sl av).length ≤ maxL)
    (body : ∀ X : zC, zOK X E l cc y.cls zTbl rm maxL → (∀ {pc : Nat} {lv : List (Nat × Value)}, decode cc pc = .ok (.lreturn, 1) → zV X E S 0 0 ν pc lv [.long r]) → zV X E S 0 0 μ 0 (lv_args 0 av) []) : zL l y ws rm E S av μ r ν := by
  intro sz
  refine Met.ofW (cc := cc) (maxL := maxL) (ret := some .long) hy hw ?_
  intro p e s m args below meth c s₁ B hml hv
  obtain ⟨rfl, hsz, hP, hK, hD0, hE⟩ := hv
  subst hsz
  have hD : va_D (va_A (zW E S μ) s.heap.size) (zW E S μ) := hD0.self (sz := s.heap.size)
  have hlocks := B.notSynchronized
  have hb := body (p, l, e, (headSpec ws rm).room, s, m, av.toArray, below, meth, c, MQ below (va_Ql (fun r' u => r' = r ∧ u = ν) (zB E S (va_A (zW E S μ) s.heap.size)) (va_A (zW E S μ) s.heap.size)) av.toArray s 0 0 (va_A (zW E S μ) s.heap.size), va_A (zW E S μ) s.heap.size, maxL)
    ⟨B.exec, B.bytes, hml, findClass_of_methodNamed B.named, fun w hw9 => atoms_spec (ws := ws) B.pre w (by rw [hw]; exact List.mem_cons_of_mem _ hw9), hK, fun q h => Or.inr h, hE, rfl, rfl, rfl⟩
    (fun {pc lv} hd H locs ls hP hD hS hl => W.lret (v := r) B.exec B.bytes B.returns (fun t ht hW => ⟨⟨r, ν, rfl, ⟨rfl, rfl⟩, by rw [ht]; exact hP, va_K.moved hW.alike hK, hD⟩, hS.F ht⟩) hS.2.2 hd)
  rw [lg_entry_eq]
  exact hb s.heap [] _ hP hD va_S.rf (lv_entry av hlen)
theorem z_metN (hy : plainName y.cls = true) (hw : ws = Cond.code y cc maxL none :: zTbl) (hlen : (lg_sl av).length ≤ maxL)
    (body : ∀ X : zC, zOK X E l cc y.cls zTbl rm maxL → (∀ {pc : Nat} {lv : List (Nat × Value)}, decode cc pc = .ok (.return_, 1) → zV X E S 0 0 ν pc lv []) → zV X E S 0 0 μ 0 (lv_args 0 av) []) : zN l y ws rm E S av μ ν := by
  intro sz
  refine Met.ofW (cc := cc) (maxL := maxL) (ret := none) hy hw ?_
  intro p e s m args below meth c s₁ B hml hv
  obtain ⟨rfl, hsz, hP, hK, hD0, hE⟩ := hv
  subst hsz
  have hD : va_D (va_A (zW E S μ) s.heap.size) (zW E S μ) := hD0.self (sz := s.heap.size)
  have hlocks := B.notSynchronized
  have hb := body (p, l, e, (headSpec ws rm).room, s, m, av.toArray, below, meth, c, MQ below (va_Qv (fun u => u = ν) (zB E S (va_A (zW E S μ) s.heap.size)) (va_A (zW E S μ) s.heap.size)) av.toArray s 0 0 (va_A (zW E S μ) s.heap.size), va_A (zW E S μ) s.heap.size, maxL)
    ⟨B.exec, B.bytes, hml, findClass_of_methodNamed B.named, fun w hw9 => atoms_spec (ws := ws) B.pre w (by rw [hw]; exact List.mem_cons_of_mem _ hw9), hK, fun q h => Or.inr h, hE, rfl, rfl, rfl⟩
    (fun {pc lv} hd H locs ls hP hD hS hl => W.vret B.exec B.bytes B.returns (fun t ht hW => ⟨⟨ν, rfl, rfl, by rw [ht]; exact hP, va_K.moved hW.alike hK, hD⟩, hS.F ht⟩) hS.2.2 hd)
  rw [lg_entry_eq]
  exact hb s.heap [] _ hP hD va_S.rf (lv_entry av hlen)
theorem zP_blind {sz : Nat} : FrameBlind (va_Pc av (zP E S μ sz)) := fun a U g mk q => by
  obtain ⟨q0, q1, qP, qK, qD, qE⟩ := q
  exact ⟨q0, q1, qP, va_K.moved (u := U) (U := U.calling g mk a) (Vm.Alike.refl U.vm) qK, qD, zX_moved (u := U) rfl rfl qE⟩
end ZC
section ZCALL
variable {X : zC} {E : zE} {S : zS} {kc ks : Nat} {μ ν : zM} {pc : Nat} {lv : List (Nat × Value)} {st st0 : List Value} {l : Launch} {cc : ByteArray} {own : String} {Ts : List Cond} {rm : Room} {nL : Nat}
variable {C : String} {T : u_T} {N ci index b n maxL : Nat} {y : MethodName} {bytes : ByteArray} {ret : Option FieldType} {ws ws' : List Cond} {rc : Room} {As : List Value}
theorem z_pre (h : zOK X E l cc own Ts rm nL) {H : Heap} {locs : List Loc} (hP : va_P E.1 vwCl (zW E S μ) H) (hD : va_D X.2.2.2.2.2.2.2.2.2.2.2.1 (zW E S μ)) (hS : va_S X.2.2.2.2.2.2.2.2.2.2.2.1 X.2.2.2.2.1.heap H locs) (av : List Value) : ∀ U : State, U.heap = H → X.2.2.2.2.1.WarmedH U.vm → va_Pc av (zP E S μ H.size) av.toArray U := fun U hU hW =>
  ⟨rfl, by rw [hU], by rw [hU]; exact hP, va_K.moved hW.alike h.2.2.2.2.2.1, hD.weaken (fun _ _ _ _ => trivial), zX_warm hW hU hS (zA_sub hD hS h.2.2.2.2.2.2.1) h.2.2.2.2.2.2.2.1⟩
theorem z_callVI {r : Int32} (h : zOK X E l cc own Ts rm nL) (hM : zI l y ws rc E S (.ref b :: As) μ r ν) (ho : zO S b ci) (hc : vwCl[ci]? = some (C, T, N)) (hg : GoodIn Ts (wsV own index C y ws)) (hws : ws = Cond.code y bytes maxL ret :: ws') (hrc : rc.cells = 0 ∧ rc.slots = 0) (n : Nat)
    (hd0 : y.cls = C ∧ y.cls ≠ "java/lang/invoke/MethodHandle" ∧ y.cls ≠ "java/lang/invoke/VarHandle" ∧ (parseMethodDescriptor y.desc).map (fun d => d.parameters.length) = some n) (hR : rc.frames + 1 ≤ rm.frames ∧ 8 + (maxL + 11) + rc.locals ≤ rm.locals) (hn : As.length = n) (hst : st0 = As.reverse ++ .ref b :: st) (hcat : (st.map fun v => v.category).sum ≤ 8) (hkc : kc ≤ rm.cells ∧ ks ≤ rm.slots) (hd : decode cc pc = .ok (.invokevirtual index, 3))
    (k : zV X E S kc ks ν (pc + 3) lv (.int r :: st)) : zV X E S kc ks μ pc lv st0 := fun H locs ls hP hD hS hl => by
  subst hst
  obtain ⟨q, hq, hq'⟩ := zW_at (E := E) (μ := μ) ho.1 (zc_o ho.2 (zcls hc).2.2)
  have hF := zA_sub hD hS h.2.2.2.2.2.2.1
  have hl2 : X.2.1 = l := h.2.2.2.2.2.2.2.2.1
  have hR2 : X.2.2.2.1 = rm := h.2.2.2.2.2.2.2.2.2.1
  have hM2 := hM H.size
  rw [← hl2] at hM2
  refine va_calli (va_runV (As := As) (rest := st) ⟨h.1, h.2.1, h.2.2.1, h.2.2.2.1, h.2.2.2.2.1⟩ hM2 (cwV n h.2.2.2.2.1 hg hws hrc.1 hrc.2 hd0 (by rw [hR2]; exact hR)) ⟨zP_blind, va_recv h.2.2.2.2.2.1 hP (q := (C, T, N)) (ci := ci) (q0 := q) hc hq', z_pre h hP hD hS _⟩ rfl hn (hl.1.trans h.2.2.2.2.2.2.2.2.2.2) rfl (lv_room hcat) hd (by rw [hR2]; exact hkc)) hS (fun q _ h => hF q h) hF (fun r2 u t H1 locs1 ht hvm hw hB hz1 hk1 hS1 => ?_)
  obtain ⟨rfl, rfl⟩ := hw
  obtain ⟨hP1, hK1, hD1⟩ := hB
  rw [ht] at hP1
  exact k H1 locs1 ls hP1 (hD1.weaken (fun _ _ _ q => hF _ q)) hS1 hl
theorem z_callVL {r : Int64} (h : zOK X E l cc own Ts rm nL) (hM : zL l y ws rc E S (.ref b :: As) μ r ν) (ho : zO S b ci) (hc : vwCl[ci]? = some (C, T, N)) (hg : GoodIn Ts (wsV own index C y ws)) (hws : ws = Cond.code y bytes maxL ret :: ws') (hrc : rc.cells = 0 ∧ rc.slots = 0) (n : Nat)
    (hd0 : y.cls = C ∧ y.cls ≠ "java/lang/invoke/MethodHandle" ∧ y.cls ≠ "java/lang/invoke/VarHandle" ∧ (parseMethodDescriptor y.desc).map (fun d => d.parameters.length) = some n) (hR : rc.frames + 1 ≤ rm.frames ∧ 8 + (maxL + 11) + rc.locals ≤ rm.locals) (hn : As.length = n) (hst : st0 = As.reverse ++ .ref b :: st) (hcat : (st.map fun v => v.category).sum ≤ 8) (hkc : kc ≤ rm.cells ∧ ks ≤ rm.slots) (hd : decode cc pc = .ok (.invokevirtual index, 3))
    (k : zV X E S kc ks ν (pc + 3) lv (.long r :: st)) : zV X E S kc ks μ pc lv st0 := fun H locs ls hP hD hS hl => by
  subst hst
  obtain ⟨q, hq, hq'⟩ := zW_at (E := E) (μ := μ) ho.1 (zc_o ho.2 (zcls hc).2.2)
  have hF := zA_sub hD hS h.2.2.2.2.2.2.1
  have hl2 : X.2.1 = l := h.2.2.2.2.2.2.2.2.1
  have hR2 : X.2.2.2.1 = rm := h.2.2.2.2.2.2.2.2.2.1
  have hM2 := hM H.size
  rw [← hl2] at hM2
  refine va_calll (va_runV (As := As) (rest := st) ⟨h.1, h.2.1, h.2.2.1, h.2.2.2.1, h.2.2.2.2.1⟩ hM2 (cwV n h.2.2.2.2.1 hg hws hrc.1 hrc.2 hd0 (by rw [hR2]; exact hR)) ⟨zP_blind, va_recv h.2.2.2.2.2.1 hP (q := (C, T, N)) (ci := ci) (q0 := q) hc hq', z_pre h hP hD hS _⟩ rfl hn (hl.1.trans h.2.2.2.2.2.2.2.2.2.2) rfl (lv_room hcat) hd (by rw [hR2]; exact hkc)) hS (fun q _ h => hF q h) hF (fun r2 u t H1 locs1 ht hvm hw hB hz1 hk1 hS1 => ?_)
  obtain ⟨rfl, rfl⟩ := hw
  obtain ⟨hP1, hK1, hD1⟩ := hB
  rw [ht] at hP1
  exact k H1 locs1 ls hP1 (hD1.weaken (fun _ _ _ q => hF _ q)) hS1 hl
theorem z_callVN (h : zOK X E l cc own Ts rm nL) (hM : zN l y ws rc E S (.ref b :: As) μ ν) (ho : zO S b ci) (hc : vwCl[ci]? = some (C, T, N)) (hg : GoodIn Ts (wsV own index C y ws)) (hws : ws = Cond.code y bytes maxL ret :: ws') (hrc : rc.cells = 0 ∧ rc.slots = 0) (n : Nat)
    (hd0 : y.cls = C ∧ y.cls ≠ "java/lang/invoke/MethodHandle" ∧ y.cls ≠ "java/lang/invoke/VarHandle" ∧ (parseMethodDescriptor y.desc).map (fun d => d.parameters.length) = some n) (hR : rc.frames + 1 ≤ rm.frames ∧ 8 + (maxL + 11) + rc.locals ≤ rm.locals) (hn : As.length = n) (hst : st0 = As.reverse ++ .ref b :: st) (hcat : (st.map fun v => v.category).sum ≤ 8) (hkc : kc ≤ rm.cells ∧ ks ≤ rm.slots) (hd : decode cc pc = .ok (.invokevirtual index, 3))
    (k : zV X E S kc ks ν (pc + 3) lv st) : zV X E S kc ks μ pc lv st0 := fun H locs ls hP hD hS hl => by
  subst hst
  obtain ⟨q, hq, hq'⟩ := zW_at (E := E) (μ := μ) ho.1 (zc_o ho.2 (zcls hc).2.2)
  have hF := zA_sub hD hS h.2.2.2.2.2.2.1
  have hl2 : X.2.1 = l := h.2.2.2.2.2.2.2.2.1
  have hR2 : X.2.2.2.1 = rm := h.2.2.2.2.2.2.2.2.2.1
  have hM2 := hM H.size
  rw [← hl2] at hM2
  refine va_callv (va_runV (As := As) (rest := st) ⟨h.1, h.2.1, h.2.2.1, h.2.2.2.1, h.2.2.2.2.1⟩ hM2 (cwV n h.2.2.2.2.1 hg hws hrc.1 hrc.2 hd0 (by rw [hR2]; exact hR)) ⟨zP_blind, va_recv h.2.2.2.2.2.1 hP (q := (C, T, N)) (ci := ci) (q0 := q) hc hq', z_pre h hP hD hS _⟩ rfl hn (hl.1.trans h.2.2.2.2.2.2.2.2.2.2) rfl (lv_room hcat) hd (by rw [hR2]; exact hkc)) hS (fun q _ h => hF q h) hF (fun u t H1 locs1 ht hvm hw hB hz1 hk1 hS1 => ?_)
  subst hw
  obtain ⟨hP1, hK1, hD1⟩ := hB
  rw [ht] at hP1
  exact k H1 locs1 ls hP1 (hD1.weaken (fun _ _ _ q => hF _ q)) hS1 hl
theorem z_callSI {r : Int32} (h : zOK X E l cc own Ts rm nL) (hM : zI l y ws rc E S As μ r ν) (hcw : CallB rm X.2.2.2.2.1 X.2.2.2.2.2.2.1 own index y bytes maxL ret ws rc 0 0 n ∧ (Cond.static y).before X.2.2.2.2.2.2.1 X.2.2.2.2.1 = true) (hn : As.length = n) (hst : st0 = As.reverse ++ st) (hcat : (st.map fun v => v.category).sum ≤ 8) (hkc : kc ≤ rm.cells ∧ ks ≤ rm.slots) (hd : decode cc pc = .ok (.invokestatic index, 3))
    (k : zV X E S kc ks ν (pc + 3) lv (.int r :: st)) : zV X E S kc ks μ pc lv st0 := fun H locs ls hP hD hS hl => by
  subst hst
  have hF := zA_sub hD hS h.2.2.2.2.2.2.1
  have hl2 : X.2.1 = l := h.2.2.2.2.2.2.2.2.1
  have hR2 : X.2.2.2.1 = rm := h.2.2.2.2.2.2.2.2.2.1
  have hM2 := hM H.size
  rw [← hl2] at hM2
  refine va_calli (va_runS (As := As) (rest := st) ⟨h.1, h.2.1, h.2.2.1, h.2.2.2.1, h.2.2.2.2.1⟩ hM2 (by rw [hR2]; exact hcw) ⟨zP_blind, z_pre h hP hD hS _⟩ rfl hn (hl.1.trans h.2.2.2.2.2.2.2.2.2.2) rfl (lv_room hcat) hd (by rw [hR2]; exact hkc)) hS (fun q _ h => hF q h) hF (fun r2 u t H1 locs1 ht hvm hw hB hz1 hk1 hS1 => ?_)
  obtain ⟨rfl, rfl⟩ := hw
  obtain ⟨hP1, hK1, hD1⟩ := hB
  rw [ht] at hP1
  exact k H1 locs1 ls hP1 (hD1.weaken (fun _ _ _ q => hF _ q)) hS1 hl
theorem z_callSL {r : Int64} (h : zOK X E l cc own Ts rm nL) (hM : zL l y ws rc E S As μ r ν) (hcw : CallB rm X.2.2.2.2.1 X.2.2.2.2.2.2.1 own index y bytes maxL ret ws rc 0 0 n ∧ (Cond.static y).before X.2.2.2.2.2.2.1 X.2.2.2.2.1 = true) (hn : As.length = n) (hst : st0 = As.reverse ++ st) (hcat : (st.map fun v => v.category).sum ≤ 8) (hkc : kc ≤ rm.cells ∧ ks ≤ rm.slots) (hd : decode cc pc = .ok (.invokestatic index, 3))
    (k : zV X E S kc ks ν (pc + 3) lv (.long r :: st)) : zV X E S kc ks μ pc lv st0 := fun H locs ls hP hD hS hl => by
  subst hst
  have hF := zA_sub hD hS h.2.2.2.2.2.2.1
  have hl2 : X.2.1 = l := h.2.2.2.2.2.2.2.2.1
  have hR2 : X.2.2.2.1 = rm := h.2.2.2.2.2.2.2.2.2.1
  have hM2 := hM H.size
  rw [← hl2] at hM2
  refine va_calll (va_runS (As := As) (rest := st) ⟨h.1, h.2.1, h.2.2.1, h.2.2.2.1, h.2.2.2.2.1⟩ hM2 (by rw [hR2]; exact hcw) ⟨zP_blind, z_pre h hP hD hS _⟩ rfl hn (hl.1.trans h.2.2.2.2.2.2.2.2.2.2) rfl (lv_room hcat) hd (by rw [hR2]; exact hkc)) hS (fun q _ h => hF q h) hF (fun r2 u t H1 locs1 ht hvm hw hB hz1 hk1 hS1 => ?_)
  obtain ⟨rfl, rfl⟩ := hw
  obtain ⟨hP1, hK1, hD1⟩ := hB
  rw [ht] at hP1
  exact k H1 locs1 ls hP1 (hD1.weaken (fun _ _ _ q => hF _ q)) hS1 hl
theorem z_callSN (h : zOK X E l cc own Ts rm nL) (hM : zN l y ws rc E S As μ ν) (hcw : CallB rm X.2.2.2.2.1 X.2.2.2.2.2.2.1 own index y bytes maxL ret ws rc 0 0 n ∧ (Cond.static y).before X.2.2.2.2.2.2.1 X.2.2.2.2.1 = true) (hn : As.length = n) (hst : st0 = As.reverse ++ st) (hcat : (st.map fun v => v.category).sum ≤ 8) (hkc : kc ≤ rm.cells ∧ ks ≤ rm.slots) (hd : decode cc pc = .ok (.invokestatic index, 3))
    (k : zV X E S kc ks ν (pc + 3) lv st) : zV X E S kc ks μ pc lv st0 := fun H locs ls hP hD hS hl => by
  subst hst
  have hF := zA_sub hD hS h.2.2.2.2.2.2.1
  have hl2 : X.2.1 = l := h.2.2.2.2.2.2.2.2.1
  have hR2 : X.2.2.2.1 = rm := h.2.2.2.2.2.2.2.2.2.1
  have hM2 := hM H.size
  rw [← hl2] at hM2
  refine va_callv (va_runS (As := As) (rest := st) ⟨h.1, h.2.1, h.2.2.1, h.2.2.2.1, h.2.2.2.2.1⟩ hM2 (by rw [hR2]; exact hcw) ⟨zP_blind, z_pre h hP hD hS _⟩ rfl hn (hl.1.trans h.2.2.2.2.2.2.2.2.2.2) rfl (lv_room hcat) hd (by rw [hR2]; exact hkc)) hS (fun q _ h => hF q h) hF (fun u t H1 locs1 ht hvm hw hB hz1 hk1 hS1 => ?_)
  subst hw
  obtain ⟨hP1, hK1, hD1⟩ := hB
  rw [ht] at hP1
  exact k H1 locs1 ls hP1 (hD1.weaken (fun _ _ _ q => hF _ q)) hS1 hl
end ZCALL
section ZSTR
variable {X : zC} {E : zE} {S : zS} {kc ks : Nat} {μ ν : zM} {pc : Nat} {lv : List (Nat × Value)} {st st0 : List Value} {l : Launch} {cc : ByteArray} {own : String} {Ts : List Cond} {rm : Room} {nL : Nat}
variable {index i n maxL : Nat} {y : MethodName} {bytes : ByteArray} {ret : Option FieldType} {ws ws' : List Cond} {rc : Room} {As : List Value}
/-- a call on a text -/
theorem z_callTI {r : Int32} (h : zOK X E l cc own Ts rm nL) (hi : i < zlN) (hM : zI l y ws rc E S (.ref (E.2.2.1 i) :: As) μ r ν) (hg : GoodIn Ts (wsV own index "java/lang/String" y ws)) (hws : ws = Cond.code y bytes maxL ret :: ws') (hrc : rc.cells = 0 ∧ rc.slots = 0) (n : Nat)
    (hd0 : y.cls = "java/lang/String" ∧ y.cls ≠ "java/lang/invoke/MethodHandle" ∧ y.cls ≠ "java/lang/invoke/VarHandle" ∧ (parseMethodDescriptor y.desc).map (fun d => d.parameters.length) = some n) (hR : rc.frames + 1 ≤ rm.frames ∧ 8 + (maxL + 11) + rc.locals ≤ rm.locals) (hn : As.length = n) (hst : st0 = As.reverse ++ .ref (E.2.2.1 i) :: st) (hcat : (st.map fun v => v.category).sum ≤ 8) (hkc : kc ≤ rm.cells ∧ ks ≤ rm.slots) (hd : decode cc pc = .ok (.invokevirtual index, 3))
    (k : zV X E S kc ks ν (pc + 3) lv (.int r :: st)) : zV X E S kc ks μ pc lv st0 := fun H locs ls hP hD hS hl => by
  subst hst
  have hF := zA_sub hD hS h.2.2.2.2.2.2.1
  have hl2 : X.2.1 = l := h.2.2.2.2.2.2.2.2.1
  have hR2 : X.2.2.2.1 = rm := h.2.2.2.2.2.2.2.2.2.1
  have hM2 := hM H.size
  rw [← hl2] at hM2
  have hrecv : ∃ cell : Cell, H[E.2.2.1 i]? = some cell ∧ cell.vm.isStatics = false ∧ X.2.2.2.2.1.vm.findClass "java/lang/String" = some cell.cls := by
    obtain ⟨cell, h1, h2, h3, -⟩ := (h.2.2.2.2.2.2.2.1.1 i hi).1.kept hS.2.1
    exact ⟨cell, h1, h2, h3⟩
  refine va_calli (va_runV (As := As) (rest := st) ⟨h.1, h.2.1, h.2.2.1, h.2.2.2.1, h.2.2.2.2.1⟩ hM2 (cwV n h.2.2.2.2.1 hg hws hrc.1 hrc.2 hd0 (by rw [hR2]; exact hR)) ⟨zP_blind, hrecv, z_pre h hP hD hS _⟩ rfl hn (hl.1.trans h.2.2.2.2.2.2.2.2.2.2) rfl (lv_room hcat) hd (by rw [hR2]; exact hkc)) hS (fun q _ h => hF q h) hF (fun r2 u t H1 locs1 ht hvm hw hB hz1 hk1 hS1 => ?_)
  obtain ⟨rfl, rfl⟩ := hw
  obtain ⟨hP1, hK1, hD1⟩ := hB
  rw [ht] at hP1
  exact k H1 locs1 ls hP1 (hD1.weaken (fun _ _ _ q => hF _ q)) hS1 hl
theorem z_getC (h : zOK X E l cc own Ts rm nL) (hi : i < zlN) (hw : Cond.fieldLink own index "java/lang/String" "coder" "B" ∈ Ts) (hd : decode cc pc = .ok (.getfield index, 3)) (kk : zV X E S kc ks μ (pc + 3) lv (.int 0 :: st)) : zV X E S kc ks μ pc lv (.ref (E.2.2.1 i) :: st) := fun H locs ls hP hD hS hl =>
  vk_getf h.1 h.2.1 (h.2.2.2.2.2.2.2.1.1 i hi).2.1 hS h.2.2.2.1 (h.2.2.2.2.1 _ hw) (fun _ h9 => h9) hd (kk H locs ls hP hD hS hl)
theorem z_getT (h : zOK X E l cc own Ts rm nL) (hi : i < zlN) (hw : Cond.fieldLink own index "java/lang/String" "value" "[B" ∈ Ts) (hd : decode cc pc = .ok (.getfield index, 3)) (kk : zV X E S kc ks μ (pc + 3) lv (.ref (E.2.2.2 i) :: st)) : zV X E S kc ks μ pc lv (.ref (E.2.2.1 i) :: st) := fun H locs ls hP hD hS hl =>
  vk_getf h.1 h.2.1 (h.2.2.2.2.2.2.2.1.1 i hi).2.2.1 hS h.2.2.2.1 (h.2.2.2.2.1 _ hw) (fun _ h9 => h9) hd (kk H locs ls hP hD hS hl)
theorem z_tlen (h : zOK X E l cc own Ts rm nL) (hi : i < zlN) (hd : decode cc pc = .ok (.arraylength, 1)) (kk : zV X E S kc ks μ (pc + 1) lv (.int (nI (zsb i).length) :: st)) : zV X E S kc ks μ pc lv (.ref (E.2.2.2 i) :: st) := fun H locs ls hP hD hS hl =>
  va_tlen h.1 h.2.1 (h.2.2.2.2.2.2.2.1.1 i hi).2.2.2 hS rfl hd (kk H locs ls hP hD hS hl)
theorem z_tald (h : zOK X E l cc own Ts rm nL) (hi : i < zlN) {k : Int32} {j : Nat} (hk : zix k j (zsb i).length) (hd : decode cc pc = .ok (.baload, 1)) (kk : zV X E S kc ks μ (pc + 1) lv (.int ((zsb i).getD j 0) :: st)) : zV X E S kc ks μ pc lv (.int k :: .ref (E.2.2.2 i) :: st) := fun H locs ls hP hD hS hl =>
  va_tb h.1 h.2.1 (h.2.2.2.2.2.2.2.1.1 i hi).2.2.2 hS hk.1 (by rw [hk.2]) hd (kk H locs ls hP hD hS hl)
theorem z_gets1 (h : zOK X E l cc own Ts rm nL) (hw : Cond.fieldLink own index "java/lang/String" "COMPACT_STRINGS" "Z" ∈ Ts) (hd : decode cc pc = .ok (.getstatic index, 3)) (kk : zV X E S kc ks μ (pc + 3) lv (.int 1 :: st)) : zV X E S kc ks μ pc lv st := fun H locs ls hP hD hS hl =>
  va_gets h.1 h.2.1 h.2.2.2.2.2.2.2.1.2.2.1 hS h.2.2.2.1 (h.2.2.2.2.1 _ hw) (fun _ h9 => h9) hd (kk H locs ls hP hD hS hl)
theorem z_gets2 (h : zOK X E l cc own Ts rm nL) (hw : Cond.fieldLink own index "jdk/internal/util/Preconditions" "SIOOBE_FORMATTER" "Ljava/util/function/BiFunction;" ∈ Ts) (hd : decode cc pc = .ok (.getstatic index, 3)) (kk : zV X E S kc ks μ (pc + 3) lv (.ref (E.2.2.2 48) :: st)) : zV X E S kc ks μ pc lv st := fun H locs ls hP hD hS hl =>
  va_gets h.1 h.2.1 h.2.2.2.2.2.2.2.1.2.2.2 hS h.2.2.2.1 (h.2.2.2.2.1 _ hw) (fun _ h9 => h9) hd (kk H locs ls hP hD hS hl)
/-- the length of an int row (or a long one) of the world -/
theorem z_alenJ {a n : Nat} (h : zOK X E l cc own Ts rm nL) (ha : zA S a 10 n) {v : Int32} (hv : nI n = v) (hd : decode cc pc = .ok (.arraylength, 1)) (kk : zV X E S kc ks μ (pc + 1) lv (.int v :: st)) : zV X E S kc ks μ pc lv (.ref a :: st) := fun H locs ls hP hD hS hl => by
  obtain ⟨q, hq, hq'⟩ := zW_at (E := E) (μ := μ) ha.1 (zc_j ha.2.1 ha.2.2)
  exact va_alen h.1 h.2.1 h.2.2.2.2.2.1 hP q 2 hq' (ty := .long) rfl hv hd (kk H locs ls hP hD hS hl)
end ZSTR
end
